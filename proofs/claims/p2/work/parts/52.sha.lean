/-! PurseHouse$Sha: put, begin, end, symbolically -/
theorem shf15_piece : tt_fl 15 18 = (1, 2, 2) := by decide +kernel
theorem shf15_filled : tt_fl 15 49 = (1, 2, 11) := by decide +kernel
theorem shf15_length : tt_fl 15 53 = (1, 2, 12) := by decide +kernel
theorem shf14_state : tt_fl 14 9 = (1, 2, 0) := by decide +kernel
theorem shf14_filled : tt_fl 14 49 = (1, 2, 11) := by decide +kernel
theorem shf14_length : tt_fl 14 53 = (1, 2, 12) := by decide +kernel
theorem shf18_piece : tt_fl 18 18 = (1, 2, 2) := by decide +kernel
theorem shf18_filled : tt_fl 18 49 = (1, 2, 11) := by decide +kernel
theorem shf18_length : tt_fl 18 53 = (1, 2, 12) := by decide +kernel
theorem shf18_state : tt_fl 18 9 = (1, 2, 0) := by decide +kernel
theorem sht_filled : tt_fty 2 11 = .int := by decide +kernel
theorem shn_filled : tt_ffin 2 11 = false := by decide +kernel
theorem sht_length : tt_fty 2 12 = .int := by decide +kernel
theorem shn_length : tt_ffin 2 12 = false := by decide +kernel
theorem mci16 : tt_mci 16 = 2 := by decide +kernel
theorem mr16 : tt_mr 16 = 0 := by decide +kernel
theorem cd16_501 : tt_cd 16 501 = (9, .return_, 1) := by decide +kernel
theorem cd15_0 : tt_cd 15 0 = (1, .iload_n 2, 1) := by decide +kernel
theorem cd15_1 : tt_cd 15 1 = (5, .ifCond .lt 15, 3) := by decide +kernel
theorem cd15_4 : tt_cd 15 4 = (1, .iload_n 3, 1) := by decide +kernel
theorem cd15_5 : tt_cd 15 5 = (5, .ifCond .lt 11, 3) := by decide +kernel
theorem cd15_8 : tt_cd 15 8 = (1, .iload_n 2, 1) := by decide +kernel
theorem cd15_9 : tt_cd 15 9 = (1, .aload_n 1, 1) := by decide +kernel
theorem cd15_10 : tt_cd 15 10 = (3, .arraylength, 1) := by decide +kernel
theorem cd15_11 : tt_cd 15 11 = (1, .iload_n 3, 1) := by decide +kernel
theorem cd15_12 : tt_cd 15 12 = (2, .isub, 1) := by decide +kernel
theorem cd15_13 : tt_cd 15 13 = (5, .if_icmp .le 4, 3) := by decide +kernel
theorem cd15_17 : tt_cd 15 17 = (1, .iload_n 2, 1) := by decide +kernel
theorem cd15_18 : tt_cd 15 18 = (1, .istore 4, 2) := by decide +kernel
theorem cd15_20 : tt_cd 15 20 = (1, .iload 4, 2) := by decide +kernel
theorem cd15_22 : tt_cd 15 22 = (1, .iload_n 2, 1) := by decide +kernel
theorem cd15_23 : tt_cd 15 23 = (1, .iload_n 3, 1) := by decide +kernel
theorem cd15_24 : tt_cd 15 24 = (2, .iadd, 1) := by decide +kernel
theorem cd15_25 : tt_cd 15 25 = (5, .if_icmp .ge 45, 3) := by decide +kernel
theorem cd15_28 : tt_cd 15 28 = (1, .aload_n 0, 1) := by decide +kernel
theorem cd15_29 : tt_cd 15 29 = (3, .getfield 18, 3) := by decide +kernel
theorem cd15_32 : tt_cd 15 32 = (1, .aload_n 0, 1) := by decide +kernel
theorem cd15_33 : tt_cd 15 33 = (3, .getfield 49, 3) := by decide +kernel
theorem cd15_36 : tt_cd 15 36 = (1, .aload_n 1, 1) := by decide +kernel
theorem cd15_37 : tt_cd 15 37 = (1, .iload 4, 2) := by decide +kernel
theorem cd15_39 : tt_cd 15 39 = (3, .baload, 1) := by decide +kernel
theorem cd15_40 : tt_cd 15 40 = (6, .bastore, 1) := by decide +kernel
theorem cd15_41 : tt_cd 15 41 = (1, .aload_n 0, 1) := by decide +kernel
theorem cd15_42 : tt_cd 15 42 = (2, .dup, 1) := by decide +kernel
theorem cd15_43 : tt_cd 15 43 = (3, .getfield 49, 3) := by decide +kernel
theorem cd15_46 : tt_cd 15 46 = (2, .iconst 1, 1) := by decide +kernel
theorem cd15_47 : tt_cd 15 47 = (2, .iadd, 1) := by decide +kernel
theorem cd15_48 : tt_cd 15 48 = (6, .putfield 49, 3) := by decide +kernel
theorem cd15_51 : tt_cd 15 51 = (1, .aload_n 0, 1) := by decide +kernel
theorem cd15_52 : tt_cd 15 52 = (3, .getfield 49, 3) := by decide +kernel
theorem cd15_55 : tt_cd 15 55 = (4, .bipush 64, 2) := by decide +kernel
theorem cd15_57 : tt_cd 15 57 = (5, .if_icmp .ne 7, 3) := by decide +kernel
theorem cd15_60 : tt_cd 15 60 = (1, .aload_n 0, 1) := by decide +kernel
theorem cd15_61 : tt_cd 15 61 = (10, .invokevirtual 56, 3) := by decide +kernel
theorem cd15_64 : tt_cd 15 64 = (1, .iinc 4 1, 3) := by decide +kernel
theorem cd15_67 : tt_cd 15 67 = (5, .goto (-47), 3) := by decide +kernel
theorem cd15_70 : tt_cd 15 70 = (1, .aload_n 0, 1) := by decide +kernel
theorem cd15_71 : tt_cd 15 71 = (2, .dup, 1) := by decide +kernel
theorem cd15_72 : tt_cd 15 72 = (3, .getfield 53, 3) := by decide +kernel
theorem cd15_75 : tt_cd 15 75 = (1, .iload_n 3, 1) := by decide +kernel
theorem cd15_76 : tt_cd 15 76 = (2, .iadd, 1) := by decide +kernel
theorem cd15_77 : tt_cd 15 77 = (6, .putfield 53, 3) := by decide +kernel
theorem cd15_80 : tt_cd 15 80 = (9, .return_, 1) := by decide +kernel
theorem mL15 : tt_mL 15 = 5 := by decide +kernel
theorem ml15_56 : tt_ml 15 56 = (3, 16, 0) := by decide +kernel
theorem mr15 : tt_mr 15 = 0 := by decide +kernel
theorem shs_start : tt_sl 14 40 = 1 + 1 := by decide +kernel
theorem cd14_0 : tt_cd 14 0 = (7, .getstatic 40, 3) := by decide +kernel
theorem cd14_3 : tt_cd 14 3 = (2, .iconst 0, 1) := by decide +kernel
theorem cd14_4 : tt_cd 14 4 = (1, .aload_n 0, 1) := by decide +kernel
theorem cd14_5 : tt_cd 14 5 = (3, .getfield 9, 3) := by decide +kernel
theorem cd14_8 : tt_cd 14 8 = (2, .iconst 0, 1) := by decide +kernel
theorem cd14_9 : tt_cd 14 9 = (4, .bipush 8, 2) := by decide +kernel
theorem cd14_11 : tt_cd 14 11 = (10, .invokestatic 43, 3) := by decide +kernel
theorem cd14_14 : tt_cd 14 14 = (1, .aload_n 0, 1) := by decide +kernel
theorem cd14_15 : tt_cd 14 15 = (2, .iconst 0, 1) := by decide +kernel
theorem cd14_16 : tt_cd 14 16 = (6, .putfield 49, 3) := by decide +kernel
theorem cd14_19 : tt_cd 14 19 = (1, .aload_n 0, 1) := by decide +kernel
theorem cd14_20 : tt_cd 14 20 = (2, .iconst 0, 1) := by decide +kernel
theorem cd14_21 : tt_cd 14 21 = (6, .putfield 53, 3) := by decide +kernel
theorem cd14_24 : tt_cd 14 24 = (9, .return_, 1) := by decide +kernel
theorem mL14 : tt_mL 14 = 1 := by decide +kernel
theorem ml14_43 : tt_ml 14 43 = (8, 0, 5) := by decide +kernel
theorem mr14 : tt_mr 14 = 0 := by decide +kernel
theorem cd18_0 : tt_cd 18 0 = (1, .aload_n 0, 1) := by decide +kernel
theorem cd18_1 : tt_cd 18 1 = (3, .getfield 18, 3) := by decide +kernel
theorem cd18_4 : tt_cd 18 4 = (1, .aload_n 0, 1) := by decide +kernel
theorem cd18_5 : tt_cd 18 5 = (3, .getfield 49, 3) := by decide +kernel
theorem cd18_8 : tt_cd 18 8 = (4, .bipush (-128), 2) := by decide +kernel
theorem cd18_10 : tt_cd 18 10 = (6, .bastore, 1) := by decide +kernel
theorem cd18_11 : tt_cd 18 11 = (1, .aload_n 0, 1) := by decide +kernel
theorem cd18_12 : tt_cd 18 12 = (2, .dup, 1) := by decide +kernel
theorem cd18_13 : tt_cd 18 13 = (3, .getfield 49, 3) := by decide +kernel
theorem cd18_16 : tt_cd 18 16 = (2, .iconst 1, 1) := by decide +kernel
theorem cd18_17 : tt_cd 18 17 = (2, .iadd, 1) := by decide +kernel
theorem cd18_18 : tt_cd 18 18 = (6, .putfield 49, 3) := by decide +kernel
theorem cd18_21 : tt_cd 18 21 = (1, .aload_n 0, 1) := by decide +kernel
theorem cd18_22 : tt_cd 18 22 = (3, .getfield 49, 3) := by decide +kernel
theorem cd18_25 : tt_cd 18 25 = (4, .bipush 56, 2) := by decide +kernel
theorem cd18_27 : tt_cd 18 27 = (5, .if_icmp .le 21, 3) := by decide +kernel
theorem cd18_30 : tt_cd 18 30 = (1, .aload_n 0, 1) := by decide +kernel
theorem cd18_31 : tt_cd 18 31 = (3, .getfield 18, 3) := by decide +kernel
theorem cd18_34 : tt_cd 18 34 = (1, .aload_n 0, 1) := by decide +kernel
theorem cd18_35 : tt_cd 18 35 = (3, .getfield 49, 3) := by decide +kernel
theorem cd18_38 : tt_cd 18 38 = (4, .bipush 64, 2) := by decide +kernel
theorem cd18_40 : tt_cd 18 40 = (2, .iconst 0, 1) := by decide +kernel
theorem cd18_41 : tt_cd 18 41 = (10, .invokestatic 63, 3) := by decide +kernel
theorem cd18_44 : tt_cd 18 44 = (1, .aload_n 0, 1) := by decide +kernel
theorem cd18_45 : tt_cd 18 45 = (10, .invokevirtual 56, 3) := by decide +kernel
theorem cd18_48 : tt_cd 18 48 = (1, .aload_n 0, 1) := by decide +kernel
theorem cd18_49 : tt_cd 18 49 = (3, .getfield 18, 3) := by decide +kernel
theorem cd18_52 : tt_cd 18 52 = (1, .aload_n 0, 1) := by decide +kernel
theorem cd18_53 : tt_cd 18 53 = (3, .getfield 49, 3) := by decide +kernel
theorem cd18_56 : tt_cd 18 56 = (4, .bipush 64, 2) := by decide +kernel
theorem cd18_58 : tt_cd 18 58 = (2, .iconst 0, 1) := by decide +kernel
theorem cd18_59 : tt_cd 18 59 = (10, .invokestatic 63, 3) := by decide +kernel
theorem cd18_62 : tt_cd 18 62 = (4, .bipush 8, 2) := by decide +kernel
theorem cd18_64 : tt_cd 18 64 = (1, .aload_n 0, 1) := by decide +kernel
theorem cd18_65 : tt_cd 18 65 = (3, .getfield 53, 3) := by decide +kernel
theorem cd18_68 : tt_cd 18 68 = (2, .imul, 1) := by decide +kernel
theorem cd18_69 : tt_cd 18 69 = (1, .aload_n 0, 1) := by decide +kernel
theorem cd18_70 : tt_cd 18 70 = (3, .getfield 18, 3) := by decide +kernel
theorem cd18_73 : tt_cd 18 73 = (4, .bipush 60, 2) := by decide +kernel
theorem cd18_75 : tt_cd 18 75 = (10, .invokestatic 69, 3) := by decide +kernel
theorem cd18_78 : tt_cd 18 78 = (1, .aload_n 0, 1) := by decide +kernel
theorem cd18_79 : tt_cd 18 79 = (10, .invokevirtual 56, 3) := by decide +kernel
theorem cd18_82 : tt_cd 18 82 = (2, .iconst 0, 1) := by decide +kernel
theorem cd18_83 : tt_cd 18 83 = (1, .istore_n 3, 1) := by decide +kernel
theorem cd18_84 : tt_cd 18 84 = (1, .iload_n 3, 1) := by decide +kernel
theorem cd18_85 : tt_cd 18 85 = (4, .bipush 8, 2) := by decide +kernel
theorem cd18_87 : tt_cd 18 87 = (5, .if_icmp .ge 24, 3) := by decide +kernel
theorem cd18_90 : tt_cd 18 90 = (1, .aload_n 0, 1) := by decide +kernel
theorem cd18_91 : tt_cd 18 91 = (3, .getfield 9, 3) := by decide +kernel
theorem cd18_94 : tt_cd 18 94 = (1, .iload_n 3, 1) := by decide +kernel
theorem cd18_95 : tt_cd 18 95 = (3, .iaload, 1) := by decide +kernel
theorem cd18_96 : tt_cd 18 96 = (1, .aload_n 1, 1) := by decide +kernel
theorem cd18_97 : tt_cd 18 97 = (1, .iload_n 2, 1) := by decide +kernel
theorem cd18_98 : tt_cd 18 98 = (2, .iconst 4, 1) := by decide +kernel
theorem cd18_99 : tt_cd 18 99 = (1, .iload_n 3, 1) := by decide +kernel
theorem cd18_100 : tt_cd 18 100 = (2, .imul, 1) := by decide +kernel
theorem cd18_101 : tt_cd 18 101 = (2, .iadd, 1) := by decide +kernel
theorem cd18_102 : tt_cd 18 102 = (10, .invokestatic 69, 3) := by decide +kernel
theorem cd18_105 : tt_cd 18 105 = (1, .iinc 3 1, 3) := by decide +kernel
theorem cd18_108 : tt_cd 18 108 = (5, .goto (-24), 3) := by decide +kernel
theorem cd18_111 : tt_cd 18 111 = (9, .return_, 1) := by decide +kernel
theorem mL18 : tt_mL 18 = 4 := by decide +kernel
theorem ml18_63 : tt_ml 18 63 = (1, 19, 4) := by decide +kernel
theorem ml18_56 : tt_ml 18 56 = (3, 16, 0) := by decide +kernel
theorem ml18_69 : tt_ml 18 69 = (2, 11, 3) := by decide +kernel
theorem mr18 : tt_mr 18 = 0 := by decide +kernel
theorem mv_wr_comm {w p i j a b : Nat} (h : i ≠ j) : mv_wr w (mv_wr w p i a) j b = mv_wr w (mv_wr w p j b) i a := by
  apply Nat.eq_of_testBit_eq
  intro t
  rw [mv_wr_bit, mv_wr_bit, mv_wr_bit, mv_wr_bit]
  by_cases h1 : w * i ≤ t ∧ t < w * i + w
  · by_cases h2 : w * j ≤ t ∧ t < w * j + w
    · exfalso
      rcases Nat.lt_or_gt_of_ne h with z | z
      · have := Nat.mul_le_mul_left w z
        rw [Nat.mul_succ] at this
        omega
      · have := Nat.mul_le_mul_left w z
        rw [Nat.mul_succ] at this
        omega
    · rw [if_neg h2, if_pos h1, if_pos h1]
  · by_cases h2 : w * j ≤ t ∧ t < w * j + w
    · rw [if_pos h2, if_neg h1, if_pos h2]
    · rw [if_neg h2, if_neg h1, if_neg h1, if_neg h2]
def sh_x (X u l : Nat) : Nat := mv_wr 136 (mv_wr 136 X 11 (mv_enc (0, u, 0))) 12 (mv_enc (0, l, 0))
section SH
variable {w : mv_T 10} {p0 pp pw ps P X W St n fr lo u l : Nat}
theorem sh_xu (hu : u < 4294967296) : mv_dec (mv_rd 136 (sh_x X u l) 11) = (0, u, 0) := by
  unfold sh_x
  rw [mv_rd_ne (by decide), mv_rd_self, mv_dec_enc (sy_ok0 hu)]
theorem sh_xl (hl : l < 4294967296) : mv_dec (mv_rd 136 (sh_x X u l) 12) = (0, l, 0) := by
  unfold sh_x
  rw [mv_rd_self, mv_dec_enc (sy_ok0 hl)]
theorem sh_xo {j : Nat} (h1 : j ≠ 11) (h2 : j ≠ 12) : mv_rd 136 (sh_x X u l) j = mv_rd 136 X j := by
  unfold sh_x
  rw [mv_rd_ne h2, mv_rd_ne h1]
theorem sh_xF (F : mc_F X pp pw ps) : mc_F (sh_x X u l) pp pw ps := by
  obtain ⟨h1, h2, h3⟩ := F
  exact ⟨by rw [sh_xo (by decide) (by decide)]; exact h1, by rw [sh_xo (by decide) (by decide)]; exact h2, by rw [sh_xo (by decide) (by decide)]; exact h3⟩
theorem sh_wu {u' : Nat} : mv_wr 136 (sh_x X u l) 11 (mv_enc (0, u', 0)) = sh_x X u' l := by
  unfold sh_x
  rw [mv_wr_comm (by decide), mv_wr_wr]
theorem sh_wl {l' : Nat} : mv_wr 136 (sh_x X u l) 12 (mv_enc (0, l', 0)) = sh_x X u l' := by
  unfold sh_x
  rw [mv_wr_wr]
def sh_D (p0 pp pw ps : Nat) : Prop := p0 < 1024 ∧ pp < 1024 ∧ pw < 1024 ∧ ps < 1024 ∧ p0 ≠ pw ∧ p0 ≠ ps ∧ pw ≠ ps ∧ pp ≠ p0 ∧ pp ≠ pw ∧ pp ≠ ps
noncomputable def sh_w (w : mv_T 10) (p0 pp pw ps X P W St : Nat) : mv_T 10 := mc_w (mv_set 10 w pp (1, 1, 64, P)) p0 pw ps X W St
theorem sh_mcH (D : sh_D p0 pp pw ps) : mc_H (mv_set 10 w pp (1, 1, 64, P)) p0 pp pw ps P := by
  obtain ⟨h1, h2, h3, h4, h5, h6, h7, h8, h9, h10⟩ := D
  exact ⟨h1, h2, h3, h4, h5, h6, h7, h8, h9, h10, mv_gs h2⟩
theorem sh_g0 (D : sh_D p0 pp pw ps) : mv_get 10 (sh_w w p0 pp pw ps X P W St) p0 = (0, 2, 13, X) := mc_g0 (sh_mcH D)
theorem sh_gp (D : sh_D p0 pp pw ps) : mv_get 10 (sh_w w p0 pp pw ps X P W St) pp = (1, 1, 64, P) := mc_gp (sh_mcH D)
theorem sh_gw (D : sh_D p0 pp pw ps) : mv_get 10 (sh_w w p0 pp pw ps X P W St) pw = (1, 0, 64, W) := mc_gw (sh_mcH D)
theorem sh_gs (D : sh_D p0 pp pw ps) : mv_get 10 (sh_w w p0 pp pw ps X P W St) ps = (1, 0, 8, St) := mc_gs (sh_mcH D)
theorem sh_s0 {X' : Nat} (D : sh_D p0 pp pw ps) : mv_set 10 (sh_w w p0 pp pw ps X P W St) p0 (0, 2, 13, X') = sh_w w p0 pp pw ps X' P W St := mc_s0 (sh_mcH D)
theorem sh_ss {St' : Nat} (D : sh_D p0 pp pw ps) : mv_set 10 (sh_w w p0 pp pw ps X P W St) ps (1, 0, 8, St') = sh_w w p0 pp pw ps X P W St' := mc_ss (sh_mcH D)
theorem sh_sp {P' : Nat} (D : sh_D p0 pp pw ps) : mv_set 10 (sh_w w p0 pp pw ps X P W St) pp (1, 1, 64, P') = sh_w w p0 pp pw ps X P' W St := by
  obtain ⟨h1, h2, h3, h4, h5, h6, h7, h8, h9, h10⟩ := D
  unfold sh_w mc_w
  rw [mv_sc h4 h2 (Ne.symm h10), mv_sc h3 h2 (Ne.symm h9), mv_sc h1 h2 (Ne.symm h8), mv_ss h2]
/-- another place -/
def sh_O (p0 pp pw ps j : Nat) : Prop := j < 1024 ∧ j ≠ p0 ∧ j ≠ pp ∧ j ≠ pw ∧ j ≠ ps
theorem sh_go {j : Nat} (D : sh_D p0 pp pw ps) (O : sh_O p0 pp pw ps j) : mv_get 10 (sh_w w p0 pp pw ps X P W St) j = mv_get 10 w j := by
  obtain ⟨h1, h2, h3, h4, h5, h6, h7, h8, h9, h10⟩ := D
  obtain ⟨o1, o2, o3, o4, o5⟩ := O
  unfold sh_w mc_w
  rw [mv_gn h4 o1 o5, mv_gn h3 o1 o4, mv_gn h1 o1 o2, mv_gn h2 o1 o3]
theorem sh_so {j : Nat} {x : mv_C} (D : sh_D p0 pp pw ps) (O : sh_O p0 pp pw ps j) : mv_set 10 (sh_w w p0 pp pw ps X P W St) j x = sh_w (mv_set 10 w j x) p0 pp pw ps X P W St := by
  obtain ⟨h1, h2, h3, h4, h5, h6, h7, h8, h9, h10⟩ := D
  obtain ⟨o1, o2, o3, o4, o5⟩ := O
  unfold sh_w mc_w
  rw [mv_sc h4 o1 (Ne.symm o5), mv_sc h3 o1 (Ne.symm o4), mv_sc h1 o1 (Ne.symm o2), mv_sc h2 o1 (Ne.symm o3)]
theorem sh_Cc (D : sh_D p0 pp pw ps) (F : mc_F X pp pw ps) : sy_C 16 n 0 0 [(2, p0, 0)] (sh_w w p0 pp pw ps (sh_x X u l) P W St) [] (sh_w w p0 pp pw ps (sh_x X 0 l) P (mc_Wf P W) (mc_Sf P W St)) := by
  have h := mc_all (n := n) (fr := 0) (lo := 0) (W := W) (St := St) (sh_mcH (w := w) (P := P) D) (sh_xF (u := u) (l := l) F)
  rw [sh_wu] at h
  exact sy_Cof (us := [(255, 0, 0), (255, 0, 0), (255, 0, 0), (255, 0, 0), (255, 0, 0), (255, 0, 0), (255, 0, 0), (255, 0, 0), (255, 0, 0), (255, 0, 0), (255, 0, 0), (255, 0, 0), (255, 0, 0)]) (pe := 501) (sy_oks_cons (sy_ok2 D.1) sy_oks_nil) rfl rfl h (fun L f => sy_ret cd16_501 mr16)
/-- what is in a Sha: filled, length, piece, words, state -/
abbrev sh_T : Type := Nat × Nat × Nat × Nat × Nat
noncomputable def sh_W (w : mv_T 10) (p0 pp pw ps X : Nat) (s : sh_T) : mv_T 10 := sh_w w p0 pp pw ps (sh_x X s.1 s.2.1) s.2.2.1 s.2.2.2.1 s.2.2.2.2
def sh_1 (b : Nat) (s : sh_T) : sh_T := bif Nat.beq (s.1 + 1) 64 then (0, s.2.1, mv_wr 32 s.2.2.1 s.1 b, mc_Wf (mv_wr 32 s.2.2.1 s.1 b) s.2.2.2.1, mc_Sf (mv_wr 32 s.2.2.1 s.1 b) s.2.2.2.1 s.2.2.2.2) else (s.1 + 1, s.2.1, mv_wr 32 s.2.2.1 s.1 b, s.2.2.2.1, s.2.2.2.2)
theorem sh_1_ok {b : Nat} {s : sh_T} (h : s.1 < 64) : (sh_1 b s).1 < 64 := by
  unfold sh_1
  cases hb : Nat.beq (s.1 + 1) 64 with
  | true => exact (by decide : 0 < 64)
  | false =>
    have hn : s.1 + 1 ≠ 64 := fun e => by rw [e] at hb; cases hb
    show s.1 + 1 < 64
    omega
theorem sh_1_l {b : Nat} {s : sh_T} : (sh_1 b s).2.1 = s.2.1 := by
  unfold sh_1
  cases Nat.beq (s.1 + 1) 64 <;> rfl
def sh_n (C at_ : Nat) (s : sh_T) : Nat → sh_T
  | 0 => s
  | m + 1 => sh_1 (mn_b (mv_rd 32 C (at_ + m))) (sh_n C at_ s m)
theorem sh_n_ok {C at_ : Nat} {s : sh_T} (h : s.1 < 64) : ∀ m, (sh_n C at_ s m).1 < 64
  | 0 => h
  | m + 1 => sh_1_ok (sh_n_ok h m)
theorem sh_n_l {C at_ : Nat} {s : sh_T} : ∀ m, (sh_n C at_ s m).2.1 = s.2.1
  | 0 => rfl
  | m + 1 => by
    show (sh_1 _ (sh_n C at_ s m)).2.1 = _
    rw [sh_1_l, sh_n_l m]
def sh_p (C at_ nn : Nat) (s : sh_T) : sh_T := ((sh_n C at_ s nn).1, mo_add s.2.1 nn, (sh_n C at_ s nn).2.2.1, (sh_n C at_ s nn).2.2.2.1, (sh_n C at_ s nn).2.2.2.2)
theorem sh_Pb {pf q C at_ nn m : Nat} (hm : m < nn) (hu : u < 64) (D : sh_D p0 pp pw ps) (F : mc_F X pp pw ps) (O : sh_O p0 pp pw ps pf) (hC : mv_get 10 w pf = (1, 1, q, C)) (hq : q ≤ 2147483647) (ha : at_ + nn ≤ q) (hfr : 0 + 1 ≤ fr) (hlo : 8 + (tt_mL 16 + 11) + 0 ≤ lo) : sy_R 15 n fr lo 20 [(2, p0, 0), (2, pf, 0), (0, at_, 0), (0, nn, 0), (0, at_ + m, 0)] [] (sh_W w p0 pp pw ps X (u, l, P, W, St)) 20 [(2, p0, 0), (2, pf, 0), (0, at_, 0), (0, nn, 0), (0, at_ + (m + 1), 0)] [] (sh_W w p0 pp pw ps X (sh_1 (mn_b (mv_rd 32 C (at_ + m))) (u, l, P, W, St))) := by
  show sy_R 15 n fr lo 20 [(2, p0, 0), (2, pf, 0), (0, at_, 0), (0, nn, 0), (0, at_ + m, 0)] [] (sh_w w p0 pp pw ps (sh_x X u l) P W St) 20 [(2, p0, 0), (2, pf, 0), (0, at_, 0), (0, nn, 0), (0, at_ + (m + 1), 0)] [] (sh_W w p0 pp pw ps X (sh_1 (mn_b (mv_rd 32 C (at_ + m))) (u, l, P, W, St)))
  by_cases h : u + 1 = 64
  · have e1 : sh_1 (mn_b (mv_rd 32 C (at_ + m))) (u, l, P, W, St) = (0, l, mv_wr 32 P u (mn_b (mv_rd 32 C (at_ + m))), mc_Wf (mv_wr 32 P u (mn_b (mv_rd 32 C (at_ + m)))) W, mc_Sf (mv_wr 32 P u (mn_b (mv_rd 32 C (at_ + m)))) W St) := by
      unfold sh_1
      dsimp only
      rw [h]
      rfl
    rw [e1]
    refine sy_ild cd15_20 rfl rfl ?_
    refine sy_ildn cd15_22 rfl rfl ?_
    refine sy_ildn cd15_23 rfl rfl ?_
    refine sy_iadd cd15_24 ?_
    refine sy_ge_f cd15_25 (by decide) (by unfold mo_add; omega) (by unfold mo_add; omega) ?_
    refine sy_aldn cd15_28 rfl rfl ?_
    refine sy_gf cd15_29 shf15_piece rfl (sh_g0 D) rfl (sh_xF F).2.2 ?_
    refine sy_aldn cd15_32 rfl rfl ?_
    refine sy_gf cd15_33 shf15_filled rfl (sh_g0 D) rfl (sh_xu (by omega)) ?_
    refine sy_aldn cd15_36 rfl rfl ?_
    refine sy_ild cd15_37 rfl rfl ?_
    refine sy_bal (i := at_ + m) cd15_39 ((sh_go D O).trans hC) rfl (by omega) hq ?_
    refine sy_bas (w' := sh_w w p0 pp pw ps (sh_x X u l) (mv_wr 32 P u (mn_b (mv_rd 32 C (at_ + m)))) W St) (i := u) cd15_40 (sh_gp D) rfl hu (by decide) (sh_sp D) ?_
    refine sy_aldn cd15_41 rfl rfl ?_
    refine sy_dup cd15_42 rfl ?_
    refine sy_gf cd15_43 shf15_filled rfl (sh_g0 D) rfl (sh_xu (by omega)) ?_
    refine sy_iconst (v := 1) cd15_46 (by decide) ?_
    refine sy_iadd cd15_47 ?_
    refine sy_pfi (w' := sh_w w p0 pp pw ps (sh_x X (u + 1) l) (mv_wr 32 P u (mn_b (mv_rd 32 C (at_ + m)))) W St) cd15_48 shf15_filled rfl sht_filled shn_filled (sh_g0 D) rfl (mo_add_lt _ _) (by rw [sh_s0 D, sh_wu, mo_inc (by omega)]) ?_
    refine sy_aldn cd15_51 rfl rfl ?_
    refine sy_gf cd15_52 shf15_filled rfl (sh_g0 D) rfl (sh_xu (by omega)) ?_
    refine sy_bipush (v := 64) cd15_55 (by decide) (by decide) ?_
    refine sy_icmpne_f cd15_57 (by decide) h ?_
    refine sy_aldn cd15_60 rfl rfl ?_
    refine sy_callG (kd := 3) (as := [(2, p0, 0)]) (S0 := []) (ret := []) cd15_61 (sy_calV (as := [(2, p0, 0)]) (S0 := []) ml15_56 rfl rfl) rfl rfl (sy_rcvm mci16 (sh_g0 D)) rfl (sy_oka (sy_oks_cons (sy_ok2 D.1) sy_oks_nil) rfl mL16) (sh_Cc D F) hfr hlo ?_
    simp only [List.nil_append, List.cons_append]
    refine sy_iinc (c := 1) cd15_64 rfl (by decide) (by rw [mL15]; rfl) rfl ?_
    simp only [List.set_cons_zero, List.set_cons_succ]
    refine sy_goto (pc' := 20) cd15_67 (by decide) (by decide) ?_
    rw [mo_inc (by omega)]
    exact sy_refl
  · have e1 : sh_1 (mn_b (mv_rd 32 C (at_ + m))) (u, l, P, W, St) = (u + 1, l, mv_wr 32 P u (mn_b (mv_rd 32 C (at_ + m))), W, St) := by
      unfold sh_1
      dsimp only
      rw [show Nat.beq (u + 1) 64 = false by cases hb : Nat.beq (u + 1) 64 with
        | false => rfl
        | true => exact absurd (Nat.eq_of_beq_eq_true hb) h]
      rfl
    rw [e1]
    refine sy_ild cd15_20 rfl rfl ?_
    refine sy_ildn cd15_22 rfl rfl ?_
    refine sy_ildn cd15_23 rfl rfl ?_
    refine sy_iadd cd15_24 ?_
    refine sy_ge_f cd15_25 (by decide) (by unfold mo_add; omega) (by unfold mo_add; omega) ?_
    refine sy_aldn cd15_28 rfl rfl ?_
    refine sy_gf cd15_29 shf15_piece rfl (sh_g0 D) rfl (sh_xF F).2.2 ?_
    refine sy_aldn cd15_32 rfl rfl ?_
    refine sy_gf cd15_33 shf15_filled rfl (sh_g0 D) rfl (sh_xu (by omega)) ?_
    refine sy_aldn cd15_36 rfl rfl ?_
    refine sy_ild cd15_37 rfl rfl ?_
    refine sy_bal (i := at_ + m) cd15_39 ((sh_go D O).trans hC) rfl (by omega) hq ?_
    refine sy_bas (w' := sh_w w p0 pp pw ps (sh_x X u l) (mv_wr 32 P u (mn_b (mv_rd 32 C (at_ + m)))) W St) (i := u) cd15_40 (sh_gp D) rfl hu (by decide) (sh_sp D) ?_
    refine sy_aldn cd15_41 rfl rfl ?_
    refine sy_dup cd15_42 rfl ?_
    refine sy_gf cd15_43 shf15_filled rfl (sh_g0 D) rfl (sh_xu (by omega)) ?_
    refine sy_iconst (v := 1) cd15_46 (by decide) ?_
    refine sy_iadd cd15_47 ?_
    refine sy_pfi (w' := sh_w w p0 pp pw ps (sh_x X (u + 1) l) (mv_wr 32 P u (mn_b (mv_rd 32 C (at_ + m)))) W St) cd15_48 shf15_filled rfl sht_filled shn_filled (sh_g0 D) rfl (mo_add_lt _ _) (by rw [sh_s0 D, sh_wu, mo_inc (by omega)]) ?_
    refine sy_aldn cd15_51 rfl rfl ?_
    refine sy_gf cd15_52 shf15_filled rfl (sh_g0 D) rfl (sh_xu (by omega)) ?_
    refine sy_bipush (v := 64) cd15_55 (by decide) (by decide) ?_
    refine sy_icmpne_t (pc' := 64) cd15_57 (by decide) h (by omega) (by decide) (by decide) ?_
    refine sy_iinc (c := 1) cd15_64 rfl (by decide) (by rw [mL15]; rfl) rfl ?_
    simp only [List.set_cons_zero, List.set_cons_succ]
    refine sy_goto (pc' := 20) cd15_67 (by decide) (by decide) ?_
    rw [mo_inc (by omega)]
    exact sy_refl
theorem sh_Ps {pf q C at_ nn : Nat} {s : sh_T} (hs : s.1 < 64) (D : sh_D p0 pp pw ps) (F : mc_F X pp pw ps) (O : sh_O p0 pp pw ps pf) (hC : mv_get 10 w pf = (1, 1, q, C)) (hq : q ≤ 2147483647) (ha : at_ + nn ≤ q) (hfr : 0 + 1 ≤ fr) (hlo : 8 + (tt_mL 16 + 11) + 0 ≤ lo) : ∀ m, m ≤ nn → sy_R 15 n fr lo 20 [(2, p0, 0), (2, pf, 0), (0, at_, 0), (0, nn, 0), (0, at_ + 0, 0)] [] (sh_W w p0 pp pw ps X s) 20 [(2, p0, 0), (2, pf, 0), (0, at_, 0), (0, nn, 0), (0, at_ + m, 0)] [] (sh_W w p0 pp pw ps X (sh_n C at_ s m))
  | 0, _ => sy_refl
  | m + 1, h => sy_trans (sh_Ps hs D F O hC hq ha hfr hlo m (by omega)) (sh_Pb (u := (sh_n C at_ s m).1) (l := (sh_n C at_ s m).2.1) (P := (sh_n C at_ s m).2.2.1) (W := (sh_n C at_ s m).2.2.2.1) (St := (sh_n C at_ s m).2.2.2.2) (by omega) (sh_n_ok hs m) D F O hC hq ha hfr hlo)
theorem sh_Pe {pf at_ nn : Nat} (D : sh_D p0 pp pw ps) (hl : l < 4294967296) (ha : at_ + nn ≤ 2147483647) : sy_R 15 n fr lo 20 [(2, p0, 0), (2, pf, 0), (0, at_, 0), (0, nn, 0), (0, at_ + nn, 0)] [] (sh_w w p0 pp pw ps (sh_x X u l) P W St) 80 [(2, p0, 0), (2, pf, 0), (0, at_, 0), (0, nn, 0), (255, 0, 0)] [] (sh_w w p0 pp pw ps (sh_x X u (mo_add l nn)) P W St) := by
  refine sy_ild cd15_20 rfl rfl ?_
  refine sy_ildn cd15_22 rfl rfl ?_
  refine sy_ildn cd15_23 rfl rfl ?_
  refine sy_iadd cd15_24 ?_
  refine sy_ge_t (pc' := 70) cd15_25 (by decide) (by unfold mo_add; omega) (by omega) (by decide) ?_
  refine sy_aldn cd15_70 rfl rfl ?_
  refine sy_dup cd15_71 rfl ?_
  refine sy_gf cd15_72 shf15_length rfl (sh_g0 D) rfl (sh_xl hl) ?_
  refine sy_ildn cd15_75 rfl rfl ?_
  refine sy_iadd cd15_76 ?_
  refine sy_pfi (w' := sh_w w p0 pp pw ps (sh_x X u (mo_add l nn)) P W St) cd15_77 shf15_length rfl sht_length shn_length (sh_g0 D) rfl (mo_add_lt _ _) (by rw [sh_s0 D, sh_wl]) ?_
  exact sy_weak (sy_lw_ok (by simp only [sy_lw]; simp))
theorem sh_put {pf q C at_ nn : Nat} {s : sh_T} (hs : s.1 < 64) (hl : s.2.1 < 4294967296) (D : sh_D p0 pp pw ps) (F : mc_F X pp pw ps) (O : sh_O p0 pp pw ps pf) (hC : mv_get 10 w pf = (1, 1, q, C)) (hq : q ≤ 2147483647) (ha : at_ + nn ≤ q) : sy_C 15 n 1 33 [(2, p0, 0), (2, pf, 0), (0, at_, 0), (0, nn, 0)] (sh_W w p0 pp pw ps X s) [] (sh_W w p0 pp pw ps X (sh_p C at_ nn s)) := by
  have hfr : 0 + 1 ≤ 1 := Nat.le_refl 1
  have hlo : 8 + (tt_mL 16 + 11) + 0 ≤ 33 := by rw [mL16]; decide
  refine sy_Cof (us := [(255, 0, 0)]) (ls' := [(2, p0, 0), (2, pf, 0), (0, at_, 0), (0, nn, 0), (255, 0, 0)]) (pe := 80) (sy_oks_cons (sy_ok2 D.1) (sy_oks_cons (sy_ok2 O.1) (sy_oks_cons (sy_ok0 (by omega)) (sy_oks_cons (sy_ok0 (by omega)) sy_oks_nil)))) rfl rfl ?_ (fun L f => sy_ret cd15_80 mr15)
  show sy_R 15 n 1 33 0 [(2, p0, 0), (2, pf, 0), (0, at_, 0), (0, nn, 0), (255, 0, 0)] [] (sh_w w p0 pp pw ps (sh_x X s.1 s.2.1) s.2.2.1 s.2.2.2.1 s.2.2.2.2) 80 [(2, p0, 0), (2, pf, 0), (0, at_, 0), (0, nn, 0), (255, 0, 0)] [] (sh_W w p0 pp pw ps X (sh_p C at_ nn s))
  refine sy_ildn cd15_0 rfl rfl ?_
  refine sy_iflt_f cd15_1 (by decide) (by omega) ?_
  refine sy_ildn cd15_4 rfl rfl ?_
  refine sy_iflt_f cd15_5 (by decide) (by omega) ?_
  refine sy_ildn cd15_8 rfl rfl ?_
  refine sy_aldn cd15_9 rfl rfl ?_
  refine sy_alen cd15_10 ((sh_go D O).trans hC) rfl ?_
  refine sy_ildn cd15_11 rfl rfl ?_
  refine sy_isub cd15_12 ?_
  refine sy_icmple_t (pc' := 17) cd15_13 (by decide) (by unfold mo_sub; omega) (by unfold mo_sub; omega) (by decide) ?_
  refine sy_ildn cd15_17 rfl rfl ?_
  refine sy_ist cd15_18 rfl (sy_ok0 (by omega)) (by rw [mL15]; rfl) rfl ?_
  simp only [List.set_cons_zero, List.set_cons_succ]
  refine sy_trans (sh_Ps hs D F O hC hq ha hfr hlo nn (Nat.le_refl nn)) ?_
  have h := sh_Pe (n := n) (fr := 1) (lo := 33) (w := w) (X := X) (pf := pf) (at_ := at_) (nn := nn) (u := (sh_n C at_ s nn).1) (l := (sh_n C at_ s nn).2.1) (P := (sh_n C at_ s nn).2.2.1) (W := (sh_n C at_ s nn).2.2.2.1) (St := (sh_n C at_ s nn).2.2.2.2) D (by rw [sh_n_l]; exact hl) (by omega)
  have e1 : mo_add (sh_n C at_ s nn).2.1 nn = mo_add s.2.1 nn := by rw [sh_n_l]
  rw [e1] at h
  exact h
def sh_S0 (St : Nat) : Nat := mv_cw 32 St 41557658498906279274860226408925318911382702236748615442085426012007055353447 0 0 8
def sh_b (s : sh_T) : sh_T := (0, 0, s.2.2.1, s.2.2.2.1, sh_S0 s.2.2.2.2)
theorem sh_cp (D : sh_D p0 pp pw ps) : mv_c8 tt_tl tt_stt 0 [(6, 1, 0), (0, 0, 0), (2, ps, 0), (0, 0, 0), (0, 8, 0)] [] (sh_w w p0 pp pw ps X P W St) = some ([], sh_w w p0 pp pw ps X P W (sh_S0 St)) := by
  have e1 : mv_cp tt_tl (1, tt_stt 1) (1, 0, 8, St) (0, 0, 0) (0, 0, 0) (0, 8, 0) = some (1, 0, 8, sh_S0 St) := by
    rw [show tt_stt 1 = (0, 8, 41557658498906279274860226408925318911382702236748615442085426012007055353447) by decide +kernel]
    rfl
  show ((mv_cp tt_tl (1, tt_stt 1) (mv_get 10 (sh_w w p0 pp pw ps X P W St) ps) (0, 0, 0) (0, 0, 0) (0, 8, 0)).map (fun z => mv_set 10 (sh_w w p0 pp pw ps X P W St) ps z)).map (fun w' => (([] : List mv_V), w')) = _
  rw [sh_gs D, e1]
  simp only [Option.map_some]
  rw [sh_ss D]
theorem sh_begin {s : sh_T} (D : sh_D p0 pp pw ps) (F : mc_F X pp pw ps) : sy_C 14 n 1 18 [(2, p0, 0)] (sh_W w p0 pp pw ps X s) [] (sh_W w p0 pp pw ps X (sh_b s)) := by
  obtain ⟨u, l, P, W, St⟩ := s
  refine sy_Cof (us := []) (ls' := [(2, p0, 0)]) (pe := 24) (sy_oks_cons (sy_ok2 D.1) sy_oks_nil) rfl rfl ?_ (fun L f => sy_ret cd14_24 mr14)
  show sy_R 14 n 1 18 0 [(2, p0, 0)] [] (sh_w w p0 pp pw ps (sh_x X u l) P W St) 24 [(2, p0, 0)] [] (sh_w w p0 pp pw ps (sh_x X 0 0) P W (sh_S0 St))
  refine sy_gst (q := 1) cd14_0 shs_start ?_
  refine sy_iconst (v := 0) cd14_3 (by decide) ?_
  refine sy_aldn cd14_4 rfl rfl ?_
  refine sy_gf cd14_5 shf14_state rfl (sh_g0 D) rfl (sh_xF F).1 ?_
  refine sy_iconst (v := 0) cd14_8 (by decide) ?_
  refine sy_bipush (v := 8) cd14_9 (by decide) (by decide) ?_
  refine sy_call8 (as := [(6, 1, 0), (0, 0, 0), (2, ps, 0), (0, 0, 0), (0, 8, 0)]) (S0 := []) cd14_11 (sy_calS (as := [(6, 1, 0), (0, 0, 0), (2, ps, 0), (0, 0, 0), (0, 8, 0)]) (S0 := []) ml14_43 rfl rfl) (sh_cp D) (by decide) (by decide) ?_
  refine sy_aldn cd14_14 rfl rfl ?_
  refine sy_iconst (v := 0) cd14_15 (by decide) ?_
  refine sy_pfi (w' := sh_w w p0 pp pw ps (sh_x X 0 l) P W (sh_S0 St)) cd14_16 shf14_filled rfl sht_filled shn_filled (sh_g0 D) rfl (by decide) (by rw [sh_s0 D, sh_wu]) ?_
  refine sy_aldn cd14_19 rfl rfl ?_
  refine sy_iconst (v := 0) cd14_20 (by decide) ?_
  refine sy_pfi (w' := sh_w w p0 pp pw ps (sh_x X 0 0) P W (sh_S0 St)) cd14_21 shf14_length rfl sht_length shn_length (sh_g0 D) rfl (by decide) (by rw [sh_s0 D, sh_wl]) ?_
  exact sy_refl
/-- the end: the last piece, or two -/
def sh_e1 (s : sh_T) : sh_T := (s.1 + 1, s.2.1, mv_wr 32 s.2.2.1 s.1 (mn_b 4294967168), s.2.2.2.1, s.2.2.2.2)
def sh_cm (P : Nat) (s : sh_T) : sh_T := (0, s.2.1, P, mc_Wf P s.2.2.2.1, mc_Sf P s.2.2.2.1 s.2.2.2.2)
def sh_e2 (s : sh_T) : sh_T := bif Nat.ble s.1 56 then s else sh_cm (fi_T s.2.2.1 s.1 0 (64 - s.1)) s
def sh_e3 (s : sh_T) : sh_T := sh_cm (su_4 (fi_T s.2.2.1 s.1 0 (64 - s.1)) 60 (mo_mul 8 s.2.1)) s
def sh_e (s : sh_T) : sh_T := sh_e3 (sh_e2 (sh_e1 s))
def sh_o (T at_ St : Nat) : Nat → Nat
  | 0 => T
  | i + 1 => su_4 (sh_o T at_ St i) (at_ + 4 * i) (mv_rd 32 St i)
theorem sh_E1 {pt at_ : Nat} (hu : u < 64) (D : sh_D p0 pp pw ps) (F : mc_F X pp pw ps) (O : sh_O p0 pp pw ps pt) : sy_R 18 n fr lo 0 [(2, p0, 0), (2, pt, 0), (0, at_, 0), (255, 0, 0)] [] (sh_w w p0 pp pw ps (sh_x X u l) P W St) 21 [(2, p0, 0), (2, pt, 0), (0, at_, 0), (255, 0, 0)] [] (sh_w w p0 pp pw ps (sh_x X (u + 1) l) (mv_wr 32 P u (mn_b 4294967168)) W St) := by
  refine sy_aldn cd18_0 rfl rfl ?_
  refine sy_gf cd18_1 shf18_piece rfl (sh_g0 D) rfl (sh_xF F).2.2 ?_
  refine sy_aldn cd18_4 rfl rfl ?_
  refine sy_gf cd18_5 shf18_filled rfl (sh_g0 D) rfl (sh_xu (by omega)) ?_
  refine sy_bipush (v := 4294967168) cd18_8 (by decide) (by decide) ?_
  refine sy_bas (w' := sh_w w p0 pp pw ps (sh_x X u l) (mv_wr 32 P u (mn_b 4294967168)) W St) (i := u) cd18_10 (sh_gp D) rfl hu (by decide) (sh_sp D) ?_
  refine sy_aldn cd18_11 rfl rfl ?_
  refine sy_dup cd18_12 rfl ?_
  refine sy_gf cd18_13 shf18_filled rfl (sh_g0 D) rfl (sh_xu (by omega)) ?_
  refine sy_iconst (v := 1) cd18_16 (by decide) ?_
  refine sy_iadd cd18_17 ?_
  refine sy_pfi (w' := sh_w w p0 pp pw ps (sh_x X (u + 1) l) (mv_wr 32 P u (mn_b 4294967168)) W St) cd18_18 shf18_filled rfl sht_filled shn_filled (sh_g0 D) rfl (mo_add_lt _ _) (by rw [sh_s0 D, sh_wu, mo_inc (by omega)]) ?_
  exact sy_refl
theorem sh_Cf (D : sh_D p0 pp pw ps) (hu : u ≤ 64) : sy_C 19 n 1 22 [(2, pp, 0), (0, u, 0), (0, 64, 0), (0, 0, 0)] (sh_w w p0 pp pw ps (sh_x X u l) P W St) [] (sh_w w p0 pp pw ps (sh_x X u l) (fi_T P u 0 (64 - u)) W St) := by
  have h := fi_run (n := n) (a := u) (b := 64) (v := 0) D.2.1 (sh_gp (w := w) (X := sh_x X u l) (P := P) (W := W) (St := St) D) (by decide) hu (by decide) (by decide)
  rw [sh_sp D] at h
  exact h
theorem sh_Cs {v : Nat} (D : sh_D p0 pp pw ps) (hv : v < 4294967296) : sy_C 11 n 0 0 [(0, v, 0), (2, pp, 0), (0, 60, 0)] (sh_w w p0 pp pw ps X P W St) [] (sh_w w p0 pp pw ps X (su_4 P 60 v) W St) := by
  have h := su_run (n := n) (at_ := 60) (v := v) D.2.1 (sh_gp (w := w) (X := X) (P := P) (W := W) (St := St) D) (by decide) (by decide) hv
  rw [sh_sp D] at h
  exact h
theorem sh_E2a {pt at_ : Nat} (hu : u ≤ 64) (h56 : 56 < u) (D : sh_D p0 pp pw ps) (F : mc_F X pp pw ps) (O : sh_O p0 pp pw ps pt) (hfr : 1 + 1 ≤ fr) (hlo : 46 ≤ lo) : sy_R 18 n fr lo 21 [(2, p0, 0), (2, pt, 0), (0, at_, 0), (255, 0, 0)] [] (sh_w w p0 pp pw ps (sh_x X u l) P W St) 48 [(2, p0, 0), (2, pt, 0), (0, at_, 0), (255, 0, 0)] [] (sh_w w p0 pp pw ps (sh_x X 0 l) (fi_T P u 0 (64 - u)) (mc_Wf (fi_T P u 0 (64 - u)) W) (mc_Sf (fi_T P u 0 (64 - u)) W St)) := by
  refine sy_aldn cd18_21 rfl rfl ?_
  refine sy_gf cd18_22 shf18_filled rfl (sh_g0 D) rfl (sh_xu (by omega)) ?_
  refine sy_bipush (v := 56) cd18_25 (by decide) (by decide) ?_
  refine sy_icmple_f cd18_27 (by decide) h56 (by omega) ?_
  refine sy_aldn cd18_30 rfl rfl ?_
  refine sy_gf cd18_31 shf18_piece rfl (sh_g0 D) rfl (sh_xF F).2.2 ?_
  refine sy_aldn cd18_34 rfl rfl ?_
  refine sy_gf cd18_35 shf18_filled rfl (sh_g0 D) rfl (sh_xu (by omega)) ?_
  refine sy_bipush (v := 64) cd18_38 (by decide) (by decide) ?_
  refine sy_iconst (v := 0) cd18_40 (by decide) ?_
  refine sy_callG (kd := 1) (as := [(2, pp, 0), (0, u, 0), (0, 64, 0), (0, 0, 0)]) (S0 := []) (ret := []) cd18_41 (sy_calS (as := [(2, pp, 0), (0, u, 0), (0, 64, 0), (0, 0, 0)]) (S0 := []) ml18_63 rfl rfl) rfl rfl rfl rfl (sy_oka (sy_oks_cons (sy_ok2 D.2.1) (sy_oks_cons (sy_ok0 (by omega)) (sy_oks_cons (sy_ok0 (by decide)) (sy_oks_cons (sy_ok0 (by decide)) sy_oks_nil)))) rfl mL19) (sh_Cf D hu) hfr (by rw [mL19]; omega) ?_
  simp only [List.nil_append, List.cons_append]
  refine sy_aldn cd18_44 rfl rfl ?_
  refine sy_callG (kd := 3) (as := [(2, p0, 0)]) (S0 := []) (ret := []) cd18_45 (sy_calV (as := [(2, p0, 0)]) (S0 := []) ml18_56 rfl rfl) rfl rfl (sy_rcvm mci16 (sh_g0 D)) rfl (sy_oka (sy_oks_cons (sy_ok2 D.1) sy_oks_nil) rfl mL16) (sh_Cc D F) (by omega) (by rw [mL16]; omega) ?_
  simp only [List.nil_append, List.cons_append]
  exact sy_refl
theorem sh_E2b {pt at_ : Nat} (h56 : u ≤ 56) (D : sh_D p0 pp pw ps) (F : mc_F X pp pw ps) (O : sh_O p0 pp pw ps pt) : sy_R 18 n fr lo 21 [(2, p0, 0), (2, pt, 0), (0, at_, 0), (255, 0, 0)] [] (sh_w w p0 pp pw ps (sh_x X u l) P W St) 48 [(2, p0, 0), (2, pt, 0), (0, at_, 0), (255, 0, 0)] [] (sh_w w p0 pp pw ps (sh_x X u l) P W St) := by
  refine sy_aldn cd18_21 rfl rfl ?_
  refine sy_gf cd18_22 shf18_filled rfl (sh_g0 D) rfl (sh_xu (by omega)) ?_
  refine sy_bipush (v := 56) cd18_25 (by decide) (by decide) ?_
  refine sy_icmple_t (pc' := 48) cd18_27 (by decide) h56 (by decide) (by decide) ?_
  exact sy_refl
theorem sh_E3 {pt at_ : Nat} (hu : u ≤ 64) (hl : l < 4294967296) (D : sh_D p0 pp pw ps) (F : mc_F X pp pw ps) (O : sh_O p0 pp pw ps pt) (hfr : 1 + 1 ≤ fr) (hlo : 46 ≤ lo) : sy_R 18 n fr lo 48 [(2, p0, 0), (2, pt, 0), (0, at_, 0), (255, 0, 0)] [] (sh_w w p0 pp pw ps (sh_x X u l) P W St) 84 [(2, p0, 0), (2, pt, 0), (0, at_, 0), (0, 0, 0)] [] (sh_w w p0 pp pw ps (sh_x X 0 l) (su_4 (fi_T P u 0 (64 - u)) 60 (mo_mul 8 l)) (mc_Wf (su_4 (fi_T P u 0 (64 - u)) 60 (mo_mul 8 l)) W) (mc_Sf (su_4 (fi_T P u 0 (64 - u)) 60 (mo_mul 8 l)) W St)) := by
  refine sy_aldn cd18_48 rfl rfl ?_
  refine sy_gf cd18_49 shf18_piece rfl (sh_g0 D) rfl (sh_xF F).2.2 ?_
  refine sy_aldn cd18_52 rfl rfl ?_
  refine sy_gf cd18_53 shf18_filled rfl (sh_g0 D) rfl (sh_xu (by omega)) ?_
  refine sy_bipush (v := 64) cd18_56 (by decide) (by decide) ?_
  refine sy_iconst (v := 0) cd18_58 (by decide) ?_
  refine sy_callG (kd := 1) (as := [(2, pp, 0), (0, u, 0), (0, 64, 0), (0, 0, 0)]) (S0 := []) (ret := []) cd18_59 (sy_calS (as := [(2, pp, 0), (0, u, 0), (0, 64, 0), (0, 0, 0)]) (S0 := []) ml18_63 rfl rfl) rfl rfl rfl rfl (sy_oka (sy_oks_cons (sy_ok2 D.2.1) (sy_oks_cons (sy_ok0 (by omega)) (sy_oks_cons (sy_ok0 (by decide)) (sy_oks_cons (sy_ok0 (by decide)) sy_oks_nil)))) rfl mL19) (sh_Cf D hu) hfr (by rw [mL19]; omega) ?_
  simp only [List.nil_append, List.cons_append]
  refine sy_bipush (v := 8) cd18_62 (by decide) (by decide) ?_
  refine sy_aldn cd18_64 rfl rfl ?_
  refine sy_gf cd18_65 shf18_length rfl (sh_g0 D) rfl (sh_xl hl) ?_
  refine sy_imul cd18_68 ?_
  refine sy_aldn cd18_69 rfl rfl ?_
  refine sy_gf cd18_70 shf18_piece rfl (sh_g0 D) rfl (sh_xF F).2.2 ?_
  refine sy_bipush (v := 60) cd18_73 (by decide) (by decide) ?_
  refine sy_callG (kd := 2) (as := [(0, mo_mul 8 l, 0), (2, pp, 0), (0, 60, 0)]) (S0 := []) (ret := []) cd18_75 (sy_calS (as := [(0, mo_mul 8 l, 0), (2, pp, 0), (0, 60, 0)]) (S0 := []) ml18_69 rfl rfl) rfl rfl rfl rfl (sy_oka (sy_oks_cons (sy_ok0 (mo_mul_lt _ _)) (sy_oks_cons (sy_ok2 D.2.1) (sy_oks_cons (sy_ok0 (by decide)) sy_oks_nil))) rfl mL11) (sh_Cs D (mo_mul_lt _ _)) (by omega) (by rw [mL11]; omega) ?_
  simp only [List.nil_append, List.cons_append]
  refine sy_aldn cd18_78 rfl rfl ?_
  refine sy_callG (kd := 3) (as := [(2, p0, 0)]) (S0 := []) (ret := []) cd18_79 (sy_calV (as := [(2, p0, 0)]) (S0 := []) ml18_56 rfl rfl) rfl rfl (sy_rcvm mci16 (sh_g0 D)) rfl (sy_oka (sy_oks_cons (sy_ok2 D.1) sy_oks_nil) rfl mL16) (sh_Cc D F) (by omega) (by rw [mL16]; omega) ?_
  simp only [List.nil_append, List.cons_append]
  refine sy_iconst (v := 0) cd18_82 (by decide) ?_
  refine sy_istn (j := 3) cd18_83 rfl rfl (sy_ok0 (by decide)) (by rw [mL18]; rfl) rfl ?_
  simp only [List.set_cons_zero, List.set_cons_succ]
  exact sy_refl
theorem sh_Co {pt q T i at_ : Nat} (D : sh_D p0 pp pw ps) (O : sh_O p0 pp pw ps pt) (hq : q ≤ 2147483647) (ha : at_ + 4 * i + 4 ≤ q) : sy_C 11 n 0 0 [(0, mv_rd 32 St i, 0), (2, pt, 0), (0, at_ + 4 * i, 0)] (sh_w (mv_set 10 w pt (1, 1, q, T)) p0 pp pw ps X P W St) [] (sh_w (mv_set 10 w pt (1, 1, q, su_4 T (at_ + 4 * i) (mv_rd 32 St i))) p0 pp pw ps X P W St) := by
  have h := su_run (n := n) (at_ := at_ + 4 * i) (v := mv_rd 32 St i) O.1 ((sh_go (w := mv_set 10 w pt (1, 1, q, T)) (X := X) (P := P) (W := W) (St := St) D O).trans (mv_gs O.1)) hq ha (mo_rd_lt _ _)
  rw [sh_so D O, mv_ss O.1] at h
  exact h
theorem sh_E4 {pt q T i at_ : Nat} (hi : i < 8) (hq : q ≤ 2147483647) (ha : at_ + 32 ≤ q) (D : sh_D p0 pp pw ps) (F : mc_F X pp pw ps) (O : sh_O p0 pp pw ps pt) (hfr : 1 + 1 ≤ fr) (hlo : 46 ≤ lo) : sy_R 18 n fr lo 84 [(2, p0, 0), (2, pt, 0), (0, at_, 0), (0, i, 0)] [] (sh_w (mv_set 10 w pt (1, 1, q, T)) p0 pp pw ps (sh_x X u l) P W St) 84 [(2, p0, 0), (2, pt, 0), (0, at_, 0), (0, i + 1, 0)] [] (sh_w (mv_set 10 w pt (1, 1, q, su_4 T (at_ + 4 * i) (mv_rd 32 St i))) p0 pp pw ps (sh_x X u l) P W St) := by
  refine sy_ildn cd18_84 rfl rfl ?_
  refine sy_bipush (v := 8) cd18_85 (by decide) (by decide) ?_
  refine sy_ge_f cd18_87 (by decide) hi (by decide) ?_
  refine sy_aldn cd18_90 rfl rfl ?_
  refine sy_gf cd18_91 shf18_state rfl (sh_g0 D) rfl (sh_xF F).1 ?_
  refine sy_ildn cd18_94 rfl rfl ?_
  refine sy_ial (i := i) cd18_95 (sh_gs D) rfl hi (by decide) ?_
  refine sy_aldn cd18_96 rfl rfl ?_
  refine sy_ildn cd18_97 rfl rfl ?_
  refine sy_iconst (v := 4) cd18_98 (by decide) ?_
  refine sy_ildn cd18_99 rfl rfl ?_
  refine sy_imul cd18_100 ?_
  refine sy_iadd cd18_101 ?_
  rw [show mo_add at_ (mo_mul 4 i) = at_ + 4 * i by unfold mo_add mo_mul; omega]
  refine sy_callG (kd := 2) (as := [(0, mv_rd 32 St i, 0), (2, pt, 0), (0, at_ + 4 * i, 0)]) (S0 := []) (ret := []) cd18_102 (sy_calS (as := [(0, mv_rd 32 St i, 0), (2, pt, 0), (0, at_ + 4 * i, 0)]) (S0 := []) ml18_69 rfl rfl) rfl rfl rfl rfl (sy_oka (sy_oks_cons (sy_ok0 (mo_rd_lt _ _)) (sy_oks_cons (sy_ok2 O.1) (sy_oks_cons (sy_ok0 (by omega)) sy_oks_nil))) rfl mL11) (sh_Co D O hq (by omega)) (by omega) (by rw [mL11]; omega) ?_
  simp only [List.nil_append, List.cons_append]
  refine sy_iinc (c := 1) cd18_105 rfl (by decide) (by rw [mL18]; rfl) rfl ?_
  simp only [List.set_cons_zero, List.set_cons_succ]
  refine sy_goto (pc' := 84) cd18_108 (by decide) (by decide) ?_
  rw [mo_inc (by omega)]
  exact sy_refl
theorem sh_E4s {pt q T at_ : Nat} (hq : q ≤ 2147483647) (ha : at_ + 32 ≤ q) (D : sh_D p0 pp pw ps) (F : mc_F X pp pw ps) (O : sh_O p0 pp pw ps pt) (hfr : 1 + 1 ≤ fr) (hlo : 46 ≤ lo) : ∀ m, m ≤ 8 → sy_R 18 n fr lo 84 [(2, p0, 0), (2, pt, 0), (0, at_, 0), (0, 0, 0)] [] (sh_w (mv_set 10 w pt (1, 1, q, T)) p0 pp pw ps (sh_x X u l) P W St) 84 [(2, p0, 0), (2, pt, 0), (0, at_, 0), (0, m, 0)] [] (sh_w (mv_set 10 w pt (1, 1, q, sh_o T at_ St m)) p0 pp pw ps (sh_x X u l) P W St)
  | 0, _ => sy_refl
  | m + 1, h => sy_trans (sh_E4s hq ha D F O hfr hlo m (by omega)) (sh_E4 (by omega) hq ha D F O hfr hlo)
theorem sh_E5 {pt at_ : Nat} : sy_R 18 n fr lo 84 [(2, p0, 0), (2, pt, 0), (0, at_, 0), (0, 8, 0)] [] w 111 [(2, p0, 0), (2, pt, 0), (0, at_, 0), (255, 0, 0)] [] w := by
  refine sy_ildn cd18_84 rfl rfl ?_
  refine sy_bipush (v := 8) cd18_85 (by decide) (by decide) ?_
  refine sy_ge_t (pc' := 111) cd18_87 (by decide) (Nat.le_refl 8) (by decide) (by decide) ?_
  exact sy_weak (sy_lw_ok (by simp only [sy_lw]; simp))
theorem sh_end {pt q T at_ : Nat} {s : sh_T} (hs : s.1 < 64) (hl : s.2.1 < 4294967296) (hq : q ≤ 2147483647) (ha : at_ + 32 ≤ q) (D : sh_D p0 pp pw ps) (F : mc_F X pp pw ps) (O : sh_O p0 pp pw ps pt) (hT : mv_get 10 w pt = (1, 1, q, T)) : sy_C 18 n 2 46 [(2, p0, 0), (2, pt, 0), (0, at_, 0)] (sh_W w p0 pp pw ps X s) [] (sh_W (mv_set 10 w pt (1, 1, q, sh_o T at_ (sh_e s).2.2.2.2 8)) p0 pp pw ps X (sh_e s)) := by
  have hfr : 1 + 1 ≤ 2 := Nat.le_refl 2
  have hlo : 46 ≤ 46 := Nat.le_refl _
  obtain ⟨u, l, P, W, St⟩ := s
  dsimp only at hs hl
  refine sy_Cof (us := [(255, 0, 0)]) (ls' := [(2, p0, 0), (2, pt, 0), (0, at_, 0), (255, 0, 0)]) (pe := 111) (sy_oks_cons (sy_ok2 D.1) (sy_oks_cons (sy_ok2 O.1) (sy_oks_cons (sy_ok0 (by omega)) sy_oks_nil))) rfl rfl ?_ (fun L f => sy_ret cd18_111 mr18)
  have k1 := sh_E1 (n := n) (fr := 2) (lo := 46) (w := w) (l := l) (P := P) (W := W) (St := St) (at_ := at_) hs D F O
  have k2 : sy_R 18 n 2 46 21 [(2, p0, 0), (2, pt, 0), (0, at_, 0), (255, 0, 0)] [] (sh_W w p0 pp pw ps X (sh_e1 (u, l, P, W, St))) 48 [(2, p0, 0), (2, pt, 0), (0, at_, 0), (255, 0, 0)] [] (sh_W w p0 pp pw ps X (sh_e2 (sh_e1 (u, l, P, W, St)))) := by
    by_cases h : u + 1 ≤ 56
    · have e1 : sh_e2 (sh_e1 (u, l, P, W, St)) = sh_e1 (u, l, P, W, St) := by
        unfold sh_e2
        rw [show Nat.ble (sh_e1 (u, l, P, W, St)).1 56 = true from Nat.ble_eq_true_of_le h]
        rfl
      rw [e1]
      exact sh_E2b (u := u + 1) h D F O
    · have e1 : sh_e2 (sh_e1 (u, l, P, W, St)) = sh_cm (fi_T (sh_e1 (u, l, P, W, St)).2.2.1 (sh_e1 (u, l, P, W, St)).1 0 (64 - (sh_e1 (u, l, P, W, St)).1)) (sh_e1 (u, l, P, W, St)) := by
        unfold sh_e2
        rw [show Nat.ble (sh_e1 (u, l, P, W, St)).1 56 = false by cases hb : Nat.ble (sh_e1 (u, l, P, W, St)).1 56 with
          | false => rfl
          | true => exact absurd (Nat.le_of_ble_eq_true hb) h]
        rfl
      rw [e1]
      exact sh_E2a (u := u + 1) (by omega) (by omega) D F O hfr hlo
  have u2 : (sh_e2 (sh_e1 (u, l, P, W, St))).1 ≤ 64 ∧ (sh_e2 (sh_e1 (u, l, P, W, St))).2.1 < 4294967296 := by
    unfold sh_e2
    cases Nat.ble (sh_e1 (u, l, P, W, St)).1 56 with
    | true => exact ⟨by show u + 1 ≤ 64; omega, hl⟩
    | false => exact ⟨by show 0 ≤ 64; omega, hl⟩
  have k3 := sh_E3 (n := n) (fr := 2) (lo := 46) (w := w) (P := (sh_e2 (sh_e1 (u, l, P, W, St))).2.2.1) (W := (sh_e2 (sh_e1 (u, l, P, W, St))).2.2.2.1) (St := (sh_e2 (sh_e1 (u, l, P, W, St))).2.2.2.2) (at_ := at_) u2.1 u2.2 D F O hfr hlo
  have k4 := sh_E4s (n := n) (fr := 2) (lo := 46) (w := w) (u := (sh_e (u, l, P, W, St)).1) (l := (sh_e (u, l, P, W, St)).2.1) (P := (sh_e (u, l, P, W, St)).2.2.1) (W := (sh_e (u, l, P, W, St)).2.2.2.1) (St := (sh_e (u, l, P, W, St)).2.2.2.2) (T := T) hq ha D F O hfr hlo 8 (Nat.le_refl 8)
  rw [mv_sg O.1 hT] at k4
  exact sy_trans k1 (sy_trans k2 (sy_trans k3 (sy_trans k4 sh_E5)))
end SH
