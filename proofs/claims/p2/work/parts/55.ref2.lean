/-! PurseHouseModel: shaEnd, hashRow, symbolically -/
theorem rsf106_shaSize : tt_fl 106 95 = (1, 0, 14) := by decide +kernel
theorem rsf106_pieceSize : tt_fl 106 92 = (1, 0, 13) := by decide +kernel
theorem rsf106_state : tt_fl 106 85 = (1, 0, 9) := by decide +kernel
theorem rsf100_middle : tt_fl 100 131 = (1, 0, 15) := by decide +kernel
theorem rsk_8 : tt_kc 106 118 = (2, 8) := by decide +kernel
theorem mci106 : tt_mci 106 = 0 := by decide +kernel
theorem mci102 : tt_mci 102 = 0 := by decide +kernel
theorem mci101 : tt_mci 101 = 0 := by decide +kernel
theorem cd106_0 : tt_cd 106 0 = (4, .ldc2_w 118, 3) := by decide +kernel
theorem cd106_3 : tt_cd 106 3 = (1, .aload_n 0, 1) := by decide +kernel
theorem cd106_4 : tt_cd 106 4 = (3, .getfield 95, 3) := by decide +kernel
theorem cd106_7 : tt_cd 106 7 = (2, .lmul, 1) := by decide +kernel
theorem cd106_8 : tt_cd 106 8 = (1, .lstore_n 3, 1) := by decide +kernel
theorem cd106_9 : tt_cd 106 9 = (1, .aload_n 0, 1) := by decide +kernel
theorem cd106_10 : tt_cd 106 10 = (4, .sipush 128, 3) := by decide +kernel
theorem cd106_13 : tt_cd 106 13 = (10, .invokevirtual 120, 3) := by decide +kernel
theorem cd106_16 : tt_cd 106 16 = (1, .aload_n 0, 1) := by decide +kernel
theorem cd106_17 : tt_cd 106 17 = (3, .getfield 92, 3) := by decide +kernel
theorem cd106_20 : tt_cd 106 20 = (4, .bipush 56, 2) := by decide +kernel
theorem cd106_22 : tt_cd 106 22 = (5, .if_icmp .eq 11, 3) := by decide +kernel
theorem cd106_25 : tt_cd 106 25 = (1, .aload_n 0, 1) := by decide +kernel
theorem cd106_26 : tt_cd 106 26 = (2, .iconst 0, 1) := by decide +kernel
theorem cd106_27 : tt_cd 106 27 = (10, .invokevirtual 120, 3) := by decide +kernel
theorem cd106_30 : tt_cd 106 30 = (5, .goto (-14), 3) := by decide +kernel
theorem cd106_33 : tt_cd 106 33 = (4, .bipush 7, 2) := by decide +kernel
theorem cd106_35 : tt_cd 106 35 = (1, .istore 5, 2) := by decide +kernel
theorem cd106_37 : tt_cd 106 37 = (1, .iload 5, 2) := by decide +kernel
theorem cd106_39 : tt_cd 106 39 = (5, .ifCond .lt 25, 3) := by decide +kernel
theorem cd106_42 : tt_cd 106 42 = (1, .aload_n 0, 1) := by decide +kernel
theorem cd106_43 : tt_cd 106 43 = (1, .lload_n 3, 1) := by decide +kernel
theorem cd106_44 : tt_cd 106 44 = (4, .bipush 8, 2) := by decide +kernel
theorem cd106_46 : tt_cd 106 46 = (1, .iload 5, 2) := by decide +kernel
theorem cd106_48 : tt_cd 106 48 = (2, .imul, 1) := by decide +kernel
theorem cd106_49 : tt_cd 106 49 = (2, .lushr, 1) := by decide +kernel
theorem cd106_50 : tt_cd 106 50 = (2, .l2i, 1) := by decide +kernel
theorem cd106_51 : tt_cd 106 51 = (4, .sipush 255, 3) := by decide +kernel
theorem cd106_54 : tt_cd 106 54 = (2, .iand, 1) := by decide +kernel
theorem cd106_55 : tt_cd 106 55 = (10, .invokevirtual 120, 3) := by decide +kernel
theorem cd106_58 : tt_cd 106 58 = (1, .iinc 5 (-1), 3) := by decide +kernel
theorem cd106_61 : tt_cd 106 61 = (5, .goto (-24), 3) := by decide +kernel
theorem cd106_64 : tt_cd 106 64 = (2, .iconst 0, 1) := by decide +kernel
theorem cd106_65 : tt_cd 106 65 = (1, .istore 5, 2) := by decide +kernel
theorem cd106_67 : tt_cd 106 67 = (1, .iload 5, 2) := by decide +kernel
theorem cd106_69 : tt_cd 106 69 = (4, .bipush 32, 2) := by decide +kernel
theorem cd106_71 : tt_cd 106 71 = (5, .if_icmp .ge 36, 3) := by decide +kernel
theorem cd106_74 : tt_cd 106 74 = (1, .aload_n 1, 1) := by decide +kernel
theorem cd106_75 : tt_cd 106 75 = (1, .iload_n 2, 1) := by decide +kernel
theorem cd106_76 : tt_cd 106 76 = (1, .iload 5, 2) := by decide +kernel
theorem cd106_78 : tt_cd 106 78 = (2, .iadd, 1) := by decide +kernel
theorem cd106_79 : tt_cd 106 79 = (1, .aload_n 0, 1) := by decide +kernel
theorem cd106_80 : tt_cd 106 80 = (3, .getfield 85, 3) := by decide +kernel
theorem cd106_83 : tt_cd 106 83 = (1, .iload 5, 2) := by decide +kernel
theorem cd106_85 : tt_cd 106 85 = (2, .iconst 4, 1) := by decide +kernel
theorem cd106_86 : tt_cd 106 86 = (2, .idiv, 1) := by decide +kernel
theorem cd106_87 : tt_cd 106 87 = (3, .iaload, 1) := by decide +kernel
theorem cd106_88 : tt_cd 106 88 = (4, .bipush 24, 2) := by decide +kernel
theorem cd106_90 : tt_cd 106 90 = (4, .bipush 8, 2) := by decide +kernel
theorem cd106_92 : tt_cd 106 92 = (1, .iload 5, 2) := by decide +kernel
theorem cd106_94 : tt_cd 106 94 = (2, .iconst 4, 1) := by decide +kernel
theorem cd106_95 : tt_cd 106 95 = (2, .irem, 1) := by decide +kernel
theorem cd106_96 : tt_cd 106 96 = (2, .imul, 1) := by decide +kernel
theorem cd106_97 : tt_cd 106 97 = (2, .isub, 1) := by decide +kernel
theorem cd106_98 : tt_cd 106 98 = (2, .iushr, 1) := by decide +kernel
theorem cd106_99 : tt_cd 106 99 = (2, .i2b, 1) := by decide +kernel
theorem cd106_100 : tt_cd 106 100 = (6, .bastore, 1) := by decide +kernel
theorem cd106_101 : tt_cd 106 101 = (1, .iinc 5 1, 3) := by decide +kernel
theorem cd106_104 : tt_cd 106 104 = (5, .goto (-37), 3) := by decide +kernel
theorem cd106_107 : tt_cd 106 107 = (9, .return_, 1) := by decide +kernel
theorem mL106 : tt_mL 106 = 6 := by decide +kernel
theorem ml106_120 : tt_ml 106 120 = (3, 103, 1) := by decide +kernel
theorem mr106 : tt_mr 106 = 0 := by decide +kernel
theorem cd100_0 : tt_cd 100 0 = (1, .aload_n 0, 1) := by decide +kernel
theorem cd100_1 : tt_cd 100 1 = (10, .invokevirtual 124, 3) := by decide +kernel
theorem cd100_4 : tt_cd 100 4 = (1, .aload_n 0, 1) := by decide +kernel
theorem cd100_5 : tt_cd 100 5 = (1, .aload_n 1, 1) := by decide +kernel
theorem cd100_6 : tt_cd 100 6 = (1, .iload_n 2, 1) := by decide +kernel
theorem cd100_7 : tt_cd 100 7 = (1, .iload_n 3, 1) := by decide +kernel
theorem cd100_8 : tt_cd 100 8 = (10, .invokevirtual 127, 3) := by decide +kernel
theorem cd100_11 : tt_cd 100 11 = (1, .aload_n 0, 1) := by decide +kernel
theorem cd100_12 : tt_cd 100 12 = (1, .aload_n 0, 1) := by decide +kernel
theorem cd100_13 : tt_cd 100 13 = (3, .getfield 131, 3) := by decide +kernel
theorem cd100_16 : tt_cd 100 16 = (2, .iconst 0, 1) := by decide +kernel
theorem cd100_17 : tt_cd 100 17 = (10, .invokevirtual 134, 3) := by decide +kernel
theorem cd100_20 : tt_cd 100 20 = (1, .aload_n 0, 1) := by decide +kernel
theorem cd100_21 : tt_cd 100 21 = (10, .invokevirtual 124, 3) := by decide +kernel
theorem cd100_24 : tt_cd 100 24 = (1, .aload_n 0, 1) := by decide +kernel
theorem cd100_25 : tt_cd 100 25 = (1, .aload_n 0, 1) := by decide +kernel
theorem cd100_26 : tt_cd 100 26 = (3, .getfield 131, 3) := by decide +kernel
theorem cd100_29 : tt_cd 100 29 = (2, .iconst 0, 1) := by decide +kernel
theorem cd100_30 : tt_cd 100 30 = (4, .bipush 32, 2) := by decide +kernel
theorem cd100_32 : tt_cd 100 32 = (10, .invokevirtual 127, 3) := by decide +kernel
theorem cd100_35 : tt_cd 100 35 = (1, .aload_n 0, 1) := by decide +kernel
theorem cd100_36 : tt_cd 100 36 = (1, .aload 4, 2) := by decide +kernel
theorem cd100_38 : tt_cd 100 38 = (1, .iload 5, 2) := by decide +kernel
theorem cd100_40 : tt_cd 100 40 = (10, .invokevirtual 134, 3) := by decide +kernel
theorem cd100_43 : tt_cd 100 43 = (9, .return_, 1) := by decide +kernel
theorem mL100 : tt_mL 100 = 6 := by decide +kernel
theorem ml100_124 : tt_ml 100 124 = (3, 101, 0) := by decide +kernel
theorem ml100_127 : tt_ml 100 127 = (3, 102, 3) := by decide +kernel
theorem ml100_134 : tt_ml 100 134 = (3, 106, 2) := by decide +kernel
theorem mr100 : tt_mr 100 = 0 := by decide +kernel
section RS
variable {w : mv_T 10} {p0 pp pk pq pv ps K X n fr lo pt at_ bits : Nat} {s : rs_T}
theorem sy_dv {x : Nat} (hx : x < 2147483648) : (Nat.blt x 2147483648 && (Nat.blt 4 2147483648 && Nat.blt 0 4)) = true := by
  rw [show Nat.blt x 2147483648 = true by simpa using hx]
  rfl
theorem rs_1_u {b : Nat} (hs : s.1 < 64) : (rs_1 K b s).1 = (s.1 + 1) % 64 := by
  unfold rs_1
  cases hb : Nat.beq (s.1 + 1) 64 with
  | true =>
    have := Nat.eq_of_beq_eq_true hb
    show 0 = (s.1 + 1) % 64
    omega
  | false =>
    have hn : s.1 + 1 ≠ 64 := fun e => by rw [e] at hb; cases hb
    show s.1 + 1 = (s.1 + 1) % 64
    omega
/-- bytes of 0 -/
def rs_z (K : Nat) (s : rs_T) : Nat → rs_T
  | 0 => s
  | m + 1 => rs_z K (rs_1 K 0 s) m
theorem rs_z_ok : ∀ (m : Nat) (s : rs_T), s.1 < 64 → s.2.1 < 18446744073709551616 → (rs_z K s m).1 < 64 ∧ (rs_z K s m).2.1 < 18446744073709551616
  | 0, _, h1, h2 => ⟨h1, h2⟩
  | m + 1, s, h1, _ => rs_z_ok m (rs_1 K 0 s) (rs_1_ok h1) rs_1_l
theorem rs_Z0 (h56 : s.1 = 56) (D : rs_D w p0 pp pk pq pv ps X K) : sy_R 106 n fr lo 16 [(2, p0, 0), (2, pt, 0), (0, at_, 0), (1, bits, 0), (255, 0, 0), (255, 0, 0)] [] (rs_W w p0 pp pq pv ps X s) 33 [(2, p0, 0), (2, pt, 0), (0, at_, 0), (1, bits, 0), (255, 0, 0), (255, 0, 0)] [] (rs_W w p0 pp pq pv ps X s) := by
  refine sy_aldn cd106_16 rfl rfl ?_
  refine sy_gf cd106_17 rsf106_pieceSize rfl (rs_g0 D) rfl (rs_xu (by omega)) ?_
  refine sy_bipush (v := 56) cd106_20 (by decide) (by decide) ?_
  refine sy_icmpeq_t (pc' := 33) cd106_22 (by decide) h56 (by decide) ?_
  exact sy_refl
theorem rs_Z1 (hs : s.1 < 64) (hl : s.2.1 < 18446744073709551616) (h56 : s.1 ≠ 56) (D : rs_D w p0 pp pk pq pv ps X K) (hfr : 2 + 1 ≤ fr) (hlo : 8 + (tt_mL 103 + 11) + 51 ≤ lo) : sy_R 106 n fr lo 16 [(2, p0, 0), (2, pt, 0), (0, at_, 0), (1, bits, 0), (255, 0, 0), (255, 0, 0)] [] (rs_W w p0 pp pq pv ps X s) 16 [(2, p0, 0), (2, pt, 0), (0, at_, 0), (1, bits, 0), (255, 0, 0), (255, 0, 0)] [] (rs_W w p0 pp pq pv ps X (rs_1 K 0 s)) := by
  refine sy_aldn cd106_16 rfl rfl ?_
  refine sy_gf cd106_17 rsf106_pieceSize rfl (rs_g0 D) rfl (rs_xu (by omega)) ?_
  refine sy_bipush (v := 56) cd106_20 (by decide) (by decide) ?_
  refine sy_icmpeq_f cd106_22 (by decide) h56 (by omega) (by decide) ?_
  refine sy_aldn cd106_25 rfl rfl ?_
  refine sy_iconst (v := 0) cd106_26 (by decide) ?_
  refine sy_callG (kd := 3) (as := [(2, p0, 0), (0, 0, 0)]) (S0 := []) (ret := []) cd106_27 (sy_calV (as := [(2, p0, 0), (0, 0, 0)]) (S0 := []) ml106_120 rfl rfl) rfl rfl (sy_rcvm mci103 (rs_g0 D)) rfl (sy_oka (sy_oks_cons (sy_ok2 D.1.1) (sy_oks_cons (sy_ok0 (by decide)) sy_oks_nil)) rfl mL103) (rs_byte hs hl (by decide) D) hfr hlo ?_
  simp only [List.nil_append, List.cons_append]
  refine sy_goto (pc' := 16) cd106_30 (by decide) (by decide) ?_
  exact sy_refl
theorem rs_Zs (D : rs_D w p0 pp pk pq pv ps X K) (hfr : 2 + 1 ≤ fr) (hlo : 8 + (tt_mL 103 + 11) + 51 ≤ lo) : ∀ (d : Nat) (s : rs_T), s.1 < 64 → s.2.1 < 18446744073709551616 → (120 - s.1) % 64 = d → sy_R 106 n fr lo 16 [(2, p0, 0), (2, pt, 0), (0, at_, 0), (1, bits, 0), (255, 0, 0), (255, 0, 0)] [] (rs_W w p0 pp pq pv ps X s) 33 [(2, p0, 0), (2, pt, 0), (0, at_, 0), (1, bits, 0), (255, 0, 0), (255, 0, 0)] [] (rs_W w p0 pp pq pv ps X (rs_z K s d))
  | 0, s, h1, _, h => rs_Z0 (by omega) D
  | d + 1, s, h1, h2, h => sy_trans (rs_Z1 h1 h2 (by omega) D hfr hlo) (rs_Zs D hfr hlo d (rs_1 K 0 s) (rs_1_ok h1) rs_1_l (by rw [rs_1_u h1]; omega))
/-- the length -/
def rs_lb (bits m : Nat) : Nat := mo_and (mo_lushr bits (mo_mul 8 (mo_sub 7 m)) % 4294967296) 255
theorem rs_lb_lt (bits m : Nat) : rs_lb bits m < 4294967296 := mo_and_lt (Nat.mod_lt _ (by decide))
def rs_l (K bits : Nat) (s : rs_T) : Nat → rs_T
  | 0 => s
  | m + 1 => rs_1 K (rs_lb bits m) (rs_l K bits s m)
theorem rs_l_ok (hs : s.1 < 64) : ∀ m, (rs_l K bits s m).1 < 64
  | 0 => hs
  | m + 1 => rs_1_ok (rs_l_ok hs m)
theorem rs_l_l (hl : s.2.1 < 18446744073709551616) : ∀ m, (rs_l K bits s m).2.1 < 18446744073709551616
  | 0 => hl
  | _ + 1 => rs_1_l
theorem rs_Lb {m : Nat} (hm : m < 8) (hs : s.1 < 64) (hl : s.2.1 < 18446744073709551616) (D : rs_D w p0 pp pk pq pv ps X K) (hfr : 2 + 1 ≤ fr) (hlo : 8 + (tt_mL 103 + 11) + 51 ≤ lo) : sy_R 106 n fr lo 37 [(2, p0, 0), (2, pt, 0), (0, at_, 0), (1, bits, 0), (255, 0, 0), (0, mo_sub 7 m, 0)] [] (rs_W w p0 pp pq pv ps X s) 37 [(2, p0, 0), (2, pt, 0), (0, at_, 0), (1, bits, 0), (255, 0, 0), (0, mo_sub 7 (m + 1), 0)] [] (rs_W w p0 pp pq pv ps X (rs_1 K (rs_lb bits m) s)) := by
  refine sy_ild cd106_37 rfl rfl ?_
  refine sy_iflt_f cd106_39 (by decide) (by unfold mo_sub; omega) ?_
  refine sy_aldn cd106_42 rfl rfl ?_
  refine sy_lldn (j := 3) cd106_43 rfl rfl rfl ?_
  refine sy_bipush (v := 8) cd106_44 (by decide) (by decide) ?_
  refine sy_ild cd106_46 rfl rfl ?_
  refine sy_imul cd106_48 ?_
  refine sy_lushr cd106_49 ?_
  refine sy_l2i cd106_50 ?_
  refine sy_sipush (v := 255) cd106_51 (by decide) (by decide) ?_
  refine sy_iand cd106_54 ?_
  refine sy_callG (kd := 3) (as := [(2, p0, 0), (0, rs_lb bits m, 0)]) (S0 := []) (ret := []) cd106_55 (sy_calV (as := [(2, p0, 0), (0, rs_lb bits m, 0)]) (S0 := []) ml106_120 rfl rfl) rfl rfl (sy_rcvm mci103 (rs_g0 D)) rfl (sy_oka (sy_oks_cons (sy_ok2 D.1.1) (sy_oks_cons (sy_ok0 (rs_lb_lt _ _)) sy_oks_nil)) rfl mL103) (rs_byte hs hl (rs_lb_lt _ _) D) hfr hlo ?_
  simp only [List.nil_append, List.cons_append]
  refine sy_iinc (c := 4294967295) cd106_58 rfl (by decide) (by rw [mL106]; rfl) rfl ?_
  simp only [List.set_cons_zero, List.set_cons_succ]
  refine sy_goto (pc' := 37) cd106_61 (by decide) (by decide) ?_
  rw [show mo_add (mo_sub 7 m) 4294967295 = mo_sub 7 (m + 1) by unfold mo_add mo_sub; omega]
  exact sy_refl
theorem rs_Ls (hs : s.1 < 64) (hl : s.2.1 < 18446744073709551616) (D : rs_D w p0 pp pk pq pv ps X K) (hfr : 2 + 1 ≤ fr) (hlo : 8 + (tt_mL 103 + 11) + 51 ≤ lo) : ∀ m, m ≤ 8 → sy_R 106 n fr lo 37 [(2, p0, 0), (2, pt, 0), (0, at_, 0), (1, bits, 0), (255, 0, 0), (0, mo_sub 7 0, 0)] [] (rs_W w p0 pp pq pv ps X s) 37 [(2, p0, 0), (2, pt, 0), (0, at_, 0), (1, bits, 0), (255, 0, 0), (0, mo_sub 7 m, 0)] [] (rs_W w p0 pp pq pv ps X (rs_l K bits s m))
  | 0, _ => sy_refl
  | m + 1, h => sy_trans (rs_Ls hs hl D hfr hlo m (by omega)) (rs_Lb (by omega) (rs_l_ok hs m) (rs_l_l hl m) D hfr hlo)
/-- what comes out -/
def rs_ob (St m : Nat) : Nat := mo_ushr (mv_rd 32 St (m / 4)) (mo_sub 24 (mo_mul 8 (m % 4)))
def rs_o (T at_ St : Nat) : Nat → Nat
  | 0 => T
  | m + 1 => mv_wr 32 (rs_o T at_ St m) (at_ + m) (mn_b (mn_b (rs_ob St m)))
theorem rs_Dt {x : mv_C} (D : rs_D w p0 pp pk pq pv ps X K) (hpk : pk ≠ pt) (O : rs_O p0 pp pq pv ps pt) : rs_D (mv_set 10 w pt x) p0 pp pk pq pv ps X K := by
  obtain ⟨d1, d2, d3, d4, d5, d6, d7, d8⟩ := D
  exact ⟨d1, d2, d3, d4, d5, d6, by rw [mv_gn O.1 d1.2.2.1 hpk]; exact d7, d8⟩
theorem rs_Ob {q T m : Nat} (hm : m < 32) (D : rs_D w p0 pp pk pq pv ps X K) (O : rs_O p0 pp pq pv ps pt) (hpk : pk ≠ pt) (hq : q ≤ 2147483647) (ha : at_ + 32 ≤ q) : sy_R 106 n fr lo 67 [(2, p0, 0), (2, pt, 0), (0, at_, 0), (1, bits, 0), (255, 0, 0), (0, m, 0)] [] (rs_W (mv_set 10 w pt (1, 1, q, T)) p0 pp pq pv ps X s) 67 [(2, p0, 0), (2, pt, 0), (0, at_, 0), (1, bits, 0), (255, 0, 0), (0, m + 1, 0)] [] (rs_W (mv_set 10 w pt (1, 1, q, mv_wr 32 T (at_ + m) (mn_b (mn_b (rs_ob s.2.2.2.2.2 m))))) p0 pp pq pv ps X s) := by
  refine sy_ild cd106_67 rfl rfl ?_
  refine sy_bipush (v := 32) cd106_69 (by decide) (by decide) ?_
  refine sy_ge_f cd106_71 (by decide) hm (by decide) ?_
  refine sy_aldn cd106_74 rfl rfl ?_
  refine sy_ildn cd106_75 rfl rfl ?_
  refine sy_ild cd106_76 rfl rfl ?_
  refine sy_iadd cd106_78 ?_
  refine sy_aldn cd106_79 rfl rfl ?_
  refine sy_gf cd106_80 rsf106_state rfl (rs_g0 (rs_Dt D hpk O)) rfl ((congrArg mv_dec (rs_xo (by decide) (by decide))).trans D.2.2.2.2.2.2.2.2.2.2.1) ?_
  refine sy_ild cd106_83 rfl rfl ?_
  refine sy_iconst (v := 4) cd106_85 (by decide) ?_
  refine sy_idiv cd106_86 (sy_dv (by omega)) ?_
  refine sy_ial (i := m / 4) cd106_87 (rs_gs (rs_Dt D hpk O)) rfl (by omega) (by decide) ?_
  refine sy_bipush (v := 24) cd106_88 (by decide) (by decide) ?_
  refine sy_bipush (v := 8) cd106_90 (by decide) (by decide) ?_
  refine sy_ild cd106_92 rfl rfl ?_
  refine sy_iconst (v := 4) cd106_94 (by decide) ?_
  refine sy_irem cd106_95 (sy_dv (by omega)) ?_
  refine sy_imul cd106_96 ?_
  refine sy_isub cd106_97 ?_
  refine sy_iushr cd106_98 ?_
  refine sy_i2b cd106_99 ?_
  refine sy_bas (w' := rs_W (mv_set 10 w pt (1, 1, q, mv_wr 32 T (at_ + m) (mn_b (mn_b (rs_ob s.2.2.2.2.2 m))))) p0 pp pq pv ps X s) (i := at_ + m) cd106_100 ((rs_go (rs_Dt D hpk O) O).trans (mv_gs O.1)) (by unfold mo_add; omega) (by omega) hq (by unfold rs_W; rw [rs_so (rs_Dt D hpk O) O, mv_ss O.1]; rfl) ?_
  refine sy_iinc (c := 1) cd106_101 rfl (by decide) (by rw [mL106]; rfl) rfl ?_
  simp only [List.set_cons_zero, List.set_cons_succ]
  refine sy_goto (pc' := 67) cd106_104 (by decide) (by decide) ?_
  rw [mo_inc (by omega)]
  exact sy_refl
theorem rs_Os {q T : Nat} (D : rs_D w p0 pp pk pq pv ps X K) (O : rs_O p0 pp pq pv ps pt) (hpk : pk ≠ pt) (hq : q ≤ 2147483647) (ha : at_ + 32 ≤ q) : ∀ m, m ≤ 32 → sy_R 106 n fr lo 67 [(2, p0, 0), (2, pt, 0), (0, at_, 0), (1, bits, 0), (255, 0, 0), (0, 0, 0)] [] (rs_W (mv_set 10 w pt (1, 1, q, T)) p0 pp pq pv ps X s) 67 [(2, p0, 0), (2, pt, 0), (0, at_, 0), (1, bits, 0), (255, 0, 0), (0, m, 0)] [] (rs_W (mv_set 10 w pt (1, 1, q, rs_o T at_ s.2.2.2.2.2 m)) p0 pp pq pv ps X s)
  | 0, _ => sy_refl
  | m + 1, h => sy_trans (rs_Os D O hpk hq ha m (by omega)) (rs_Ob (by omega) D O hpk hq ha)
theorem rs_S1 (hs : s.1 < 64) (hl : s.2.1 < 18446744073709551616) (D : rs_D w p0 pp pk pq pv ps X K) (hfr : 2 + 1 ≤ fr) (hlo : 8 + (tt_mL 103 + 11) + 51 ≤ lo) : sy_R 106 n fr lo 0 [(2, p0, 0), (2, pt, 0), (0, at_, 0), (255, 0, 0), (255, 0, 0), (255, 0, 0)] [] (rs_W w p0 pp pq pv ps X s) 16 [(2, p0, 0), (2, pt, 0), (0, at_, 0), (1, mo_lmul 8 s.2.1, 0), (255, 0, 0), (255, 0, 0)] [] (rs_W w p0 pp pq pv ps X (rs_1 K 128 s)) := by
  refine sy_ldc2 (v := 8) cd106_0 rsk_8 ?_
  refine sy_aldn cd106_3 rfl rfl ?_
  refine sy_gf cd106_4 rsf106_shaSize rfl (rs_g0 D) rfl (rs_xl hl) ?_
  refine sy_lmul cd106_7 ?_
  refine sy_lstn (j := 3) cd106_8 rfl rfl (sy_ok1 (mo_lmul_lt _ _)) (by rw [mL106]; rfl) rfl ?_
  simp only [List.set_cons_zero, List.set_cons_succ]
  refine sy_aldn cd106_9 rfl rfl ?_
  refine sy_sipush (v := 128) cd106_10 (by decide) (by decide) ?_
  refine sy_callG (kd := 3) (as := [(2, p0, 0), (0, 128, 0)]) (S0 := []) (ret := []) cd106_13 (sy_calV (as := [(2, p0, 0), (0, 128, 0)]) (S0 := []) ml106_120 rfl rfl) rfl rfl (sy_rcvm mci103 (rs_g0 D)) rfl (sy_oka (sy_oks_cons (sy_ok2 D.1.1) (sy_oks_cons (sy_ok0 (by decide)) sy_oks_nil)) rfl mL103) (rs_byte hs hl (by decide) D) hfr hlo ?_
  simp only [List.nil_append, List.cons_append]
  exact sy_refl
theorem rs_S2 : sy_R 106 n fr lo 33 [(2, p0, 0), (2, pt, 0), (0, at_, 0), (1, bits, 0), (255, 0, 0), (255, 0, 0)] [] w 37 [(2, p0, 0), (2, pt, 0), (0, at_, 0), (1, bits, 0), (255, 0, 0), (0, mo_sub 7 0, 0)] [] w := by
  refine sy_bipush (v := 7) cd106_33 (by decide) (by decide) ?_
  refine sy_ist cd106_35 rfl (sy_ok0 (by decide)) (by rw [mL106]; rfl) rfl ?_
  simp only [List.set_cons_zero, List.set_cons_succ]
  exact sy_refl
theorem rs_S3 : sy_R 106 n fr lo 37 [(2, p0, 0), (2, pt, 0), (0, at_, 0), (1, bits, 0), (255, 0, 0), (0, mo_sub 7 8, 0)] [] w 67 [(2, p0, 0), (2, pt, 0), (0, at_, 0), (1, bits, 0), (255, 0, 0), (0, 0, 0)] [] w := by
  refine sy_ild cd106_37 rfl rfl ?_
  refine sy_iflt_t (pc' := 64) cd106_39 (by decide) (by decide) (by decide) (by decide) ?_
  refine sy_iconst (v := 0) cd106_64 (by decide) ?_
  refine sy_ist cd106_65 rfl (sy_ok0 (by decide)) (by rw [mL106]; rfl) rfl ?_
  simp only [List.set_cons_zero, List.set_cons_succ]
  exact sy_refl
theorem rs_S4 : sy_R 106 n fr lo 67 [(2, p0, 0), (2, pt, 0), (0, at_, 0), (1, bits, 0), (255, 0, 0), (0, 32, 0)] [] w 107 [(2, p0, 0), (2, pt, 0), (0, at_, 0), (255, 0, 0), (255, 0, 0), (255, 0, 0)] [] w := by
  refine sy_ild cd106_67 rfl rfl ?_
  refine sy_bipush (v := 32) cd106_69 (by decide) (by decide) ?_
  refine sy_ge_t (pc' := 107) cd106_71 (by decide) (Nat.le_refl 32) (by decide) (by decide) ?_
  exact sy_weak (sy_lw_ok (by simp only [sy_lw]; simp))
def rs_e (K : Nat) (s : rs_T) : rs_T := rs_l K (mo_lmul 8 s.2.1) (rs_z K (rs_1 K 128 s) ((120 - (rs_1 K 128 s).1) % 64)) 8
theorem rs_e_ok (hs : s.1 < 64) : (rs_e K s).1 < 64 ∧ (rs_e K s).2.1 < 18446744073709551616 := by
  have h := rs_z_ok (K := K) ((120 - (rs_1 K 128 s).1) % 64) (rs_1 K 128 s) (rs_1_ok hs) rs_1_l
  exact ⟨rs_l_ok h.1 8, rs_l_l h.2 8⟩
theorem rs_end {q T : Nat} (hs : s.1 < 64) (hl : s.2.1 < 18446744073709551616) (D : rs_D w p0 pp pk pq pv ps X K) (O : rs_O p0 pp pq pv ps pt) (hpk : pk ≠ pt) (hq : q ≤ 2147483647) (ha : at_ + 32 ≤ q) (hT : mv_get 10 w pt = (1, 1, q, T)) : sy_C 106 n 3 72 [(2, p0, 0), (2, pt, 0), (0, at_, 0)] (rs_W w p0 pp pq pv ps X s) [] (rs_W (mv_set 10 w pt (1, 1, q, rs_o T at_ (rs_e K s).2.2.2.2.2 32)) p0 pp pq pv ps X (rs_e K s)) := by
  have hfr : 2 + 1 ≤ 3 := Nat.le_refl 3
  have hlo : 8 + (tt_mL 103 + 11) + 51 ≤ 72 := by rw [mL103]; decide
  refine sy_Cof (us := [(255, 0, 0), (255, 0, 0), (255, 0, 0)]) (ls' := [(2, p0, 0), (2, pt, 0), (0, at_, 0), (255, 0, 0), (255, 0, 0), (255, 0, 0)]) (pe := 107) (sy_oks_cons (sy_ok2 D.1.1) (sy_oks_cons (sy_ok2 O.1) (sy_oks_cons (sy_ok0 (by omega)) sy_oks_nil))) rfl rfl ?_ (fun L f => sy_ret cd106_107 mr106)
  have z := rs_z_ok (K := K) ((120 - (rs_1 K 128 s).1) % 64) (rs_1 K 128 s) (rs_1_ok hs) rs_1_l
  have k1 := rs_S1 (n := n) (fr := 3) (lo := 72) (pt := pt) (at_ := at_) hs hl D hfr hlo
  have k2 := rs_Zs (n := n) (fr := 3) (lo := 72) (pt := pt) (at_ := at_) (bits := mo_lmul 8 s.2.1) D hfr hlo ((120 - (rs_1 K 128 s).1) % 64) (rs_1 K 128 s) (rs_1_ok hs) rs_1_l rfl
  have k3 := rs_Ls (n := n) (fr := 3) (lo := 72) (pt := pt) (at_ := at_) (bits := mo_lmul 8 s.2.1) z.1 z.2 D hfr hlo 8 (Nat.le_refl 8)
  have k4 := rs_Os (n := n) (fr := 3) (lo := 72) (bits := mo_lmul 8 s.2.1) (s := rs_e K s) (T := T) D O hpk hq ha 32 (Nat.le_refl 32)
  rw [mv_sg O.1 hT] at k4
  exact sy_trans k1 (sy_trans k2 (sy_trans rs_S2 (sy_trans k3 (sy_trans rs_S3 (sy_trans k4 rs_S4)))))
theorem rs_b_u {A : Nat} : (rs_b A s).1 < 64 := by show 0 < 64; decide
theorem rs_b_l {A : Nat} : (rs_b A s).2.1 < 18446744073709551616 := by show 0 < 18446744073709551616; decide
def rs_h1 (K A C fa nn : Nat) (s : rs_T) : rs_T := rs_e K (rs_n K C fa (rs_b A s) nn)
def rs_hm (K A C fa nn Mi : Nat) (s : rs_T) : Nat := rs_o Mi 0 (rs_h1 K A C fa nn s).2.2.2.2.2 32
def rs_h (K A C fa nn Mi : Nat) (s : rs_T) : rs_T := rs_e K (rs_n K (rs_hm K A C fa nn Mi s) 0 (rs_b A (rs_h1 K A C fa nn s)) 32)
theorem rs_hash {pa A pm Mi pf qf C fa nn q T : Nat} (D : rs_D w p0 pp pk pq pv ps X K) (Oa : rs_O p0 pp pq pv ps pa) (hA : mv_get 10 w pa = (1, 0, 8, A)) (Ff : mv_dec (mv_rd 136 X 8) = (2, pa, 0)) (Om : rs_O p0 pp pq pv ps pm) (hkm : pk ≠ pm) (ham : pa ≠ pm) (hM : mv_get 10 w pm = (1, 1, 32, Mi)) (Fm : mv_dec (mv_rd 136 X 15) = (2, pm, 0)) (O : rs_O p0 pp pq pv ps pt) (hpk : pk ≠ pt) (hmt : pm ≠ pt) (hT : mv_get 10 w pt = (1, 1, q, T)) (hq : q ≤ 2147483647) (ha : at_ + 32 ≤ q) (Of : rs_O p0 pp pq pv ps pf) (hC : mv_get 10 w pf = (1, 1, qf, C)) (hqf : qf ≤ 2147483647) (hn : fa + nn ≤ qf) : sy_C 100 n 4 97 [(2, p0, 0), (2, pf, 0), (0, fa, 0), (0, nn, 0), (2, pt, 0), (0, at_, 0)] (rs_W w p0 pp pq pv ps X s) [] (rs_W (mv_set 10 (mv_set 10 w pm (1, 1, 32, rs_hm K A C fa nn Mi s)) pt (1, 1, q, rs_o T at_ (rs_h K A C fa nn Mi s).2.2.2.2.2 32)) p0 pp pq pv ps X (rs_h K A C fa nn Mi s)) := by
  refine sy_Cof (us := []) (ls' := [(2, p0, 0), (2, pf, 0), (0, fa, 0), (0, nn, 0), (2, pt, 0), (0, at_, 0)]) (pe := 43) (sy_oks_cons (sy_ok2 D.1.1) (sy_oks_cons (sy_ok2 Of.1) (sy_oks_cons (sy_ok0 (by omega)) (sy_oks_cons (sy_ok0 (by omega)) (sy_oks_cons (sy_ok2 O.1) (sy_oks_cons (sy_ok0 (by omega)) sy_oks_nil)))))) rfl rfl ?_ (fun L f => sy_ret cd100_43 mr100)
  show sy_R 100 n 4 97 0 [(2, p0, 0), (2, pf, 0), (0, fa, 0), (0, nn, 0), (2, pt, 0), (0, at_, 0)] [] (rs_W w p0 pp pq pv ps X s) 43 [(2, p0, 0), (2, pf, 0), (0, fa, 0), (0, nn, 0), (2, pt, 0), (0, at_, 0)] [] (rs_W (mv_set 10 (mv_set 10 w pm (1, 1, 32, rs_hm K A C fa nn Mi s)) pt (1, 1, q, rs_o T at_ (rs_h K A C fa nn Mi s).2.2.2.2.2 32)) p0 pp pq pv ps X (rs_h K A C fa nn Mi s))
  unfold rs_h rs_hm rs_h1
  refine sy_aldn cd100_0 rfl rfl ?_
  refine sy_callG (kd := 3) (as := [(2, p0, 0)]) (S0 := []) (ret := []) cd100_1 (sy_calV (as := [(2, p0, 0)]) (S0 := []) ml100_124 rfl rfl) rfl rfl (sy_rcvm mci101 (rs_g0 D)) rfl (sy_oka (sy_oks_cons (sy_ok2 D.1.1) sy_oks_nil) rfl mL101) (rs_begin D Oa hA Ff) (by decide) (by rw [mL101]; decide) ?_
  simp only [List.nil_append, List.cons_append]
  refine sy_aldn cd100_4 rfl rfl ?_
  refine sy_aldn cd100_5 rfl rfl ?_
  refine sy_ildn cd100_6 rfl rfl ?_
  refine sy_ildn cd100_7 rfl rfl ?_
  refine sy_callG (kd := 3) (as := [(2, p0, 0), (2, pf, 0), (0, fa, 0), (0, nn, 0)]) (S0 := []) (ret := []) cd100_8 (sy_calV (as := [(2, p0, 0), (2, pf, 0), (0, fa, 0), (0, nn, 0)]) (S0 := []) ml100_127 rfl rfl) rfl rfl (sy_rcvm mci102 (rs_g0 D)) rfl (sy_oka (sy_oks_cons (sy_ok2 D.1.1) (sy_oks_cons (sy_ok2 Of.1) (sy_oks_cons (sy_ok0 (by omega)) (sy_oks_cons (sy_ok0 (by omega)) sy_oks_nil)))) rfl mL102) (rs_row rs_b_u rs_b_l D Of hC hqf hn) (by decide) (by rw [mL102]; decide) ?_
  simp only [List.nil_append, List.cons_append]
  refine sy_aldn cd100_11 rfl rfl ?_
  refine sy_aldn cd100_12 rfl rfl ?_
  refine sy_gf cd100_13 rsf100_middle rfl (rs_g0 D) rfl ((congrArg mv_dec (rs_xo (by decide) (by decide))).trans Fm) ?_
  refine sy_iconst (v := 0) cd100_16 (by decide) ?_
  refine sy_callG (kd := 3) (as := [(2, p0, 0), (2, pm, 0), (0, 0, 0)]) (S0 := []) (ret := []) cd100_17 (sy_calV (as := [(2, p0, 0), (2, pm, 0), (0, 0, 0)]) (S0 := []) ml100_134 rfl rfl) rfl rfl (sy_rcvm mci106 (rs_g0 D)) rfl (sy_oka (sy_oks_cons (sy_ok2 D.1.1) (sy_oks_cons (sy_ok2 Om.1) (sy_oks_cons (sy_ok0 (by decide)) sy_oks_nil))) rfl mL106) (rs_end (rs_n_ok rs_b_u nn) (rs_n_l rs_b_l nn) D Om hkm (by decide) (by decide) hM) (by decide) (by rw [mL106]; decide) ?_
  simp only [List.nil_append, List.cons_append]
  refine sy_aldn cd100_20 rfl rfl ?_
  refine sy_callG (kd := 3) (as := [(2, p0, 0)]) (S0 := []) (ret := []) cd100_21 (sy_calV (as := [(2, p0, 0)]) (S0 := []) ml100_124 rfl rfl) rfl rfl (sy_rcvm mci101 (rs_g0 (rs_Dt D hkm Om))) rfl (sy_oka (sy_oks_cons (sy_ok2 D.1.1) sy_oks_nil) rfl mL101) (rs_begin (rs_Dt D hkm Om) Oa ((mv_gn Om.1 Oa.1 ham).trans hA) Ff) (by decide) (by rw [mL101]; decide) ?_
  simp only [List.nil_append, List.cons_append]
  refine sy_aldn cd100_24 rfl rfl ?_
  refine sy_aldn cd100_25 rfl rfl ?_
  refine sy_gf cd100_26 rsf100_middle rfl (rs_g0 (rs_Dt D hkm Om)) rfl ((congrArg mv_dec (rs_xo (by decide) (by decide))).trans Fm) ?_
  refine sy_iconst (v := 0) cd100_29 (by decide) ?_
  refine sy_bipush (v := 32) cd100_30 (by decide) (by decide) ?_
  refine sy_callG (kd := 3) (as := [(2, p0, 0), (2, pm, 0), (0, 0, 0), (0, 32, 0)]) (S0 := []) (ret := []) cd100_32 (sy_calV (as := [(2, p0, 0), (2, pm, 0), (0, 0, 0), (0, 32, 0)]) (S0 := []) ml100_127 rfl rfl) rfl rfl (sy_rcvm mci102 (rs_g0 (rs_Dt D hkm Om))) rfl (sy_oka (sy_oks_cons (sy_ok2 D.1.1) (sy_oks_cons (sy_ok2 Om.1) (sy_oks_cons (sy_ok0 (by decide)) (sy_oks_cons (sy_ok0 (by decide)) sy_oks_nil)))) rfl mL102) (rs_row rs_b_u rs_b_l (rs_Dt D hkm Om) Om (mv_gs Om.1) (by decide) (by decide)) (by decide) (by rw [mL102]; decide) ?_
  simp only [List.nil_append, List.cons_append]
  refine sy_aldn cd100_35 rfl rfl ?_
  refine sy_ald cd100_36 rfl rfl ?_
  refine sy_ild cd100_38 rfl rfl ?_
  refine sy_callG (kd := 3) (as := [(2, p0, 0), (2, pt, 0), (0, at_, 0)]) (S0 := []) (ret := []) cd100_40 (sy_calV (as := [(2, p0, 0), (2, pt, 0), (0, at_, 0)]) (S0 := []) ml100_134 rfl rfl) rfl rfl (sy_rcvm mci106 (rs_g0 (rs_Dt D hkm Om))) rfl (sy_oka (sy_oks_cons (sy_ok2 D.1.1) (sy_oks_cons (sy_ok2 O.1) (sy_oks_cons (sy_ok0 (by omega)) sy_oks_nil))) rfl mL106) (rs_end (rs_n_ok rs_b_u 32) (rs_n_l rs_b_l 32) (rs_Dt D hkm Om) O hpk hq ha ((mv_gn Om.1 O.1 (Ne.symm hmt)).trans hT)) (by decide) (by rw [mL106]; decide) ?_
  simp only [List.nil_append, List.cons_append]
  exact sy_refl
end RS
