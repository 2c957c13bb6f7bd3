/-! PurseHouseModel: shaByte, shaRow, shaBegin, symbolically -/
theorem rsf103_piece : tt_fl 103 99 = (1, 0, 12) := by decide +kernel
theorem rsf103_pieceSize : tt_fl 103 92 = (1, 0, 13) := by decide +kernel
theorem rsf103_shaSize : tt_fl 103 95 = (1, 0, 14) := by decide +kernel
theorem rsf101_state : tt_fl 101 85 = (1, 0, 9) := by decide +kernel
theorem rsf101_firstState : tt_fl 101 89 = (1, 0, 8) := by decide +kernel
theorem rsf101_pieceSize : tt_fl 101 92 = (1, 0, 13) := by decide +kernel
theorem rsf101_shaSize : tt_fl 101 95 = (1, 0, 14) := by decide +kernel
theorem rst_u : tt_fty 0 13 = .int := by decide +kernel
theorem rsn_u : tt_ffin 0 13 = false := by decide +kernel
theorem rst_l : tt_fty 0 14 = .long := by decide +kernel
theorem rsn_l : tt_ffin 0 14 = false := by decide +kernel
theorem mr104 : tt_mr 104 = 0 := by decide +kernel
theorem mci104 : tt_mci 104 = 0 := by decide +kernel
theorem mci103 : tt_mci 103 = 0 := by decide +kernel
theorem cd103_0 : tt_cd 103 0 = (1, .aload_n 0, 1) := by decide +kernel
theorem cd103_1 : tt_cd 103 1 = (3, .getfield 99, 3) := by decide +kernel
theorem cd103_4 : tt_cd 103 4 = (1, .aload_n 0, 1) := by decide +kernel
theorem cd103_5 : tt_cd 103 5 = (3, .getfield 92, 3) := by decide +kernel
theorem cd103_8 : tt_cd 103 8 = (1, .iload_n 1, 1) := by decide +kernel
theorem cd103_9 : tt_cd 103 9 = (2, .i2b, 1) := by decide +kernel
theorem cd103_10 : tt_cd 103 10 = (6, .bastore, 1) := by decide +kernel
theorem cd103_11 : tt_cd 103 11 = (1, .aload_n 0, 1) := by decide +kernel
theorem cd103_12 : tt_cd 103 12 = (2, .dup, 1) := by decide +kernel
theorem cd103_13 : tt_cd 103 13 = (3, .getfield 92, 3) := by decide +kernel
theorem cd103_16 : tt_cd 103 16 = (2, .iconst 1, 1) := by decide +kernel
theorem cd103_17 : tt_cd 103 17 = (2, .iadd, 1) := by decide +kernel
theorem cd103_18 : tt_cd 103 18 = (6, .putfield 92, 3) := by decide +kernel
theorem cd103_21 : tt_cd 103 21 = (1, .aload_n 0, 1) := by decide +kernel
theorem cd103_22 : tt_cd 103 22 = (2, .dup, 1) := by decide +kernel
theorem cd103_23 : tt_cd 103 23 = (3, .getfield 95, 3) := by decide +kernel
theorem cd103_26 : tt_cd 103 26 = (2, .lconst 1, 1) := by decide +kernel
theorem cd103_27 : tt_cd 103 27 = (2, .ladd, 1) := by decide +kernel
theorem cd103_28 : tt_cd 103 28 = (6, .putfield 95, 3) := by decide +kernel
theorem cd103_31 : tt_cd 103 31 = (1, .aload_n 0, 1) := by decide +kernel
theorem cd103_32 : tt_cd 103 32 = (3, .getfield 92, 3) := by decide +kernel
theorem cd103_35 : tt_cd 103 35 = (4, .bipush 64, 2) := by decide +kernel
theorem cd103_37 : tt_cd 103 37 = (5, .if_icmp .ne 12, 3) := by decide +kernel
theorem cd103_40 : tt_cd 103 40 = (1, .aload_n 0, 1) := by decide +kernel
theorem cd103_41 : tt_cd 103 41 = (10, .invokevirtual 103, 3) := by decide +kernel
theorem cd103_44 : tt_cd 103 44 = (1, .aload_n 0, 1) := by decide +kernel
theorem cd103_45 : tt_cd 103 45 = (2, .iconst 0, 1) := by decide +kernel
theorem cd103_46 : tt_cd 103 46 = (6, .putfield 92, 3) := by decide +kernel
theorem cd103_49 : tt_cd 103 49 = (9, .return_, 1) := by decide +kernel
theorem mL103 : tt_mL 103 = 2 := by decide +kernel
theorem ml103_103 : tt_ml 103 103 = (3, 104, 0) := by decide +kernel
theorem mr103 : tt_mr 103 = 0 := by decide +kernel
theorem cd102_0 : tt_cd 102 0 = (2, .iconst 0, 1) := by decide +kernel
theorem cd102_1 : tt_cd 102 1 = (1, .istore 4, 2) := by decide +kernel
theorem cd102_3 : tt_cd 102 3 = (1, .iload 4, 2) := by decide +kernel
theorem cd102_5 : tt_cd 102 5 = (1, .iload_n 3, 1) := by decide +kernel
theorem cd102_6 : tt_cd 102 6 = (5, .if_icmp .ge 19, 3) := by decide +kernel
theorem cd102_9 : tt_cd 102 9 = (1, .aload_n 0, 1) := by decide +kernel
theorem cd102_10 : tt_cd 102 10 = (1, .aload_n 1, 1) := by decide +kernel
theorem cd102_11 : tt_cd 102 11 = (1, .iload_n 2, 1) := by decide +kernel
theorem cd102_12 : tt_cd 102 12 = (1, .iload 4, 2) := by decide +kernel
theorem cd102_14 : tt_cd 102 14 = (2, .iadd, 1) := by decide +kernel
theorem cd102_15 : tt_cd 102 15 = (3, .baload, 1) := by decide +kernel
theorem cd102_16 : tt_cd 102 16 = (10, .invokevirtual 120, 3) := by decide +kernel
theorem cd102_19 : tt_cd 102 19 = (1, .iinc 4 1, 3) := by decide +kernel
theorem cd102_22 : tt_cd 102 22 = (5, .goto (-19), 3) := by decide +kernel
theorem cd102_25 : tt_cd 102 25 = (9, .return_, 1) := by decide +kernel
theorem mL102 : tt_mL 102 = 5 := by decide +kernel
theorem ml102_120 : tt_ml 102 120 = (3, 103, 1) := by decide +kernel
theorem mr102 : tt_mr 102 = 0 := by decide +kernel
theorem cd101_0 : tt_cd 101 0 = (2, .iconst 0, 1) := by decide +kernel
theorem cd101_1 : tt_cd 101 1 = (1, .istore_n 1, 1) := by decide +kernel
theorem cd101_2 : tt_cd 101 2 = (1, .iload_n 1, 1) := by decide +kernel
theorem cd101_3 : tt_cd 101 3 = (4, .bipush 8, 2) := by decide +kernel
theorem cd101_5 : tt_cd 101 5 = (5, .if_icmp .ge 21, 3) := by decide +kernel
theorem cd101_8 : tt_cd 101 8 = (1, .aload_n 0, 1) := by decide +kernel
theorem cd101_9 : tt_cd 101 9 = (3, .getfield 85, 3) := by decide +kernel
theorem cd101_12 : tt_cd 101 12 = (1, .iload_n 1, 1) := by decide +kernel
theorem cd101_13 : tt_cd 101 13 = (1, .aload_n 0, 1) := by decide +kernel
theorem cd101_14 : tt_cd 101 14 = (3, .getfield 89, 3) := by decide +kernel
theorem cd101_17 : tt_cd 101 17 = (1, .iload_n 1, 1) := by decide +kernel
theorem cd101_18 : tt_cd 101 18 = (3, .iaload, 1) := by decide +kernel
theorem cd101_19 : tt_cd 101 19 = (6, .iastore, 1) := by decide +kernel
theorem cd101_20 : tt_cd 101 20 = (1, .iinc 1 1, 3) := by decide +kernel
theorem cd101_23 : tt_cd 101 23 = (5, .goto (-21), 3) := by decide +kernel
theorem cd101_26 : tt_cd 101 26 = (1, .aload_n 0, 1) := by decide +kernel
theorem cd101_27 : tt_cd 101 27 = (2, .iconst 0, 1) := by decide +kernel
theorem cd101_28 : tt_cd 101 28 = (6, .putfield 92, 3) := by decide +kernel
theorem cd101_31 : tt_cd 101 31 = (1, .aload_n 0, 1) := by decide +kernel
theorem cd101_32 : tt_cd 101 32 = (2, .lconst 0, 1) := by decide +kernel
theorem cd101_33 : tt_cd 101 33 = (6, .putfield 95, 3) := by decide +kernel
theorem cd101_36 : tt_cd 101 36 = (9, .return_, 1) := by decide +kernel
theorem mL101 : tt_mL 101 = 2 := by decide +kernel
theorem mr101 : tt_mr 101 = 0 := by decide +kernel
/-- rows on longs -/
theorem sy_ok1 {a : Nat} (h : a < 18446744073709551616) : mv_ok (1, a, 0) = true := by
  unfold mv_ok
  simp only [Bool.and_eq_true, Nat.ble_eq, Nat.blt_eq]
  omega
def mo_ladd (a b : Nat) : Nat := (a + b) % 18446744073709551616
def mo_lmul (a b : Nat) : Nat := (a * b) % 18446744073709551616
def mo_lushr (a b : Nat) : Nat := a % 18446744073709551616 / 2 ^ (b % 64)
theorem mo_ladd_lt (a b : Nat) : mo_ladd a b < 18446744073709551616 := Nat.mod_lt _ (by decide)
theorem mo_lmul_lt (a b : Nat) : mo_lmul a b < 18446744073709551616 := Nat.mod_lt _ (by decide)
section SL
variable {k n fr lo pc pc' pc2 : Nat} {ls ls' ls2 S S' S2 : List mv_V} {w w' w2 : mv_T 10}
theorem sy_lconst {q : Fin 2} (hc : tt_cd k pc = (2, .lconst q, 1)) (kk : sy_R k n fr lo (pc + 1) ls ((1, q.val, 0) :: S) w pc2 ls2 S2 w2) : sy_R k n fr lo pc ls S w pc2 ls2 S2 w2 := sy_sk hc rfl rfl kk
theorem sy_ladd {x y : Nat} (hc : tt_cd k pc = (2, .ladd, 1)) (kk : sy_R k n fr lo (pc + 1) ls ((1, mo_ladd x y, 0) :: S) w pc2 ls2 S2 w2) : sy_R k n fr lo pc ls ((1, y, 0) :: (1, x, 0) :: S) w pc2 ls2 S2 w2 := sy_sk hc rfl rfl kk
theorem sy_lmul {x y : Nat} (hc : tt_cd k pc = (2, .lmul, 1)) (kk : sy_R k n fr lo (pc + 1) ls ((1, mo_lmul x y, 0) :: S) w pc2 ls2 S2 w2) : sy_R k n fr lo pc ls ((1, y, 0) :: (1, x, 0) :: S) w pc2 ls2 S2 w2 := sy_sk hc rfl rfl kk
theorem sy_lushr {x y : Nat} (hc : tt_cd k pc = (2, .lushr, 1)) (kk : sy_R k n fr lo (pc + 1) ls ((1, mo_lushr x y, 0) :: S) w pc2 ls2 S2 w2) : sy_R k n fr lo pc ls ((0, y, 0) :: (1, x, 0) :: S) w pc2 ls2 S2 w2 := sy_sk hc rfl rfl kk
theorem sy_l2i {x : Nat} (hc : tt_cd k pc = (2, .l2i, 1)) (kk : sy_R k n fr lo (pc + 1) ls ((0, x % 4294967296, 0) :: S) w pc2 ls2 S2 w2) : sy_R k n fr lo pc ls ((1, x, 0) :: S) w pc2 ls2 S2 w2 := sy_sk hc rfl rfl kk
theorem sy_ldc2 {j v : Nat} (hc : tt_cd k pc = (4, .ldc2_w j, 3)) (hk : tt_kc k j = (2, v)) (kk : sy_R k n fr lo (pc + 3) ls ((1, v, 0) :: S) w pc2 ls2 S2 w2) : sy_R k n fr lo pc ls S w pc2 ls2 S2 w2 := by
  refine sy_ck hc rfl ?_ kk
  show (bif Nat.beq (tt_kc k j).1 2 then some (3, (1, (tt_kc k j).2, 0) :: S) else none) = _
  rw [hk]
  rfl
theorem sy_pfl {j kd ci fi nf pk a b x : Nat} (hc : tt_cd k pc = (6, .putfield j, 3)) (hf : tt_fl k j = (kd, ci, fi)) (hkd : Nat.ble 1 kd = true) (hty : tt_fty ci fi = .long) (hfin : tt_ffin ci fi = false) (hw : mv_get 10 w a = (0, ci, nf, pk)) (hfi : Nat.blt fi nf = true) (hx : x < 18446744073709551616) (hw' : mv_set 10 w a (0, ci, nf, mv_wr 136 pk fi (mv_enc (1, x, 0))) = w') (kk : sy_R k n fr lo (pc + 3) ls S w' pc2 ls2 S2 w2) : sy_R k n fr lo pc ls ((1, x, 0) :: (2, a, b) :: S) w pc2 ls2 S2 w2 := by
  subst hw'
  refine sy_wk hc rfl ?_ kk
  show (mv_pf (tt_fl k j) (tt_fty (tt_fl k j).2.1 (tt_fl k j).2.2) (tt_ffin (tt_fl k j).2.1 (tt_fl k j).2.2) (tt_ini k) (mv_get 10 w a) (1, x, 0)).map (fun y => (3, S, mv_set 10 w a y)) = _
  rw [hf, hw]
  dsimp only
  rw [hty, hfin]
  show (bif (Nat.beq 0 0 && (Nat.beq ci ci && (Nat.blt fi nf && Nat.ble 1 kd))) && (mv_ok (1, x, 0) && (true && true)) then some (0, ci, nf, mv_wr 136 pk fi (mv_enc (1, x, 0))) else none).map (fun y => (3, S, mv_set 10 w a y)) = _
  rw [Nat.beq_refl ci, hfi, hkd, sy_ok1 hx]
  rfl
theorem sy_lldn {jf : Fin 4} {j : Nat} {v : mv_V} (hc : tt_cd k pc = (1, .lload_n jf, 1)) (hj : jf.val = j) (hv : ls[j]? = some v) (hk : mv_isL v = true) (kk : sy_R k n fr lo (pc + 1) ls (v :: S) w pc2 ls2 S2 w2) : sy_R k n fr lo pc ls S w pc2 ls2 S2 w2 := by
  subst hj
  refine sy_lk hc rfl (fun L hL => ⟨L, hL, ?_⟩) kk
  show (bif mv_isL (mv_lg L jf.val) then some (1, L, mv_lg L jf.val :: S) else none) = _
  rw [hL jf.val v hv (mv_isL_ne hk), hk]
  rfl
theorem sy_lstn {jf : Fin 4} {j : Nat} {x : mv_V} (hc : tt_cd k pc = (1, .lstore_n jf, 1)) (hjf : jf.val = j) (hx : mv_isL x = true) (hok : mv_ok x = true) (hj : Nat.blt (j + 1) (tt_mL k) = true) (hnl : sy_nl ls j = true) (kk : sy_R k n fr lo (pc + 1) ((ls.set j x).set (j + 1) (255, 0, 0)) S w pc2 ls2 S2 w2) : sy_R k n fr lo pc ls (x :: S) w pc2 ls2 S2 w2 := by
  subst hjf
  refine sy_lk hc rfl (fun L hL => ⟨mv_ls2 L jf.val x, ?_, ?_⟩) kk
  · intro q v hv hn
    have h1 := sy_ls1 hL hnl hok
    show mv_lg (mv_wr 136 (mv_ls1 L jf.val x) (jf.val + 1) 0) q = v
    by_cases e : q = jf.val + 1
    · exfalso
      subst e
      by_cases hq : jf.val + 1 < (ls.set jf.val x).length
      · rw [List.getElem?_set_self hq] at hv
        cases hv
        exact hn rfl
      · rw [List.getElem?_eq_none (by rw [List.length_set]; omega)] at hv
        cases hv
    · rw [mv_lg_wr, if_neg e]
      rw [List.getElem?_set_ne (fun z => e z.symm)] at hv
      exact h1 q v hv hn
  · show (bif mv_isL x && (mv_ok x && Nat.blt (jf.val + 1) (tt_mL k)) then some (1, mv_ls2 L jf.val x, S) else none) = _
    rw [hx, hok, hj]
    rfl
end SL
/-- the reference's Sha -/
def rs_x (X u l : Nat) : Nat := mv_wr 136 (mv_wr 136 X 13 (mv_enc (0, u, 0))) 14 (mv_enc (1, l, 0))
section RS
variable {w : mv_T 10} {p0 pp pk pq pv ps P K X W V St n fr lo u l : Nat}
theorem rs_xu (hu : u < 4294967296) : mv_dec (mv_rd 136 (rs_x X u l) 13) = (0, u, 0) := by
  unfold rs_x
  rw [mv_rd_ne (by decide), mv_rd_self, mv_dec_enc (sy_ok0 hu)]
theorem rs_xl (hl : l < 18446744073709551616) : mv_dec (mv_rd 136 (rs_x X u l) 14) = (1, l, 0) := by
  unfold rs_x
  rw [mv_rd_self, mv_dec_enc (sy_ok1 hl)]
theorem rs_xo {j : Nat} (h1 : j ≠ 13) (h2 : j ≠ 14) : mv_rd 136 (rs_x X u l) j = mv_rd 136 X j := by
  unfold rs_x
  rw [mv_rd_ne h2, mv_rd_ne h1]
theorem rs_wu {u' : Nat} : mv_wr 136 (rs_x X u l) 13 (mv_enc (0, u', 0)) = rs_x X u' l := by
  unfold rs_x
  rw [mv_wr_comm (by decide), mv_wr_wr]
theorem rs_wl {l' : Nat} : mv_wr 136 (rs_x X u l) 14 (mv_enc (1, l', 0)) = rs_x X u l' := by
  unfold rs_x
  rw [mv_wr_wr]
/-- the places, the fields, the numbers of the rounds -/
def rs_D (w : mv_T 10) (p0 pp pk pq pv ps X K : Nat) : Prop := (p0 < 1024 ∧ pp < 1024 ∧ pk < 1024 ∧ pq < 1024 ∧ pv < 1024 ∧ ps < 1024) ∧ (pq ≠ pv ∧ pq ≠ ps ∧ pv ≠ ps) ∧ (p0 ≠ pq ∧ p0 ≠ pv ∧ p0 ≠ ps) ∧ (pp ≠ pq ∧ pp ≠ pv ∧ pp ≠ ps) ∧ (pk ≠ pq ∧ pk ≠ pv ∧ pk ≠ ps) ∧ (p0 ≠ pp ∧ pk ≠ pp ∧ pk ≠ p0) ∧ mv_get 10 w pk = (1, 0, 64, K) ∧ mv_dec (mv_rd 136 X 10) = (2, pq, 0) ∧ mv_dec (mv_rd 136 X 12) = (2, pp, 0) ∧ mv_dec (mv_rd 136 X 11) = (2, pv, 0) ∧ mv_dec (mv_rd 136 X 9) = (2, ps, 0) ∧ mv_dec (mv_rd 136 X 7) = (2, pk, 0)
noncomputable def rs_w (w : mv_T 10) (p0 pp pq pv ps X P W V St : Nat) : mv_T 10 := mr_w (mv_set 10 (mv_set 10 w pp (1, 1, 64, P)) p0 (0, 0, 107, X)) pq pv ps W V St
theorem rs_H (D : rs_D w p0 pp pk pq pv ps X K) : mr_H (mv_set 10 (mv_set 10 w pp (1, 1, 64, P)) p0 (0, 0, 107, rs_x X u l)) p0 pp pk pq pv ps (rs_x X u l) P K := by
  obtain ⟨d1, d2, d3, d4, d5, d6, d7, d8, d9, d10, d11, d12⟩ := D
  refine ⟨d1, d2, d3, d4, d5, mv_gs d1.1, ?_, ?_, ?_, ?_, ?_, ?_, ?_⟩
  · rw [mv_gn d1.1 d1.2.1 (Ne.symm d6.1), mv_gs d1.2.1]
  · rw [mv_gn d1.1 d1.2.2.1 d6.2.2, mv_gn d1.2.1 d1.2.2.1 d6.2.1, d7]
  · rw [rs_xo (by decide) (by decide)]; exact d8
  · rw [rs_xo (by decide) (by decide)]; exact d9
  · rw [rs_xo (by decide) (by decide)]; exact d10
  · rw [rs_xo (by decide) (by decide)]; exact d11
  · rw [rs_xo (by decide) (by decide)]; exact d12
theorem rs_g0 (D : rs_D w p0 pp pk pq pv ps X K) : mv_get 10 (rs_w w p0 pp pq pv ps (rs_x X u l) P W V St) p0 = (0, 0, 107, rs_x X u l) := mr_g0 (rs_H D)
theorem rs_gp (D : rs_D w p0 pp pk pq pv ps X K) : mv_get 10 (rs_w w p0 pp pq pv ps (rs_x X u l) P W V St) pp = (1, 1, 64, P) := mr_gp (rs_H D)
theorem rs_gs (D : rs_D w p0 pp pk pq pv ps X K) : mv_get 10 (rs_w w p0 pp pq pv ps (rs_x X u l) P W V St) ps = (1, 0, 8, St) := mr_gs (rs_H D)
theorem rs_ss {St' : Nat} (D : rs_D w p0 pp pk pq pv ps X K) : mv_set 10 (rs_w w p0 pp pq pv ps (rs_x X u l) P W V St) ps (1, 0, 8, St') = rs_w w p0 pp pq pv ps (rs_x X u l) P W V St' := mr_ss (rs_H D)
theorem rs_s0 {X1 X' : Nat} (D : rs_D w p0 pp pk pq pv ps X K) : mv_set 10 (rs_w w p0 pp pq pv ps X1 P W V St) p0 (0, 0, 107, X') = rs_w w p0 pp pq pv ps X' P W V St := by
  obtain ⟨⟨b0, b1, b2, b3, b4, b5⟩, d2, ⟨c1, c2, c3⟩, -⟩ := D
  unfold rs_w mr_w
  rw [mv_sc b5 b0 (Ne.symm c3), mv_sc b4 b0 (Ne.symm c2), mv_sc b3 b0 (Ne.symm c1), mv_ss b0]
theorem rs_sp {X1 P' : Nat} (D : rs_D w p0 pp pk pq pv ps X K) : mv_set 10 (rs_w w p0 pp pq pv ps X1 P W V St) pp (1, 1, 64, P') = rs_w w p0 pp pq pv ps X1 P' W V St := by
  obtain ⟨⟨b0, b1, b2, b3, b4, b5⟩, d2, d3, ⟨c1, c2, c3⟩, d5, ⟨e1, e2, e3⟩, -⟩ := D
  unfold rs_w mr_w
  rw [mv_sc b5 b1 (Ne.symm c3), mv_sc b4 b1 (Ne.symm c2), mv_sc b3 b1 (Ne.symm c1), mv_sc b0 b1 e1, mv_ss b1]
def rs_O (p0 pp pq pv ps j : Nat) : Prop := j < 1024 ∧ j ≠ p0 ∧ j ≠ pp ∧ j ≠ pq ∧ j ≠ pv ∧ j ≠ ps
theorem rs_go {j X1 : Nat} (D : rs_D w p0 pp pk pq pv ps X K) (O : rs_O p0 pp pq pv ps j) : mv_get 10 (rs_w w p0 pp pq pv ps X1 P W V St) j = mv_get 10 w j := by
  obtain ⟨⟨b0, b1, b2, b3, b4, b5⟩, -⟩ := D
  obtain ⟨o1, o2, o3, o4, o5, o6⟩ := O
  unfold rs_w mr_w
  rw [mv_gn b5 o1 o6, mv_gn b4 o1 o5, mv_gn b3 o1 o4, mv_gn b0 o1 o2, mv_gn b1 o1 o3]
theorem rs_so {j X1 : Nat} {x : mv_C} (D : rs_D w p0 pp pk pq pv ps X K) (O : rs_O p0 pp pq pv ps j) : mv_set 10 (rs_w w p0 pp pq pv ps X1 P W V St) j x = rs_w (mv_set 10 w j x) p0 pp pq pv ps X1 P W V St := by
  obtain ⟨⟨b0, b1, b2, b3, b4, b5⟩, -⟩ := D
  obtain ⟨o1, o2, o3, o4, o5, o6⟩ := O
  unfold rs_w mr_w
  rw [mv_sc b5 o1 (Ne.symm o6), mv_sc b4 o1 (Ne.symm o5), mv_sc b3 o1 (Ne.symm o4), mv_sc b0 o1 (Ne.symm o2), mv_sc b1 o1 (Ne.symm o3)]
theorem rs_Cc (D : rs_D w p0 pp pk pq pv ps X K) : sy_C 104 n 1 21 [(2, p0, 0)] (rs_w w p0 pp pq pv ps (rs_x X u l) P W V St) [] (rs_w w p0 pp pq pv ps (rs_x X u l) P (mr_Wf P W) (mr_Vf K P W V St) (mr_Sf K P W V St)) :=
  sy_Cof (us := [(255, 0, 0), (255, 0, 0), (255, 0, 0), (255, 0, 0), (255, 0, 0), (255, 0, 0), (255, 0, 0), (255, 0, 0), (255, 0, 0), (255, 0, 0)]) (pe := 468) (sy_oks_cons (sy_ok2 D.1.1) sy_oks_nil) rfl rfl (mr_all (Nat.le_refl 1) (by rw [mL105]; decide) (rs_H D)) (fun L f => sy_ret cd104_468 mr104)
/-- pieceSize, shaSize, piece, schedule, v8, state -/
abbrev rs_T : Type := Nat × Nat × Nat × Nat × Nat × Nat
noncomputable def rs_W (w : mv_T 10) (p0 pp pq pv ps X : Nat) (s : rs_T) : mv_T 10 := rs_w w p0 pp pq pv ps (rs_x X s.1 s.2.1) s.2.2.1 s.2.2.2.1 s.2.2.2.2.1 s.2.2.2.2.2
def rs_1 (K b : Nat) (s : rs_T) : rs_T := bif Nat.beq (s.1 + 1) 64 then (0, mo_ladd s.2.1 1, mv_wr 32 s.2.2.1 s.1 (mn_b (mn_b b)), mr_Wf (mv_wr 32 s.2.2.1 s.1 (mn_b (mn_b b))) s.2.2.2.1, mr_Vf K (mv_wr 32 s.2.2.1 s.1 (mn_b (mn_b b))) s.2.2.2.1 s.2.2.2.2.1 s.2.2.2.2.2, mr_Sf K (mv_wr 32 s.2.2.1 s.1 (mn_b (mn_b b))) s.2.2.2.1 s.2.2.2.2.1 s.2.2.2.2.2) else (s.1 + 1, mo_ladd s.2.1 1, mv_wr 32 s.2.2.1 s.1 (mn_b (mn_b b)), s.2.2.2.1, s.2.2.2.2.1, s.2.2.2.2.2)
theorem rs_1_ok {b : Nat} {s : rs_T} (h : s.1 < 64) : (rs_1 K b s).1 < 64 := by
  unfold rs_1
  cases hb : Nat.beq (s.1 + 1) 64 with
  | true => exact (by decide : 0 < 64)
  | false =>
    have hn : s.1 + 1 ≠ 64 := fun e => by rw [e] at hb; cases hb
    show s.1 + 1 < 64
    omega
theorem rs_1_l {b : Nat} {s : rs_T} : (rs_1 K b s).2.1 < 18446744073709551616 := by
  unfold rs_1
  cases Nat.beq (s.1 + 1) 64 <;> exact mo_ladd_lt _ _
theorem rs_B {b : Nat} (hu : u < 64) (hl : l < 18446744073709551616) (D : rs_D w p0 pp pk pq pv ps X K) (hfr : 1 + 1 ≤ fr) (hlo : 8 + (tt_mL 104 + 11) + 21 ≤ lo) : sy_R 103 n fr lo 0 [(2, p0, 0), (0, b, 0)] [] (rs_w w p0 pp pq pv ps (rs_x X u l) P W V St) 49 [(2, p0, 0), (0, b, 0)] [] (rs_W w p0 pp pq pv ps X (rs_1 K b (u, l, P, W, V, St))) := by
  by_cases h : u + 1 = 64
  · have e1 : rs_1 K b (u, l, P, W, V, St) = (0, mo_ladd l 1, (mv_wr 32 P u (mn_b (mn_b b))), mr_Wf (mv_wr 32 P u (mn_b (mn_b b))) W, mr_Vf K (mv_wr 32 P u (mn_b (mn_b b))) W V St, mr_Sf K (mv_wr 32 P u (mn_b (mn_b b))) W V St) := by
      unfold rs_1
      dsimp only
      rw [h]
      rfl
    rw [e1]
    refine sy_aldn cd103_0 rfl rfl ?_
    refine sy_gf cd103_1 rsf103_piece rfl (rs_g0 D) rfl ((congrArg mv_dec (rs_xo (by decide) (by decide))).trans D.2.2.2.2.2.2.2.2.1) ?_
    refine sy_aldn cd103_4 rfl rfl ?_
    refine sy_gf cd103_5 rsf103_pieceSize rfl (rs_g0 D) rfl (rs_xu (by omega)) ?_
    refine sy_ildn cd103_8 rfl rfl ?_
    refine sy_i2b cd103_9 ?_
    refine sy_bas (w' := rs_w w p0 pp pq pv ps (rs_x X u l) (mv_wr 32 P u (mn_b (mn_b b))) W V St) (i := u) cd103_10 (rs_gp D) rfl hu (by decide) (rs_sp D) ?_
    refine sy_aldn cd103_11 rfl rfl ?_
    refine sy_dup cd103_12 rfl ?_
    refine sy_gf cd103_13 rsf103_pieceSize rfl (rs_g0 D) rfl (rs_xu (by omega)) ?_
    refine sy_iconst (v := 1) cd103_16 (by decide) ?_
    refine sy_iadd cd103_17 ?_
    refine sy_pfi (w' := rs_w w p0 pp pq pv ps (rs_x X (u + 1) l) (mv_wr 32 P u (mn_b (mn_b b))) W V St) cd103_18 rsf103_pieceSize rfl rst_u rsn_u (rs_g0 D) rfl (mo_add_lt _ _) (by rw [rs_s0 D, rs_wu, mo_inc (by omega)]) ?_
    refine sy_aldn cd103_21 rfl rfl ?_
    refine sy_dup cd103_22 rfl ?_
    refine sy_gf cd103_23 rsf103_shaSize rfl (rs_g0 D) rfl (rs_xl hl) ?_
    refine sy_lconst cd103_26 ?_
    refine sy_ladd cd103_27 ?_
    refine sy_pfl (w' := rs_w w p0 pp pq pv ps (rs_x X (u + 1) (mo_ladd l 1)) (mv_wr 32 P u (mn_b (mn_b b))) W V St) cd103_28 rsf103_shaSize rfl rst_l rsn_l (rs_g0 D) rfl (mo_ladd_lt _ _) (by rw [rs_s0 D, rs_wl]; rfl) ?_
    refine sy_aldn cd103_31 rfl rfl ?_
    refine sy_gf cd103_32 rsf103_pieceSize rfl (rs_g0 D) rfl (rs_xu (by omega)) ?_
    refine sy_bipush (v := 64) cd103_35 (by decide) (by decide) ?_
    refine sy_icmpne_f cd103_37 (by decide) h ?_
    refine sy_aldn cd103_40 rfl rfl ?_
    refine sy_callG (kd := 3) (as := [(2, p0, 0)]) (S0 := []) (ret := []) cd103_41 (sy_calV (as := [(2, p0, 0)]) (S0 := []) ml103_103 rfl rfl) rfl rfl (sy_rcvm mci104 (rs_g0 D)) rfl (sy_oka (sy_oks_cons (sy_ok2 D.1.1) sy_oks_nil) rfl mL104) (rs_Cc D) hfr hlo ?_
    simp only [List.nil_append, List.cons_append]
    refine sy_aldn cd103_44 rfl rfl ?_
    refine sy_iconst (v := 0) cd103_45 (by decide) ?_
    refine sy_pfi (w' := rs_w w p0 pp pq pv ps (rs_x X 0 (mo_ladd l 1)) (mv_wr 32 P u (mn_b (mn_b b))) (mr_Wf (mv_wr 32 P u (mn_b (mn_b b))) W) (mr_Vf K (mv_wr 32 P u (mn_b (mn_b b))) W V St) (mr_Sf K (mv_wr 32 P u (mn_b (mn_b b))) W V St)) cd103_46 rsf103_pieceSize rfl rst_u rsn_u (rs_g0 D) rfl (by decide) (by rw [rs_s0 D, rs_wu]) ?_
    exact sy_refl
  · have e1 : rs_1 K b (u, l, P, W, V, St) = (u + 1, mo_ladd l 1, (mv_wr 32 P u (mn_b (mn_b b))), W, V, St) := by
      unfold rs_1
      dsimp only
      rw [show Nat.beq (u + 1) 64 = false by cases hb : Nat.beq (u + 1) 64 with
        | false => rfl
        | true => exact absurd (Nat.eq_of_beq_eq_true hb) h]
      rfl
    rw [e1]
    refine sy_aldn cd103_0 rfl rfl ?_
    refine sy_gf cd103_1 rsf103_piece rfl (rs_g0 D) rfl ((congrArg mv_dec (rs_xo (by decide) (by decide))).trans D.2.2.2.2.2.2.2.2.1) ?_
    refine sy_aldn cd103_4 rfl rfl ?_
    refine sy_gf cd103_5 rsf103_pieceSize rfl (rs_g0 D) rfl (rs_xu (by omega)) ?_
    refine sy_ildn cd103_8 rfl rfl ?_
    refine sy_i2b cd103_9 ?_
    refine sy_bas (w' := rs_w w p0 pp pq pv ps (rs_x X u l) (mv_wr 32 P u (mn_b (mn_b b))) W V St) (i := u) cd103_10 (rs_gp D) rfl hu (by decide) (rs_sp D) ?_
    refine sy_aldn cd103_11 rfl rfl ?_
    refine sy_dup cd103_12 rfl ?_
    refine sy_gf cd103_13 rsf103_pieceSize rfl (rs_g0 D) rfl (rs_xu (by omega)) ?_
    refine sy_iconst (v := 1) cd103_16 (by decide) ?_
    refine sy_iadd cd103_17 ?_
    refine sy_pfi (w' := rs_w w p0 pp pq pv ps (rs_x X (u + 1) l) (mv_wr 32 P u (mn_b (mn_b b))) W V St) cd103_18 rsf103_pieceSize rfl rst_u rsn_u (rs_g0 D) rfl (mo_add_lt _ _) (by rw [rs_s0 D, rs_wu, mo_inc (by omega)]) ?_
    refine sy_aldn cd103_21 rfl rfl ?_
    refine sy_dup cd103_22 rfl ?_
    refine sy_gf cd103_23 rsf103_shaSize rfl (rs_g0 D) rfl (rs_xl hl) ?_
    refine sy_lconst cd103_26 ?_
    refine sy_ladd cd103_27 ?_
    refine sy_pfl (w' := rs_w w p0 pp pq pv ps (rs_x X (u + 1) (mo_ladd l 1)) (mv_wr 32 P u (mn_b (mn_b b))) W V St) cd103_28 rsf103_shaSize rfl rst_l rsn_l (rs_g0 D) rfl (mo_ladd_lt _ _) (by rw [rs_s0 D, rs_wl]; rfl) ?_
    refine sy_aldn cd103_31 rfl rfl ?_
    refine sy_gf cd103_32 rsf103_pieceSize rfl (rs_g0 D) rfl (rs_xu (by omega)) ?_
    refine sy_bipush (v := 64) cd103_35 (by decide) (by decide) ?_
    refine sy_icmpne_t (pc' := 49) cd103_37 (by decide) h (by omega) (by decide) (by decide) ?_
    exact sy_refl
theorem rs_byte {b : Nat} {s : rs_T} (hs : s.1 < 64) (hl : s.2.1 < 18446744073709551616) (hb : b < 4294967296) (D : rs_D w p0 pp pk pq pv ps X K) : sy_C 103 n 2 51 [(2, p0, 0), (0, b, 0)] (rs_W w p0 pp pq pv ps X s) [] (rs_W w p0 pp pq pv ps X (rs_1 K b s)) :=
  sy_Cof (us := []) (ls' := [(2, p0, 0), (0, b, 0)]) (pe := 49) (sy_oks_cons (sy_ok2 D.1.1) (sy_oks_cons (sy_ok0 hb) sy_oks_nil)) rfl rfl (rs_B (u := s.1) (l := s.2.1) (P := s.2.2.1) (W := s.2.2.2.1) (V := s.2.2.2.2.1) (St := s.2.2.2.2.2) hs hl D (Nat.le_refl 2) (by rw [mL104]; decide)) (fun L f => sy_ret cd103_49 mr103)
def rs_n (K C at_ : Nat) (s : rs_T) : Nat → rs_T
  | 0 => s
  | m + 1 => rs_1 K (mv_rd 32 C (at_ + m)) (rs_n K C at_ s m)
theorem rs_n_ok {C at_ : Nat} {s : rs_T} (h : s.1 < 64) : ∀ m, (rs_n K C at_ s m).1 < 64
  | 0 => h
  | m + 1 => rs_1_ok (rs_n_ok h m)
theorem rs_n_l {C at_ : Nat} {s : rs_T} (h : s.2.1 < 18446744073709551616) : ∀ m, (rs_n K C at_ s m).2.1 < 18446744073709551616
  | 0 => h
  | _ + 1 => rs_1_l
theorem rs_Rb {pf q C at_ nn m : Nat} {s : rs_T} (hs : s.1 < 64) (hl : s.2.1 < 18446744073709551616) (hm : m < nn) (D : rs_D w p0 pp pk pq pv ps X K) (O : rs_O p0 pp pq pv ps pf) (hC : mv_get 10 w pf = (1, 1, q, C)) (hq : q ≤ 2147483647) (ha : at_ + nn ≤ q) (hfr : 2 + 1 ≤ fr) (hlo : 8 + (tt_mL 103 + 11) + 51 ≤ lo) : sy_R 102 n fr lo 3 [(2, p0, 0), (2, pf, 0), (0, at_, 0), (0, nn, 0), (0, m, 0)] [] (rs_W w p0 pp pq pv ps X s) 3 [(2, p0, 0), (2, pf, 0), (0, at_, 0), (0, nn, 0), (0, m + 1, 0)] [] (rs_W w p0 pp pq pv ps X (rs_1 K (mv_rd 32 C (at_ + m)) s)) := by
  refine sy_ild cd102_3 rfl rfl ?_
  refine sy_ildn cd102_5 rfl rfl ?_
  refine sy_ge_f cd102_6 (by decide) (by omega) (by omega) ?_
  refine sy_aldn cd102_9 rfl rfl ?_
  refine sy_aldn cd102_10 rfl rfl ?_
  refine sy_ildn cd102_11 rfl rfl ?_
  refine sy_ild cd102_12 rfl rfl ?_
  refine sy_iadd cd102_14 ?_
  refine sy_bal (i := at_ + m) cd102_15 ((rs_go D O).trans hC) (by unfold mo_add; omega) (by omega) hq ?_
  refine sy_callG (kd := 3) (as := [(2, p0, 0), (0, mv_rd 32 C (at_ + m), 0)]) (S0 := []) (ret := []) cd102_16 (sy_calV (as := [(2, p0, 0), (0, mv_rd 32 C (at_ + m), 0)]) (S0 := []) ml102_120 rfl rfl) rfl rfl (sy_rcvm mci103 (rs_g0 D)) rfl (sy_oka (sy_oks_cons (sy_ok2 D.1.1) (sy_oks_cons (sy_ok0 (mo_rd_lt _ _)) sy_oks_nil)) rfl mL103) (rs_byte hs hl (mo_rd_lt _ _) D) hfr hlo ?_
  simp only [List.nil_append, List.cons_append]
  refine sy_iinc (c := 1) cd102_19 rfl (by decide) (by rw [mL102]; rfl) rfl ?_
  simp only [List.set_cons_zero, List.set_cons_succ]
  refine sy_goto (pc' := 3) cd102_22 (by decide) (by decide) ?_
  rw [mo_inc (by omega)]
  exact sy_refl
theorem rs_Rs {pf q C at_ nn : Nat} {s : rs_T} (hs : s.1 < 64) (hl : s.2.1 < 18446744073709551616) (D : rs_D w p0 pp pk pq pv ps X K) (O : rs_O p0 pp pq pv ps pf) (hC : mv_get 10 w pf = (1, 1, q, C)) (hq : q ≤ 2147483647) (ha : at_ + nn ≤ q) (hfr : 2 + 1 ≤ fr) (hlo : 8 + (tt_mL 103 + 11) + 51 ≤ lo) : ∀ m, m ≤ nn → sy_R 102 n fr lo 3 [(2, p0, 0), (2, pf, 0), (0, at_, 0), (0, nn, 0), (0, 0, 0)] [] (rs_W w p0 pp pq pv ps X s) 3 [(2, p0, 0), (2, pf, 0), (0, at_, 0), (0, nn, 0), (0, m, 0)] [] (rs_W w p0 pp pq pv ps X (rs_n K C at_ s m))
  | 0, _ => sy_refl
  | m + 1, h => sy_trans (rs_Rs hs hl D O hC hq ha hfr hlo m (by omega)) (rs_Rb (rs_n_ok hs m) (rs_n_l hl m) (by omega) D O hC hq ha hfr hlo)
theorem rs_row {pf q C at_ nn : Nat} {s : rs_T} (hs : s.1 < 64) (hl : s.2.1 < 18446744073709551616) (D : rs_D w p0 pp pk pq pv ps X K) (O : rs_O p0 pp pq pv ps pf) (hC : mv_get 10 w pf = (1, 1, q, C)) (hq : q ≤ 2147483647) (ha : at_ + nn ≤ q) : sy_C 102 n 3 72 [(2, p0, 0), (2, pf, 0), (0, at_, 0), (0, nn, 0)] (rs_W w p0 pp pq pv ps X s) [] (rs_W w p0 pp pq pv ps X (rs_n K C at_ s nn)) := by
  refine sy_Cof (us := [(255, 0, 0)]) (ls' := [(2, p0, 0), (2, pf, 0), (0, at_, 0), (0, nn, 0), (255, 0, 0)]) (pe := 25) (sy_oks_cons (sy_ok2 D.1.1) (sy_oks_cons (sy_ok2 O.1) (sy_oks_cons (sy_ok0 (by omega)) (sy_oks_cons (sy_ok0 (by omega)) sy_oks_nil)))) rfl rfl ?_ (fun L f => sy_ret cd102_25 mr102)
  show sy_R 102 n 3 72 0 [(2, p0, 0), (2, pf, 0), (0, at_, 0), (0, nn, 0), (255, 0, 0)] [] (rs_W w p0 pp pq pv ps X s) 25 [(2, p0, 0), (2, pf, 0), (0, at_, 0), (0, nn, 0), (255, 0, 0)] [] (rs_W w p0 pp pq pv ps X (rs_n K C at_ s nn))
  refine sy_iconst (v := 0) cd102_0 (by decide) ?_
  refine sy_ist cd102_1 rfl (sy_ok0 (by decide)) (by rw [mL102]; rfl) rfl ?_
  simp only [List.set_cons_zero, List.set_cons_succ]
  refine sy_trans (rs_Rs hs hl D O hC hq ha (Nat.le_refl 3) (by rw [mL103]; decide) nn (Nat.le_refl nn)) ?_
  refine sy_ild cd102_3 rfl rfl ?_
  refine sy_ildn cd102_5 rfl rfl ?_
  refine sy_ge_t (pc' := 25) cd102_6 (by decide) (Nat.le_refl nn) (by omega) (by decide) ?_
  exact sy_weak (sy_lw_ok (by simp only [sy_lw]; simp))
def rs_A (A St : Nat) : Nat → Nat
  | 0 => St
  | i + 1 => mv_wr 32 (rs_A A St i) i (mv_rd 32 A i)
theorem rs_Ab {pa A i : Nat} (hi : i < 8) (D : rs_D w p0 pp pk pq pv ps X K) (O : rs_O p0 pp pq pv ps pa) (hA : mv_get 10 w pa = (1, 0, 8, A)) (Ff : mv_dec (mv_rd 136 X 8) = (2, pa, 0)) : sy_R 101 n fr lo 2 [(2, p0, 0), (0, i, 0)] [] (rs_w w p0 pp pq pv ps (rs_x X u l) P W V St) 2 [(2, p0, 0), (0, i + 1, 0)] [] (rs_w w p0 pp pq pv ps (rs_x X u l) P W V (mv_wr 32 St i (mv_rd 32 A i))) := by
  refine sy_ildn cd101_2 rfl rfl ?_
  refine sy_bipush (v := 8) cd101_3 (by decide) (by decide) ?_
  refine sy_ge_f cd101_5 (by decide) hi (by decide) ?_
  refine sy_aldn cd101_8 rfl rfl ?_
  refine sy_gf cd101_9 rsf101_state rfl (rs_g0 D) rfl ((congrArg mv_dec (rs_xo (by decide) (by decide))).trans D.2.2.2.2.2.2.2.2.2.2.1) ?_
  refine sy_ildn cd101_12 rfl rfl ?_
  refine sy_aldn cd101_13 rfl rfl ?_
  refine sy_gf cd101_14 rsf101_firstState rfl (rs_g0 D) rfl ((congrArg mv_dec (rs_xo (by decide) (by decide))).trans Ff) ?_
  refine sy_ildn cd101_17 rfl rfl ?_
  refine sy_ial (i := i) cd101_18 ((rs_go D O).trans hA) rfl hi (by decide) ?_
  refine sy_ias (w' := rs_w w p0 pp pq pv ps (rs_x X u l) P W V (mv_wr 32 St i (mv_rd 32 A i))) (i := i) cd101_19 (rs_gs D) rfl hi (by decide) (rs_ss D) ?_
  refine sy_iinc (c := 1) cd101_20 rfl (by decide) (by rw [mL101]; rfl) rfl ?_
  simp only [List.set_cons_zero, List.set_cons_succ]
  refine sy_goto (pc' := 2) cd101_23 (by decide) (by decide) ?_
  rw [mo_inc (by omega)]
  exact sy_refl
theorem rs_As {pa A : Nat} (D : rs_D w p0 pp pk pq pv ps X K) (O : rs_O p0 pp pq pv ps pa) (hA : mv_get 10 w pa = (1, 0, 8, A)) (Ff : mv_dec (mv_rd 136 X 8) = (2, pa, 0)) : ∀ m, m ≤ 8 → sy_R 101 n fr lo 2 [(2, p0, 0), (0, 0, 0)] [] (rs_w w p0 pp pq pv ps (rs_x X u l) P W V St) 2 [(2, p0, 0), (0, m, 0)] [] (rs_w w p0 pp pq pv ps (rs_x X u l) P W V (rs_A A St m))
  | 0, _ => sy_refl
  | m + 1, h => sy_trans (rs_As D O hA Ff m (by omega)) (rs_Ab (by omega) D O hA Ff)
def rs_b (A : Nat) (s : rs_T) : rs_T := (0, 0, s.2.2.1, s.2.2.2.1, s.2.2.2.2.1, rs_A A s.2.2.2.2.2 8)
theorem rs_begin {pa A : Nat} {s : rs_T} (D : rs_D w p0 pp pk pq pv ps X K) (O : rs_O p0 pp pq pv ps pa) (hA : mv_get 10 w pa = (1, 0, 8, A)) (Ff : mv_dec (mv_rd 136 X 8) = (2, pa, 0)) : sy_C 101 n 0 0 [(2, p0, 0)] (rs_W w p0 pp pq pv ps X s) [] (rs_W w p0 pp pq pv ps X (rs_b A s)) := by
  obtain ⟨u, l, P, W, V, St⟩ := s
  refine sy_Cof (us := [(255, 0, 0)]) (ls' := [(2, p0, 0), (255, 0, 0)]) (pe := 36) (sy_oks_cons (sy_ok2 D.1.1) sy_oks_nil) rfl rfl ?_ (fun L f => sy_ret cd101_36 mr101)
  show sy_R 101 n 0 0 0 [(2, p0, 0), (255, 0, 0)] [] (rs_w w p0 pp pq pv ps (rs_x X u l) P W V St) 36 [(2, p0, 0), (255, 0, 0)] [] (rs_w w p0 pp pq pv ps (rs_x X 0 0) P W V (rs_A A St 8))
  refine sy_iconst (v := 0) cd101_0 (by decide) ?_
  refine sy_istn (j := 1) cd101_1 rfl rfl (sy_ok0 (by decide)) (by rw [mL101]; rfl) rfl ?_
  simp only [List.set_cons_zero, List.set_cons_succ]
  refine sy_trans (rs_As D O hA Ff 8 (Nat.le_refl 8)) ?_
  refine sy_ildn cd101_2 rfl rfl ?_
  refine sy_bipush (v := 8) cd101_3 (by decide) (by decide) ?_
  refine sy_ge_t (pc' := 26) cd101_5 (by decide) (Nat.le_refl 8) (by decide) (by decide) ?_
  refine sy_aldn cd101_26 rfl rfl ?_
  refine sy_iconst (v := 0) cd101_27 (by decide) ?_
  refine sy_pfi (w' := rs_w w p0 pp pq pv ps (rs_x X 0 l) P W V (rs_A A St 8)) cd101_28 rsf101_pieceSize rfl rst_u rsn_u (rs_g0 D) rfl (by decide) (by rw [rs_s0 D, rs_wu]) ?_
  refine sy_aldn cd101_31 rfl rfl ?_
  refine sy_lconst cd101_32 ?_
  refine sy_pfl (w' := rs_w w p0 pp pq pv ps (rs_x X 0 0) P W V (rs_A A St 8)) cd101_33 rsf101_shaSize rfl rst_l rsn_l (rs_g0 D) rfl (by decide) (by rw [rs_s0 D]; exact congrArg (fun z => rs_w w p0 pp pq pv ps z P W V (rs_A A St 8)) rs_wl) ?_
  exact sy_weak (sy_lw_ok (by simp only [sy_lw]; simp))
end RS
