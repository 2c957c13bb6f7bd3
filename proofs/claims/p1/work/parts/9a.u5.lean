/-! THE CLASS'S MINE, V -/
theorem xc37_0 : tt_cd 37 0 = (1, .aload_n 0, 1) := by decide +kernel
theorem xc37_1 : tt_cd 37 1 = (3, .getfield 90, 3) := by decide +kernel
theorem xf37_90 : tt_fl 37 90 = (1, 2, 7) := by decide +kernel
theorem xc37_4 : tt_cd 37 4 = (5, .ifCond .eq 18, 3) := by decide +kernel
theorem xc37_7 : tt_cd 37 7 = (1, .aload_n 0, 1) := by decide +kernel
theorem xc37_8 : tt_cd 37 8 = (3, .getfield 25, 3) := by decide +kernel
theorem xf37_25 : tt_fl 37 25 = (1, 2, 4) := by decide +kernel
theorem xc37_11 : tt_cd 37 11 = (2, .iconst 0, 1) := by decide +kernel
theorem xc37_12 : tt_cd 37 12 = (1, .aload_n 1, 1) := by decide +kernel
theorem xc37_13 : tt_cd 37 13 = (1, .iload_n 2, 1) := by decide +kernel
theorem xc37_14 : tt_cd 37 14 = (4, .bipush 32, 2) := by decide +kernel
theorem xc37_16 : tt_cd 37 16 = (10, .invokestatic 94, 3) := by decide +kernel
theorem xm37_94 : tt_ml 37 94 = (2, 35, 5) := by decide +kernel
theorem xc37_19 : tt_cd 37 19 = (5, .ifCond .ne 69, 3) := by decide +kernel
theorem xc37_22 : tt_cd 37 22 = (2, .iconst 0, 1) := by decide +kernel
theorem xc37_23 : tt_cd 37 23 = (1, .istore_n 3, 1) := by decide +kernel
theorem xl37 : tt_mL 37 = 4 := by decide +kernel
theorem xc37_24 : tt_cd 37 24 = (1, .iload_n 3, 1) := by decide +kernel
theorem xc37_25 : tt_cd 37 25 = (4, .bipush 32, 2) := by decide +kernel
theorem xc37_27 : tt_cd 37 27 = (5, .if_icmp .ge 36, 3) := by decide +kernel
theorem xc37_30 : tt_cd 37 30 = (1, .aload_n 0, 1) := by decide +kernel
theorem xc37_31 : tt_cd 37 31 = (3, .getfield 25, 3) := by decide +kernel
theorem xc37_34 : tt_cd 37 34 = (1, .iload_n 3, 1) := by decide +kernel
theorem xc37_35 : tt_cd 37 35 = (1, .iload_n 2, 1) := by decide +kernel
theorem xc37_36 : tt_cd 37 36 = (5, .ifCond .lt 11, 3) := by decide +kernel
theorem xc37_39 : tt_cd 37 39 = (1, .iload_n 2, 1) := by decide +kernel
theorem xc37_40 : tt_cd 37 40 = (1, .aload_n 1, 1) := by decide +kernel
theorem xc37_41 : tt_cd 37 41 = (3, .arraylength, 1) := by decide +kernel
theorem xc37_42 : tt_cd 37 42 = (1, .iload_n 3, 1) := by decide +kernel
theorem xc37_43 : tt_cd 37 43 = (2, .isub, 1) := by decide +kernel
theorem xc37_44 : tt_cd 37 44 = (5, .if_icmp .lt 7, 3) := by decide +kernel
theorem xc37_51 : tt_cd 37 51 = (1, .aload_n 1, 1) := by decide +kernel
theorem xc37_52 : tt_cd 37 52 = (1, .iload_n 2, 1) := by decide +kernel
theorem xc37_53 : tt_cd 37 53 = (1, .iload_n 3, 1) := by decide +kernel
theorem xc37_54 : tt_cd 37 54 = (2, .iadd, 1) := by decide +kernel
theorem xc37_55 : tt_cd 37 55 = (3, .baload, 1) := by decide +kernel
theorem xc37_56 : tt_cd 37 56 = (6, .bastore, 1) := by decide +kernel
theorem xc37_57 : tt_cd 37 57 = (1, .iinc 3 1, 3) := by decide +kernel
theorem xc37_60 : tt_cd 37 60 = (5, .goto (-36), 3) := by decide +kernel
theorem xc37_63 : tt_cd 37 63 = (1, .aload_n 0, 1) := by decide +kernel
theorem xc37_64 : tt_cd 37 64 = (4, .bipush 54, 2) := by decide +kernel
theorem xc37_66 : tt_cd 37 66 = (1, .aload_n 0, 1) := by decide +kernel
theorem xc37_67 : tt_cd 37 67 = (3, .getfield 28, 3) := by decide +kernel
theorem xf37_28 : tt_fl 37 28 = (1, 2, 5) := by decide +kernel
theorem xc37_70 : tt_cd 37 70 = (10, .invokevirtual 98, 3) := by decide +kernel
theorem xm37_98 : tt_ml 37 98 = (3, 38, 2) := by decide +kernel
theorem xi38 : tt_mci 38 = 2 := by decide +kernel
theorem xc37_73 : tt_cd 37 73 = (1, .aload_n 0, 1) := by decide +kernel
theorem xc37_74 : tt_cd 37 74 = (4, .bipush 92, 2) := by decide +kernel
theorem xc37_76 : tt_cd 37 76 = (1, .aload_n 0, 1) := by decide +kernel
theorem xc37_77 : tt_cd 37 77 = (3, .getfield 31, 3) := by decide +kernel
theorem xf37_31 : tt_fl 37 31 = (1, 2, 6) := by decide +kernel
theorem xc37_80 : tt_cd 37 80 = (10, .invokevirtual 98, 3) := by decide +kernel
theorem xc37_83 : tt_cd 37 83 = (1, .aload_n 0, 1) := by decide +kernel
theorem xc37_84 : tt_cd 37 84 = (2, .iconst 1, 1) := by decide +kernel
theorem xc37_85 : tt_cd 37 85 = (6, .putfield 90, 3) := by decide +kernel
theorem xt2_7 : tt_fty 2 7 = .boolean := by decide +kernel
theorem xn2_7 : tt_ffin 2 7 = false := by decide +kernel
theorem xc37_88 : tt_cd 37 88 = (1, .aload_n 0, 1) := by decide +kernel
theorem xc37_89 : tt_cd 37 89 = (1, .aload_n 0, 1) := by decide +kernel
theorem xc37_90 : tt_cd 37 90 = (3, .getfield 28, 3) := by decide +kernel
theorem xc37_93 : tt_cd 37 93 = (10, .invokevirtual 102, 3) := by decide +kernel
theorem xm37_102 : tt_ml 37 102 = (3, 39, 1) := by decide +kernel
theorem xi39 : tt_mci 39 = 2 := by decide +kernel
theorem xl39 : tt_mL 39 = 2 := by decide +kernel
theorem xc37_96 : tt_cd 37 96 = (9, .return_, 1) := by decide +kernel
theorem xr37 : tt_mr 37 = 0 := by decide +kernel
theorem xc40_0 : tt_cd 40 0 = (1, .aload_n 0, 1) := by decide +kernel
theorem xc40_1 : tt_cd 40 1 = (1, .aload_n 0, 1) := by decide +kernel
theorem xc40_2 : tt_cd 40 2 = (3, .getfield 22, 3) := by decide +kernel
theorem xf40_22 : tt_fl 40 22 = (1, 2, 3) := by decide +kernel
theorem xc40_5 : tt_cd 40 5 = (2, .iconst 0, 1) := by decide +kernel
theorem xc40_6 : tt_cd 40 6 = (10, .invokevirtual 73, 3) := by decide +kernel
theorem xm40_73 : tt_ml 40 73 = (3, 18, 2) := by decide +kernel
theorem xi18 : tt_mci 18 = 2 := by decide +kernel
theorem xl18 : tt_mL 18 = 4 := by decide +kernel
theorem xc40_9 : tt_cd 40 9 = (1, .aload_n 0, 1) := by decide +kernel
theorem xc40_10 : tt_cd 40 10 = (1, .aload_n 0, 1) := by decide +kernel
theorem xc40_11 : tt_cd 40 11 = (3, .getfield 31, 3) := by decide +kernel
theorem xf40_31 : tt_fl 40 31 = (1, 2, 6) := by decide +kernel
theorem xc40_14 : tt_cd 40 14 = (10, .invokevirtual 102, 3) := by decide +kernel
theorem xm40_102 : tt_ml 40 102 = (3, 39, 1) := by decide +kernel
theorem xc40_17 : tt_cd 40 17 = (1, .aload_n 0, 1) := by decide +kernel
theorem xc40_18 : tt_cd 40 18 = (1, .aload_n 0, 1) := by decide +kernel
theorem xc40_19 : tt_cd 40 19 = (3, .getfield 22, 3) := by decide +kernel
theorem xc40_22 : tt_cd 40 22 = (2, .iconst 0, 1) := by decide +kernel
theorem xc40_23 : tt_cd 40 23 = (4, .bipush 32, 2) := by decide +kernel
theorem xc40_25 : tt_cd 40 25 = (10, .invokevirtual 80, 3) := by decide +kernel
theorem xm40_80 : tt_ml 40 80 = (3, 15, 3) := by decide +kernel
theorem xc40_28 : tt_cd 40 28 = (1, .aload_n 0, 1) := by decide +kernel
theorem xc40_29 : tt_cd 40 29 = (1, .aload_n 1, 1) := by decide +kernel
theorem xc40_30 : tt_cd 40 30 = (1, .iload_n 2, 1) := by decide +kernel
theorem xc40_31 : tt_cd 40 31 = (10, .invokevirtual 73, 3) := by decide +kernel
theorem xc40_34 : tt_cd 40 34 = (9, .return_, 1) := by decide +kernel
theorem xr40 : tt_mr 40 = 0 := by decide +kernel
theorem xc36_0 : tt_cd 36 0 = (1, .aload_n 0, 1) := by decide +kernel
theorem xc36_1 : tt_cd 36 1 = (1, .aload_n 1, 1) := by decide +kernel
theorem xc36_2 : tt_cd 36 2 = (2, .iconst 0, 1) := by decide +kernel
theorem xc36_3 : tt_cd 36 3 = (10, .invokevirtual 106, 3) := by decide +kernel
theorem xm36_106 : tt_ml 36 106 = (3, 37, 2) := by decide +kernel
theorem xi37 : tt_mci 37 = 2 := by decide +kernel
theorem xc36_6 : tt_cd 36 6 = (1, .aload_n 0, 1) := by decide +kernel
theorem xc36_7 : tt_cd 36 7 = (1, .aload_n 2, 1) := by decide +kernel
theorem xc36_8 : tt_cd 36 8 = (1, .iload_n 3, 1) := by decide +kernel
theorem xc36_9 : tt_cd 36 9 = (4, .bipush 20, 2) := by decide +kernel
theorem xc36_11 : tt_cd 36 11 = (10, .invokevirtual 80, 3) := by decide +kernel
theorem xm36_80 : tt_ml 36 80 = (3, 15, 3) := by decide +kernel
theorem xc36_14 : tt_cd 36 14 = (1, .aload_n 0, 1) := by decide +kernel
theorem xc36_15 : tt_cd 36 15 = (1, .aload_n 0, 1) := by decide +kernel
theorem xc36_16 : tt_cd 36 16 = (3, .getfield 22, 3) := by decide +kernel
theorem xf36_22 : tt_fl 36 22 = (1, 2, 3) := by decide +kernel
theorem xc36_19 : tt_cd 36 19 = (2, .iconst 0, 1) := by decide +kernel
theorem xc36_20 : tt_cd 36 20 = (10, .invokevirtual 109, 3) := by decide +kernel
theorem xm36_109 : tt_ml 36 109 = (3, 40, 2) := by decide +kernel
theorem xi40 : tt_mci 40 = 2 := by decide +kernel
theorem xl40 : tt_mL 40 = 3 := by decide +kernel
theorem xc36_23 : tt_cd 36 23 = (1, .aload_n 0, 1) := by decide +kernel
theorem xc36_24 : tt_cd 36 24 = (3, .getfield 22, 3) := by decide +kernel
theorem xc36_27 : tt_cd 36 27 = (2, .iconst 0, 1) := by decide +kernel
theorem xc36_28 : tt_cd 36 28 = (10, .invokestatic 112, 3) := by decide +kernel
theorem xm36_112 : tt_ml 36 112 = (2, 27, 2) := by decide +kernel
theorem xc36_31 : tt_cd 36 31 = (2, .i2l, 1) := by decide +kernel
theorem xc36_32 : tt_cd 36 32 = (4, .ldc2_w 116, 3) := by decide +kernel
theorem xk36_116 : tt_kc 36 116 = (2, 4294967295) := by decide +kernel
theorem xc36_35 : tt_cd 36 35 = (2, .land, 1) := by decide +kernel
theorem xc36_36 : tt_cd 36 36 = (9, .lreturn, 1) := by decide +kernel
theorem xr36 : tt_mr 36 = 2 := by decide +kernel
theorem xc41_0 : tt_cd 41 0 = (1, .lload_n 0, 1) := by decide +kernel
theorem xc41_1 : tt_cd 41 1 = (4, .ldc2_w 79, 3) := by decide +kernel
theorem xk41_79 : tt_kc 41 79 = (2, 64) := by decide +kernel
theorem xc41_4 : tt_cd 41 4 = (2, .lmul, 1) := by decide +kernel
theorem xc41_5 : tt_cd 41 5 = (1, .iload_n 2, 1) := by decide +kernel
theorem xc41_6 : tt_cd 41 6 = (2, .i2l, 1) := by decide +kernel
theorem xc41_7 : tt_cd 41 7 = (2, .lmul, 1) := by decide +kernel
theorem xc41_8 : tt_cd 41 8 = (4, .bipush 32, 2) := by decide +kernel
theorem xc41_10 : tt_cd 41 10 = (2, .lushr, 1) := by decide +kernel
theorem xc41_11 : tt_cd 41 11 = (2, .l2i, 1) := by decide +kernel
theorem xc41_12 : tt_cd 41 12 = (9, .ireturn, 1) := by decide +kernel
theorem xr41 : tt_mr 41 = 1 := by decide +kernel
section FR
variable {k n fr lo pc pc' pc2 : Nat} {ls ls' ls2 S S' S2 : List mv_V} {w w' w2 : mv_T 10} {Q : List mv_V → mv_T 10 → Prop}
theorem sy_ldcI {j v : Nat} (hc : tt_cd k pc = (4, .ldc j, 2)) (hk : tt_kc k j = (1, v)) (kk : sy_R k n fr lo (pc + 2) ls ((0, v, 0) :: S) w pc2 ls2 S2 w2) : sy_R k n fr lo pc ls S w pc2 ls2 S2 w2 := by
  refine sy_ck hc rfl ?_ kk
  show (bif Nat.beq (tt_kc k j).1 1 then some (2, (0, (tt_kc k j).2, 0) :: S) else none) = _
  rw [hk]
  rfl
theorem sy_retl {L f : Nat} {x : mv_V} (hc : tt_cd k pc = (9, .lreturn, 1)) (hm : tt_mr k = 2) (hx : mv_isL x = true) : sy_run (f + 1) k pc L [x] n w fr lo = some ([x], n, w, 0, 0, fr, lo) := by
  show mv_stepf tt_cd tt_kc tt_fl tt_nl tt_al tt_sl tt_ml tt_mL tt_mr tt_ini tt_mci tt_fty tt_ffin tt_tl tt_cn tt_dpk tt_stt tt_none (mv_run tt_cd tt_kc tt_fl tt_nl tt_al tt_sl tt_ml tt_mL tt_mr tt_ini tt_mci tt_fty tt_ffin tt_tl tt_cn tt_dpk tt_stt tt_none f) k pc L [x] n w 0 0 fr lo = _
  unfold mv_stepf
  rw [hc]
  show (match mv_rt (tt_mr k) .lreturn [x] with
      | some ret => bif Nat.beq 1 1 then some (ret, n, w, 0, 0, fr, lo) else none
      | none => none) = _
  rw [hm]
  show (match (bif Nat.beq 2 2 && mv_isL x then some [x] else none) with
      | some ret => bif Nat.beq 1 1 then some (ret, n, w, 0, 0, fr, lo) else none
      | none => none) = _
  rw [hx]
  rfl
theorem sy_Fl {x : mv_V} (hc : tt_cd k pc = (9, .lreturn, 1)) (hm : tt_mr k = 2) (hx : mv_isL x = true) (q : Q [x] w) : sy_F k n fr lo pc ls [x] w Q := fun _ _ => ⟨1, _, _, q, sy_retl hc hm hx⟩
/-- a long and an int at the entry -/
theorem sx_l1i {a b : Nat} (ha : a < 18446744073709551616) (hb : b < 4294967296) : sy_L (mv_l0 0 [(1, a, 0), (0, b, 0)] 0) [(1, a, 0), (255, 0, 0), (0, b, 0)] := by
  intro j v hv hn
  show mv_lg (mv_wr 136 (mv_wr 136 0 0 (mv_enc (1, a, 0))) 2 (mv_enc (0, b, 0))) j = v
  rw [mv_lg_wr, mv_lg_wr]
  match j, hv with
  | 0, hv => rw [if_neg (by decide), if_pos rfl, mv_dec_enc (sy_ok1 ha)]; exact Option.some.inj hv
  | 1, hv => exact absurd (congrArg Prod.fst (Option.some.inj hv)).symm hn
  | 2, hv => rw [if_pos rfl, mv_dec_enc (sy_ok0 hb)]; exact Option.some.inj hv
  | j + 3, hv => simp at hv
theorem sbA_no {pa pb qa qb A B a b nn j : Nat} (hj : j < nn) (hne : mv_rd 32 A (a + j) ≠ mv_rd 32 B (b + j)) (hpa : pa < 1024) (hpb : pb < 1024) (h1 : mv_get 10 w pa = (1, 1, qa, A)) (h2 : mv_get 10 w pb = (1, 1, qb, B)) (ha : a + nn ≤ qa) (hb : b + nn ≤ qb) (hqa : qa ≤ 2147483647) (hqb : qb ≤ 2147483647) : sy_C 35 n 0 0 [(2, pa, 0), (0, a, 0), (2, pb, 0), (0, b, 0), (0, nn, 0)] w [(0, 0, 0)] w := by
  have h := sbA_run (n := n) hpa hpb h1 h2 ha hb hqa hqb
  rw [sb_no hj hne] at h
  exact h
/-- bytes stay bytes -/
theorem ab_iff {T s m : Nat} : mv_ab T s m = true ↔ ∀ j, j < m → mv_rd 32 T (s + j) < 128 ∨ 4294967168 ≤ mv_rd 32 T (s + j) := by
  constructor
  · induction m with
    | zero => intro _ j hj; omega
    | succ m ih =>
      intro h j hj
      have h' : ((Nat.blt (mv_rd 32 T (s + m)) 128 || Nat.ble 4294967168 (mv_rd 32 T (s + m))) && mv_ab T s m) = true := h
      simp only [Bool.and_eq_true, Bool.or_eq_true, Nat.blt_eq, Nat.ble_eq] at h'
      by_cases e : j = m
      · subst e; exact h'.1
      · exact ih h'.2 j (by omega)
  · exact ab_of m
theorem mn_b_ok (v : Nat) : mn_b v % 2 ^ 32 < 128 ∨ 4294967168 ≤ mn_b v % 2 ^ 32 := by
  unfold mn_b
  omega
theorem ab_wr {T s m i v : Nat} (h : mv_ab T s m = true) : mv_ab (mv_wr 32 T i (mn_b v)) s m = true := by
  rw [ab_iff] at h ⊢
  intro j hj
  rw [mv_rd_wr]
  by_cases e : s + j = i
  · rw [if_pos e]; exact mn_b_ok v
  · rw [if_neg e]; exact h j hj
theorem ab_cw {A B sp dp m : Nat} (h : mv_ab A sp m = true) : mv_ab (mv_cw 32 B A sp dp m) dp m = true := by
  rw [ab_iff] at h ⊢
  intro j hj
  rw [mv_cw_rd, if_pos (by omega), show sp + (dp + j - dp) = sp + j by omega]
  exact h j hj
/-- a row of bytes taken over -/
def mq (M B : Nat) : Nat → Nat
  | 0 => M
  | k + 1 => mv_wr 32 (mq M B k) k (mn_b (mv_rd 32 B k))
theorem mark_lt (x : Nat) : mo_land x 4294967295 < 4294967296 := Nat.lt_of_le_of_lt Nat.and_le_right (by decide)
theorem number_lt {m : Nat} (hm : m < 4294967296) : mo_lushr (mo_lmul (mo_lmul m 64) 1) 32 % 4294967296 < 64 := by
  have e : (2 : Nat) ^ (32 % 64) = 4294967296 := by decide
  unfold mo_lushr mo_lmul
  rw [e]
  omega
theorem word_lt (T a b c d : Nat) : mo_or (mo_or (mo_or (mo_shl (mv_rd 32 T a) 24) (mo_shl (mo_and (mv_rd 32 T b) 255) 16)) (mo_shl (mo_and (mv_rd 32 T c) 255) 8)) (mo_and (mv_rd 32 T d) 255) < 4294967296 := mo_or_lt (mo_or_lt (mo_or_lt (mo_shl_lt _ _) (mo_shl_lt _ _)) (mo_shl_lt _ _)) (mo_and_lt (mo_rd_lt _ _))
end FR
section FM
variable {n : Nat} {pl : Nat → Nat} {w0 w : mv_T 10} {X0 X1 cbs X3 Hd Id Ids Ads Br Dg X10 Sp Sw Ss In Mk Is Os Ks Kp ac su sl kl : Nat} {X20 Bh Bd cps Mb Ti X26 Pr wk Nu : Nat}
theorem cf_bm  (hw : wh 30 pl w0 w [(0, 1, 13, X0), (0, 8, 11, X1), (3, 6, 40, cbs), (0, 9, 11, X3), (1, 1, 105, Hd), (1, 1, 32, Id), (1, 1, 128, Ids), (1, 1, 480, Ads), (1, 1, 32, Br), (1, 1, 32, Dg), (0, 2, 13, X10), (1, 1, 64, Sp), (1, 0, 64, Sw), (1, 0, 8, Ss), (1, 1, 32, In), (1, 1, 32, Mk), (1, 0, 8, Is), (1, 0, 8, Os), (1, 0, 8, Ks), (1, 1, 64, Kp), (0, 9, 11, X20), (1, 1, 105, Bh), (1, 1, 32, Bd), (3, 7, 4, cps), (1, 1, 28, Mb), (1, 1, 32, Ti), (0, 10, 6, X26), (1, 0, 4, Pr), (1, 0, 1, Nu)]) (hX0 : fh X0 kX [(2, pl 1, 0), (0, 0, 0)]) (hX1 : fh X1 kM [(0, 1, 0), (2, pl 2, 0), (0, 0, 0), (2, pl 10, 0), (2, pl 6, 0), (2, pl 7, 0), (0, ac, 0), (2, pl 8, 0), (2, pl 9, 0)]) (hX3 : fh X3 kB [(2, pl 5, 0), (2, pl 4, 0), (0, 0, 0), (0, 4, 0), (3, 0, 0)]) (hX10 : fh X10 kS [(2, pl 11, 0), (2, pl 12, 0), (2, pl 13, 0), (2, pl 14, 0), (0, su, 0), (0, sl, 0), (2, pl 15, 0), (2, pl 16, 0), (2, pl 17, 0), (0, 1, 0), (2, pl 18, 0), (2, pl 19, 0), (0, kl, 0)]) (hX20 : fh X20 kN [(2, pl 3, 0), (0, 1, 0), (0, 1, 0), (0, wk, 0), (2, pl 21, 0), (2, pl 22, 0), (2, pl 23, 0), (0, 1, 0), (3, 0, 0), (0, 0, 0), (3, 0, 0)]) (hX26 : fh X26 kP [(2, pl 24, 0), (0, 0, 0), (0, 1, 0), (0, 28, 0), (2, pl 25, 0), (2, pl 27, 0)]) (hne : mv_rd 32 Mk 0 ≠ mv_rd 32 Bh 0) (hsu : su < 64) (hsl : sl < 4294967296) : sy_D 37 n 2 56 [(2, pl 10, 0), (2, pl 21, 0), (0, 0, 0)] w (fun ret w' => ∃ Y10 Y11 Y12 Y13 Y15 Y16 Y17 yu yl : Nat, ret = [] ∧ (yu < 64 ∧ yl < 4294967296) ∧ wh 30 pl w0 w' [(0, 1, 13, X0), (0, 8, 11, X1), (3, 6, 40, cbs), (0, 9, 11, X3), (1, 1, 105, Hd), (1, 1, 32, Id), (1, 1, 128, Ids), (1, 1, 480, Ads), (1, 1, 32, Br), (1, 1, 32, Dg), (0, 2, 13, Y10), (1, 1, 64, Y11), (1, 0, 64, Y12), (1, 0, 8, Y13), (1, 1, 32, In), (1, 1, 32, Y15), (1, 0, 8, Y16), (1, 0, 8, Y17), (1, 0, 8, Ks), (1, 1, 64, Kp), (0, 9, 11, X20), (1, 1, 105, Bh), (1, 1, 32, Bd), (3, 7, 4, cps), (1, 1, 28, Mb), (1, 1, 32, Ti), (0, 10, 6, X26), (1, 0, 4, Pr), (1, 0, 1, Nu)] ∧ fh Y10 kS [(2, pl 11, 0), (2, pl 12, 0), (2, pl 13, 0), (2, pl 14, 0), (0, yu, 0), (0, yl, 0), (2, pl 15, 0), (2, pl 16, 0), (2, pl 17, 0), (0, 1, 0), (2, pl 18, 0), (2, pl 19, 0), (0, kl, 0)]) := by
  refine sy_Dof (us := [(255, 0, 0)]) (sy_oks_cons (sy_ok2 (wh_lt hw 10 (by first | decide | assumption))) (sy_oks_cons (sy_ok2 (wh_lt hw 21 (by first | decide | assumption))) (sy_oks_cons (sy_ok0 (by first | decide | assumption | omega | exact mo_rd_lt _ _ | exact mo_add_lt _ _ | exact mo_sub_lt _ _ | exact mo_mul_lt _ _ | exact mo_shl_lt _ _ | exact mo_ushr_lt _ _ | exact mo_or_lt (by decide) (mo_and_lt (mo_rd_lt _ _)) | exact mo_or_lt (mo_shl_lt _ _) (mo_and_lt (mo_rd_lt _ _)))) sy_oks_nil))) rfl rfl ?_
  show sy_F 37 n 2 56 0 [(2, pl 10, 0), (2, pl 21, 0), (0, 0, 0), (255, 0, 0)] [] w _
  refine sy_Fs (sy_aldn xc37_0 rfl rfl sy_refl) ?_
  refine sy_Fs (sy_gf xc37_1 xf37_90 rfl (wh_at hw 10 rfl) rfl (fh_at hX10 9 rfl rfl) sy_refl) ?_
  refine sy_Fs (sy_ifeq_f xc37_4 (by decide) (by decide) (by decide) sy_refl) ?_
  refine sy_Fs (sy_aldn xc37_7 rfl rfl sy_refl) ?_
  refine sy_Fs (sy_gf xc37_8 xf37_25 rfl (wh_at hw 10 rfl) rfl (fh_at hX10 6 rfl rfl) sy_refl) ?_
  refine sy_Fs (sy_iconst (v := 0) xc37_11 (by decide) sy_refl) ?_
  refine sy_Fs (sy_aldn xc37_12 rfl rfl sy_refl) ?_
  refine sy_Fs (sy_ildn xc37_13 rfl rfl sy_refl) ?_
  refine sy_Fs (sy_bipush (v := 32) xc37_14 (by decide) (by decide) sy_refl) ?_
  refine sy_Fs (sy_callG (kd := 2) (as := [(2, pl 15, 0), (0, 0, 0), (2, pl 21, 0), (0, 0, 0), (0, 32, 0)]) (S0 := []) (ret := [(0, 0, 0)]) xc37_16 (sy_calS (as := [(2, pl 15, 0), (0, 0, 0), (2, pl 21, 0), (0, 0, 0), (0, 32, 0)]) (S0 := []) xm37_94 rfl rfl) rfl rfl rfl rfl (sy_oka (sy_oks_cons (sy_ok2 (wh_lt hw 15 (by first | decide | assumption))) (sy_oks_cons (sy_ok0 (by first | decide | assumption | omega | exact mo_rd_lt _ _ | exact mo_add_lt _ _ | exact mo_sub_lt _ _ | exact mo_mul_lt _ _ | exact mo_shl_lt _ _ | exact mo_ushr_lt _ _ | exact mo_or_lt (by decide) (mo_and_lt (mo_rd_lt _ _)) | exact mo_or_lt (mo_shl_lt _ _) (mo_and_lt (mo_rd_lt _ _)))) (sy_oks_cons (sy_ok2 (wh_lt hw 21 (by first | decide | assumption))) (sy_oks_cons (sy_ok0 (by first | decide | assumption | omega | exact mo_rd_lt _ _ | exact mo_add_lt _ _ | exact mo_sub_lt _ _ | exact mo_mul_lt _ _ | exact mo_shl_lt _ _ | exact mo_ushr_lt _ _ | exact mo_or_lt (by decide) (mo_and_lt (mo_rd_lt _ _)) | exact mo_or_lt (mo_shl_lt _ _) (mo_and_lt (mo_rd_lt _ _)))) (sy_oks_cons (sy_ok0 (by first | decide | assumption | omega | exact mo_rd_lt _ _ | exact mo_add_lt _ _ | exact mo_sub_lt _ _ | exact mo_mul_lt _ _ | exact mo_shl_lt _ _ | exact mo_ushr_lt _ _ | exact mo_or_lt (by decide) (mo_and_lt (mo_rd_lt _ _)) | exact mo_or_lt (mo_shl_lt _ _) (mo_and_lt (mo_rd_lt _ _)))) sy_oks_nil))))) rfl xl35) (sbA_no (j := 0) (by decide) hne (wh_lt hw 15 (by first | decide | assumption)) (wh_lt hw 21 (by first | decide | assumption)) (wh_at hw 15 rfl) (wh_at hw 21 rfl) (by first | decide | assumption | omega) (by first | decide | assumption | omega) (by first | decide | assumption | omega) (by first | decide | assumption | omega)) (by decide) (by rw [xl35]; decide) sy_refl) ?_
  refine sy_Fs (sy_ifne_f xc37_19 (by decide) (by decide) sy_refl) ?_
  refine sy_Fs (sy_iconst (v := 0) xc37_22 (by decide) sy_refl) ?_
  refine sy_Fs (sx_istn (j := 3) (ls' := [(2, pl 10, 0), (2, pl 21, 0), (0, 0, 0), (0, 0, 0)]) xc37_23 rfl rfl (sy_ok0 (by first | decide | assumption | omega | exact mo_rd_lt _ _ | exact mo_add_lt _ _ | exact mo_sub_lt _ _ | exact mo_mul_lt _ _ | exact mo_shl_lt _ _ | exact mo_ushr_lt _ _ | exact mo_or_lt (by decide) (mo_and_lt (mo_rd_lt _ _)) | exact mo_or_lt (mo_shl_lt _ _) (mo_and_lt (mo_rd_lt _ _)))) (by rw [xl37]; rfl) rfl rfl) ?_
  refine sy_Fs (sy_ildn xc37_24 rfl rfl sy_refl) ?_
  refine sy_Fs (sy_bipush (v := 32) xc37_25 (by decide) (by decide) sy_refl) ?_
  refine sy_Fs (sy_ge_f xc37_27 (by decide) (by decide) (by decide) sy_refl) ?_
  refine sy_Fs (sy_aldn xc37_30 rfl rfl sy_refl) ?_
  refine sy_Fs (sy_gf xc37_31 xf37_25 rfl (wh_at hw 10 rfl) rfl (fh_at hX10 6 rfl rfl) sy_refl) ?_
  refine sy_Fs (sy_ildn xc37_34 rfl rfl sy_refl) ?_
  refine sy_Fs (sy_ildn xc37_35 rfl rfl sy_refl) ?_
  refine sy_Fs (sy_iflt_f xc37_36 (by decide) (by decide) sy_refl) ?_
  refine sy_Fs (sy_ildn xc37_39 rfl rfl sy_refl) ?_
  refine sy_Fs (sy_aldn xc37_40 rfl rfl sy_refl) ?_
  refine sy_Fs (sy_alen xc37_41 (wh_at hw 21 rfl) rfl sy_refl) ?_
  refine sy_Fs (sy_ildn xc37_42 rfl rfl sy_refl) ?_
  refine sy_Fs (sx_isub (z := 105) xc37_43 (by decide)) ?_
  refine sy_Fs (sy_icmplt_t (pc' := 51) xc37_44 (by decide) (by decide) (by decide) (by decide) sy_refl) ?_
  refine sy_Fs (sy_aldn xc37_51 rfl rfl sy_refl) ?_
  refine sy_Fs (sy_ildn xc37_52 rfl rfl sy_refl) ?_
  refine sy_Fs (sy_ildn xc37_53 rfl rfl sy_refl) ?_
  refine sy_Fs (sx_iadd (z := 0) xc37_54 (by decide)) ?_
  refine sy_Fs (sx_bal (z := (mv_rd 32 Bh 0)) xc37_55 (wh_at hw 21 rfl) (by decide) (by decide) rfl) ?_
  refine sy_Fw (i := 15) (x := (1, 1, 32, (mq Mk Bh 1))) hw (by decide) (sy_bas (i := 0) xc37_56 (wh_at hw 15 rfl) rfl (by decide) (by decide) rfl sy_refl) ?_
  intro w hw
  simp only [List.set_cons_zero, List.set_cons_succ] at hw
  refine sy_Fs (sx_iinc (c := 1) (z := 1) (ls' := [(2, pl 10, 0), (2, pl 21, 0), (0, 0, 0), (0, 1, 0)]) xc37_57 rfl (by decide) (by rw [xl37]; rfl) rfl (by decide) rfl) ?_
  refine sy_Fs (sy_goto (pc' := 24) xc37_60 (by decide) (by decide) sy_refl) ?_
  refine sy_Fs (sy_ildn xc37_24 rfl rfl sy_refl) ?_
  refine sy_Fs (sy_bipush (v := 32) xc37_25 (by decide) (by decide) sy_refl) ?_
  refine sy_Fs (sy_ge_f xc37_27 (by decide) (by decide) (by decide) sy_refl) ?_
  refine sy_Fs (sy_aldn xc37_30 rfl rfl sy_refl) ?_
  refine sy_Fs (sy_gf xc37_31 xf37_25 rfl (wh_at hw 10 rfl) rfl (fh_at hX10 6 rfl rfl) sy_refl) ?_
  refine sy_Fs (sy_ildn xc37_34 rfl rfl sy_refl) ?_
  refine sy_Fs (sy_ildn xc37_35 rfl rfl sy_refl) ?_
  refine sy_Fs (sy_iflt_f xc37_36 (by decide) (by decide) sy_refl) ?_
  refine sy_Fs (sy_ildn xc37_39 rfl rfl sy_refl) ?_
  refine sy_Fs (sy_aldn xc37_40 rfl rfl sy_refl) ?_
  refine sy_Fs (sy_alen xc37_41 (wh_at hw 21 rfl) rfl sy_refl) ?_
  refine sy_Fs (sy_ildn xc37_42 rfl rfl sy_refl) ?_
  refine sy_Fs (sx_isub (z := 104) xc37_43 (by decide)) ?_
  refine sy_Fs (sy_icmplt_t (pc' := 51) xc37_44 (by decide) (by decide) (by decide) (by decide) sy_refl) ?_
  refine sy_Fs (sy_aldn xc37_51 rfl rfl sy_refl) ?_
  refine sy_Fs (sy_ildn xc37_52 rfl rfl sy_refl) ?_
  refine sy_Fs (sy_ildn xc37_53 rfl rfl sy_refl) ?_
  refine sy_Fs (sx_iadd (z := 1) xc37_54 (by decide)) ?_
  refine sy_Fs (sx_bal (z := (mv_rd 32 Bh 1)) xc37_55 (wh_at hw 21 rfl) (by decide) (by decide) rfl) ?_
  refine sy_Fw (i := 15) (x := (1, 1, 32, (mq Mk Bh 2))) hw (by decide) (sy_bas (i := 1) xc37_56 (wh_at hw 15 rfl) rfl (by decide) (by decide) rfl sy_refl) ?_
  intro w hw
  simp only [List.set_cons_zero, List.set_cons_succ] at hw
  refine sy_Fs (sx_iinc (c := 1) (z := 2) (ls' := [(2, pl 10, 0), (2, pl 21, 0), (0, 0, 0), (0, 2, 0)]) xc37_57 rfl (by decide) (by rw [xl37]; rfl) rfl (by decide) rfl) ?_
  refine sy_Fs (sy_goto (pc' := 24) xc37_60 (by decide) (by decide) sy_refl) ?_
  refine sy_Fs (sy_ildn xc37_24 rfl rfl sy_refl) ?_
  refine sy_Fs (sy_bipush (v := 32) xc37_25 (by decide) (by decide) sy_refl) ?_
  refine sy_Fs (sy_ge_f xc37_27 (by decide) (by decide) (by decide) sy_refl) ?_
  refine sy_Fs (sy_aldn xc37_30 rfl rfl sy_refl) ?_
  refine sy_Fs (sy_gf xc37_31 xf37_25 rfl (wh_at hw 10 rfl) rfl (fh_at hX10 6 rfl rfl) sy_refl) ?_
  refine sy_Fs (sy_ildn xc37_34 rfl rfl sy_refl) ?_
  refine sy_Fs (sy_ildn xc37_35 rfl rfl sy_refl) ?_
  refine sy_Fs (sy_iflt_f xc37_36 (by decide) (by decide) sy_refl) ?_
  refine sy_Fs (sy_ildn xc37_39 rfl rfl sy_refl) ?_
  refine sy_Fs (sy_aldn xc37_40 rfl rfl sy_refl) ?_
  refine sy_Fs (sy_alen xc37_41 (wh_at hw 21 rfl) rfl sy_refl) ?_
  refine sy_Fs (sy_ildn xc37_42 rfl rfl sy_refl) ?_
  refine sy_Fs (sx_isub (z := 103) xc37_43 (by decide)) ?_
  refine sy_Fs (sy_icmplt_t (pc' := 51) xc37_44 (by decide) (by decide) (by decide) (by decide) sy_refl) ?_
  refine sy_Fs (sy_aldn xc37_51 rfl rfl sy_refl) ?_
  refine sy_Fs (sy_ildn xc37_52 rfl rfl sy_refl) ?_
  refine sy_Fs (sy_ildn xc37_53 rfl rfl sy_refl) ?_
  refine sy_Fs (sx_iadd (z := 2) xc37_54 (by decide)) ?_
  refine sy_Fs (sx_bal (z := (mv_rd 32 Bh 2)) xc37_55 (wh_at hw 21 rfl) (by decide) (by decide) rfl) ?_
  refine sy_Fw (i := 15) (x := (1, 1, 32, (mq Mk Bh 3))) hw (by decide) (sy_bas (i := 2) xc37_56 (wh_at hw 15 rfl) rfl (by decide) (by decide) rfl sy_refl) ?_
  intro w hw
  simp only [List.set_cons_zero, List.set_cons_succ] at hw
  refine sy_Fs (sx_iinc (c := 1) (z := 3) (ls' := [(2, pl 10, 0), (2, pl 21, 0), (0, 0, 0), (0, 3, 0)]) xc37_57 rfl (by decide) (by rw [xl37]; rfl) rfl (by decide) rfl) ?_
  refine sy_Fs (sy_goto (pc' := 24) xc37_60 (by decide) (by decide) sy_refl) ?_
  refine sy_Fs (sy_ildn xc37_24 rfl rfl sy_refl) ?_
  refine sy_Fs (sy_bipush (v := 32) xc37_25 (by decide) (by decide) sy_refl) ?_
  refine sy_Fs (sy_ge_f xc37_27 (by decide) (by decide) (by decide) sy_refl) ?_
  refine sy_Fs (sy_aldn xc37_30 rfl rfl sy_refl) ?_
  refine sy_Fs (sy_gf xc37_31 xf37_25 rfl (wh_at hw 10 rfl) rfl (fh_at hX10 6 rfl rfl) sy_refl) ?_
  refine sy_Fs (sy_ildn xc37_34 rfl rfl sy_refl) ?_
  refine sy_Fs (sy_ildn xc37_35 rfl rfl sy_refl) ?_
  refine sy_Fs (sy_iflt_f xc37_36 (by decide) (by decide) sy_refl) ?_
  refine sy_Fs (sy_ildn xc37_39 rfl rfl sy_refl) ?_
  refine sy_Fs (sy_aldn xc37_40 rfl rfl sy_refl) ?_
  refine sy_Fs (sy_alen xc37_41 (wh_at hw 21 rfl) rfl sy_refl) ?_
  refine sy_Fs (sy_ildn xc37_42 rfl rfl sy_refl) ?_
  refine sy_Fs (sx_isub (z := 102) xc37_43 (by decide)) ?_
  refine sy_Fs (sy_icmplt_t (pc' := 51) xc37_44 (by decide) (by decide) (by decide) (by decide) sy_refl) ?_
  refine sy_Fs (sy_aldn xc37_51 rfl rfl sy_refl) ?_
  refine sy_Fs (sy_ildn xc37_52 rfl rfl sy_refl) ?_
  refine sy_Fs (sy_ildn xc37_53 rfl rfl sy_refl) ?_
  refine sy_Fs (sx_iadd (z := 3) xc37_54 (by decide)) ?_
  refine sy_Fs (sx_bal (z := (mv_rd 32 Bh 3)) xc37_55 (wh_at hw 21 rfl) (by decide) (by decide) rfl) ?_
  refine sy_Fw (i := 15) (x := (1, 1, 32, (mq Mk Bh 4))) hw (by decide) (sy_bas (i := 3) xc37_56 (wh_at hw 15 rfl) rfl (by decide) (by decide) rfl sy_refl) ?_
  intro w hw
  simp only [List.set_cons_zero, List.set_cons_succ] at hw
  refine sy_Fs (sx_iinc (c := 1) (z := 4) (ls' := [(2, pl 10, 0), (2, pl 21, 0), (0, 0, 0), (0, 4, 0)]) xc37_57 rfl (by decide) (by rw [xl37]; rfl) rfl (by decide) rfl) ?_
  refine sy_Fs (sy_goto (pc' := 24) xc37_60 (by decide) (by decide) sy_refl) ?_
  refine sy_Fs (sy_ildn xc37_24 rfl rfl sy_refl) ?_
  refine sy_Fs (sy_bipush (v := 32) xc37_25 (by decide) (by decide) sy_refl) ?_
  refine sy_Fs (sy_ge_f xc37_27 (by decide) (by decide) (by decide) sy_refl) ?_
  refine sy_Fs (sy_aldn xc37_30 rfl rfl sy_refl) ?_
  refine sy_Fs (sy_gf xc37_31 xf37_25 rfl (wh_at hw 10 rfl) rfl (fh_at hX10 6 rfl rfl) sy_refl) ?_
  refine sy_Fs (sy_ildn xc37_34 rfl rfl sy_refl) ?_
  refine sy_Fs (sy_ildn xc37_35 rfl rfl sy_refl) ?_
  refine sy_Fs (sy_iflt_f xc37_36 (by decide) (by decide) sy_refl) ?_
  refine sy_Fs (sy_ildn xc37_39 rfl rfl sy_refl) ?_
  refine sy_Fs (sy_aldn xc37_40 rfl rfl sy_refl) ?_
  refine sy_Fs (sy_alen xc37_41 (wh_at hw 21 rfl) rfl sy_refl) ?_
  refine sy_Fs (sy_ildn xc37_42 rfl rfl sy_refl) ?_
  refine sy_Fs (sx_isub (z := 101) xc37_43 (by decide)) ?_
  refine sy_Fs (sy_icmplt_t (pc' := 51) xc37_44 (by decide) (by decide) (by decide) (by decide) sy_refl) ?_
  refine sy_Fs (sy_aldn xc37_51 rfl rfl sy_refl) ?_
  refine sy_Fs (sy_ildn xc37_52 rfl rfl sy_refl) ?_
  refine sy_Fs (sy_ildn xc37_53 rfl rfl sy_refl) ?_
  refine sy_Fs (sx_iadd (z := 4) xc37_54 (by decide)) ?_
  refine sy_Fs (sx_bal (z := (mv_rd 32 Bh 4)) xc37_55 (wh_at hw 21 rfl) (by decide) (by decide) rfl) ?_
  refine sy_Fw (i := 15) (x := (1, 1, 32, (mq Mk Bh 5))) hw (by decide) (sy_bas (i := 4) xc37_56 (wh_at hw 15 rfl) rfl (by decide) (by decide) rfl sy_refl) ?_
  intro w hw
  simp only [List.set_cons_zero, List.set_cons_succ] at hw
  refine sy_Fs (sx_iinc (c := 1) (z := 5) (ls' := [(2, pl 10, 0), (2, pl 21, 0), (0, 0, 0), (0, 5, 0)]) xc37_57 rfl (by decide) (by rw [xl37]; rfl) rfl (by decide) rfl) ?_
  refine sy_Fs (sy_goto (pc' := 24) xc37_60 (by decide) (by decide) sy_refl) ?_
  refine sy_Fs (sy_ildn xc37_24 rfl rfl sy_refl) ?_
  refine sy_Fs (sy_bipush (v := 32) xc37_25 (by decide) (by decide) sy_refl) ?_
  refine sy_Fs (sy_ge_f xc37_27 (by decide) (by decide) (by decide) sy_refl) ?_
  refine sy_Fs (sy_aldn xc37_30 rfl rfl sy_refl) ?_
  refine sy_Fs (sy_gf xc37_31 xf37_25 rfl (wh_at hw 10 rfl) rfl (fh_at hX10 6 rfl rfl) sy_refl) ?_
  refine sy_Fs (sy_ildn xc37_34 rfl rfl sy_refl) ?_
  refine sy_Fs (sy_ildn xc37_35 rfl rfl sy_refl) ?_
  refine sy_Fs (sy_iflt_f xc37_36 (by decide) (by decide) sy_refl) ?_
  refine sy_Fs (sy_ildn xc37_39 rfl rfl sy_refl) ?_
  refine sy_Fs (sy_aldn xc37_40 rfl rfl sy_refl) ?_
  refine sy_Fs (sy_alen xc37_41 (wh_at hw 21 rfl) rfl sy_refl) ?_
  refine sy_Fs (sy_ildn xc37_42 rfl rfl sy_refl) ?_
  refine sy_Fs (sx_isub (z := 100) xc37_43 (by decide)) ?_
  refine sy_Fs (sy_icmplt_t (pc' := 51) xc37_44 (by decide) (by decide) (by decide) (by decide) sy_refl) ?_
  refine sy_Fs (sy_aldn xc37_51 rfl rfl sy_refl) ?_
  refine sy_Fs (sy_ildn xc37_52 rfl rfl sy_refl) ?_
  refine sy_Fs (sy_ildn xc37_53 rfl rfl sy_refl) ?_
  refine sy_Fs (sx_iadd (z := 5) xc37_54 (by decide)) ?_
  refine sy_Fs (sx_bal (z := (mv_rd 32 Bh 5)) xc37_55 (wh_at hw 21 rfl) (by decide) (by decide) rfl) ?_
  refine sy_Fw (i := 15) (x := (1, 1, 32, (mq Mk Bh 6))) hw (by decide) (sy_bas (i := 5) xc37_56 (wh_at hw 15 rfl) rfl (by decide) (by decide) rfl sy_refl) ?_
  intro w hw
  simp only [List.set_cons_zero, List.set_cons_succ] at hw
  refine sy_Fs (sx_iinc (c := 1) (z := 6) (ls' := [(2, pl 10, 0), (2, pl 21, 0), (0, 0, 0), (0, 6, 0)]) xc37_57 rfl (by decide) (by rw [xl37]; rfl) rfl (by decide) rfl) ?_
  refine sy_Fs (sy_goto (pc' := 24) xc37_60 (by decide) (by decide) sy_refl) ?_
  refine sy_Fs (sy_ildn xc37_24 rfl rfl sy_refl) ?_
  refine sy_Fs (sy_bipush (v := 32) xc37_25 (by decide) (by decide) sy_refl) ?_
  refine sy_Fs (sy_ge_f xc37_27 (by decide) (by decide) (by decide) sy_refl) ?_
  refine sy_Fs (sy_aldn xc37_30 rfl rfl sy_refl) ?_
  refine sy_Fs (sy_gf xc37_31 xf37_25 rfl (wh_at hw 10 rfl) rfl (fh_at hX10 6 rfl rfl) sy_refl) ?_
  refine sy_Fs (sy_ildn xc37_34 rfl rfl sy_refl) ?_
  refine sy_Fs (sy_ildn xc37_35 rfl rfl sy_refl) ?_
  refine sy_Fs (sy_iflt_f xc37_36 (by decide) (by decide) sy_refl) ?_
  refine sy_Fs (sy_ildn xc37_39 rfl rfl sy_refl) ?_
  refine sy_Fs (sy_aldn xc37_40 rfl rfl sy_refl) ?_
  refine sy_Fs (sy_alen xc37_41 (wh_at hw 21 rfl) rfl sy_refl) ?_
  refine sy_Fs (sy_ildn xc37_42 rfl rfl sy_refl) ?_
  refine sy_Fs (sx_isub (z := 99) xc37_43 (by decide)) ?_
  refine sy_Fs (sy_icmplt_t (pc' := 51) xc37_44 (by decide) (by decide) (by decide) (by decide) sy_refl) ?_
  refine sy_Fs (sy_aldn xc37_51 rfl rfl sy_refl) ?_
  refine sy_Fs (sy_ildn xc37_52 rfl rfl sy_refl) ?_
  refine sy_Fs (sy_ildn xc37_53 rfl rfl sy_refl) ?_
  refine sy_Fs (sx_iadd (z := 6) xc37_54 (by decide)) ?_
  refine sy_Fs (sx_bal (z := (mv_rd 32 Bh 6)) xc37_55 (wh_at hw 21 rfl) (by decide) (by decide) rfl) ?_
  refine sy_Fw (i := 15) (x := (1, 1, 32, (mq Mk Bh 7))) hw (by decide) (sy_bas (i := 6) xc37_56 (wh_at hw 15 rfl) rfl (by decide) (by decide) rfl sy_refl) ?_
  intro w hw
  simp only [List.set_cons_zero, List.set_cons_succ] at hw
  refine sy_Fs (sx_iinc (c := 1) (z := 7) (ls' := [(2, pl 10, 0), (2, pl 21, 0), (0, 0, 0), (0, 7, 0)]) xc37_57 rfl (by decide) (by rw [xl37]; rfl) rfl (by decide) rfl) ?_
  refine sy_Fs (sy_goto (pc' := 24) xc37_60 (by decide) (by decide) sy_refl) ?_
  refine sy_Fs (sy_ildn xc37_24 rfl rfl sy_refl) ?_
  refine sy_Fs (sy_bipush (v := 32) xc37_25 (by decide) (by decide) sy_refl) ?_
  refine sy_Fs (sy_ge_f xc37_27 (by decide) (by decide) (by decide) sy_refl) ?_
  refine sy_Fs (sy_aldn xc37_30 rfl rfl sy_refl) ?_
  refine sy_Fs (sy_gf xc37_31 xf37_25 rfl (wh_at hw 10 rfl) rfl (fh_at hX10 6 rfl rfl) sy_refl) ?_
  refine sy_Fs (sy_ildn xc37_34 rfl rfl sy_refl) ?_
  refine sy_Fs (sy_ildn xc37_35 rfl rfl sy_refl) ?_
  refine sy_Fs (sy_iflt_f xc37_36 (by decide) (by decide) sy_refl) ?_
  refine sy_Fs (sy_ildn xc37_39 rfl rfl sy_refl) ?_
  refine sy_Fs (sy_aldn xc37_40 rfl rfl sy_refl) ?_
  refine sy_Fs (sy_alen xc37_41 (wh_at hw 21 rfl) rfl sy_refl) ?_
  refine sy_Fs (sy_ildn xc37_42 rfl rfl sy_refl) ?_
  refine sy_Fs (sx_isub (z := 98) xc37_43 (by decide)) ?_
  refine sy_Fs (sy_icmplt_t (pc' := 51) xc37_44 (by decide) (by decide) (by decide) (by decide) sy_refl) ?_
  refine sy_Fs (sy_aldn xc37_51 rfl rfl sy_refl) ?_
  refine sy_Fs (sy_ildn xc37_52 rfl rfl sy_refl) ?_
  refine sy_Fs (sy_ildn xc37_53 rfl rfl sy_refl) ?_
  refine sy_Fs (sx_iadd (z := 7) xc37_54 (by decide)) ?_
  refine sy_Fs (sx_bal (z := (mv_rd 32 Bh 7)) xc37_55 (wh_at hw 21 rfl) (by decide) (by decide) rfl) ?_
  refine sy_Fw (i := 15) (x := (1, 1, 32, (mq Mk Bh 8))) hw (by decide) (sy_bas (i := 7) xc37_56 (wh_at hw 15 rfl) rfl (by decide) (by decide) rfl sy_refl) ?_
  intro w hw
  simp only [List.set_cons_zero, List.set_cons_succ] at hw
  refine sy_Fs (sx_iinc (c := 1) (z := 8) (ls' := [(2, pl 10, 0), (2, pl 21, 0), (0, 0, 0), (0, 8, 0)]) xc37_57 rfl (by decide) (by rw [xl37]; rfl) rfl (by decide) rfl) ?_
  refine sy_Fs (sy_goto (pc' := 24) xc37_60 (by decide) (by decide) sy_refl) ?_
  refine sy_Fs (sy_ildn xc37_24 rfl rfl sy_refl) ?_
  refine sy_Fs (sy_bipush (v := 32) xc37_25 (by decide) (by decide) sy_refl) ?_
  refine sy_Fs (sy_ge_f xc37_27 (by decide) (by decide) (by decide) sy_refl) ?_
  refine sy_Fs (sy_aldn xc37_30 rfl rfl sy_refl) ?_
  refine sy_Fs (sy_gf xc37_31 xf37_25 rfl (wh_at hw 10 rfl) rfl (fh_at hX10 6 rfl rfl) sy_refl) ?_
  refine sy_Fs (sy_ildn xc37_34 rfl rfl sy_refl) ?_
  refine sy_Fs (sy_ildn xc37_35 rfl rfl sy_refl) ?_
  refine sy_Fs (sy_iflt_f xc37_36 (by decide) (by decide) sy_refl) ?_
  refine sy_Fs (sy_ildn xc37_39 rfl rfl sy_refl) ?_
  refine sy_Fs (sy_aldn xc37_40 rfl rfl sy_refl) ?_
  refine sy_Fs (sy_alen xc37_41 (wh_at hw 21 rfl) rfl sy_refl) ?_
  refine sy_Fs (sy_ildn xc37_42 rfl rfl sy_refl) ?_
  refine sy_Fs (sx_isub (z := 97) xc37_43 (by decide)) ?_
  refine sy_Fs (sy_icmplt_t (pc' := 51) xc37_44 (by decide) (by decide) (by decide) (by decide) sy_refl) ?_
  refine sy_Fs (sy_aldn xc37_51 rfl rfl sy_refl) ?_
  refine sy_Fs (sy_ildn xc37_52 rfl rfl sy_refl) ?_
  refine sy_Fs (sy_ildn xc37_53 rfl rfl sy_refl) ?_
  refine sy_Fs (sx_iadd (z := 8) xc37_54 (by decide)) ?_
  refine sy_Fs (sx_bal (z := (mv_rd 32 Bh 8)) xc37_55 (wh_at hw 21 rfl) (by decide) (by decide) rfl) ?_
  refine sy_Fw (i := 15) (x := (1, 1, 32, (mq Mk Bh 9))) hw (by decide) (sy_bas (i := 8) xc37_56 (wh_at hw 15 rfl) rfl (by decide) (by decide) rfl sy_refl) ?_
  intro w hw
  simp only [List.set_cons_zero, List.set_cons_succ] at hw
  refine sy_Fs (sx_iinc (c := 1) (z := 9) (ls' := [(2, pl 10, 0), (2, pl 21, 0), (0, 0, 0), (0, 9, 0)]) xc37_57 rfl (by decide) (by rw [xl37]; rfl) rfl (by decide) rfl) ?_
  refine sy_Fs (sy_goto (pc' := 24) xc37_60 (by decide) (by decide) sy_refl) ?_
  refine sy_Fs (sy_ildn xc37_24 rfl rfl sy_refl) ?_
  refine sy_Fs (sy_bipush (v := 32) xc37_25 (by decide) (by decide) sy_refl) ?_
  refine sy_Fs (sy_ge_f xc37_27 (by decide) (by decide) (by decide) sy_refl) ?_
  refine sy_Fs (sy_aldn xc37_30 rfl rfl sy_refl) ?_
  refine sy_Fs (sy_gf xc37_31 xf37_25 rfl (wh_at hw 10 rfl) rfl (fh_at hX10 6 rfl rfl) sy_refl) ?_
  refine sy_Fs (sy_ildn xc37_34 rfl rfl sy_refl) ?_
  refine sy_Fs (sy_ildn xc37_35 rfl rfl sy_refl) ?_
  refine sy_Fs (sy_iflt_f xc37_36 (by decide) (by decide) sy_refl) ?_
  refine sy_Fs (sy_ildn xc37_39 rfl rfl sy_refl) ?_
  refine sy_Fs (sy_aldn xc37_40 rfl rfl sy_refl) ?_
  refine sy_Fs (sy_alen xc37_41 (wh_at hw 21 rfl) rfl sy_refl) ?_
  refine sy_Fs (sy_ildn xc37_42 rfl rfl sy_refl) ?_
  refine sy_Fs (sx_isub (z := 96) xc37_43 (by decide)) ?_
  refine sy_Fs (sy_icmplt_t (pc' := 51) xc37_44 (by decide) (by decide) (by decide) (by decide) sy_refl) ?_
  refine sy_Fs (sy_aldn xc37_51 rfl rfl sy_refl) ?_
  refine sy_Fs (sy_ildn xc37_52 rfl rfl sy_refl) ?_
  refine sy_Fs (sy_ildn xc37_53 rfl rfl sy_refl) ?_
  refine sy_Fs (sx_iadd (z := 9) xc37_54 (by decide)) ?_
  refine sy_Fs (sx_bal (z := (mv_rd 32 Bh 9)) xc37_55 (wh_at hw 21 rfl) (by decide) (by decide) rfl) ?_
  refine sy_Fw (i := 15) (x := (1, 1, 32, (mq Mk Bh 10))) hw (by decide) (sy_bas (i := 9) xc37_56 (wh_at hw 15 rfl) rfl (by decide) (by decide) rfl sy_refl) ?_
  intro w hw
  simp only [List.set_cons_zero, List.set_cons_succ] at hw
  refine sy_Fs (sx_iinc (c := 1) (z := 10) (ls' := [(2, pl 10, 0), (2, pl 21, 0), (0, 0, 0), (0, 10, 0)]) xc37_57 rfl (by decide) (by rw [xl37]; rfl) rfl (by decide) rfl) ?_
  refine sy_Fs (sy_goto (pc' := 24) xc37_60 (by decide) (by decide) sy_refl) ?_
  refine sy_Fs (sy_ildn xc37_24 rfl rfl sy_refl) ?_
  refine sy_Fs (sy_bipush (v := 32) xc37_25 (by decide) (by decide) sy_refl) ?_
  refine sy_Fs (sy_ge_f xc37_27 (by decide) (by decide) (by decide) sy_refl) ?_
  refine sy_Fs (sy_aldn xc37_30 rfl rfl sy_refl) ?_
  refine sy_Fs (sy_gf xc37_31 xf37_25 rfl (wh_at hw 10 rfl) rfl (fh_at hX10 6 rfl rfl) sy_refl) ?_
  refine sy_Fs (sy_ildn xc37_34 rfl rfl sy_refl) ?_
  refine sy_Fs (sy_ildn xc37_35 rfl rfl sy_refl) ?_
  refine sy_Fs (sy_iflt_f xc37_36 (by decide) (by decide) sy_refl) ?_
  refine sy_Fs (sy_ildn xc37_39 rfl rfl sy_refl) ?_
  refine sy_Fs (sy_aldn xc37_40 rfl rfl sy_refl) ?_
  refine sy_Fs (sy_alen xc37_41 (wh_at hw 21 rfl) rfl sy_refl) ?_
  refine sy_Fs (sy_ildn xc37_42 rfl rfl sy_refl) ?_
  refine sy_Fs (sx_isub (z := 95) xc37_43 (by decide)) ?_
  refine sy_Fs (sy_icmplt_t (pc' := 51) xc37_44 (by decide) (by decide) (by decide) (by decide) sy_refl) ?_
  refine sy_Fs (sy_aldn xc37_51 rfl rfl sy_refl) ?_
  refine sy_Fs (sy_ildn xc37_52 rfl rfl sy_refl) ?_
  refine sy_Fs (sy_ildn xc37_53 rfl rfl sy_refl) ?_
  refine sy_Fs (sx_iadd (z := 10) xc37_54 (by decide)) ?_
  refine sy_Fs (sx_bal (z := (mv_rd 32 Bh 10)) xc37_55 (wh_at hw 21 rfl) (by decide) (by decide) rfl) ?_
  refine sy_Fw (i := 15) (x := (1, 1, 32, (mq Mk Bh 11))) hw (by decide) (sy_bas (i := 10) xc37_56 (wh_at hw 15 rfl) rfl (by decide) (by decide) rfl sy_refl) ?_
  intro w hw
  simp only [List.set_cons_zero, List.set_cons_succ] at hw
  refine sy_Fs (sx_iinc (c := 1) (z := 11) (ls' := [(2, pl 10, 0), (2, pl 21, 0), (0, 0, 0), (0, 11, 0)]) xc37_57 rfl (by decide) (by rw [xl37]; rfl) rfl (by decide) rfl) ?_
  refine sy_Fs (sy_goto (pc' := 24) xc37_60 (by decide) (by decide) sy_refl) ?_
  refine sy_Fs (sy_ildn xc37_24 rfl rfl sy_refl) ?_
  refine sy_Fs (sy_bipush (v := 32) xc37_25 (by decide) (by decide) sy_refl) ?_
  refine sy_Fs (sy_ge_f xc37_27 (by decide) (by decide) (by decide) sy_refl) ?_
  refine sy_Fs (sy_aldn xc37_30 rfl rfl sy_refl) ?_
  refine sy_Fs (sy_gf xc37_31 xf37_25 rfl (wh_at hw 10 rfl) rfl (fh_at hX10 6 rfl rfl) sy_refl) ?_
  refine sy_Fs (sy_ildn xc37_34 rfl rfl sy_refl) ?_
  refine sy_Fs (sy_ildn xc37_35 rfl rfl sy_refl) ?_
  refine sy_Fs (sy_iflt_f xc37_36 (by decide) (by decide) sy_refl) ?_
  refine sy_Fs (sy_ildn xc37_39 rfl rfl sy_refl) ?_
  refine sy_Fs (sy_aldn xc37_40 rfl rfl sy_refl) ?_
  refine sy_Fs (sy_alen xc37_41 (wh_at hw 21 rfl) rfl sy_refl) ?_
  refine sy_Fs (sy_ildn xc37_42 rfl rfl sy_refl) ?_
  refine sy_Fs (sx_isub (z := 94) xc37_43 (by decide)) ?_
  refine sy_Fs (sy_icmplt_t (pc' := 51) xc37_44 (by decide) (by decide) (by decide) (by decide) sy_refl) ?_
  refine sy_Fs (sy_aldn xc37_51 rfl rfl sy_refl) ?_
  refine sy_Fs (sy_ildn xc37_52 rfl rfl sy_refl) ?_
  refine sy_Fs (sy_ildn xc37_53 rfl rfl sy_refl) ?_
  refine sy_Fs (sx_iadd (z := 11) xc37_54 (by decide)) ?_
  refine sy_Fs (sx_bal (z := (mv_rd 32 Bh 11)) xc37_55 (wh_at hw 21 rfl) (by decide) (by decide) rfl) ?_
  refine sy_Fw (i := 15) (x := (1, 1, 32, (mq Mk Bh 12))) hw (by decide) (sy_bas (i := 11) xc37_56 (wh_at hw 15 rfl) rfl (by decide) (by decide) rfl sy_refl) ?_
  intro w hw
  simp only [List.set_cons_zero, List.set_cons_succ] at hw
  refine sy_Fs (sx_iinc (c := 1) (z := 12) (ls' := [(2, pl 10, 0), (2, pl 21, 0), (0, 0, 0), (0, 12, 0)]) xc37_57 rfl (by decide) (by rw [xl37]; rfl) rfl (by decide) rfl) ?_
  refine sy_Fs (sy_goto (pc' := 24) xc37_60 (by decide) (by decide) sy_refl) ?_
  refine sy_Fs (sy_ildn xc37_24 rfl rfl sy_refl) ?_
  refine sy_Fs (sy_bipush (v := 32) xc37_25 (by decide) (by decide) sy_refl) ?_
  refine sy_Fs (sy_ge_f xc37_27 (by decide) (by decide) (by decide) sy_refl) ?_
  refine sy_Fs (sy_aldn xc37_30 rfl rfl sy_refl) ?_
  refine sy_Fs (sy_gf xc37_31 xf37_25 rfl (wh_at hw 10 rfl) rfl (fh_at hX10 6 rfl rfl) sy_refl) ?_
  refine sy_Fs (sy_ildn xc37_34 rfl rfl sy_refl) ?_
  refine sy_Fs (sy_ildn xc37_35 rfl rfl sy_refl) ?_
  refine sy_Fs (sy_iflt_f xc37_36 (by decide) (by decide) sy_refl) ?_
  refine sy_Fs (sy_ildn xc37_39 rfl rfl sy_refl) ?_
  refine sy_Fs (sy_aldn xc37_40 rfl rfl sy_refl) ?_
  refine sy_Fs (sy_alen xc37_41 (wh_at hw 21 rfl) rfl sy_refl) ?_
  refine sy_Fs (sy_ildn xc37_42 rfl rfl sy_refl) ?_
  refine sy_Fs (sx_isub (z := 93) xc37_43 (by decide)) ?_
  refine sy_Fs (sy_icmplt_t (pc' := 51) xc37_44 (by decide) (by decide) (by decide) (by decide) sy_refl) ?_
  refine sy_Fs (sy_aldn xc37_51 rfl rfl sy_refl) ?_
  refine sy_Fs (sy_ildn xc37_52 rfl rfl sy_refl) ?_
  refine sy_Fs (sy_ildn xc37_53 rfl rfl sy_refl) ?_
  refine sy_Fs (sx_iadd (z := 12) xc37_54 (by decide)) ?_
  refine sy_Fs (sx_bal (z := (mv_rd 32 Bh 12)) xc37_55 (wh_at hw 21 rfl) (by decide) (by decide) rfl) ?_
  refine sy_Fw (i := 15) (x := (1, 1, 32, (mq Mk Bh 13))) hw (by decide) (sy_bas (i := 12) xc37_56 (wh_at hw 15 rfl) rfl (by decide) (by decide) rfl sy_refl) ?_
  intro w hw
  simp only [List.set_cons_zero, List.set_cons_succ] at hw
  refine sy_Fs (sx_iinc (c := 1) (z := 13) (ls' := [(2, pl 10, 0), (2, pl 21, 0), (0, 0, 0), (0, 13, 0)]) xc37_57 rfl (by decide) (by rw [xl37]; rfl) rfl (by decide) rfl) ?_
  refine sy_Fs (sy_goto (pc' := 24) xc37_60 (by decide) (by decide) sy_refl) ?_
  refine sy_Fs (sy_ildn xc37_24 rfl rfl sy_refl) ?_
  refine sy_Fs (sy_bipush (v := 32) xc37_25 (by decide) (by decide) sy_refl) ?_
  refine sy_Fs (sy_ge_f xc37_27 (by decide) (by decide) (by decide) sy_refl) ?_
  refine sy_Fs (sy_aldn xc37_30 rfl rfl sy_refl) ?_
  refine sy_Fs (sy_gf xc37_31 xf37_25 rfl (wh_at hw 10 rfl) rfl (fh_at hX10 6 rfl rfl) sy_refl) ?_
  refine sy_Fs (sy_ildn xc37_34 rfl rfl sy_refl) ?_
  refine sy_Fs (sy_ildn xc37_35 rfl rfl sy_refl) ?_
  refine sy_Fs (sy_iflt_f xc37_36 (by decide) (by decide) sy_refl) ?_
  refine sy_Fs (sy_ildn xc37_39 rfl rfl sy_refl) ?_
  refine sy_Fs (sy_aldn xc37_40 rfl rfl sy_refl) ?_
  refine sy_Fs (sy_alen xc37_41 (wh_at hw 21 rfl) rfl sy_refl) ?_
  refine sy_Fs (sy_ildn xc37_42 rfl rfl sy_refl) ?_
  refine sy_Fs (sx_isub (z := 92) xc37_43 (by decide)) ?_
  refine sy_Fs (sy_icmplt_t (pc' := 51) xc37_44 (by decide) (by decide) (by decide) (by decide) sy_refl) ?_
  refine sy_Fs (sy_aldn xc37_51 rfl rfl sy_refl) ?_
  refine sy_Fs (sy_ildn xc37_52 rfl rfl sy_refl) ?_
  refine sy_Fs (sy_ildn xc37_53 rfl rfl sy_refl) ?_
  refine sy_Fs (sx_iadd (z := 13) xc37_54 (by decide)) ?_
  refine sy_Fs (sx_bal (z := (mv_rd 32 Bh 13)) xc37_55 (wh_at hw 21 rfl) (by decide) (by decide) rfl) ?_
  refine sy_Fw (i := 15) (x := (1, 1, 32, (mq Mk Bh 14))) hw (by decide) (sy_bas (i := 13) xc37_56 (wh_at hw 15 rfl) rfl (by decide) (by decide) rfl sy_refl) ?_
  intro w hw
  simp only [List.set_cons_zero, List.set_cons_succ] at hw
  refine sy_Fs (sx_iinc (c := 1) (z := 14) (ls' := [(2, pl 10, 0), (2, pl 21, 0), (0, 0, 0), (0, 14, 0)]) xc37_57 rfl (by decide) (by rw [xl37]; rfl) rfl (by decide) rfl) ?_
  refine sy_Fs (sy_goto (pc' := 24) xc37_60 (by decide) (by decide) sy_refl) ?_
  refine sy_Fs (sy_ildn xc37_24 rfl rfl sy_refl) ?_
  refine sy_Fs (sy_bipush (v := 32) xc37_25 (by decide) (by decide) sy_refl) ?_
  refine sy_Fs (sy_ge_f xc37_27 (by decide) (by decide) (by decide) sy_refl) ?_
  refine sy_Fs (sy_aldn xc37_30 rfl rfl sy_refl) ?_
  refine sy_Fs (sy_gf xc37_31 xf37_25 rfl (wh_at hw 10 rfl) rfl (fh_at hX10 6 rfl rfl) sy_refl) ?_
  refine sy_Fs (sy_ildn xc37_34 rfl rfl sy_refl) ?_
  refine sy_Fs (sy_ildn xc37_35 rfl rfl sy_refl) ?_
  refine sy_Fs (sy_iflt_f xc37_36 (by decide) (by decide) sy_refl) ?_
  refine sy_Fs (sy_ildn xc37_39 rfl rfl sy_refl) ?_
  refine sy_Fs (sy_aldn xc37_40 rfl rfl sy_refl) ?_
  refine sy_Fs (sy_alen xc37_41 (wh_at hw 21 rfl) rfl sy_refl) ?_
  refine sy_Fs (sy_ildn xc37_42 rfl rfl sy_refl) ?_
  refine sy_Fs (sx_isub (z := 91) xc37_43 (by decide)) ?_
  refine sy_Fs (sy_icmplt_t (pc' := 51) xc37_44 (by decide) (by decide) (by decide) (by decide) sy_refl) ?_
  refine sy_Fs (sy_aldn xc37_51 rfl rfl sy_refl) ?_
  refine sy_Fs (sy_ildn xc37_52 rfl rfl sy_refl) ?_
  refine sy_Fs (sy_ildn xc37_53 rfl rfl sy_refl) ?_
  refine sy_Fs (sx_iadd (z := 14) xc37_54 (by decide)) ?_
  refine sy_Fs (sx_bal (z := (mv_rd 32 Bh 14)) xc37_55 (wh_at hw 21 rfl) (by decide) (by decide) rfl) ?_
  refine sy_Fw (i := 15) (x := (1, 1, 32, (mq Mk Bh 15))) hw (by decide) (sy_bas (i := 14) xc37_56 (wh_at hw 15 rfl) rfl (by decide) (by decide) rfl sy_refl) ?_
  intro w hw
  simp only [List.set_cons_zero, List.set_cons_succ] at hw
  refine sy_Fs (sx_iinc (c := 1) (z := 15) (ls' := [(2, pl 10, 0), (2, pl 21, 0), (0, 0, 0), (0, 15, 0)]) xc37_57 rfl (by decide) (by rw [xl37]; rfl) rfl (by decide) rfl) ?_
  refine sy_Fs (sy_goto (pc' := 24) xc37_60 (by decide) (by decide) sy_refl) ?_
  refine sy_Fs (sy_ildn xc37_24 rfl rfl sy_refl) ?_
  refine sy_Fs (sy_bipush (v := 32) xc37_25 (by decide) (by decide) sy_refl) ?_
  refine sy_Fs (sy_ge_f xc37_27 (by decide) (by decide) (by decide) sy_refl) ?_
  refine sy_Fs (sy_aldn xc37_30 rfl rfl sy_refl) ?_
  refine sy_Fs (sy_gf xc37_31 xf37_25 rfl (wh_at hw 10 rfl) rfl (fh_at hX10 6 rfl rfl) sy_refl) ?_
  refine sy_Fs (sy_ildn xc37_34 rfl rfl sy_refl) ?_
  refine sy_Fs (sy_ildn xc37_35 rfl rfl sy_refl) ?_
  refine sy_Fs (sy_iflt_f xc37_36 (by decide) (by decide) sy_refl) ?_
  refine sy_Fs (sy_ildn xc37_39 rfl rfl sy_refl) ?_
  refine sy_Fs (sy_aldn xc37_40 rfl rfl sy_refl) ?_
  refine sy_Fs (sy_alen xc37_41 (wh_at hw 21 rfl) rfl sy_refl) ?_
  refine sy_Fs (sy_ildn xc37_42 rfl rfl sy_refl) ?_
  refine sy_Fs (sx_isub (z := 90) xc37_43 (by decide)) ?_
  refine sy_Fs (sy_icmplt_t (pc' := 51) xc37_44 (by decide) (by decide) (by decide) (by decide) sy_refl) ?_
  refine sy_Fs (sy_aldn xc37_51 rfl rfl sy_refl) ?_
  refine sy_Fs (sy_ildn xc37_52 rfl rfl sy_refl) ?_
  refine sy_Fs (sy_ildn xc37_53 rfl rfl sy_refl) ?_
  refine sy_Fs (sx_iadd (z := 15) xc37_54 (by decide)) ?_
  refine sy_Fs (sx_bal (z := (mv_rd 32 Bh 15)) xc37_55 (wh_at hw 21 rfl) (by decide) (by decide) rfl) ?_
  refine sy_Fw (i := 15) (x := (1, 1, 32, (mq Mk Bh 16))) hw (by decide) (sy_bas (i := 15) xc37_56 (wh_at hw 15 rfl) rfl (by decide) (by decide) rfl sy_refl) ?_
  intro w hw
  simp only [List.set_cons_zero, List.set_cons_succ] at hw
  refine sy_Fs (sx_iinc (c := 1) (z := 16) (ls' := [(2, pl 10, 0), (2, pl 21, 0), (0, 0, 0), (0, 16, 0)]) xc37_57 rfl (by decide) (by rw [xl37]; rfl) rfl (by decide) rfl) ?_
  refine sy_Fs (sy_goto (pc' := 24) xc37_60 (by decide) (by decide) sy_refl) ?_
  refine sy_Fs (sy_ildn xc37_24 rfl rfl sy_refl) ?_
  refine sy_Fs (sy_bipush (v := 32) xc37_25 (by decide) (by decide) sy_refl) ?_
  refine sy_Fs (sy_ge_f xc37_27 (by decide) (by decide) (by decide) sy_refl) ?_
  refine sy_Fs (sy_aldn xc37_30 rfl rfl sy_refl) ?_
  refine sy_Fs (sy_gf xc37_31 xf37_25 rfl (wh_at hw 10 rfl) rfl (fh_at hX10 6 rfl rfl) sy_refl) ?_
  refine sy_Fs (sy_ildn xc37_34 rfl rfl sy_refl) ?_
  refine sy_Fs (sy_ildn xc37_35 rfl rfl sy_refl) ?_
  refine sy_Fs (sy_iflt_f xc37_36 (by decide) (by decide) sy_refl) ?_
  refine sy_Fs (sy_ildn xc37_39 rfl rfl sy_refl) ?_
  refine sy_Fs (sy_aldn xc37_40 rfl rfl sy_refl) ?_
  refine sy_Fs (sy_alen xc37_41 (wh_at hw 21 rfl) rfl sy_refl) ?_
  refine sy_Fs (sy_ildn xc37_42 rfl rfl sy_refl) ?_
  refine sy_Fs (sx_isub (z := 89) xc37_43 (by decide)) ?_
  refine sy_Fs (sy_icmplt_t (pc' := 51) xc37_44 (by decide) (by decide) (by decide) (by decide) sy_refl) ?_
  refine sy_Fs (sy_aldn xc37_51 rfl rfl sy_refl) ?_
  refine sy_Fs (sy_ildn xc37_52 rfl rfl sy_refl) ?_
  refine sy_Fs (sy_ildn xc37_53 rfl rfl sy_refl) ?_
  refine sy_Fs (sx_iadd (z := 16) xc37_54 (by decide)) ?_
  refine sy_Fs (sx_bal (z := (mv_rd 32 Bh 16)) xc37_55 (wh_at hw 21 rfl) (by decide) (by decide) rfl) ?_
  refine sy_Fw (i := 15) (x := (1, 1, 32, (mq Mk Bh 17))) hw (by decide) (sy_bas (i := 16) xc37_56 (wh_at hw 15 rfl) rfl (by decide) (by decide) rfl sy_refl) ?_
  intro w hw
  simp only [List.set_cons_zero, List.set_cons_succ] at hw
  refine sy_Fs (sx_iinc (c := 1) (z := 17) (ls' := [(2, pl 10, 0), (2, pl 21, 0), (0, 0, 0), (0, 17, 0)]) xc37_57 rfl (by decide) (by rw [xl37]; rfl) rfl (by decide) rfl) ?_
  refine sy_Fs (sy_goto (pc' := 24) xc37_60 (by decide) (by decide) sy_refl) ?_
  refine sy_Fs (sy_ildn xc37_24 rfl rfl sy_refl) ?_
  refine sy_Fs (sy_bipush (v := 32) xc37_25 (by decide) (by decide) sy_refl) ?_
  refine sy_Fs (sy_ge_f xc37_27 (by decide) (by decide) (by decide) sy_refl) ?_
  refine sy_Fs (sy_aldn xc37_30 rfl rfl sy_refl) ?_
  refine sy_Fs (sy_gf xc37_31 xf37_25 rfl (wh_at hw 10 rfl) rfl (fh_at hX10 6 rfl rfl) sy_refl) ?_
  refine sy_Fs (sy_ildn xc37_34 rfl rfl sy_refl) ?_
  refine sy_Fs (sy_ildn xc37_35 rfl rfl sy_refl) ?_
  refine sy_Fs (sy_iflt_f xc37_36 (by decide) (by decide) sy_refl) ?_
  refine sy_Fs (sy_ildn xc37_39 rfl rfl sy_refl) ?_
  refine sy_Fs (sy_aldn xc37_40 rfl rfl sy_refl) ?_
  refine sy_Fs (sy_alen xc37_41 (wh_at hw 21 rfl) rfl sy_refl) ?_
  refine sy_Fs (sy_ildn xc37_42 rfl rfl sy_refl) ?_
  refine sy_Fs (sx_isub (z := 88) xc37_43 (by decide)) ?_
  refine sy_Fs (sy_icmplt_t (pc' := 51) xc37_44 (by decide) (by decide) (by decide) (by decide) sy_refl) ?_
  refine sy_Fs (sy_aldn xc37_51 rfl rfl sy_refl) ?_
  refine sy_Fs (sy_ildn xc37_52 rfl rfl sy_refl) ?_
  refine sy_Fs (sy_ildn xc37_53 rfl rfl sy_refl) ?_
  refine sy_Fs (sx_iadd (z := 17) xc37_54 (by decide)) ?_
  refine sy_Fs (sx_bal (z := (mv_rd 32 Bh 17)) xc37_55 (wh_at hw 21 rfl) (by decide) (by decide) rfl) ?_
  refine sy_Fw (i := 15) (x := (1, 1, 32, (mq Mk Bh 18))) hw (by decide) (sy_bas (i := 17) xc37_56 (wh_at hw 15 rfl) rfl (by decide) (by decide) rfl sy_refl) ?_
  intro w hw
  simp only [List.set_cons_zero, List.set_cons_succ] at hw
  refine sy_Fs (sx_iinc (c := 1) (z := 18) (ls' := [(2, pl 10, 0), (2, pl 21, 0), (0, 0, 0), (0, 18, 0)]) xc37_57 rfl (by decide) (by rw [xl37]; rfl) rfl (by decide) rfl) ?_
  refine sy_Fs (sy_goto (pc' := 24) xc37_60 (by decide) (by decide) sy_refl) ?_
  refine sy_Fs (sy_ildn xc37_24 rfl rfl sy_refl) ?_
  refine sy_Fs (sy_bipush (v := 32) xc37_25 (by decide) (by decide) sy_refl) ?_
  refine sy_Fs (sy_ge_f xc37_27 (by decide) (by decide) (by decide) sy_refl) ?_
  refine sy_Fs (sy_aldn xc37_30 rfl rfl sy_refl) ?_
  refine sy_Fs (sy_gf xc37_31 xf37_25 rfl (wh_at hw 10 rfl) rfl (fh_at hX10 6 rfl rfl) sy_refl) ?_
  refine sy_Fs (sy_ildn xc37_34 rfl rfl sy_refl) ?_
  refine sy_Fs (sy_ildn xc37_35 rfl rfl sy_refl) ?_
  refine sy_Fs (sy_iflt_f xc37_36 (by decide) (by decide) sy_refl) ?_
  refine sy_Fs (sy_ildn xc37_39 rfl rfl sy_refl) ?_
  refine sy_Fs (sy_aldn xc37_40 rfl rfl sy_refl) ?_
  refine sy_Fs (sy_alen xc37_41 (wh_at hw 21 rfl) rfl sy_refl) ?_
  refine sy_Fs (sy_ildn xc37_42 rfl rfl sy_refl) ?_
  refine sy_Fs (sx_isub (z := 87) xc37_43 (by decide)) ?_
  refine sy_Fs (sy_icmplt_t (pc' := 51) xc37_44 (by decide) (by decide) (by decide) (by decide) sy_refl) ?_
  refine sy_Fs (sy_aldn xc37_51 rfl rfl sy_refl) ?_
  refine sy_Fs (sy_ildn xc37_52 rfl rfl sy_refl) ?_
  refine sy_Fs (sy_ildn xc37_53 rfl rfl sy_refl) ?_
  refine sy_Fs (sx_iadd (z := 18) xc37_54 (by decide)) ?_
  refine sy_Fs (sx_bal (z := (mv_rd 32 Bh 18)) xc37_55 (wh_at hw 21 rfl) (by decide) (by decide) rfl) ?_
  refine sy_Fw (i := 15) (x := (1, 1, 32, (mq Mk Bh 19))) hw (by decide) (sy_bas (i := 18) xc37_56 (wh_at hw 15 rfl) rfl (by decide) (by decide) rfl sy_refl) ?_
  intro w hw
  simp only [List.set_cons_zero, List.set_cons_succ] at hw
  refine sy_Fs (sx_iinc (c := 1) (z := 19) (ls' := [(2, pl 10, 0), (2, pl 21, 0), (0, 0, 0), (0, 19, 0)]) xc37_57 rfl (by decide) (by rw [xl37]; rfl) rfl (by decide) rfl) ?_
  refine sy_Fs (sy_goto (pc' := 24) xc37_60 (by decide) (by decide) sy_refl) ?_
  refine sy_Fs (sy_ildn xc37_24 rfl rfl sy_refl) ?_
  refine sy_Fs (sy_bipush (v := 32) xc37_25 (by decide) (by decide) sy_refl) ?_
  refine sy_Fs (sy_ge_f xc37_27 (by decide) (by decide) (by decide) sy_refl) ?_
  refine sy_Fs (sy_aldn xc37_30 rfl rfl sy_refl) ?_
  refine sy_Fs (sy_gf xc37_31 xf37_25 rfl (wh_at hw 10 rfl) rfl (fh_at hX10 6 rfl rfl) sy_refl) ?_
  refine sy_Fs (sy_ildn xc37_34 rfl rfl sy_refl) ?_
  refine sy_Fs (sy_ildn xc37_35 rfl rfl sy_refl) ?_
  refine sy_Fs (sy_iflt_f xc37_36 (by decide) (by decide) sy_refl) ?_
  refine sy_Fs (sy_ildn xc37_39 rfl rfl sy_refl) ?_
  refine sy_Fs (sy_aldn xc37_40 rfl rfl sy_refl) ?_
  refine sy_Fs (sy_alen xc37_41 (wh_at hw 21 rfl) rfl sy_refl) ?_
  refine sy_Fs (sy_ildn xc37_42 rfl rfl sy_refl) ?_
  refine sy_Fs (sx_isub (z := 86) xc37_43 (by decide)) ?_
  refine sy_Fs (sy_icmplt_t (pc' := 51) xc37_44 (by decide) (by decide) (by decide) (by decide) sy_refl) ?_
  refine sy_Fs (sy_aldn xc37_51 rfl rfl sy_refl) ?_
  refine sy_Fs (sy_ildn xc37_52 rfl rfl sy_refl) ?_
  refine sy_Fs (sy_ildn xc37_53 rfl rfl sy_refl) ?_
  refine sy_Fs (sx_iadd (z := 19) xc37_54 (by decide)) ?_
  refine sy_Fs (sx_bal (z := (mv_rd 32 Bh 19)) xc37_55 (wh_at hw 21 rfl) (by decide) (by decide) rfl) ?_
  refine sy_Fw (i := 15) (x := (1, 1, 32, (mq Mk Bh 20))) hw (by decide) (sy_bas (i := 19) xc37_56 (wh_at hw 15 rfl) rfl (by decide) (by decide) rfl sy_refl) ?_
  intro w hw
  simp only [List.set_cons_zero, List.set_cons_succ] at hw
  refine sy_Fs (sx_iinc (c := 1) (z := 20) (ls' := [(2, pl 10, 0), (2, pl 21, 0), (0, 0, 0), (0, 20, 0)]) xc37_57 rfl (by decide) (by rw [xl37]; rfl) rfl (by decide) rfl) ?_
  refine sy_Fs (sy_goto (pc' := 24) xc37_60 (by decide) (by decide) sy_refl) ?_
  refine sy_Fs (sy_ildn xc37_24 rfl rfl sy_refl) ?_
  refine sy_Fs (sy_bipush (v := 32) xc37_25 (by decide) (by decide) sy_refl) ?_
  refine sy_Fs (sy_ge_f xc37_27 (by decide) (by decide) (by decide) sy_refl) ?_
  refine sy_Fs (sy_aldn xc37_30 rfl rfl sy_refl) ?_
  refine sy_Fs (sy_gf xc37_31 xf37_25 rfl (wh_at hw 10 rfl) rfl (fh_at hX10 6 rfl rfl) sy_refl) ?_
  refine sy_Fs (sy_ildn xc37_34 rfl rfl sy_refl) ?_
  refine sy_Fs (sy_ildn xc37_35 rfl rfl sy_refl) ?_
  refine sy_Fs (sy_iflt_f xc37_36 (by decide) (by decide) sy_refl) ?_
  refine sy_Fs (sy_ildn xc37_39 rfl rfl sy_refl) ?_
  refine sy_Fs (sy_aldn xc37_40 rfl rfl sy_refl) ?_
  refine sy_Fs (sy_alen xc37_41 (wh_at hw 21 rfl) rfl sy_refl) ?_
  refine sy_Fs (sy_ildn xc37_42 rfl rfl sy_refl) ?_
  refine sy_Fs (sx_isub (z := 85) xc37_43 (by decide)) ?_
  refine sy_Fs (sy_icmplt_t (pc' := 51) xc37_44 (by decide) (by decide) (by decide) (by decide) sy_refl) ?_
  refine sy_Fs (sy_aldn xc37_51 rfl rfl sy_refl) ?_
  refine sy_Fs (sy_ildn xc37_52 rfl rfl sy_refl) ?_
  refine sy_Fs (sy_ildn xc37_53 rfl rfl sy_refl) ?_
  refine sy_Fs (sx_iadd (z := 20) xc37_54 (by decide)) ?_
  refine sy_Fs (sx_bal (z := (mv_rd 32 Bh 20)) xc37_55 (wh_at hw 21 rfl) (by decide) (by decide) rfl) ?_
  refine sy_Fw (i := 15) (x := (1, 1, 32, (mq Mk Bh 21))) hw (by decide) (sy_bas (i := 20) xc37_56 (wh_at hw 15 rfl) rfl (by decide) (by decide) rfl sy_refl) ?_
  intro w hw
  simp only [List.set_cons_zero, List.set_cons_succ] at hw
  refine sy_Fs (sx_iinc (c := 1) (z := 21) (ls' := [(2, pl 10, 0), (2, pl 21, 0), (0, 0, 0), (0, 21, 0)]) xc37_57 rfl (by decide) (by rw [xl37]; rfl) rfl (by decide) rfl) ?_
  refine sy_Fs (sy_goto (pc' := 24) xc37_60 (by decide) (by decide) sy_refl) ?_
  refine sy_Fs (sy_ildn xc37_24 rfl rfl sy_refl) ?_
  refine sy_Fs (sy_bipush (v := 32) xc37_25 (by decide) (by decide) sy_refl) ?_
  refine sy_Fs (sy_ge_f xc37_27 (by decide) (by decide) (by decide) sy_refl) ?_
  refine sy_Fs (sy_aldn xc37_30 rfl rfl sy_refl) ?_
  refine sy_Fs (sy_gf xc37_31 xf37_25 rfl (wh_at hw 10 rfl) rfl (fh_at hX10 6 rfl rfl) sy_refl) ?_
  refine sy_Fs (sy_ildn xc37_34 rfl rfl sy_refl) ?_
  refine sy_Fs (sy_ildn xc37_35 rfl rfl sy_refl) ?_
  refine sy_Fs (sy_iflt_f xc37_36 (by decide) (by decide) sy_refl) ?_
  refine sy_Fs (sy_ildn xc37_39 rfl rfl sy_refl) ?_
  refine sy_Fs (sy_aldn xc37_40 rfl rfl sy_refl) ?_
  refine sy_Fs (sy_alen xc37_41 (wh_at hw 21 rfl) rfl sy_refl) ?_
  refine sy_Fs (sy_ildn xc37_42 rfl rfl sy_refl) ?_
  refine sy_Fs (sx_isub (z := 84) xc37_43 (by decide)) ?_
  refine sy_Fs (sy_icmplt_t (pc' := 51) xc37_44 (by decide) (by decide) (by decide) (by decide) sy_refl) ?_
  refine sy_Fs (sy_aldn xc37_51 rfl rfl sy_refl) ?_
  refine sy_Fs (sy_ildn xc37_52 rfl rfl sy_refl) ?_
  refine sy_Fs (sy_ildn xc37_53 rfl rfl sy_refl) ?_
  refine sy_Fs (sx_iadd (z := 21) xc37_54 (by decide)) ?_
  refine sy_Fs (sx_bal (z := (mv_rd 32 Bh 21)) xc37_55 (wh_at hw 21 rfl) (by decide) (by decide) rfl) ?_
  refine sy_Fw (i := 15) (x := (1, 1, 32, (mq Mk Bh 22))) hw (by decide) (sy_bas (i := 21) xc37_56 (wh_at hw 15 rfl) rfl (by decide) (by decide) rfl sy_refl) ?_
  intro w hw
  simp only [List.set_cons_zero, List.set_cons_succ] at hw
  refine sy_Fs (sx_iinc (c := 1) (z := 22) (ls' := [(2, pl 10, 0), (2, pl 21, 0), (0, 0, 0), (0, 22, 0)]) xc37_57 rfl (by decide) (by rw [xl37]; rfl) rfl (by decide) rfl) ?_
  refine sy_Fs (sy_goto (pc' := 24) xc37_60 (by decide) (by decide) sy_refl) ?_
  refine sy_Fs (sy_ildn xc37_24 rfl rfl sy_refl) ?_
  refine sy_Fs (sy_bipush (v := 32) xc37_25 (by decide) (by decide) sy_refl) ?_
  refine sy_Fs (sy_ge_f xc37_27 (by decide) (by decide) (by decide) sy_refl) ?_
  refine sy_Fs (sy_aldn xc37_30 rfl rfl sy_refl) ?_
  refine sy_Fs (sy_gf xc37_31 xf37_25 rfl (wh_at hw 10 rfl) rfl (fh_at hX10 6 rfl rfl) sy_refl) ?_
  refine sy_Fs (sy_ildn xc37_34 rfl rfl sy_refl) ?_
  refine sy_Fs (sy_ildn xc37_35 rfl rfl sy_refl) ?_
  refine sy_Fs (sy_iflt_f xc37_36 (by decide) (by decide) sy_refl) ?_
  refine sy_Fs (sy_ildn xc37_39 rfl rfl sy_refl) ?_
  refine sy_Fs (sy_aldn xc37_40 rfl rfl sy_refl) ?_
  refine sy_Fs (sy_alen xc37_41 (wh_at hw 21 rfl) rfl sy_refl) ?_
  refine sy_Fs (sy_ildn xc37_42 rfl rfl sy_refl) ?_
  refine sy_Fs (sx_isub (z := 83) xc37_43 (by decide)) ?_
  refine sy_Fs (sy_icmplt_t (pc' := 51) xc37_44 (by decide) (by decide) (by decide) (by decide) sy_refl) ?_
  refine sy_Fs (sy_aldn xc37_51 rfl rfl sy_refl) ?_
  refine sy_Fs (sy_ildn xc37_52 rfl rfl sy_refl) ?_
  refine sy_Fs (sy_ildn xc37_53 rfl rfl sy_refl) ?_
  refine sy_Fs (sx_iadd (z := 22) xc37_54 (by decide)) ?_
  refine sy_Fs (sx_bal (z := (mv_rd 32 Bh 22)) xc37_55 (wh_at hw 21 rfl) (by decide) (by decide) rfl) ?_
  refine sy_Fw (i := 15) (x := (1, 1, 32, (mq Mk Bh 23))) hw (by decide) (sy_bas (i := 22) xc37_56 (wh_at hw 15 rfl) rfl (by decide) (by decide) rfl sy_refl) ?_
  intro w hw
  simp only [List.set_cons_zero, List.set_cons_succ] at hw
  refine sy_Fs (sx_iinc (c := 1) (z := 23) (ls' := [(2, pl 10, 0), (2, pl 21, 0), (0, 0, 0), (0, 23, 0)]) xc37_57 rfl (by decide) (by rw [xl37]; rfl) rfl (by decide) rfl) ?_
  refine sy_Fs (sy_goto (pc' := 24) xc37_60 (by decide) (by decide) sy_refl) ?_
  refine sy_Fs (sy_ildn xc37_24 rfl rfl sy_refl) ?_
  refine sy_Fs (sy_bipush (v := 32) xc37_25 (by decide) (by decide) sy_refl) ?_
  refine sy_Fs (sy_ge_f xc37_27 (by decide) (by decide) (by decide) sy_refl) ?_
  refine sy_Fs (sy_aldn xc37_30 rfl rfl sy_refl) ?_
  refine sy_Fs (sy_gf xc37_31 xf37_25 rfl (wh_at hw 10 rfl) rfl (fh_at hX10 6 rfl rfl) sy_refl) ?_
  refine sy_Fs (sy_ildn xc37_34 rfl rfl sy_refl) ?_
  refine sy_Fs (sy_ildn xc37_35 rfl rfl sy_refl) ?_
  refine sy_Fs (sy_iflt_f xc37_36 (by decide) (by decide) sy_refl) ?_
  refine sy_Fs (sy_ildn xc37_39 rfl rfl sy_refl) ?_
  refine sy_Fs (sy_aldn xc37_40 rfl rfl sy_refl) ?_
  refine sy_Fs (sy_alen xc37_41 (wh_at hw 21 rfl) rfl sy_refl) ?_
  refine sy_Fs (sy_ildn xc37_42 rfl rfl sy_refl) ?_
  refine sy_Fs (sx_isub (z := 82) xc37_43 (by decide)) ?_
  refine sy_Fs (sy_icmplt_t (pc' := 51) xc37_44 (by decide) (by decide) (by decide) (by decide) sy_refl) ?_
  refine sy_Fs (sy_aldn xc37_51 rfl rfl sy_refl) ?_
  refine sy_Fs (sy_ildn xc37_52 rfl rfl sy_refl) ?_
  refine sy_Fs (sy_ildn xc37_53 rfl rfl sy_refl) ?_
  refine sy_Fs (sx_iadd (z := 23) xc37_54 (by decide)) ?_
  refine sy_Fs (sx_bal (z := (mv_rd 32 Bh 23)) xc37_55 (wh_at hw 21 rfl) (by decide) (by decide) rfl) ?_
  refine sy_Fw (i := 15) (x := (1, 1, 32, (mq Mk Bh 24))) hw (by decide) (sy_bas (i := 23) xc37_56 (wh_at hw 15 rfl) rfl (by decide) (by decide) rfl sy_refl) ?_
  intro w hw
  simp only [List.set_cons_zero, List.set_cons_succ] at hw
  refine sy_Fs (sx_iinc (c := 1) (z := 24) (ls' := [(2, pl 10, 0), (2, pl 21, 0), (0, 0, 0), (0, 24, 0)]) xc37_57 rfl (by decide) (by rw [xl37]; rfl) rfl (by decide) rfl) ?_
  refine sy_Fs (sy_goto (pc' := 24) xc37_60 (by decide) (by decide) sy_refl) ?_
  refine sy_Fs (sy_ildn xc37_24 rfl rfl sy_refl) ?_
  refine sy_Fs (sy_bipush (v := 32) xc37_25 (by decide) (by decide) sy_refl) ?_
  refine sy_Fs (sy_ge_f xc37_27 (by decide) (by decide) (by decide) sy_refl) ?_
  refine sy_Fs (sy_aldn xc37_30 rfl rfl sy_refl) ?_
  refine sy_Fs (sy_gf xc37_31 xf37_25 rfl (wh_at hw 10 rfl) rfl (fh_at hX10 6 rfl rfl) sy_refl) ?_
  refine sy_Fs (sy_ildn xc37_34 rfl rfl sy_refl) ?_
  refine sy_Fs (sy_ildn xc37_35 rfl rfl sy_refl) ?_
  refine sy_Fs (sy_iflt_f xc37_36 (by decide) (by decide) sy_refl) ?_
  refine sy_Fs (sy_ildn xc37_39 rfl rfl sy_refl) ?_
  refine sy_Fs (sy_aldn xc37_40 rfl rfl sy_refl) ?_
  refine sy_Fs (sy_alen xc37_41 (wh_at hw 21 rfl) rfl sy_refl) ?_
  refine sy_Fs (sy_ildn xc37_42 rfl rfl sy_refl) ?_
  refine sy_Fs (sx_isub (z := 81) xc37_43 (by decide)) ?_
  refine sy_Fs (sy_icmplt_t (pc' := 51) xc37_44 (by decide) (by decide) (by decide) (by decide) sy_refl) ?_
  refine sy_Fs (sy_aldn xc37_51 rfl rfl sy_refl) ?_
  refine sy_Fs (sy_ildn xc37_52 rfl rfl sy_refl) ?_
  refine sy_Fs (sy_ildn xc37_53 rfl rfl sy_refl) ?_
  refine sy_Fs (sx_iadd (z := 24) xc37_54 (by decide)) ?_
  refine sy_Fs (sx_bal (z := (mv_rd 32 Bh 24)) xc37_55 (wh_at hw 21 rfl) (by decide) (by decide) rfl) ?_
  refine sy_Fw (i := 15) (x := (1, 1, 32, (mq Mk Bh 25))) hw (by decide) (sy_bas (i := 24) xc37_56 (wh_at hw 15 rfl) rfl (by decide) (by decide) rfl sy_refl) ?_
  intro w hw
  simp only [List.set_cons_zero, List.set_cons_succ] at hw
  refine sy_Fs (sx_iinc (c := 1) (z := 25) (ls' := [(2, pl 10, 0), (2, pl 21, 0), (0, 0, 0), (0, 25, 0)]) xc37_57 rfl (by decide) (by rw [xl37]; rfl) rfl (by decide) rfl) ?_
  refine sy_Fs (sy_goto (pc' := 24) xc37_60 (by decide) (by decide) sy_refl) ?_
  refine sy_Fs (sy_ildn xc37_24 rfl rfl sy_refl) ?_
  refine sy_Fs (sy_bipush (v := 32) xc37_25 (by decide) (by decide) sy_refl) ?_
  refine sy_Fs (sy_ge_f xc37_27 (by decide) (by decide) (by decide) sy_refl) ?_
  refine sy_Fs (sy_aldn xc37_30 rfl rfl sy_refl) ?_
  refine sy_Fs (sy_gf xc37_31 xf37_25 rfl (wh_at hw 10 rfl) rfl (fh_at hX10 6 rfl rfl) sy_refl) ?_
  refine sy_Fs (sy_ildn xc37_34 rfl rfl sy_refl) ?_
  refine sy_Fs (sy_ildn xc37_35 rfl rfl sy_refl) ?_
  refine sy_Fs (sy_iflt_f xc37_36 (by decide) (by decide) sy_refl) ?_
  refine sy_Fs (sy_ildn xc37_39 rfl rfl sy_refl) ?_
  refine sy_Fs (sy_aldn xc37_40 rfl rfl sy_refl) ?_
  refine sy_Fs (sy_alen xc37_41 (wh_at hw 21 rfl) rfl sy_refl) ?_
  refine sy_Fs (sy_ildn xc37_42 rfl rfl sy_refl) ?_
  refine sy_Fs (sx_isub (z := 80) xc37_43 (by decide)) ?_
  refine sy_Fs (sy_icmplt_t (pc' := 51) xc37_44 (by decide) (by decide) (by decide) (by decide) sy_refl) ?_
  refine sy_Fs (sy_aldn xc37_51 rfl rfl sy_refl) ?_
  refine sy_Fs (sy_ildn xc37_52 rfl rfl sy_refl) ?_
  refine sy_Fs (sy_ildn xc37_53 rfl rfl sy_refl) ?_
  refine sy_Fs (sx_iadd (z := 25) xc37_54 (by decide)) ?_
  refine sy_Fs (sx_bal (z := (mv_rd 32 Bh 25)) xc37_55 (wh_at hw 21 rfl) (by decide) (by decide) rfl) ?_
  refine sy_Fw (i := 15) (x := (1, 1, 32, (mq Mk Bh 26))) hw (by decide) (sy_bas (i := 25) xc37_56 (wh_at hw 15 rfl) rfl (by decide) (by decide) rfl sy_refl) ?_
  intro w hw
  simp only [List.set_cons_zero, List.set_cons_succ] at hw
  refine sy_Fs (sx_iinc (c := 1) (z := 26) (ls' := [(2, pl 10, 0), (2, pl 21, 0), (0, 0, 0), (0, 26, 0)]) xc37_57 rfl (by decide) (by rw [xl37]; rfl) rfl (by decide) rfl) ?_
  refine sy_Fs (sy_goto (pc' := 24) xc37_60 (by decide) (by decide) sy_refl) ?_
  refine sy_Fs (sy_ildn xc37_24 rfl rfl sy_refl) ?_
  refine sy_Fs (sy_bipush (v := 32) xc37_25 (by decide) (by decide) sy_refl) ?_
  refine sy_Fs (sy_ge_f xc37_27 (by decide) (by decide) (by decide) sy_refl) ?_
  refine sy_Fs (sy_aldn xc37_30 rfl rfl sy_refl) ?_
  refine sy_Fs (sy_gf xc37_31 xf37_25 rfl (wh_at hw 10 rfl) rfl (fh_at hX10 6 rfl rfl) sy_refl) ?_
  refine sy_Fs (sy_ildn xc37_34 rfl rfl sy_refl) ?_
  refine sy_Fs (sy_ildn xc37_35 rfl rfl sy_refl) ?_
  refine sy_Fs (sy_iflt_f xc37_36 (by decide) (by decide) sy_refl) ?_
  refine sy_Fs (sy_ildn xc37_39 rfl rfl sy_refl) ?_
  refine sy_Fs (sy_aldn xc37_40 rfl rfl sy_refl) ?_
  refine sy_Fs (sy_alen xc37_41 (wh_at hw 21 rfl) rfl sy_refl) ?_
  refine sy_Fs (sy_ildn xc37_42 rfl rfl sy_refl) ?_
  refine sy_Fs (sx_isub (z := 79) xc37_43 (by decide)) ?_
  refine sy_Fs (sy_icmplt_t (pc' := 51) xc37_44 (by decide) (by decide) (by decide) (by decide) sy_refl) ?_
  refine sy_Fs (sy_aldn xc37_51 rfl rfl sy_refl) ?_
  refine sy_Fs (sy_ildn xc37_52 rfl rfl sy_refl) ?_
  refine sy_Fs (sy_ildn xc37_53 rfl rfl sy_refl) ?_
  refine sy_Fs (sx_iadd (z := 26) xc37_54 (by decide)) ?_
  refine sy_Fs (sx_bal (z := (mv_rd 32 Bh 26)) xc37_55 (wh_at hw 21 rfl) (by decide) (by decide) rfl) ?_
  refine sy_Fw (i := 15) (x := (1, 1, 32, (mq Mk Bh 27))) hw (by decide) (sy_bas (i := 26) xc37_56 (wh_at hw 15 rfl) rfl (by decide) (by decide) rfl sy_refl) ?_
  intro w hw
  simp only [List.set_cons_zero, List.set_cons_succ] at hw
  refine sy_Fs (sx_iinc (c := 1) (z := 27) (ls' := [(2, pl 10, 0), (2, pl 21, 0), (0, 0, 0), (0, 27, 0)]) xc37_57 rfl (by decide) (by rw [xl37]; rfl) rfl (by decide) rfl) ?_
  refine sy_Fs (sy_goto (pc' := 24) xc37_60 (by decide) (by decide) sy_refl) ?_
  refine sy_Fs (sy_ildn xc37_24 rfl rfl sy_refl) ?_
  refine sy_Fs (sy_bipush (v := 32) xc37_25 (by decide) (by decide) sy_refl) ?_
  refine sy_Fs (sy_ge_f xc37_27 (by decide) (by decide) (by decide) sy_refl) ?_
  refine sy_Fs (sy_aldn xc37_30 rfl rfl sy_refl) ?_
  refine sy_Fs (sy_gf xc37_31 xf37_25 rfl (wh_at hw 10 rfl) rfl (fh_at hX10 6 rfl rfl) sy_refl) ?_
  refine sy_Fs (sy_ildn xc37_34 rfl rfl sy_refl) ?_
  refine sy_Fs (sy_ildn xc37_35 rfl rfl sy_refl) ?_
  refine sy_Fs (sy_iflt_f xc37_36 (by decide) (by decide) sy_refl) ?_
  refine sy_Fs (sy_ildn xc37_39 rfl rfl sy_refl) ?_
  refine sy_Fs (sy_aldn xc37_40 rfl rfl sy_refl) ?_
  refine sy_Fs (sy_alen xc37_41 (wh_at hw 21 rfl) rfl sy_refl) ?_
  refine sy_Fs (sy_ildn xc37_42 rfl rfl sy_refl) ?_
  refine sy_Fs (sx_isub (z := 78) xc37_43 (by decide)) ?_
  refine sy_Fs (sy_icmplt_t (pc' := 51) xc37_44 (by decide) (by decide) (by decide) (by decide) sy_refl) ?_
  refine sy_Fs (sy_aldn xc37_51 rfl rfl sy_refl) ?_
  refine sy_Fs (sy_ildn xc37_52 rfl rfl sy_refl) ?_
  refine sy_Fs (sy_ildn xc37_53 rfl rfl sy_refl) ?_
  refine sy_Fs (sx_iadd (z := 27) xc37_54 (by decide)) ?_
  refine sy_Fs (sx_bal (z := (mv_rd 32 Bh 27)) xc37_55 (wh_at hw 21 rfl) (by decide) (by decide) rfl) ?_
  refine sy_Fw (i := 15) (x := (1, 1, 32, (mq Mk Bh 28))) hw (by decide) (sy_bas (i := 27) xc37_56 (wh_at hw 15 rfl) rfl (by decide) (by decide) rfl sy_refl) ?_
  intro w hw
  simp only [List.set_cons_zero, List.set_cons_succ] at hw
  refine sy_Fs (sx_iinc (c := 1) (z := 28) (ls' := [(2, pl 10, 0), (2, pl 21, 0), (0, 0, 0), (0, 28, 0)]) xc37_57 rfl (by decide) (by rw [xl37]; rfl) rfl (by decide) rfl) ?_
  refine sy_Fs (sy_goto (pc' := 24) xc37_60 (by decide) (by decide) sy_refl) ?_
  refine sy_Fs (sy_ildn xc37_24 rfl rfl sy_refl) ?_
  refine sy_Fs (sy_bipush (v := 32) xc37_25 (by decide) (by decide) sy_refl) ?_
  refine sy_Fs (sy_ge_f xc37_27 (by decide) (by decide) (by decide) sy_refl) ?_
  refine sy_Fs (sy_aldn xc37_30 rfl rfl sy_refl) ?_
  refine sy_Fs (sy_gf xc37_31 xf37_25 rfl (wh_at hw 10 rfl) rfl (fh_at hX10 6 rfl rfl) sy_refl) ?_
  refine sy_Fs (sy_ildn xc37_34 rfl rfl sy_refl) ?_
  refine sy_Fs (sy_ildn xc37_35 rfl rfl sy_refl) ?_
  refine sy_Fs (sy_iflt_f xc37_36 (by decide) (by decide) sy_refl) ?_
  refine sy_Fs (sy_ildn xc37_39 rfl rfl sy_refl) ?_
  refine sy_Fs (sy_aldn xc37_40 rfl rfl sy_refl) ?_
  refine sy_Fs (sy_alen xc37_41 (wh_at hw 21 rfl) rfl sy_refl) ?_
  refine sy_Fs (sy_ildn xc37_42 rfl rfl sy_refl) ?_
  refine sy_Fs (sx_isub (z := 77) xc37_43 (by decide)) ?_
  refine sy_Fs (sy_icmplt_t (pc' := 51) xc37_44 (by decide) (by decide) (by decide) (by decide) sy_refl) ?_
  refine sy_Fs (sy_aldn xc37_51 rfl rfl sy_refl) ?_
  refine sy_Fs (sy_ildn xc37_52 rfl rfl sy_refl) ?_
  refine sy_Fs (sy_ildn xc37_53 rfl rfl sy_refl) ?_
  refine sy_Fs (sx_iadd (z := 28) xc37_54 (by decide)) ?_
  refine sy_Fs (sx_bal (z := (mv_rd 32 Bh 28)) xc37_55 (wh_at hw 21 rfl) (by decide) (by decide) rfl) ?_
  refine sy_Fw (i := 15) (x := (1, 1, 32, (mq Mk Bh 29))) hw (by decide) (sy_bas (i := 28) xc37_56 (wh_at hw 15 rfl) rfl (by decide) (by decide) rfl sy_refl) ?_
  intro w hw
  simp only [List.set_cons_zero, List.set_cons_succ] at hw
  refine sy_Fs (sx_iinc (c := 1) (z := 29) (ls' := [(2, pl 10, 0), (2, pl 21, 0), (0, 0, 0), (0, 29, 0)]) xc37_57 rfl (by decide) (by rw [xl37]; rfl) rfl (by decide) rfl) ?_
  refine sy_Fs (sy_goto (pc' := 24) xc37_60 (by decide) (by decide) sy_refl) ?_
  refine sy_Fs (sy_ildn xc37_24 rfl rfl sy_refl) ?_
  refine sy_Fs (sy_bipush (v := 32) xc37_25 (by decide) (by decide) sy_refl) ?_
  refine sy_Fs (sy_ge_f xc37_27 (by decide) (by decide) (by decide) sy_refl) ?_
  refine sy_Fs (sy_aldn xc37_30 rfl rfl sy_refl) ?_
  refine sy_Fs (sy_gf xc37_31 xf37_25 rfl (wh_at hw 10 rfl) rfl (fh_at hX10 6 rfl rfl) sy_refl) ?_
  refine sy_Fs (sy_ildn xc37_34 rfl rfl sy_refl) ?_
  refine sy_Fs (sy_ildn xc37_35 rfl rfl sy_refl) ?_
  refine sy_Fs (sy_iflt_f xc37_36 (by decide) (by decide) sy_refl) ?_
  refine sy_Fs (sy_ildn xc37_39 rfl rfl sy_refl) ?_
  refine sy_Fs (sy_aldn xc37_40 rfl rfl sy_refl) ?_
  refine sy_Fs (sy_alen xc37_41 (wh_at hw 21 rfl) rfl sy_refl) ?_
  refine sy_Fs (sy_ildn xc37_42 rfl rfl sy_refl) ?_
  refine sy_Fs (sx_isub (z := 76) xc37_43 (by decide)) ?_
  refine sy_Fs (sy_icmplt_t (pc' := 51) xc37_44 (by decide) (by decide) (by decide) (by decide) sy_refl) ?_
  refine sy_Fs (sy_aldn xc37_51 rfl rfl sy_refl) ?_
  refine sy_Fs (sy_ildn xc37_52 rfl rfl sy_refl) ?_
  refine sy_Fs (sy_ildn xc37_53 rfl rfl sy_refl) ?_
  refine sy_Fs (sx_iadd (z := 29) xc37_54 (by decide)) ?_
  refine sy_Fs (sx_bal (z := (mv_rd 32 Bh 29)) xc37_55 (wh_at hw 21 rfl) (by decide) (by decide) rfl) ?_
  refine sy_Fw (i := 15) (x := (1, 1, 32, (mq Mk Bh 30))) hw (by decide) (sy_bas (i := 29) xc37_56 (wh_at hw 15 rfl) rfl (by decide) (by decide) rfl sy_refl) ?_
  intro w hw
  simp only [List.set_cons_zero, List.set_cons_succ] at hw
  refine sy_Fs (sx_iinc (c := 1) (z := 30) (ls' := [(2, pl 10, 0), (2, pl 21, 0), (0, 0, 0), (0, 30, 0)]) xc37_57 rfl (by decide) (by rw [xl37]; rfl) rfl (by decide) rfl) ?_
  refine sy_Fs (sy_goto (pc' := 24) xc37_60 (by decide) (by decide) sy_refl) ?_
  refine sy_Fs (sy_ildn xc37_24 rfl rfl sy_refl) ?_
  refine sy_Fs (sy_bipush (v := 32) xc37_25 (by decide) (by decide) sy_refl) ?_
  refine sy_Fs (sy_ge_f xc37_27 (by decide) (by decide) (by decide) sy_refl) ?_
  refine sy_Fs (sy_aldn xc37_30 rfl rfl sy_refl) ?_
  refine sy_Fs (sy_gf xc37_31 xf37_25 rfl (wh_at hw 10 rfl) rfl (fh_at hX10 6 rfl rfl) sy_refl) ?_
  refine sy_Fs (sy_ildn xc37_34 rfl rfl sy_refl) ?_
  refine sy_Fs (sy_ildn xc37_35 rfl rfl sy_refl) ?_
  refine sy_Fs (sy_iflt_f xc37_36 (by decide) (by decide) sy_refl) ?_
  refine sy_Fs (sy_ildn xc37_39 rfl rfl sy_refl) ?_
  refine sy_Fs (sy_aldn xc37_40 rfl rfl sy_refl) ?_
  refine sy_Fs (sy_alen xc37_41 (wh_at hw 21 rfl) rfl sy_refl) ?_
  refine sy_Fs (sy_ildn xc37_42 rfl rfl sy_refl) ?_
  refine sy_Fs (sx_isub (z := 75) xc37_43 (by decide)) ?_
  refine sy_Fs (sy_icmplt_t (pc' := 51) xc37_44 (by decide) (by decide) (by decide) (by decide) sy_refl) ?_
  refine sy_Fs (sy_aldn xc37_51 rfl rfl sy_refl) ?_
  refine sy_Fs (sy_ildn xc37_52 rfl rfl sy_refl) ?_
  refine sy_Fs (sy_ildn xc37_53 rfl rfl sy_refl) ?_
  refine sy_Fs (sx_iadd (z := 30) xc37_54 (by decide)) ?_
  refine sy_Fs (sx_bal (z := (mv_rd 32 Bh 30)) xc37_55 (wh_at hw 21 rfl) (by decide) (by decide) rfl) ?_
  refine sy_Fw (i := 15) (x := (1, 1, 32, (mq Mk Bh 31))) hw (by decide) (sy_bas (i := 30) xc37_56 (wh_at hw 15 rfl) rfl (by decide) (by decide) rfl sy_refl) ?_
  intro w hw
  simp only [List.set_cons_zero, List.set_cons_succ] at hw
  refine sy_Fs (sx_iinc (c := 1) (z := 31) (ls' := [(2, pl 10, 0), (2, pl 21, 0), (0, 0, 0), (0, 31, 0)]) xc37_57 rfl (by decide) (by rw [xl37]; rfl) rfl (by decide) rfl) ?_
  refine sy_Fs (sy_goto (pc' := 24) xc37_60 (by decide) (by decide) sy_refl) ?_
  refine sy_Fs (sy_ildn xc37_24 rfl rfl sy_refl) ?_
  refine sy_Fs (sy_bipush (v := 32) xc37_25 (by decide) (by decide) sy_refl) ?_
  refine sy_Fs (sy_ge_f xc37_27 (by decide) (by decide) (by decide) sy_refl) ?_
  refine sy_Fs (sy_aldn xc37_30 rfl rfl sy_refl) ?_
  refine sy_Fs (sy_gf xc37_31 xf37_25 rfl (wh_at hw 10 rfl) rfl (fh_at hX10 6 rfl rfl) sy_refl) ?_
  refine sy_Fs (sy_ildn xc37_34 rfl rfl sy_refl) ?_
  refine sy_Fs (sy_ildn xc37_35 rfl rfl sy_refl) ?_
  refine sy_Fs (sy_iflt_f xc37_36 (by decide) (by decide) sy_refl) ?_
  refine sy_Fs (sy_ildn xc37_39 rfl rfl sy_refl) ?_
  refine sy_Fs (sy_aldn xc37_40 rfl rfl sy_refl) ?_
  refine sy_Fs (sy_alen xc37_41 (wh_at hw 21 rfl) rfl sy_refl) ?_
  refine sy_Fs (sy_ildn xc37_42 rfl rfl sy_refl) ?_
  refine sy_Fs (sx_isub (z := 74) xc37_43 (by decide)) ?_
  refine sy_Fs (sy_icmplt_t (pc' := 51) xc37_44 (by decide) (by decide) (by decide) (by decide) sy_refl) ?_
  refine sy_Fs (sy_aldn xc37_51 rfl rfl sy_refl) ?_
  refine sy_Fs (sy_ildn xc37_52 rfl rfl sy_refl) ?_
  refine sy_Fs (sy_ildn xc37_53 rfl rfl sy_refl) ?_
  refine sy_Fs (sx_iadd (z := 31) xc37_54 (by decide)) ?_
  refine sy_Fs (sx_bal (z := (mv_rd 32 Bh 31)) xc37_55 (wh_at hw 21 rfl) (by decide) (by decide) rfl) ?_
  refine sy_Fw (i := 15) (x := (1, 1, 32, (mq Mk Bh 32))) hw (by decide) (sy_bas (i := 31) xc37_56 (wh_at hw 15 rfl) rfl (by decide) (by decide) rfl sy_refl) ?_
  intro w hw
  simp only [List.set_cons_zero, List.set_cons_succ] at hw
  refine sy_Fs (sx_iinc (c := 1) (z := 32) (ls' := [(2, pl 10, 0), (2, pl 21, 0), (0, 0, 0), (0, 32, 0)]) xc37_57 rfl (by decide) (by rw [xl37]; rfl) rfl (by decide) rfl) ?_
  refine sy_Fs (sy_goto (pc' := 24) xc37_60 (by decide) (by decide) sy_refl) ?_
  refine sy_Fs (sy_ildn xc37_24 rfl rfl sy_refl) ?_
  refine sy_Fs (sy_bipush (v := 32) xc37_25 (by decide) (by decide) sy_refl) ?_
  refine sy_Fs (sy_ge_t (pc' := 63) xc37_27 (by decide) (by decide) (by decide) (by decide) sy_refl) ?_
  refine sy_Fs (sy_aldn xc37_63 rfl rfl sy_refl) ?_
  refine sy_Fs (sy_bipush (v := 54) xc37_64 (by decide) (by decide) sy_refl) ?_
  refine sy_Fs (sy_aldn xc37_66 rfl rfl sy_refl) ?_
  refine sy_Fs (sy_gf xc37_67 xf37_28 rfl (wh_at hw 10 rfl) rfl (fh_at hX10 7 rfl rfl) sy_refl) ?_
  obtain ⟨ret, w, ⟨rfl, X10, Pp1, Wp1, Sp1, Qp1, up1, lp1, ⟨hsu, hsl⟩, hwp1, hXp1x⟩, hC⟩ := ce_pad16 (n := n) (v := 54) hw hX0 hX1 hX3 hX10 hX20 hX26 (by decide) hsu hsl
  refine sy_Fs (sy_callG (kd := 3) (as := [(2, pl 10, 0), (0, 54, 0), (2, pl 16, 0)]) (S0 := []) (ret := []) xc37_70 (sy_calV (as := [(2, pl 10, 0), (0, 54, 0), (2, pl 16, 0)]) (S0 := []) xm37_98 rfl rfl) rfl rfl (sy_rcvm xi38 (wh_at hw 10 rfl)) rfl (sy_oka (sy_oks_cons (sy_ok2 (wh_lt hw 10 (by first | decide | assumption))) (sy_oks_cons (sy_ok0 (by first | decide | assumption | omega | exact mo_rd_lt _ _ | exact mo_add_lt _ _ | exact mo_sub_lt _ _ | exact mo_mul_lt _ _ | exact mo_shl_lt _ _ | exact mo_ushr_lt _ _ | exact mo_or_lt (by decide) (mo_and_lt (mo_rd_lt _ _)) | exact mo_or_lt (mo_shl_lt _ _) (mo_and_lt (mo_rd_lt _ _)))) (sy_oks_cons (sy_ok2 (wh_lt hw 16 (by first | decide | assumption))) sy_oks_nil))) rfl xl38) hC (by decide) (by rw [xl38]; decide) sy_refl) ?_
  replace hw := hwp1
  replace hX10 := hXp1x
  refine sy_Fs (sy_aldn xc37_73 rfl rfl sy_refl) ?_
  refine sy_Fs (sy_bipush (v := 92) xc37_74 (by decide) (by decide) sy_refl) ?_
  refine sy_Fs (sy_aldn xc37_76 rfl rfl sy_refl) ?_
  refine sy_Fs (sy_gf xc37_77 xf37_31 rfl (wh_at hw 10 rfl) rfl (fh_at hX10 8 rfl rfl) sy_refl) ?_
  obtain ⟨ret, w, ⟨rfl, X10, Pp2, Wp2, Sp2, Qp2, up2, lp2, ⟨hsu, hsl⟩, hwp2, hXp2x⟩, hC⟩ := ce_pad17 (n := n) (v := 92) hw hX0 hX1 hX3 hX10 hX20 hX26 (by decide) hsu hsl
  refine sy_Fs (sy_callG (kd := 3) (as := [(2, pl 10, 0), (0, 92, 0), (2, pl 17, 0)]) (S0 := []) (ret := []) xc37_80 (sy_calV (as := [(2, pl 10, 0), (0, 92, 0), (2, pl 17, 0)]) (S0 := []) xm37_98 rfl rfl) rfl rfl (sy_rcvm xi38 (wh_at hw 10 rfl)) rfl (sy_oka (sy_oks_cons (sy_ok2 (wh_lt hw 10 (by first | decide | assumption))) (sy_oks_cons (sy_ok0 (by first | decide | assumption | omega | exact mo_rd_lt _ _ | exact mo_add_lt _ _ | exact mo_sub_lt _ _ | exact mo_mul_lt _ _ | exact mo_shl_lt _ _ | exact mo_ushr_lt _ _ | exact mo_or_lt (by decide) (mo_and_lt (mo_rd_lt _ _)) | exact mo_or_lt (mo_shl_lt _ _) (mo_and_lt (mo_rd_lt _ _)))) (sy_oks_cons (sy_ok2 (wh_lt hw 17 (by first | decide | assumption))) sy_oks_nil))) rfl xl38) hC (by decide) (by rw [xl38]; decide) sy_refl) ?_
  replace hw := hwp2
  replace hX10 := hXp2x
  refine sy_Fs (sy_aldn xc37_83 rfl rfl sy_refl) ?_
  refine sy_Fs (sy_iconst (v := 1) xc37_84 (by decide) sy_refl) ?_
  refine sy_Ff (i := 10) (q := 9) (v := (0, 1, 0)) hw hX10 (by decide) (by decide) rfl (sy_ok0 (by first | decide | assumption | omega | exact mo_rd_lt _ _ | exact mo_add_lt _ _ | exact mo_sub_lt _ _ | exact mo_mul_lt _ _ | exact mo_shl_lt _ _ | exact mo_ushr_lt _ _ | exact mo_or_lt (by decide) (mo_and_lt (mo_rd_lt _ _)) | exact mo_or_lt (mo_shl_lt _ _) (mo_and_lt (mo_rd_lt _ _)))) (sx_pfz xc37_85 xf37_90 rfl xt2_7 xn2_7 (wh_at hw 10 rfl) rfl (by first | decide | assumption | omega | exact mo_rd_lt _ _ | exact mo_add_lt _ _ | exact mo_sub_lt _ _ | exact mo_mul_lt _ _ | exact mo_shl_lt _ _ | exact mo_ushr_lt _ _ | exact mo_or_lt (by decide) (mo_and_lt (mo_rd_lt _ _)) | exact mo_or_lt (mo_shl_lt _ _) (mo_and_lt (mo_rd_lt _ _))) rfl sy_refl) ?_
  intro w X10 hw hX10
  simp only [List.set_cons_zero, List.set_cons_succ] at hw hX10
  refine sy_Fs (sy_aldn xc37_88 rfl rfl sy_refl) ?_
  refine sy_Fs (sy_aldn xc37_89 rfl rfl sy_refl) ?_
  refine sy_Fs (sy_gf xc37_90 xf37_28 rfl (wh_at hw 10 rfl) rfl (fh_at hX10 7 rfl rfl) sy_refl) ?_
  obtain ⟨ret, w, ⟨rfl, X10, hwg3, hXg3x⟩, hC⟩ := ce_go16 (n := n) hw hX0 hX1 hX3 hX10 hX20 hX26
  refine sy_Fs (sy_callG (kd := 3) (as := [(2, pl 10, 0), (2, pl 16, 0)]) (S0 := []) (ret := []) xc37_93 (sy_calV (as := [(2, pl 10, 0), (2, pl 16, 0)]) (S0 := []) xm37_102 rfl rfl) rfl rfl (sy_rcvm xi39 (wh_at hw 10 rfl)) rfl (sy_oka (sy_oks_cons (sy_ok2 (wh_lt hw 10 (by first | decide | assumption))) (sy_oks_cons (sy_ok2 (wh_lt hw 16 (by first | decide | assumption))) sy_oks_nil)) rfl xl39) hC (by decide) (by rw [xl39]; decide) sy_refl) ?_
  replace hw := hwg3
  replace hX10 := hXg3x
  have hsu : 0 < 64 := by decide
  have hsl : 64 < 4294967296 := by decide
  exact sy_Fv xc37_96 xr37 ⟨X10, _, _, _, _, _, _, _, _, rfl, ⟨hsu, hsl⟩, hw, hX10⟩
theorem cf_em  (hw : wh 30 pl w0 w [(0, 1, 13, X0), (0, 8, 11, X1), (3, 6, 40, cbs), (0, 9, 11, X3), (1, 1, 105, Hd), (1, 1, 32, Id), (1, 1, 128, Ids), (1, 1, 480, Ads), (1, 1, 32, Br), (1, 1, 32, Dg), (0, 2, 13, X10), (1, 1, 64, Sp), (1, 0, 64, Sw), (1, 0, 8, Ss), (1, 1, 32, In), (1, 1, 32, Mk), (1, 0, 8, Is), (1, 0, 8, Os), (1, 0, 8, Ks), (1, 1, 64, Kp), (0, 9, 11, X20), (1, 1, 105, Bh), (1, 1, 32, Bd), (3, 7, 4, cps), (1, 1, 28, Mb), (1, 1, 32, Ti), (0, 10, 6, X26), (1, 0, 4, Pr), (1, 0, 1, Nu)]) (hX0 : fh X0 kX [(2, pl 1, 0), (0, 0, 0)]) (hX1 : fh X1 kM [(0, 1, 0), (2, pl 2, 0), (0, 0, 0), (2, pl 10, 0), (2, pl 6, 0), (2, pl 7, 0), (0, ac, 0), (2, pl 8, 0), (2, pl 9, 0)]) (hX3 : fh X3 kB [(2, pl 5, 0), (2, pl 4, 0), (0, 0, 0), (0, 4, 0), (3, 0, 0)]) (hX10 : fh X10 kS [(2, pl 11, 0), (2, pl 12, 0), (2, pl 13, 0), (2, pl 14, 0), (0, su, 0), (0, sl, 0), (2, pl 15, 0), (2, pl 16, 0), (2, pl 17, 0), (0, 1, 0), (2, pl 18, 0), (2, pl 19, 0), (0, kl, 0)]) (hX20 : fh X20 kN [(2, pl 3, 0), (0, 1, 0), (0, 1, 0), (0, wk, 0), (2, pl 21, 0), (2, pl 22, 0), (2, pl 23, 0), (0, 1, 0), (3, 0, 0), (0, 0, 0), (3, 0, 0)]) (hX26 : fh X26 kP [(2, pl 24, 0), (0, 0, 0), (0, 1, 0), (0, 28, 0), (2, pl 25, 0), (2, pl 27, 0)]) (hsu : su < 64) (hsl : sl < 4294967296) : sy_D 40 n 3 69 [(2, pl 10, 0), (2, pl 14, 0), (0, 0, 0)] w (fun ret w' => ∃ Y10 Y11 Y12 Y13 Y14 yu yl : Nat, ret = [] ∧ (yu < 64 ∧ yl < 4294967296) ∧ wh 30 pl w0 w' [(0, 1, 13, X0), (0, 8, 11, X1), (3, 6, 40, cbs), (0, 9, 11, X3), (1, 1, 105, Hd), (1, 1, 32, Id), (1, 1, 128, Ids), (1, 1, 480, Ads), (1, 1, 32, Br), (1, 1, 32, Dg), (0, 2, 13, Y10), (1, 1, 64, Y11), (1, 0, 64, Y12), (1, 0, 8, Y13), (1, 1, 32, Y14), (1, 1, 32, Mk), (1, 0, 8, Is), (1, 0, 8, Os), (1, 0, 8, Ks), (1, 1, 64, Kp), (0, 9, 11, X20), (1, 1, 105, Bh), (1, 1, 32, Bd), (3, 7, 4, cps), (1, 1, 28, Mb), (1, 1, 32, Ti), (0, 10, 6, X26), (1, 0, 4, Pr), (1, 0, 1, Nu)] ∧ fh Y10 kS [(2, pl 11, 0), (2, pl 12, 0), (2, pl 13, 0), (2, pl 14, 0), (0, yu, 0), (0, yl, 0), (2, pl 15, 0), (2, pl 16, 0), (2, pl 17, 0), (0, 1, 0), (2, pl 18, 0), (2, pl 19, 0), (0, kl, 0)]) := by
  refine sy_Dof (us := []) (sy_oks_cons (sy_ok2 (wh_lt hw 10 (by first | decide | assumption))) (sy_oks_cons (sy_ok2 (wh_lt hw 14 (by first | decide | assumption))) (sy_oks_cons (sy_ok0 (by first | decide | assumption | omega | exact mo_rd_lt _ _ | exact mo_add_lt _ _ | exact mo_sub_lt _ _ | exact mo_mul_lt _ _ | exact mo_shl_lt _ _ | exact mo_ushr_lt _ _ | exact mo_or_lt (by decide) (mo_and_lt (mo_rd_lt _ _)) | exact mo_or_lt (mo_shl_lt _ _) (mo_and_lt (mo_rd_lt _ _)))) sy_oks_nil))) rfl rfl ?_
  show sy_F 40 n 3 69 0 [(2, pl 10, 0), (2, pl 14, 0), (0, 0, 0)] [] w _
  refine sy_Fs (sy_aldn xc40_0 rfl rfl sy_refl) ?_
  refine sy_Fs (sy_aldn xc40_1 rfl rfl sy_refl) ?_
  refine sy_Fs (sy_gf xc40_2 xf40_22 rfl (wh_at hw 10 rfl) rfl (fh_at hX10 3 rfl rfl) sy_refl) ?_
  refine sy_Fs (sy_iconst (v := 0) xc40_5 (by decide) sy_refl) ?_
  obtain ⟨w, X10, Pq4, Wq4, Sq4, uq4, lq4, Tq4, hC, hwq4, hXq4x, hsu, hsl⟩ := we_end (n := n) (s := (su, sl, Sp, Sw, Ss)) (it := 14) (at_ := 0) hw rfl rfl rfl rfl hX10 rfl rfl rfl rfl rfl hsu hsl (by decide) (by decide) rfl (by first | decide | assumption | omega) (by first | decide | assumption | omega)
  refine sy_Fs (sy_callG (kd := 3) (as := [(2, pl 10, 0), (2, pl 14, 0), (0, 0, 0)]) (S0 := []) (ret := []) xc40_6 (sy_calV (as := [(2, pl 10, 0), (2, pl 14, 0), (0, 0, 0)]) (S0 := []) xm40_73 rfl rfl) rfl rfl (sy_rcvm xi18 (wh_at hw 10 rfl)) rfl (sy_oka (sy_oks_cons (sy_ok2 (wh_lt hw 10 (by first | decide | assumption))) (sy_oks_cons (sy_ok2 (wh_lt hw 14 (by first | decide | assumption))) (sy_oks_cons (sy_ok0 (by first | decide | assumption | omega | exact mo_rd_lt _ _ | exact mo_add_lt _ _ | exact mo_sub_lt _ _ | exact mo_mul_lt _ _ | exact mo_shl_lt _ _ | exact mo_ushr_lt _ _ | exact mo_or_lt (by decide) (mo_and_lt (mo_rd_lt _ _)) | exact mo_or_lt (mo_shl_lt _ _) (mo_and_lt (mo_rd_lt _ _)))) sy_oks_nil))) rfl xl18) hC (by decide) (by rw [xl18]; decide) sy_refl) ?_
  replace hw := hwq4
  replace hX10 := hXq4x
  simp only [List.set_cons_zero, List.set_cons_succ] at hw hX10
  refine sy_Fs (sy_aldn xc40_9 rfl rfl sy_refl) ?_
  refine sy_Fs (sy_aldn xc40_10 rfl rfl sy_refl) ?_
  refine sy_Fs (sy_gf xc40_11 xf40_31 rfl (wh_at hw 10 rfl) rfl (fh_at hX10 8 rfl rfl) sy_refl) ?_
  obtain ⟨ret, w, ⟨rfl, X10, hwg5, hXg5x⟩, hC⟩ := ce_go17 (n := n) hw hX0 hX1 hX3 hX10 hX20 hX26
  refine sy_Fs (sy_callG (kd := 3) (as := [(2, pl 10, 0), (2, pl 17, 0)]) (S0 := []) (ret := []) xc40_14 (sy_calV (as := [(2, pl 10, 0), (2, pl 17, 0)]) (S0 := []) xm40_102 rfl rfl) rfl rfl (sy_rcvm xi39 (wh_at hw 10 rfl)) rfl (sy_oka (sy_oks_cons (sy_ok2 (wh_lt hw 10 (by first | decide | assumption))) (sy_oks_cons (sy_ok2 (wh_lt hw 17 (by first | decide | assumption))) sy_oks_nil)) rfl xl39) hC (by decide) (by rw [xl39]; decide) sy_refl) ?_
  replace hw := hwg5
  replace hX10 := hXg5x
  have hsu : 0 < 64 := by decide
  have hsl : 64 < 4294967296 := by decide
  refine sy_Fs (sy_aldn xc40_17 rfl rfl sy_refl) ?_
  refine sy_Fs (sy_aldn xc40_18 rfl rfl sy_refl) ?_
  refine sy_Fs (sy_gf xc40_19 xf40_22 rfl (wh_at hw 10 rfl) rfl (fh_at hX10 3 rfl rfl) sy_refl) ?_
  refine sy_Fs (sy_iconst (v := 0) xc40_22 (by decide) sy_refl) ?_
  refine sy_Fs (sy_bipush (v := 32) xc40_23 (by decide) (by decide) sy_refl) ?_
  obtain ⟨w, X10, Pq6, Wq6, Sq6, uq6, lq6, hC, hwq6, hXq6x, hsu, hsl⟩ := we_put (n := n) (s := (0, 64, Pq4, Wq4, (mv_cw 32 Sq4 Os 0 0 8))) (jf := 14) (fa := 0) (nn := 32) hw rfl rfl rfl rfl hX10 rfl rfl rfl rfl rfl hsu hsl (by decide) (by decide) rfl (by first | decide | assumption | omega) (by first | decide | assumption | omega)
  refine sy_Fs (sy_callG (kd := 3) (as := [(2, pl 10, 0), (2, pl 14, 0), (0, 0, 0), (0, 32, 0)]) (S0 := []) (ret := []) xc40_25 (sy_calV (as := [(2, pl 10, 0), (2, pl 14, 0), (0, 0, 0), (0, 32, 0)]) (S0 := []) xm40_80 rfl rfl) rfl rfl (sy_rcvm xi15 (wh_at hw 10 rfl)) rfl (sy_oka (sy_oks_cons (sy_ok2 (wh_lt hw 10 (by first | decide | assumption))) (sy_oks_cons (sy_ok2 (wh_lt hw 14 (by first | decide | assumption))) (sy_oks_cons (sy_ok0 (by first | decide | assumption | omega | exact mo_rd_lt _ _ | exact mo_add_lt _ _ | exact mo_sub_lt _ _ | exact mo_mul_lt _ _ | exact mo_shl_lt _ _ | exact mo_ushr_lt _ _ | exact mo_or_lt (by decide) (mo_and_lt (mo_rd_lt _ _)) | exact mo_or_lt (mo_shl_lt _ _) (mo_and_lt (mo_rd_lt _ _)))) (sy_oks_cons (sy_ok0 (by first | decide | assumption | omega | exact mo_rd_lt _ _ | exact mo_add_lt _ _ | exact mo_sub_lt _ _ | exact mo_mul_lt _ _ | exact mo_shl_lt _ _ | exact mo_ushr_lt _ _ | exact mo_or_lt (by decide) (mo_and_lt (mo_rd_lt _ _)) | exact mo_or_lt (mo_shl_lt _ _) (mo_and_lt (mo_rd_lt _ _)))) sy_oks_nil)))) rfl xl15) hC (by decide) (by rw [xl15]; decide) sy_refl) ?_
  replace hw := hwq6
  replace hX10 := hXq6x
  simp only [List.set_cons_zero, List.set_cons_succ] at hw hX10
  refine sy_Fs (sy_aldn xc40_28 rfl rfl sy_refl) ?_
  refine sy_Fs (sy_aldn xc40_29 rfl rfl sy_refl) ?_
  refine sy_Fs (sy_ildn xc40_30 rfl rfl sy_refl) ?_
  obtain ⟨w, X10, Pq7, Wq7, Sq7, uq7, lq7, Tq7, hC, hwq7, hXq7x, hsu, hsl⟩ := we_end (n := n) (s := (uq6, lq6, Pq6, Wq6, Sq6)) (it := 14) (at_ := 0) hw rfl rfl rfl rfl hX10 rfl rfl rfl rfl rfl hsu hsl (by decide) (by decide) rfl (by first | decide | assumption | omega) (by first | decide | assumption | omega)
  refine sy_Fs (sy_callG (kd := 3) (as := [(2, pl 10, 0), (2, pl 14, 0), (0, 0, 0)]) (S0 := []) (ret := []) xc40_31 (sy_calV (as := [(2, pl 10, 0), (2, pl 14, 0), (0, 0, 0)]) (S0 := []) xm40_73 rfl rfl) rfl rfl (sy_rcvm xi18 (wh_at hw 10 rfl)) rfl (sy_oka (sy_oks_cons (sy_ok2 (wh_lt hw 10 (by first | decide | assumption))) (sy_oks_cons (sy_ok2 (wh_lt hw 14 (by first | decide | assumption))) (sy_oks_cons (sy_ok0 (by first | decide | assumption | omega | exact mo_rd_lt _ _ | exact mo_add_lt _ _ | exact mo_sub_lt _ _ | exact mo_mul_lt _ _ | exact mo_shl_lt _ _ | exact mo_ushr_lt _ _ | exact mo_or_lt (by decide) (mo_and_lt (mo_rd_lt _ _)) | exact mo_or_lt (mo_shl_lt _ _) (mo_and_lt (mo_rd_lt _ _)))) sy_oks_nil))) rfl xl18) hC (by decide) (by rw [xl18]; decide) sy_refl) ?_
  replace hw := hwq7
  replace hX10 := hXq7x
  simp only [List.set_cons_zero, List.set_cons_succ] at hw hX10
  exact sy_Fv xc40_34 xr40 ⟨X10, _, _, _, _, _, _, rfl, ⟨hsu, hsl⟩, hw, hX10⟩
theorem cf_wa  (hw : wh 30 pl w0 w [(0, 1, 13, X0), (0, 8, 11, X1), (3, 6, 40, cbs), (0, 9, 11, X3), (1, 1, 105, Hd), (1, 1, 32, Id), (1, 1, 128, Ids), (1, 1, 480, Ads), (1, 1, 32, Br), (1, 1, 32, Dg), (0, 2, 13, X10), (1, 1, 64, Sp), (1, 0, 64, Sw), (1, 0, 8, Ss), (1, 1, 32, In), (1, 1, 32, Mk), (1, 0, 8, Is), (1, 0, 8, Os), (1, 0, 8, Ks), (1, 1, 64, Kp), (0, 9, 11, X20), (1, 1, 105, Bh), (1, 1, 32, Bd), (3, 7, 4, cps), (1, 1, 28, Mb), (1, 1, 32, Ti), (0, 10, 6, X26), (1, 0, 4, Pr), (1, 0, 1, Nu)]) (hX0 : fh X0 kX [(2, pl 1, 0), (0, 0, 0)]) (hX1 : fh X1 kM [(0, 1, 0), (2, pl 2, 0), (0, 0, 0), (2, pl 10, 0), (2, pl 6, 0), (2, pl 7, 0), (0, ac, 0), (2, pl 8, 0), (2, pl 9, 0)]) (hX3 : fh X3 kB [(2, pl 5, 0), (2, pl 4, 0), (0, 0, 0), (0, 4, 0), (3, 0, 0)]) (hX10 : fh X10 kS [(2, pl 11, 0), (2, pl 12, 0), (2, pl 13, 0), (2, pl 14, 0), (0, su, 0), (0, sl, 0), (2, pl 15, 0), (2, pl 16, 0), (2, pl 17, 0), (0, 1, 0), (2, pl 18, 0), (2, pl 19, 0), (0, kl, 0)]) (hX20 : fh X20 kN [(2, pl 3, 0), (0, 1, 0), (0, 1, 0), (0, wk, 0), (2, pl 21, 0), (2, pl 22, 0), (2, pl 23, 0), (0, 1, 0), (3, 0, 0), (0, 0, 0), (3, 0, 0)]) (hX26 : fh X26 kP [(2, pl 24, 0), (0, 0, 0), (0, 1, 0), (0, 28, 0), (2, pl 25, 0), (2, pl 27, 0)])  : sy_D 27 n 0 0 [(2, pl 14, 0), (0, 0, 0)] w (fun ret w' => ∃ x : Nat, x < 4294967296 ∧ ret = [(0, x, 0)] ∧ w' = w) := by
  refine sy_Dof (us := []) (sy_oks_cons (sy_ok2 (wh_lt hw 14 (by first | decide | assumption))) (sy_oks_cons (sy_ok0 (by first | decide | assumption | omega | exact mo_rd_lt _ _ | exact mo_add_lt _ _ | exact mo_sub_lt _ _ | exact mo_mul_lt _ _ | exact mo_shl_lt _ _ | exact mo_ushr_lt _ _ | exact mo_or_lt (by decide) (mo_and_lt (mo_rd_lt _ _)) | exact mo_or_lt (mo_shl_lt _ _) (mo_and_lt (mo_rd_lt _ _)))) sy_oks_nil)) rfl rfl ?_
  show sy_F 27 n 0 0 0 [(2, pl 14, 0), (0, 0, 0)] [] w _
  refine sy_Fs (sy_ildn xc27_0 rfl rfl sy_refl) ?_
  refine sy_Fs (sy_iflt_f xc27_1 (by decide) (by decide) sy_refl) ?_
  refine sy_Fs (sy_ildn xc27_4 rfl rfl sy_refl) ?_
  refine sy_Fs (sy_aldn xc27_5 rfl rfl sy_refl) ?_
  refine sy_Fs (sy_alen xc27_6 (wh_at hw 14 rfl) rfl sy_refl) ?_
  refine sy_Fs (sy_iconst (v := 4) xc27_7 (by decide) sy_refl) ?_
  refine sy_Fs (sx_isub (z := 28) xc27_8 (by decide)) ?_
  refine sy_Fs (sy_icmple_t (pc' := 14) xc27_9 (by decide) (by decide) (by decide) (by decide) sy_refl) ?_
  refine sy_Fs (sy_aldn xc27_14 rfl rfl sy_refl) ?_
  refine sy_Fs (sy_ildn xc27_15 rfl rfl sy_refl) ?_
  refine sy_Fs (sx_bal (z := (mv_rd 32 In 0)) xc27_16 (wh_at hw 14 rfl) (by decide) (by decide) rfl) ?_
  refine sy_Fs (sy_bipush (v := 24) xc27_17 (by decide) (by decide) sy_refl) ?_
  refine sy_Fs (sx_ishl (z := (mo_shl (mv_rd 32 In 0) 24)) xc27_19 rfl) ?_
  refine sy_Fs (sy_aldn xc27_20 rfl rfl sy_refl) ?_
  refine sy_Fs (sy_ildn xc27_21 rfl rfl sy_refl) ?_
  refine sy_Fs (sy_iconst (v := 1) xc27_22 (by decide) sy_refl) ?_
  refine sy_Fs (sx_iadd (z := 1) xc27_23 (by decide)) ?_
  refine sy_Fs (sx_bal (z := (mv_rd 32 In 1)) xc27_24 (wh_at hw 14 rfl) (by decide) (by decide) rfl) ?_
  refine sy_Fs (sy_sipush (v := 255) xc27_25 (by decide) (by decide) sy_refl) ?_
  refine sy_Fs (sx_iand (z := (mo_and (mv_rd 32 In 1) 255)) xc27_28 rfl) ?_
  refine sy_Fs (sy_bipush (v := 16) xc27_29 (by decide) (by decide) sy_refl) ?_
  refine sy_Fs (sx_ishl (z := (mo_shl (mo_and (mv_rd 32 In 1) 255) 16)) xc27_31 rfl) ?_
  refine sy_Fs (sx_ior (z := (mo_or (mo_shl (mv_rd 32 In 0) 24) (mo_shl (mo_and (mv_rd 32 In 1) 255) 16))) xc27_32 rfl) ?_
  refine sy_Fs (sy_aldn xc27_33 rfl rfl sy_refl) ?_
  refine sy_Fs (sy_ildn xc27_34 rfl rfl sy_refl) ?_
  refine sy_Fs (sy_iconst (v := 2) xc27_35 (by decide) sy_refl) ?_
  refine sy_Fs (sx_iadd (z := 2) xc27_36 (by decide)) ?_
  refine sy_Fs (sx_bal (z := (mv_rd 32 In 2)) xc27_37 (wh_at hw 14 rfl) (by decide) (by decide) rfl) ?_
  refine sy_Fs (sy_sipush (v := 255) xc27_38 (by decide) (by decide) sy_refl) ?_
  refine sy_Fs (sx_iand (z := (mo_and (mv_rd 32 In 2) 255)) xc27_41 rfl) ?_
  refine sy_Fs (sy_bipush (v := 8) xc27_42 (by decide) (by decide) sy_refl) ?_
  refine sy_Fs (sx_ishl (z := (mo_shl (mo_and (mv_rd 32 In 2) 255) 8)) xc27_44 rfl) ?_
  refine sy_Fs (sx_ior (z := (mo_or (mo_or (mo_shl (mv_rd 32 In 0) 24) (mo_shl (mo_and (mv_rd 32 In 1) 255) 16)) (mo_shl (mo_and (mv_rd 32 In 2) 255) 8))) xc27_45 rfl) ?_
  refine sy_Fs (sy_aldn xc27_46 rfl rfl sy_refl) ?_
  refine sy_Fs (sy_ildn xc27_47 rfl rfl sy_refl) ?_
  refine sy_Fs (sy_iconst (v := 3) xc27_48 (by decide) sy_refl) ?_
  refine sy_Fs (sx_iadd (z := 3) xc27_49 (by decide)) ?_
  refine sy_Fs (sx_bal (z := (mv_rd 32 In 3)) xc27_50 (wh_at hw 14 rfl) (by decide) (by decide) rfl) ?_
  refine sy_Fs (sy_sipush (v := 255) xc27_51 (by decide) (by decide) sy_refl) ?_
  refine sy_Fs (sx_iand (z := (mo_and (mv_rd 32 In 3) 255)) xc27_54 rfl) ?_
  refine sy_Fs (sx_ior (z := (mo_or (mo_or (mo_or (mo_shl (mv_rd 32 In 0) 24) (mo_shl (mo_and (mv_rd 32 In 1) 255) 16)) (mo_shl (mo_and (mv_rd 32 In 2) 255) 8)) (mo_and (mv_rd 32 In 3) 255))) xc27_55 rfl) ?_
  exact sy_Fi xc27_56 xr27 rfl ⟨_, word_lt In 0 1 2 3, rfl, rfl⟩
theorem cf_mo  (hw : wh 30 pl w0 w [(0, 1, 13, X0), (0, 8, 11, X1), (3, 6, 40, cbs), (0, 9, 11, X3), (1, 1, 105, Hd), (1, 1, 32, Id), (1, 1, 128, Ids), (1, 1, 480, Ads), (1, 1, 32, Br), (1, 1, 32, Dg), (0, 2, 13, X10), (1, 1, 64, Sp), (1, 0, 64, Sw), (1, 0, 8, Ss), (1, 1, 32, In), (1, 1, 32, Mk), (1, 0, 8, Is), (1, 0, 8, Os), (1, 0, 8, Ks), (1, 1, 64, Kp), (0, 9, 11, X20), (1, 1, 105, Bh), (1, 1, 32, Bd), (3, 7, 4, cps), (1, 1, 28, Mb), (1, 1, 32, Ti), (0, 10, 6, X26), (1, 0, 4, Pr), (1, 0, 1, Nu)]) (hX0 : fh X0 kX [(2, pl 1, 0), (0, 0, 0)]) (hX1 : fh X1 kM [(0, 1, 0), (2, pl 2, 0), (0, 0, 0), (2, pl 10, 0), (2, pl 6, 0), (2, pl 7, 0), (0, ac, 0), (2, pl 8, 0), (2, pl 9, 0)]) (hX3 : fh X3 kB [(2, pl 5, 0), (2, pl 4, 0), (0, 0, 0), (0, 4, 0), (3, 0, 0)]) (hX10 : fh X10 kS [(2, pl 11, 0), (2, pl 12, 0), (2, pl 13, 0), (2, pl 14, 0), (0, su, 0), (0, sl, 0), (2, pl 15, 0), (2, pl 16, 0), (2, pl 17, 0), (0, 1, 0), (2, pl 18, 0), (2, pl 19, 0), (0, kl, 0)]) (hX20 : fh X20 kN [(2, pl 3, 0), (0, 1, 0), (0, 1, 0), (0, wk, 0), (2, pl 21, 0), (2, pl 22, 0), (2, pl 23, 0), (0, 1, 0), (3, 0, 0), (0, 0, 0), (3, 0, 0)]) (hX26 : fh X26 kP [(2, pl 24, 0), (0, 0, 0), (0, 1, 0), (0, 28, 0), (2, pl 25, 0), (2, pl 27, 0)]) (hne : mv_rd 32 Mk 0 ≠ mv_rd 32 Bh 0) (hsu : su < 64) (hsl : sl < 4294967296) : sy_D 36 n 4 91 [(2, pl 10, 0), (2, pl 21, 0), (2, pl 7, 0), (0, 0, 0)] w (fun ret w' => ∃ Y10 Y11 Y12 Y13 Y14 Y15 Y16 Y17 yu yl : Nat, (∃ x : Nat, x < 4294967296 ∧ ret = [(1, x, 0)]) ∧ (yu < 64 ∧ yl < 4294967296) ∧ wh 30 pl w0 w' [(0, 1, 13, X0), (0, 8, 11, X1), (3, 6, 40, cbs), (0, 9, 11, X3), (1, 1, 105, Hd), (1, 1, 32, Id), (1, 1, 128, Ids), (1, 1, 480, Ads), (1, 1, 32, Br), (1, 1, 32, Dg), (0, 2, 13, Y10), (1, 1, 64, Y11), (1, 0, 64, Y12), (1, 0, 8, Y13), (1, 1, 32, Y14), (1, 1, 32, Y15), (1, 0, 8, Y16), (1, 0, 8, Y17), (1, 0, 8, Ks), (1, 1, 64, Kp), (0, 9, 11, X20), (1, 1, 105, Bh), (1, 1, 32, Bd), (3, 7, 4, cps), (1, 1, 28, Mb), (1, 1, 32, Ti), (0, 10, 6, X26), (1, 0, 4, Pr), (1, 0, 1, Nu)] ∧ fh Y10 kS [(2, pl 11, 0), (2, pl 12, 0), (2, pl 13, 0), (2, pl 14, 0), (0, yu, 0), (0, yl, 0), (2, pl 15, 0), (2, pl 16, 0), (2, pl 17, 0), (0, 1, 0), (2, pl 18, 0), (2, pl 19, 0), (0, kl, 0)]) := by
  refine sy_Dof (us := []) (sy_oks_cons (sy_ok2 (wh_lt hw 10 (by first | decide | assumption))) (sy_oks_cons (sy_ok2 (wh_lt hw 21 (by first | decide | assumption))) (sy_oks_cons (sy_ok2 (wh_lt hw 7 (by first | decide | assumption))) (sy_oks_cons (sy_ok0 (by first | decide | assumption | omega | exact mo_rd_lt _ _ | exact mo_add_lt _ _ | exact mo_sub_lt _ _ | exact mo_mul_lt _ _ | exact mo_shl_lt _ _ | exact mo_ushr_lt _ _ | exact mo_or_lt (by decide) (mo_and_lt (mo_rd_lt _ _)) | exact mo_or_lt (mo_shl_lt _ _) (mo_and_lt (mo_rd_lt _ _)))) sy_oks_nil)))) rfl rfl ?_
  show sy_F 36 n 4 91 0 [(2, pl 10, 0), (2, pl 21, 0), (2, pl 7, 0), (0, 0, 0)] [] w _
  refine sy_Fs (sy_aldn xc36_0 rfl rfl sy_refl) ?_
  refine sy_Fs (sy_aldn xc36_1 rfl rfl sy_refl) ?_
  refine sy_Fs (sy_iconst (v := 0) xc36_2 (by decide) sy_refl) ?_
  obtain ⟨ret, w, ⟨X10, Y11m1, Y12m1, Y13m1, Y15m1, Y16m1, Y17m1, um1, lm1, rfl, ⟨hsu, hsl⟩, hwm1, hXm1x⟩, hC⟩ := cf_bm (n := n) hw hX0 hX1 hX3 hX10 hX20 hX26 hne hsu hsl
  refine sy_Fs (sy_callG (kd := 3) (as := [(2, pl 10, 0), (2, pl 21, 0), (0, 0, 0)]) (S0 := []) (ret := []) xc36_3 (sy_calV (as := [(2, pl 10, 0), (2, pl 21, 0), (0, 0, 0)]) (S0 := []) xm36_106 rfl rfl) rfl rfl (sy_rcvm xi37 (wh_at hw 10 rfl)) rfl (sy_oka (sy_oks_cons (sy_ok2 (wh_lt hw 10 (by first | decide | assumption))) (sy_oks_cons (sy_ok2 (wh_lt hw 21 (by first | decide | assumption))) (sy_oks_cons (sy_ok0 (by first | decide | assumption | omega | exact mo_rd_lt _ _ | exact mo_add_lt _ _ | exact mo_sub_lt _ _ | exact mo_mul_lt _ _ | exact mo_shl_lt _ _ | exact mo_ushr_lt _ _ | exact mo_or_lt (by decide) (mo_and_lt (mo_rd_lt _ _)) | exact mo_or_lt (mo_shl_lt _ _) (mo_and_lt (mo_rd_lt _ _)))) sy_oks_nil))) rfl xl37) hC (by decide) (by rw [xl37]; decide) sy_refl) ?_
  replace hw := hwm1
  replace hX10 := hXm1x
  refine sy_Fs (sy_aldn xc36_6 rfl rfl sy_refl) ?_
  refine sy_Fs (sy_aldn xc36_7 rfl rfl sy_refl) ?_
  refine sy_Fs (sy_ildn xc36_8 rfl rfl sy_refl) ?_
  refine sy_Fs (sy_bipush (v := 20) xc36_9 (by decide) (by decide) sy_refl) ?_
  obtain ⟨w, X10, Pq2, Wq2, Sq2, uq2, lq2, hC, hwq2, hXq2x, hsu, hsl⟩ := we_put (n := n) (s := (um1, lm1, Y11m1, Y12m1, Y13m1)) (jf := 7) (fa := 0) (nn := 20) hw rfl rfl rfl rfl hX10 rfl rfl rfl rfl rfl hsu hsl (by decide) (by decide) rfl (by first | decide | assumption | omega) (by first | decide | assumption | omega)
  refine sy_Fs (sy_callG (kd := 3) (as := [(2, pl 10, 0), (2, pl 7, 0), (0, 0, 0), (0, 20, 0)]) (S0 := []) (ret := []) xc36_11 (sy_calV (as := [(2, pl 10, 0), (2, pl 7, 0), (0, 0, 0), (0, 20, 0)]) (S0 := []) xm36_80 rfl rfl) rfl rfl (sy_rcvm xi15 (wh_at hw 10 rfl)) rfl (sy_oka (sy_oks_cons (sy_ok2 (wh_lt hw 10 (by first | decide | assumption))) (sy_oks_cons (sy_ok2 (wh_lt hw 7 (by first | decide | assumption))) (sy_oks_cons (sy_ok0 (by first | decide | assumption | omega | exact mo_rd_lt _ _ | exact mo_add_lt _ _ | exact mo_sub_lt _ _ | exact mo_mul_lt _ _ | exact mo_shl_lt _ _ | exact mo_ushr_lt _ _ | exact mo_or_lt (by decide) (mo_and_lt (mo_rd_lt _ _)) | exact mo_or_lt (mo_shl_lt _ _) (mo_and_lt (mo_rd_lt _ _)))) (sy_oks_cons (sy_ok0 (by first | decide | assumption | omega | exact mo_rd_lt _ _ | exact mo_add_lt _ _ | exact mo_sub_lt _ _ | exact mo_mul_lt _ _ | exact mo_shl_lt _ _ | exact mo_ushr_lt _ _ | exact mo_or_lt (by decide) (mo_and_lt (mo_rd_lt _ _)) | exact mo_or_lt (mo_shl_lt _ _) (mo_and_lt (mo_rd_lt _ _)))) sy_oks_nil)))) rfl xl15) hC (by decide) (by rw [xl15]; decide) sy_refl) ?_
  replace hw := hwq2
  replace hX10 := hXq2x
  simp only [List.set_cons_zero, List.set_cons_succ] at hw hX10
  refine sy_Fs (sy_aldn xc36_14 rfl rfl sy_refl) ?_
  refine sy_Fs (sy_aldn xc36_15 rfl rfl sy_refl) ?_
  refine sy_Fs (sy_gf xc36_16 xf36_22 rfl (wh_at hw 10 rfl) rfl (fh_at hX10 3 rfl rfl) sy_refl) ?_
  refine sy_Fs (sy_iconst (v := 0) xc36_19 (by decide) sy_refl) ?_
  obtain ⟨ret, w, ⟨X10, Y11m3, Y12m3, Y13m3, Y14m3, um3, lm3, rfl, ⟨hsu, hsl⟩, hwm3, hXm3x⟩, hC⟩ := cf_em (n := n) hw hX0 hX1 hX3 hX10 hX20 hX26  hsu hsl
  refine sy_Fs (sy_callG (kd := 3) (as := [(2, pl 10, 0), (2, pl 14, 0), (0, 0, 0)]) (S0 := []) (ret := []) xc36_20 (sy_calV (as := [(2, pl 10, 0), (2, pl 14, 0), (0, 0, 0)]) (S0 := []) xm36_109 rfl rfl) rfl rfl (sy_rcvm xi40 (wh_at hw 10 rfl)) rfl (sy_oka (sy_oks_cons (sy_ok2 (wh_lt hw 10 (by first | decide | assumption))) (sy_oks_cons (sy_ok2 (wh_lt hw 14 (by first | decide | assumption))) (sy_oks_cons (sy_ok0 (by first | decide | assumption | omega | exact mo_rd_lt _ _ | exact mo_add_lt _ _ | exact mo_sub_lt _ _ | exact mo_mul_lt _ _ | exact mo_shl_lt _ _ | exact mo_ushr_lt _ _ | exact mo_or_lt (by decide) (mo_and_lt (mo_rd_lt _ _)) | exact mo_or_lt (mo_shl_lt _ _) (mo_and_lt (mo_rd_lt _ _)))) sy_oks_nil))) rfl xl40) hC (by decide) (by rw [xl40]; decide) sy_refl) ?_
  replace hw := hwm3
  replace hX10 := hXm3x
  refine sy_Fs (sy_aldn xc36_23 rfl rfl sy_refl) ?_
  refine sy_Fs (sy_gf xc36_24 xf36_22 rfl (wh_at hw 10 rfl) rfl (fh_at hX10 3 rfl rfl) sy_refl) ?_
  refine sy_Fs (sy_iconst (v := 0) xc36_27 (by decide) sy_refl) ?_
  obtain ⟨ret, w1, ⟨x, hx, rfl, rfl⟩, hC⟩ := cf_wa (n := n) hw hX0 hX1 hX3 hX10 hX20 hX26
  refine sy_Fs (sy_callG (kd := 2) (as := [(2, pl 14, 0), (0, 0, 0)]) (S0 := []) (ret := [(0, x, 0)]) xc36_28 (sy_calS (as := [(2, pl 14, 0), (0, 0, 0)]) (S0 := []) xm36_112 rfl rfl) rfl rfl rfl rfl (sy_oka (sy_oks_cons (sy_ok2 (wh_lt hw 14 (by first | decide | assumption))) (sy_oks_cons (sy_ok0 (by first | decide | assumption | omega | exact mo_rd_lt _ _ | exact mo_add_lt _ _ | exact mo_sub_lt _ _ | exact mo_mul_lt _ _ | exact mo_shl_lt _ _ | exact mo_ushr_lt _ _ | exact mo_or_lt (by decide) (mo_and_lt (mo_rd_lt _ _)) | exact mo_or_lt (mo_shl_lt _ _) (mo_and_lt (mo_rd_lt _ _)))) sy_oks_nil)) rfl xl27) hC (by decide) (by rw [xl27]; decide) sy_refl) ?_
  rcases Nat.lt_or_ge x 2147483648 with hc | hc
  · skip
    refine sy_Fs (sx_i2l xc36_31 (by first | decide | assumption | omega | exact mo_rd_lt _ _ | exact mo_add_lt _ _ | exact mo_sub_lt _ _ | exact mo_mul_lt _ _ | exact mo_shl_lt _ _ | exact mo_ushr_lt _ _ | exact mo_or_lt (by decide) (mo_and_lt (mo_rd_lt _ _)) | exact mo_or_lt (mo_shl_lt _ _) (mo_and_lt (mo_rd_lt _ _)))) ?_
    refine sy_Fs (sy_ldc2 (v := 4294967295) xc36_32 xk36_116 sy_refl) ?_
    refine sy_Fs (sx_land (z := (mo_land x 4294967295)) xc36_35 rfl) ?_
    exact sy_Fl xc36_36 xr36 rfl ⟨X10, _, _, _, _, _, _, _, _, _, ⟨_, mark_lt _, rfl⟩, ⟨hsu, hsl⟩, hw, hX10⟩
  · skip
    refine sy_Fs (sx_i2ln xc36_31 hc hx) ?_
    refine sy_Fs (sy_ldc2 (v := 4294967295) xc36_32 xk36_116 sy_refl) ?_
    refine sy_Fs (sx_land (z := (mo_land (x + 18446744069414584320) 4294967295)) xc36_35 rfl) ?_
    exact sy_Fl xc36_36 xr36 rfl ⟨X10, _, _, _, _, _, _, _, _, _, ⟨_, mark_lt _, rfl⟩, ⟨hsu, hsl⟩, hw, hX10⟩
theorem cf_no {m : Nat} (hm : m < 4294967296) : sy_D 41 n 0 0 [(1, m, 0), (0, 1, 0)] w (fun ret w' => ∃ x : Nat, x < 64 ∧ ret = [(0, x, 0)] ∧ w' = w) := by
  have h : sy_F 41 n 0 0 0 [(1, m, 0), (255, 0, 0), (0, 1, 0)] [] w (fun ret w' => ∃ x : Nat, x < 64 ∧ ret = [(0, x, 0)] ∧ w' = w) := by
    refine sy_Fs (sy_lldn (j := 0) xc41_0 rfl rfl rfl sy_refl) ?_
    refine sy_Fs (sy_ldc2 (v := 64) xc41_1 xk41_79 sy_refl) ?_
    refine sy_Fs (sx_lmul (z := (mo_lmul m 64)) xc41_4 rfl) ?_
    refine sy_Fs (sy_ildn xc41_5 rfl rfl sy_refl) ?_
    refine sy_Fs (sx_i2l xc41_6 (by first | decide | assumption | omega | exact mo_rd_lt _ _ | exact mo_add_lt _ _ | exact mo_sub_lt _ _ | exact mo_mul_lt _ _ | exact mo_shl_lt _ _ | exact mo_ushr_lt _ _ | exact mo_or_lt (by decide) (mo_and_lt (mo_rd_lt _ _)) | exact mo_or_lt (mo_shl_lt _ _) (mo_and_lt (mo_rd_lt _ _)))) ?_
    refine sy_Fs (sx_lmul (z := (mo_lmul (mo_lmul m 64) 1)) xc41_7 rfl) ?_
    refine sy_Fs (sy_bipush (v := 32) xc41_8 (by decide) (by decide) sy_refl) ?_
    refine sy_Fs (sx_lushr (z := (mo_lushr (mo_lmul (mo_lmul m 64) 1) 32)) xc41_10 rfl) ?_
    refine sy_Fs (sx_l2i (z := ((mo_lushr (mo_lmul (mo_lmul m 64) 1) 32) % 4294967296)) xc41_11 rfl) ?_
    exact sy_Fi xc41_12 xr41 rfl ⟨_, number_lt hm, rfl, rfl⟩
  obtain ⟨f, ret, w2, q, r⟩ := h _ (sx_l1i (by omega) (by decide))
  exact ⟨ret, w2, q, f, r⟩
end FM
