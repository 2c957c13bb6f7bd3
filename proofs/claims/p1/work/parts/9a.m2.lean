/-! THE REFERENCE'S MINE, II: mac -/
theorem mkf_middle : tt_fl 107 131 = (1, 0, 15) := by decide +kernel
theorem cd107_0 : tt_cd 107 0 = (1, .aload_n 0, 1) := by decide +kernel
theorem cd107_1 : tt_cd 107 1 = (10, .invokevirtual 124, 3) := by decide +kernel
theorem cd107_4 : tt_cd 107 4 = (2, .iconst 0, 1) := by decide +kernel
theorem cd107_5 : tt_cd 107 5 = (1, .istore 8, 2) := by decide +kernel
theorem cd107_7 : tt_cd 107 7 = (1, .iload 8, 2) := by decide +kernel
theorem cd107_9 : tt_cd 107 9 = (4, .bipush 64, 2) := by decide +kernel
theorem cd107_11 : tt_cd 107 11 = (5, .if_icmp .ge 33, 3) := by decide +kernel
theorem cd107_14 : tt_cd 107 14 = (1, .aload_n 0, 1) := by decide +kernel
theorem cd107_15 : tt_cd 107 15 = (1, .iload 8, 2) := by decide +kernel
theorem cd107_17 : tt_cd 107 17 = (4, .bipush 32, 2) := by decide +kernel
theorem cd107_19 : tt_cd 107 19 = (5, .if_icmp .ge 12, 3) := by decide +kernel
theorem cd107_22 : tt_cd 107 22 = (1, .aload_n 1, 1) := by decide +kernel
theorem cd107_23 : tt_cd 107 23 = (1, .iload_n 2, 1) := by decide +kernel
theorem cd107_24 : tt_cd 107 24 = (1, .iload 8, 2) := by decide +kernel
theorem cd107_26 : tt_cd 107 26 = (2, .iadd, 1) := by decide +kernel
theorem cd107_27 : tt_cd 107 27 = (3, .baload, 1) := by decide +kernel
theorem cd107_28 : tt_cd 107 28 = (5, .goto 4, 3) := by decide +kernel
theorem cd107_31 : tt_cd 107 31 = (2, .iconst 0, 1) := by decide +kernel
theorem cd107_32 : tt_cd 107 32 = (4, .bipush 54, 2) := by decide +kernel
theorem cd107_34 : tt_cd 107 34 = (2, .ixor, 1) := by decide +kernel
theorem cd107_35 : tt_cd 107 35 = (10, .invokevirtual 120, 3) := by decide +kernel
theorem cd107_38 : tt_cd 107 38 = (1, .iinc 8 1, 3) := by decide +kernel
theorem cd107_41 : tt_cd 107 41 = (5, .goto (-34), 3) := by decide +kernel
theorem cd107_44 : tt_cd 107 44 = (1, .aload_n 0, 1) := by decide +kernel
theorem cd107_45 : tt_cd 107 45 = (1, .aload_n 3, 1) := by decide +kernel
theorem cd107_46 : tt_cd 107 46 = (1, .iload 4, 2) := by decide +kernel
theorem cd107_48 : tt_cd 107 48 = (1, .iload 5, 2) := by decide +kernel
theorem cd107_50 : tt_cd 107 50 = (10, .invokevirtual 127, 3) := by decide +kernel
theorem cd107_53 : tt_cd 107 53 = (1, .aload_n 0, 1) := by decide +kernel
theorem cd107_54 : tt_cd 107 54 = (1, .aload_n 0, 1) := by decide +kernel
theorem cd107_55 : tt_cd 107 55 = (3, .getfield 131, 3) := by decide +kernel
theorem cd107_58 : tt_cd 107 58 = (2, .iconst 0, 1) := by decide +kernel
theorem cd107_59 : tt_cd 107 59 = (10, .invokevirtual 134, 3) := by decide +kernel
theorem cd107_62 : tt_cd 107 62 = (1, .aload_n 0, 1) := by decide +kernel
theorem cd107_63 : tt_cd 107 63 = (10, .invokevirtual 124, 3) := by decide +kernel
theorem cd107_66 : tt_cd 107 66 = (2, .iconst 0, 1) := by decide +kernel
theorem cd107_67 : tt_cd 107 67 = (1, .istore 8, 2) := by decide +kernel
theorem cd107_69 : tt_cd 107 69 = (1, .iload 8, 2) := by decide +kernel
theorem cd107_71 : tt_cd 107 71 = (4, .bipush 64, 2) := by decide +kernel
theorem cd107_73 : tt_cd 107 73 = (5, .if_icmp .ge 33, 3) := by decide +kernel
theorem cd107_76 : tt_cd 107 76 = (1, .aload_n 0, 1) := by decide +kernel
theorem cd107_77 : tt_cd 107 77 = (1, .iload 8, 2) := by decide +kernel
theorem cd107_79 : tt_cd 107 79 = (4, .bipush 32, 2) := by decide +kernel
theorem cd107_81 : tt_cd 107 81 = (5, .if_icmp .ge 12, 3) := by decide +kernel
theorem cd107_84 : tt_cd 107 84 = (1, .aload_n 1, 1) := by decide +kernel
theorem cd107_85 : tt_cd 107 85 = (1, .iload_n 2, 1) := by decide +kernel
theorem cd107_86 : tt_cd 107 86 = (1, .iload 8, 2) := by decide +kernel
theorem cd107_88 : tt_cd 107 88 = (2, .iadd, 1) := by decide +kernel
theorem cd107_89 : tt_cd 107 89 = (3, .baload, 1) := by decide +kernel
theorem cd107_90 : tt_cd 107 90 = (5, .goto 4, 3) := by decide +kernel
theorem cd107_93 : tt_cd 107 93 = (2, .iconst 0, 1) := by decide +kernel
theorem cd107_94 : tt_cd 107 94 = (4, .bipush 92, 2) := by decide +kernel
theorem cd107_96 : tt_cd 107 96 = (2, .ixor, 1) := by decide +kernel
theorem cd107_97 : tt_cd 107 97 = (10, .invokevirtual 120, 3) := by decide +kernel
theorem cd107_100 : tt_cd 107 100 = (1, .iinc 8 1, 3) := by decide +kernel
theorem cd107_103 : tt_cd 107 103 = (5, .goto (-34), 3) := by decide +kernel
theorem cd107_106 : tt_cd 107 106 = (1, .aload_n 0, 1) := by decide +kernel
theorem cd107_107 : tt_cd 107 107 = (1, .aload_n 0, 1) := by decide +kernel
theorem cd107_108 : tt_cd 107 108 = (3, .getfield 131, 3) := by decide +kernel
theorem cd107_111 : tt_cd 107 111 = (2, .iconst 0, 1) := by decide +kernel
theorem cd107_112 : tt_cd 107 112 = (4, .bipush 32, 2) := by decide +kernel
theorem cd107_114 : tt_cd 107 114 = (10, .invokevirtual 127, 3) := by decide +kernel
theorem cd107_117 : tt_cd 107 117 = (1, .aload_n 0, 1) := by decide +kernel
theorem cd107_118 : tt_cd 107 118 = (1, .aload 6, 2) := by decide +kernel
theorem cd107_120 : tt_cd 107 120 = (1, .iload 7, 2) := by decide +kernel
theorem cd107_122 : tt_cd 107 122 = (10, .invokevirtual 134, 3) := by decide +kernel
theorem cd107_125 : tt_cd 107 125 = (9, .return_, 1) := by decide +kernel
theorem mL107 : tt_mL 107 = 9 := by decide +kernel
theorem ml107_120 : tt_ml 107 120 = (3, 103, 1) := by decide +kernel
theorem ml107_124 : tt_ml 107 124 = (3, 101, 0) := by decide +kernel
theorem ml107_127 : tt_ml 107 127 = (3, 102, 3) := by decide +kernel
theorem ml107_134 : tt_ml 107 134 = (3, 106, 2) := by decide +kernel
theorem mr107 : tt_mr 107 = 0 := by decide +kernel
section MK
variable {w : mv_T 10} {n fr lo p0 pp pk pq pv ps X K pkk pf pt pa pm ka fa nn at_ qk qf q C Cf A Mi T m : Nat} {s : rs_T}
def rk_b (C ka x m : Nat) : Nat := mo_xor (if m < 32 then mv_rd 32 C (ka + m) else 0) x
theorem rk_b_lt {x : Nat} (hx : x < 4294967296) : rk_b C ka x m < 4294967296 := by
  unfold rk_b
  refine mo_xor_lt ?_ hx
  by_cases h : m < 32
  · rw [if_pos h]; exact mo_rd_lt _ _
  · rw [if_neg h]; decide
def rk (K C ka x : Nat) (s : rs_T) : Nat → rs_T
  | 0 => s
  | m + 1 => rs_1 K (rk_b C ka x m) (rk K C ka x s m)
theorem rk_ok {x : Nat} (h : s.1 < 64) : ∀ m, (rk K C ka x s m).1 < 64
  | 0 => h
  | m + 1 => rs_1_ok (rk_ok h m)
theorem rk_l {x : Nat} (h : s.2.1 < 18446744073709551616) : ∀ m, (rk K C ka x s m).2.1 < 18446744073709551616
  | 0 => h
  | m + 1 => by
    show (rs_1 K (rk_b C ka x m) (rk K C ka x s m)).2.1 < _
    exact rs_1_l
theorem mk_1 (hm2 : m < 64) (D : rs_D w p0 pp pk pq pv ps X K) (Ok : rs_O p0 pp pq pv ps pkk) (hC : mv_get 10 w pkk = (1, 1, qk, C)) (hqk : qk ≤ 2147483647) (hk : ka + 32 ≤ qk) (hs : s.1 < 64) (hl : s.2.1 < 18446744073709551616) (hfr : 2 + 1 ≤ fr) (hlo : 8 + (tt_mL 103 + 11) + 51 ≤ lo) : sy_R 107 n fr lo 7 [(2, p0, 0), (2, pkk, 0), (0, ka, 0), (2, pf, 0), (0, fa, 0), (0, nn, 0), (2, pt, 0), (0, at_, 0), (0, m, 0)] [] (rs_W w p0 pp pq pv ps X s) 7 [(2, p0, 0), (2, pkk, 0), (0, ka, 0), (2, pf, 0), (0, fa, 0), (0, nn, 0), (2, pt, 0), (0, at_, 0), (0, m + 1, 0)] [] (rs_W w p0 pp pq pv ps X (rs_1 K (rk_b C ka 54 m) s)) := by
  by_cases h : m < 32
  · have eb : mo_xor (mv_rd 32 C (ka + m)) 54 = rk_b C ka 54 m := by unfold rk_b; rw [if_pos h]
    refine sy_ild cd107_7 rfl rfl ?_
    refine sy_bipush (v := 64) cd107_9 (by decide) (by decide) ?_
    refine sy_ge_f cd107_11 (by decide) hm2 (by decide) ?_
    refine sy_aldn cd107_14 rfl rfl ?_
    refine sy_ild cd107_15 rfl rfl ?_
    refine sy_bipush (v := 32) cd107_17 (by decide) (by decide) ?_
    refine sy_ge_f cd107_19 (by decide) h (by decide) ?_
    refine sy_aldn cd107_22 rfl rfl ?_
    refine sy_ildn cd107_23 rfl rfl ?_
    refine sy_ild cd107_24 rfl rfl ?_
    refine sy_trans (sx_iadd (z := ka + m) cd107_26 (Nat.mod_eq_of_lt (by omega))) ?_
    refine sy_bal (i := ka + m) cd107_27 ((rs_go D Ok).trans hC) rfl (by omega) hqk ?_
    refine sy_goto (pc' := 32) cd107_28 (by decide) (by decide) ?_
    refine sy_bipush (v := 54) cd107_32 (by decide) (by decide) ?_
    refine sy_trans (sx_ixor (z := rk_b C ka 54 m) cd107_34 eb) ?_
    refine sy_callG (kd := 3) (as := [(2, p0, 0), (0, rk_b C ka 54 m, 0)]) (S0 := []) (ret := []) cd107_35 (sy_calV (as := [(2, p0, 0), (0, rk_b C ka 54 m, 0)]) (S0 := []) ml107_120 rfl rfl) rfl rfl (sy_rcvm mci103 (rs_g0 D)) rfl (sy_oka (sy_oks_cons (sy_ok2 D.1.1) (sy_oks_cons (sy_ok0 (rk_b_lt (by decide))) sy_oks_nil)) rfl mL103) (rs_byte hs hl (rk_b_lt (by decide)) D) hfr hlo ?_
    simp only [List.nil_append, List.cons_append]
    refine sy_iinc (c := 1) cd107_38 rfl (by decide) (by rw [mL107]; rfl) rfl ?_
    simp only [List.set_cons_zero, List.set_cons_succ]
    refine sy_goto (pc' := 7) cd107_41 (by decide) (by decide) ?_
    rw [mo_inc (by omega)]
    exact sy_refl
  · have eb : mo_xor 0 54 = rk_b C ka 54 m := by unfold rk_b; rw [if_neg h]
    refine sy_ild cd107_7 rfl rfl ?_
    refine sy_bipush (v := 64) cd107_9 (by decide) (by decide) ?_
    refine sy_ge_f cd107_11 (by decide) hm2 (by decide) ?_
    refine sy_aldn cd107_14 rfl rfl ?_
    refine sy_ild cd107_15 rfl rfl ?_
    refine sy_bipush (v := 32) cd107_17 (by decide) (by decide) ?_
    refine sy_ge_t (pc' := 31) cd107_19 (by decide) (by omega) (by omega) (by decide) ?_
    refine sy_iconst (v := 0) cd107_31 (by decide) ?_
    refine sy_bipush (v := 54) cd107_32 (by decide) (by decide) ?_
    refine sy_trans (sx_ixor (z := rk_b C ka 54 m) cd107_34 eb) ?_
    refine sy_callG (kd := 3) (as := [(2, p0, 0), (0, rk_b C ka 54 m, 0)]) (S0 := []) (ret := []) cd107_35 (sy_calV (as := [(2, p0, 0), (0, rk_b C ka 54 m, 0)]) (S0 := []) ml107_120 rfl rfl) rfl rfl (sy_rcvm mci103 (rs_g0 D)) rfl (sy_oka (sy_oks_cons (sy_ok2 D.1.1) (sy_oks_cons (sy_ok0 (rk_b_lt (by decide))) sy_oks_nil)) rfl mL103) (rs_byte hs hl (rk_b_lt (by decide)) D) hfr hlo ?_
    simp only [List.nil_append, List.cons_append]
    refine sy_iinc (c := 1) cd107_38 rfl (by decide) (by rw [mL107]; rfl) rfl ?_
    simp only [List.set_cons_zero, List.set_cons_succ]
    refine sy_goto (pc' := 7) cd107_41 (by decide) (by decide) ?_
    rw [mo_inc (by omega)]
    exact sy_refl
theorem mk_1s (D : rs_D w p0 pp pk pq pv ps X K) (Ok : rs_O p0 pp pq pv ps pkk) (hC : mv_get 10 w pkk = (1, 1, qk, C)) (hqk : qk ≤ 2147483647) (hk : ka + 32 ≤ qk) (hs : s.1 < 64) (hl : s.2.1 < 18446744073709551616) (hfr : 2 + 1 ≤ fr) (hlo : 8 + (tt_mL 103 + 11) + 51 ≤ lo) : ∀ m, m ≤ 64 → sy_R 107 n fr lo 7 [(2, p0, 0), (2, pkk, 0), (0, ka, 0), (2, pf, 0), (0, fa, 0), (0, nn, 0), (2, pt, 0), (0, at_, 0), (0, 0, 0)] [] (rs_W w p0 pp pq pv ps X s) 7 [(2, p0, 0), (2, pkk, 0), (0, ka, 0), (2, pf, 0), (0, fa, 0), (0, nn, 0), (2, pt, 0), (0, at_, 0), (0, m, 0)] [] (rs_W w p0 pp pq pv ps X (rk K C ka 54 s m))
  | 0, _ => sy_refl
  | m + 1, h => sy_trans (mk_1s D Ok hC hqk hk hs hl hfr hlo m (by omega)) (mk_1 (s := rk K C ka 54 s m) (by omega) D Ok hC hqk hk (rk_ok hs m) (rk_l hl m) hfr hlo)
theorem mk_2 (hm2 : m < 64) (D : rs_D w p0 pp pk pq pv ps X K) (Ok : rs_O p0 pp pq pv ps pkk) (hC : mv_get 10 w pkk = (1, 1, qk, C)) (hqk : qk ≤ 2147483647) (hk : ka + 32 ≤ qk) (hs : s.1 < 64) (hl : s.2.1 < 18446744073709551616) (hfr : 2 + 1 ≤ fr) (hlo : 8 + (tt_mL 103 + 11) + 51 ≤ lo) : sy_R 107 n fr lo 69 [(2, p0, 0), (2, pkk, 0), (0, ka, 0), (2, pf, 0), (0, fa, 0), (0, nn, 0), (2, pt, 0), (0, at_, 0), (0, m, 0)] [] (rs_W w p0 pp pq pv ps X s) 69 [(2, p0, 0), (2, pkk, 0), (0, ka, 0), (2, pf, 0), (0, fa, 0), (0, nn, 0), (2, pt, 0), (0, at_, 0), (0, m + 1, 0)] [] (rs_W w p0 pp pq pv ps X (rs_1 K (rk_b C ka 92 m) s)) := by
  by_cases h : m < 32
  · have eb : mo_xor (mv_rd 32 C (ka + m)) 92 = rk_b C ka 92 m := by unfold rk_b; rw [if_pos h]
    refine sy_ild cd107_69 rfl rfl ?_
    refine sy_bipush (v := 64) cd107_71 (by decide) (by decide) ?_
    refine sy_ge_f cd107_73 (by decide) hm2 (by decide) ?_
    refine sy_aldn cd107_76 rfl rfl ?_
    refine sy_ild cd107_77 rfl rfl ?_
    refine sy_bipush (v := 32) cd107_79 (by decide) (by decide) ?_
    refine sy_ge_f cd107_81 (by decide) h (by decide) ?_
    refine sy_aldn cd107_84 rfl rfl ?_
    refine sy_ildn cd107_85 rfl rfl ?_
    refine sy_ild cd107_86 rfl rfl ?_
    refine sy_trans (sx_iadd (z := ka + m) cd107_88 (Nat.mod_eq_of_lt (by omega))) ?_
    refine sy_bal (i := ka + m) cd107_89 ((rs_go D Ok).trans hC) rfl (by omega) hqk ?_
    refine sy_goto (pc' := 94) cd107_90 (by decide) (by decide) ?_
    refine sy_bipush (v := 92) cd107_94 (by decide) (by decide) ?_
    refine sy_trans (sx_ixor (z := rk_b C ka 92 m) cd107_96 eb) ?_
    refine sy_callG (kd := 3) (as := [(2, p0, 0), (0, rk_b C ka 92 m, 0)]) (S0 := []) (ret := []) cd107_97 (sy_calV (as := [(2, p0, 0), (0, rk_b C ka 92 m, 0)]) (S0 := []) ml107_120 rfl rfl) rfl rfl (sy_rcvm mci103 (rs_g0 D)) rfl (sy_oka (sy_oks_cons (sy_ok2 D.1.1) (sy_oks_cons (sy_ok0 (rk_b_lt (by decide))) sy_oks_nil)) rfl mL103) (rs_byte hs hl (rk_b_lt (by decide)) D) hfr hlo ?_
    simp only [List.nil_append, List.cons_append]
    refine sy_iinc (c := 1) cd107_100 rfl (by decide) (by rw [mL107]; rfl) rfl ?_
    simp only [List.set_cons_zero, List.set_cons_succ]
    refine sy_goto (pc' := 69) cd107_103 (by decide) (by decide) ?_
    rw [mo_inc (by omega)]
    exact sy_refl
  · have eb : mo_xor 0 92 = rk_b C ka 92 m := by unfold rk_b; rw [if_neg h]
    refine sy_ild cd107_69 rfl rfl ?_
    refine sy_bipush (v := 64) cd107_71 (by decide) (by decide) ?_
    refine sy_ge_f cd107_73 (by decide) hm2 (by decide) ?_
    refine sy_aldn cd107_76 rfl rfl ?_
    refine sy_ild cd107_77 rfl rfl ?_
    refine sy_bipush (v := 32) cd107_79 (by decide) (by decide) ?_
    refine sy_ge_t (pc' := 93) cd107_81 (by decide) (by omega) (by omega) (by decide) ?_
    refine sy_iconst (v := 0) cd107_93 (by decide) ?_
    refine sy_bipush (v := 92) cd107_94 (by decide) (by decide) ?_
    refine sy_trans (sx_ixor (z := rk_b C ka 92 m) cd107_96 eb) ?_
    refine sy_callG (kd := 3) (as := [(2, p0, 0), (0, rk_b C ka 92 m, 0)]) (S0 := []) (ret := []) cd107_97 (sy_calV (as := [(2, p0, 0), (0, rk_b C ka 92 m, 0)]) (S0 := []) ml107_120 rfl rfl) rfl rfl (sy_rcvm mci103 (rs_g0 D)) rfl (sy_oka (sy_oks_cons (sy_ok2 D.1.1) (sy_oks_cons (sy_ok0 (rk_b_lt (by decide))) sy_oks_nil)) rfl mL103) (rs_byte hs hl (rk_b_lt (by decide)) D) hfr hlo ?_
    simp only [List.nil_append, List.cons_append]
    refine sy_iinc (c := 1) cd107_100 rfl (by decide) (by rw [mL107]; rfl) rfl ?_
    simp only [List.set_cons_zero, List.set_cons_succ]
    refine sy_goto (pc' := 69) cd107_103 (by decide) (by decide) ?_
    rw [mo_inc (by omega)]
    exact sy_refl
theorem mk_2s (D : rs_D w p0 pp pk pq pv ps X K) (Ok : rs_O p0 pp pq pv ps pkk) (hC : mv_get 10 w pkk = (1, 1, qk, C)) (hqk : qk ≤ 2147483647) (hk : ka + 32 ≤ qk) (hs : s.1 < 64) (hl : s.2.1 < 18446744073709551616) (hfr : 2 + 1 ≤ fr) (hlo : 8 + (tt_mL 103 + 11) + 51 ≤ lo) : ∀ m, m ≤ 64 → sy_R 107 n fr lo 69 [(2, p0, 0), (2, pkk, 0), (0, ka, 0), (2, pf, 0), (0, fa, 0), (0, nn, 0), (2, pt, 0), (0, at_, 0), (0, 0, 0)] [] (rs_W w p0 pp pq pv ps X s) 69 [(2, p0, 0), (2, pkk, 0), (0, ka, 0), (2, pf, 0), (0, fa, 0), (0, nn, 0), (2, pt, 0), (0, at_, 0), (0, m, 0)] [] (rs_W w p0 pp pq pv ps X (rk K C ka 92 s m))
  | 0, _ => sy_refl
  | m + 1, h => sy_trans (mk_2s D Ok hC hqk hk hs hl hfr hlo m (by omega)) (mk_2 (s := rk K C ka 92 s m) (by omega) D Ok hC hqk hk (rk_ok hs m) (rk_l hl m) hfr hlo)
def mk_s1 (K A C ka Cf fa nn : Nat) (s : rs_T) : rs_T := rs_e K (rs_n K Cf fa (rk K C ka 54 (rs_b A s) 64) nn)
def mk_m (K A C ka Cf fa nn Mi : Nat) (s : rs_T) : Nat := rs_o Mi 0 (mk_s1 K A C ka Cf fa nn s).2.2.2.2.2 32
def mk_s2 (K A C ka Cf fa nn Mi : Nat) (s : rs_T) : rs_T := rs_e K (rs_n K (mk_m K A C ka Cf fa nn Mi s) 0 (rk K C ka 92 (rs_b A (mk_s1 K A C ka Cf fa nn s)) 64) 32)
theorem mk_mac (D : rs_D w p0 pp pk pq pv ps X K) (Oa : rs_O p0 pp pq pv ps pa) (hA : mv_get 10 w pa = (1, 0, 8, A)) (Ff : mv_dec (mv_rd 136 X 8) = (2, pa, 0)) (Om : rs_O p0 pp pq pv ps pm) (hkm : pk ≠ pm) (ham : pa ≠ pm) (hM : mv_get 10 w pm = (1, 1, 32, Mi)) (Fm : mv_dec (mv_rd 136 X 15) = (2, pm, 0)) (O : rs_O p0 pp pq pv ps pt) (hpk : pk ≠ pt) (hmt : pm ≠ pt) (hT : mv_get 10 w pt = (1, 1, q, T)) (hq : q ≤ 2147483647) (ha : at_ + 32 ≤ q) (Of : rs_O p0 pp pq pv ps pf) (hCf : mv_get 10 w pf = (1, 1, qf, Cf)) (hqf : qf ≤ 2147483647) (hn : fa + nn ≤ qf) (Ok : rs_O p0 pp pq pv ps pkk) (hkx : pkk ≠ pm) (hC : mv_get 10 w pkk = (1, 1, qk, C)) (hqk : qk ≤ 2147483647) (hk : ka + 32 ≤ qk) : sy_C 107 n 4 97 [(2, p0, 0), (2, pkk, 0), (0, ka, 0), (2, pf, 0), (0, fa, 0), (0, nn, 0), (2, pt, 0), (0, at_, 0)] (rs_W w p0 pp pq pv ps X s) [] (rs_W (mv_set 10 (mv_set 10 w pm (1, 1, 32, mk_m K A C ka Cf fa nn Mi s)) pt (1, 1, q, rs_o T at_ (mk_s2 K A C ka Cf fa nn Mi s).2.2.2.2.2 32)) p0 pp pq pv ps X (mk_s2 K A C ka Cf fa nn Mi s)) := by
  refine sy_Cof (us := [(255, 0, 0)]) (ls' := [(2, p0, 0), (2, pkk, 0), (0, ka, 0), (2, pf, 0), (0, fa, 0), (0, nn, 0), (2, pt, 0), (0, at_, 0), (0, 64, 0)]) (pe := 125) (sy_oks_cons (sy_ok2 D.1.1) (sy_oks_cons (sy_ok2 Ok.1) (sy_oks_cons (sy_ok0 (by omega)) (sy_oks_cons (sy_ok2 Of.1) (sy_oks_cons (sy_ok0 (by omega)) (sy_oks_cons (sy_ok0 (by omega)) (sy_oks_cons (sy_ok2 O.1) (sy_oks_cons (sy_ok0 (by omega)) sy_oks_nil)))))))) rfl rfl ?_ (fun L f => sy_ret cd107_125 mr107)
  show sy_R 107 n 4 97 0 [(2, p0, 0), (2, pkk, 0), (0, ka, 0), (2, pf, 0), (0, fa, 0), (0, nn, 0), (2, pt, 0), (0, at_, 0), (255, 0, 0)] [] (rs_W w p0 pp pq pv ps X s) 125 [(2, p0, 0), (2, pkk, 0), (0, ka, 0), (2, pf, 0), (0, fa, 0), (0, nn, 0), (2, pt, 0), (0, at_, 0), (0, 64, 0)] [] (rs_W (mv_set 10 (mv_set 10 w pm (1, 1, 32, mk_m K A C ka Cf fa nn Mi s)) pt (1, 1, q, rs_o T at_ (mk_s2 K A C ka Cf fa nn Mi s).2.2.2.2.2 32)) p0 pp pq pv ps X (mk_s2 K A C ka Cf fa nn Mi s))
  have lo1 : 8 + (tt_mL 103 + 11) + 51 ≤ 97 := by rw [mL103]; decide
  unfold mk_s2 mk_m mk_s1
  refine sy_aldn cd107_0 rfl rfl ?_
  refine sy_callG (kd := 3) (as := [(2, p0, 0)]) (S0 := []) (ret := []) cd107_1 (sy_calV (as := [(2, p0, 0)]) (S0 := []) ml107_124 rfl rfl) rfl rfl (sy_rcvm mci101 (rs_g0 D)) rfl (sy_oka (sy_oks_cons (sy_ok2 D.1.1) sy_oks_nil) rfl mL101) (rs_begin D Oa hA Ff) (by decide) (by rw [mL101]; decide) ?_
  simp only [List.nil_append, List.cons_append]
  refine sy_iconst (v := 0) cd107_4 (by decide) ?_
  refine sy_ist cd107_5 rfl (sy_ok0 (by decide)) (by rw [mL107]; rfl) rfl ?_
  simp only [List.set_cons_zero, List.set_cons_succ]
  refine sy_trans (mk_1s D Ok hC hqk hk rs_b_u rs_b_l (by decide) lo1 64 (Nat.le_refl 64)) ?_
  refine sy_ild cd107_7 rfl rfl ?_
  refine sy_bipush (v := 64) cd107_9 (by decide) (by decide) ?_
  refine sy_ge_t (pc' := 44) cd107_11 (by decide) (by decide) (by decide) (by decide) ?_
  refine sy_aldn cd107_44 rfl rfl ?_
  refine sy_aldn cd107_45 rfl rfl ?_
  refine sy_ild cd107_46 rfl rfl ?_
  refine sy_ild cd107_48 rfl rfl ?_
  refine sy_callG (kd := 3) (as := [(2, p0, 0), (2, pf, 0), (0, fa, 0), (0, nn, 0)]) (S0 := []) (ret := []) cd107_50 (sy_calV (as := [(2, p0, 0), (2, pf, 0), (0, fa, 0), (0, nn, 0)]) (S0 := []) ml107_127 rfl rfl) rfl rfl (sy_rcvm mci102 (rs_g0 D)) rfl (sy_oka (sy_oks_cons (sy_ok2 D.1.1) (sy_oks_cons (sy_ok2 Of.1) (sy_oks_cons (sy_ok0 (by omega)) (sy_oks_cons (sy_ok0 (by omega)) sy_oks_nil)))) rfl mL102) (rs_row (rk_ok rs_b_u 64) (rk_l rs_b_l 64) D Of hCf hqf hn) (by decide) (by rw [mL102]; decide) ?_
  simp only [List.nil_append, List.cons_append]
  refine sy_aldn cd107_53 rfl rfl ?_
  refine sy_aldn cd107_54 rfl rfl ?_
  refine sy_gf cd107_55 mkf_middle rfl (rs_g0 D) rfl ((congrArg mv_dec (rs_xo (by decide) (by decide))).trans Fm) ?_
  refine sy_iconst (v := 0) cd107_58 (by decide) ?_
  refine sy_callG (kd := 3) (as := [(2, p0, 0), (2, pm, 0), (0, 0, 0)]) (S0 := []) (ret := []) cd107_59 (sy_calV (as := [(2, p0, 0), (2, pm, 0), (0, 0, 0)]) (S0 := []) ml107_134 rfl rfl) rfl rfl (sy_rcvm mci106 (rs_g0 D)) rfl (sy_oka (sy_oks_cons (sy_ok2 D.1.1) (sy_oks_cons (sy_ok2 Om.1) (sy_oks_cons (sy_ok0 (by decide)) sy_oks_nil))) rfl mL106) (rs_end (rs_n_ok (rk_ok rs_b_u 64) nn) (rs_n_l (rk_l rs_b_l 64) nn) D Om hkm (by decide) (by decide) hM) (by decide) (by rw [mL106]; decide) ?_
  simp only [List.nil_append, List.cons_append]
  refine sy_aldn cd107_62 rfl rfl ?_
  refine sy_callG (kd := 3) (as := [(2, p0, 0)]) (S0 := []) (ret := []) cd107_63 (sy_calV (as := [(2, p0, 0)]) (S0 := []) ml107_124 rfl rfl) rfl rfl (sy_rcvm mci101 (rs_g0 (rs_Dt D hkm Om))) rfl (sy_oka (sy_oks_cons (sy_ok2 D.1.1) sy_oks_nil) rfl mL101) (rs_begin (rs_Dt D hkm Om) Oa ((mv_gn Om.1 Oa.1 ham).trans hA) Ff) (by decide) (by rw [mL101]; decide) ?_
  simp only [List.nil_append, List.cons_append]
  refine sy_iconst (v := 0) cd107_66 (by decide) ?_
  refine sy_ist cd107_67 rfl (sy_ok0 (by decide)) (by rw [mL107]; rfl) rfl ?_
  simp only [List.set_cons_zero, List.set_cons_succ]
  have l2 := mk_2s (n := n) (fr := 4) (lo := 97) (pf := pf) (fa := fa) (nn := nn) (pt := pt) (at_ := at_) (s := rs_b A (rs_e K (rs_n K Cf fa (rk K C ka 54 (rs_b A s) 64) nn))) (rs_Dt D hkm Om) Ok ((mv_gn (x := (1, 1, 32, rs_o Mi 0 (rs_e K (rs_n K Cf fa (rk K C ka 54 (rs_b A s) 64) nn)).2.2.2.2.2 32)) Om.1 Ok.1 hkx).trans hC) hqk hk rs_b_u rs_b_l (by decide) lo1 64 (Nat.le_refl 64)
  refine sy_trans l2 ?_
  refine sy_ild cd107_69 rfl rfl ?_
  refine sy_bipush (v := 64) cd107_71 (by decide) (by decide) ?_
  refine sy_ge_t (pc' := 106) cd107_73 (by decide) (by decide) (by decide) (by decide) ?_
  refine sy_aldn cd107_106 rfl rfl ?_
  refine sy_aldn cd107_107 rfl rfl ?_
  refine sy_gf cd107_108 mkf_middle rfl (rs_g0 (rs_Dt D hkm Om)) rfl ((congrArg mv_dec (rs_xo (by decide) (by decide))).trans Fm) ?_
  refine sy_iconst (v := 0) cd107_111 (by decide) ?_
  refine sy_bipush (v := 32) cd107_112 (by decide) (by decide) ?_
  refine sy_callG (kd := 3) (as := [(2, p0, 0), (2, pm, 0), (0, 0, 0), (0, 32, 0)]) (S0 := []) (ret := []) cd107_114 (sy_calV (as := [(2, p0, 0), (2, pm, 0), (0, 0, 0), (0, 32, 0)]) (S0 := []) ml107_127 rfl rfl) rfl rfl (sy_rcvm mci102 (rs_g0 (rs_Dt D hkm Om))) rfl (sy_oka (sy_oks_cons (sy_ok2 D.1.1) (sy_oks_cons (sy_ok2 Om.1) (sy_oks_cons (sy_ok0 (by decide)) (sy_oks_cons (sy_ok0 (by decide)) sy_oks_nil)))) rfl mL102) (rs_row (rk_ok rs_b_u 64) (rk_l rs_b_l 64) (rs_Dt D hkm Om) Om (mv_gs Om.1) (by decide) (by decide)) (by decide) (by rw [mL102]; decide) ?_
  simp only [List.nil_append, List.cons_append]
  refine sy_aldn cd107_117 rfl rfl ?_
  refine sy_ald cd107_118 rfl rfl ?_
  refine sy_ild cd107_120 rfl rfl ?_
  refine sy_callG (kd := 3) (as := [(2, p0, 0), (2, pt, 0), (0, at_, 0)]) (S0 := []) (ret := []) cd107_122 (sy_calV (as := [(2, p0, 0), (2, pt, 0), (0, at_, 0)]) (S0 := []) ml107_134 rfl rfl) rfl rfl (sy_rcvm mci106 (rs_g0 (rs_Dt D hkm Om))) rfl (sy_oka (sy_oks_cons (sy_ok2 D.1.1) (sy_oks_cons (sy_ok2 O.1) (sy_oks_cons (sy_ok0 (by omega)) sy_oks_nil))) rfl mL106) (rs_end (rs_n_ok (rk_ok rs_b_u 64) 32) (rs_n_l (rk_l rs_b_l 64) 32) (rs_Dt D hkm Om) O hpk hq ha ((mv_gn Om.1 O.1 (Ne.symm hmt)).trans hT)) (by decide) (by rw [mL106]; decide) ?_
  simp only [List.nil_append, List.cons_append]
  exact sy_refl
end MK
