/-! storeWord (method 11), Arrays.rangeCheck (20), Arrays.fill (19), symbolically -/
theorem sy_oks_nil : mv_oks [] = true := rfl
theorem sy_oks_cons {x : mv_V} {xs : List mv_V} (h : mv_ok x = true) (g : mv_oks xs = true) : mv_oks (x :: xs) = true := by
  show (mv_ok x && mv_oks xs) = true
  rw [h, g]
  rfl
theorem sy_oka {as : List mv_V} {q m : Nat} (h : mv_oks as = true) (g : Nat.ble (mv_cs as) m = true) (e : tt_mL q = m) : (mv_oks as && Nat.ble (mv_cs as) (tt_mL q)) = true := by
  rw [e, h, g]
  rfl
theorem sy_rcvm {w : mv_T 10} {kd q ci a nf X : Nat} {as : List mv_V} (e : tt_mci q = ci) (h : mv_get 10 w a = (0, ci, nf, X)) : mv_rcv kd (tt_mci q) ((2, a, 0) :: as) w = true := by
  rw [e]
  exact sy_rcv h
theorem cd11_0 : tt_cd 11 0 = (1, .iload_n 2, 1) := by decide +kernel
theorem cd11_1 : tt_cd 11 1 = (5, .ifCond .lt 11, 3) := by decide +kernel
theorem cd11_4 : tt_cd 11 4 = (1, .iload_n 2, 1) := by decide +kernel
theorem cd11_5 : tt_cd 11 5 = (1, .aload_n 1, 1) := by decide +kernel
theorem cd11_6 : tt_cd 11 6 = (3, .arraylength, 1) := by decide +kernel
theorem cd11_7 : tt_cd 11 7 = (2, .iconst 4, 1) := by decide +kernel
theorem cd11_8 : tt_cd 11 8 = (2, .isub, 1) := by decide +kernel
theorem cd11_9 : tt_cd 11 9 = (5, .if_icmp .le 4, 3) := by decide +kernel
theorem cd11_13 : tt_cd 11 13 = (1, .aload_n 1, 1) := by decide +kernel
theorem cd11_14 : tt_cd 11 14 = (1, .iload_n 2, 1) := by decide +kernel
theorem cd11_15 : tt_cd 11 15 = (1, .iload_n 0, 1) := by decide +kernel
theorem cd11_16 : tt_cd 11 16 = (4, .bipush 24, 2) := by decide +kernel
theorem cd11_18 : tt_cd 11 18 = (2, .ishr, 1) := by decide +kernel
theorem cd11_19 : tt_cd 11 19 = (2, .i2b, 1) := by decide +kernel
theorem cd11_20 : tt_cd 11 20 = (6, .bastore, 1) := by decide +kernel
theorem cd11_21 : tt_cd 11 21 = (1, .aload_n 1, 1) := by decide +kernel
theorem cd11_22 : tt_cd 11 22 = (1, .iload_n 2, 1) := by decide +kernel
theorem cd11_23 : tt_cd 11 23 = (2, .iconst 1, 1) := by decide +kernel
theorem cd11_24 : tt_cd 11 24 = (2, .iadd, 1) := by decide +kernel
theorem cd11_25 : tt_cd 11 25 = (1, .iload_n 0, 1) := by decide +kernel
theorem cd11_26 : tt_cd 11 26 = (4, .bipush 16, 2) := by decide +kernel
theorem cd11_28 : tt_cd 11 28 = (2, .ishr, 1) := by decide +kernel
theorem cd11_29 : tt_cd 11 29 = (2, .i2b, 1) := by decide +kernel
theorem cd11_30 : tt_cd 11 30 = (6, .bastore, 1) := by decide +kernel
theorem cd11_31 : tt_cd 11 31 = (1, .aload_n 1, 1) := by decide +kernel
theorem cd11_32 : tt_cd 11 32 = (1, .iload_n 2, 1) := by decide +kernel
theorem cd11_33 : tt_cd 11 33 = (2, .iconst 2, 1) := by decide +kernel
theorem cd11_34 : tt_cd 11 34 = (2, .iadd, 1) := by decide +kernel
theorem cd11_35 : tt_cd 11 35 = (1, .iload_n 0, 1) := by decide +kernel
theorem cd11_36 : tt_cd 11 36 = (4, .bipush 8, 2) := by decide +kernel
theorem cd11_38 : tt_cd 11 38 = (2, .ishr, 1) := by decide +kernel
theorem cd11_39 : tt_cd 11 39 = (2, .i2b, 1) := by decide +kernel
theorem cd11_40 : tt_cd 11 40 = (6, .bastore, 1) := by decide +kernel
theorem cd11_41 : tt_cd 11 41 = (1, .aload_n 1, 1) := by decide +kernel
theorem cd11_42 : tt_cd 11 42 = (1, .iload_n 2, 1) := by decide +kernel
theorem cd11_43 : tt_cd 11 43 = (2, .iconst 3, 1) := by decide +kernel
theorem cd11_44 : tt_cd 11 44 = (2, .iadd, 1) := by decide +kernel
theorem cd11_45 : tt_cd 11 45 = (1, .iload_n 0, 1) := by decide +kernel
theorem cd11_46 : tt_cd 11 46 = (2, .i2b, 1) := by decide +kernel
theorem cd11_47 : tt_cd 11 47 = (6, .bastore, 1) := by decide +kernel
theorem cd11_48 : tt_cd 11 48 = (9, .return_, 1) := by decide +kernel
theorem mL11 : tt_mL 11 = 3 := by decide +kernel
theorem mr11 : tt_mr 11 = 0 := by decide +kernel
theorem cd20_0 : tt_cd 20 0 = (1, .iload_n 1, 1) := by decide +kernel
theorem cd20_1 : tt_cd 20 1 = (1, .iload_n 2, 1) := by decide +kernel
theorem cd20_2 : tt_cd 20 2 = (5, .if_icmp .le 44, 3) := by decide +kernel
theorem cd20_46 : tt_cd 20 46 = (1, .iload_n 1, 1) := by decide +kernel
theorem cd20_47 : tt_cd 20 47 = (5, .ifCond .ge 12, 3) := by decide +kernel
theorem cd20_59 : tt_cd 20 59 = (1, .iload_n 2, 1) := by decide +kernel
theorem cd20_60 : tt_cd 20 60 = (1, .iload_n 0, 1) := by decide +kernel
theorem cd20_61 : tt_cd 20 61 = (5, .if_icmp .le 12, 3) := by decide +kernel
theorem cd20_73 : tt_cd 20 73 = (9, .return_, 1) := by decide +kernel
theorem mL20 : tt_mL 20 = 3 := by decide +kernel
theorem mr20 : tt_mr 20 = 0 := by decide +kernel
theorem cd19_0 : tt_cd 19 0 = (1, .aload_n 0, 1) := by decide +kernel
theorem cd19_1 : tt_cd 19 1 = (3, .arraylength, 1) := by decide +kernel
theorem cd19_2 : tt_cd 19 2 = (1, .iload_n 1, 1) := by decide +kernel
theorem cd19_3 : tt_cd 19 3 = (1, .iload_n 2, 1) := by decide +kernel
theorem cd19_4 : tt_cd 19 4 = (10, .invokestatic 13, 3) := by decide +kernel
theorem cd19_7 : tt_cd 19 7 = (1, .iload_n 1, 1) := by decide +kernel
theorem cd19_8 : tt_cd 19 8 = (1, .istore 4, 2) := by decide +kernel
theorem cd19_10 : tt_cd 19 10 = (1, .iload 4, 2) := by decide +kernel
theorem cd19_12 : tt_cd 19 12 = (1, .iload_n 2, 1) := by decide +kernel
theorem cd19_13 : tt_cd 19 13 = (5, .if_icmp .ge 14, 3) := by decide +kernel
theorem cd19_16 : tt_cd 19 16 = (1, .aload_n 0, 1) := by decide +kernel
theorem cd19_17 : tt_cd 19 17 = (1, .iload 4, 2) := by decide +kernel
theorem cd19_19 : tt_cd 19 19 = (1, .iload_n 3, 1) := by decide +kernel
theorem cd19_20 : tt_cd 19 20 = (6, .bastore, 1) := by decide +kernel
theorem cd19_21 : tt_cd 19 21 = (1, .iinc 4 1, 3) := by decide +kernel
theorem cd19_24 : tt_cd 19 24 = (5, .goto (-14), 3) := by decide +kernel
theorem cd19_27 : tt_cd 19 27 = (9, .return_, 1) := by decide +kernel
theorem mL19 : tt_mL 19 = 5 := by decide +kernel
theorem ml19_13 : tt_ml 19 13 = (1, 20, 3) := by decide +kernel
theorem mr19 : tt_mr 19 = 0 := by decide +kernel
section SF
variable {w : mv_T 10} {pt q T n fr lo : Nat}
def su_1 (T at_ v : Nat) : Nat := mv_wr 32 T at_ (mn_b (mn_b v))
def su_4 (T at_ v : Nat) : Nat := su_1 (su_1 (su_1 (su_1 T at_ (mo_shr v 24)) (at_ + 1) (mo_shr v 16)) (at_ + 2) (mo_shr v 8)) (at_ + 3) v
theorem su_run {at_ v : Nat} (hp : pt < 1024) (hw : mv_get 10 w pt = (1, 1, q, T)) (hq : q ≤ 2147483647) (ha : at_ + 4 ≤ q) (hv : v < 4294967296) : sy_C 11 n 0 0 [(0, v, 0), (2, pt, 0), (0, at_, 0)] w [] (mv_set 10 w pt (1, 1, q, su_4 T at_ v)) := by
  refine sy_Cof (us := []) (ls' := [(0, v, 0), (2, pt, 0), (0, at_, 0)]) (pe := 48) (sy_oks_cons (sy_ok0 hv) (sy_oks_cons (sy_ok2 hp) (sy_oks_cons (sy_ok0 (by omega)) sy_oks_nil))) rfl rfl ?_ (fun L f => sy_ret cd11_48 mr11)
  have e0 : sy_R 11 n 0 0 0 [(0, v, 0), (2, pt, 0), (0, at_, 0)] [] (mv_set 10 w pt (1, 1, q, T)) 48 [(0, v, 0), (2, pt, 0), (0, at_, 0)] [] (mv_set 10 w pt (1, 1, q, su_4 T at_ v)) := by
    refine sy_ildn cd11_0 rfl rfl ?_
    refine sy_iflt_f cd11_1 (by decide) (by omega) ?_
    refine sy_ildn cd11_4 rfl rfl ?_
    refine sy_aldn cd11_5 rfl rfl ?_
    refine sy_alen cd11_6 (mv_gs hp) rfl ?_
    refine sy_iconst (v := 4) cd11_7 (by decide) ?_
    refine sy_isub cd11_8 ?_
    refine sy_icmple_t (pc' := 13) cd11_9 (by decide) (by unfold mo_sub; omega) (by unfold mo_sub; omega) (by decide) ?_
    refine sy_aldn cd11_13 rfl rfl ?_
    refine sy_ildn cd11_14 rfl rfl ?_
    refine sy_ildn cd11_15 rfl rfl ?_
    refine sy_bipush (v := 24) cd11_16 (by decide) (by decide) ?_
    refine sy_ishr cd11_18 ?_
    refine sy_i2b cd11_19 ?_
    refine sy_bas (w' := mv_set 10 w pt (1, 1, q, (su_1 T at_ (mo_shr v 24)))) (i := at_) cd11_20 (mv_gs hp) rfl (by omega) hq (mv_ss hp) ?_
    refine sy_aldn cd11_21 rfl rfl ?_
    refine sy_ildn cd11_22 rfl rfl ?_
    refine sy_iconst (v := 1) cd11_23 (by decide) ?_
    refine sy_iadd cd11_24 ?_
    refine sy_ildn cd11_25 rfl rfl ?_
    refine sy_bipush (v := 16) cd11_26 (by decide) (by decide) ?_
    refine sy_ishr cd11_28 ?_
    refine sy_i2b cd11_29 ?_
    refine sy_bas (w' := mv_set 10 w pt (1, 1, q, (su_1 (su_1 T at_ (mo_shr v 24)) (at_ + 1) (mo_shr v 16)))) (i := at_ + 1) cd11_30 (mv_gs hp) (by unfold mo_add; omega) (by omega) hq (mv_ss hp) ?_
    refine sy_aldn cd11_31 rfl rfl ?_
    refine sy_ildn cd11_32 rfl rfl ?_
    refine sy_iconst (v := 2) cd11_33 (by decide) ?_
    refine sy_iadd cd11_34 ?_
    refine sy_ildn cd11_35 rfl rfl ?_
    refine sy_bipush (v := 8) cd11_36 (by decide) (by decide) ?_
    refine sy_ishr cd11_38 ?_
    refine sy_i2b cd11_39 ?_
    refine sy_bas (w' := mv_set 10 w pt (1, 1, q, (su_1 (su_1 (su_1 T at_ (mo_shr v 24)) (at_ + 1) (mo_shr v 16)) (at_ + 2) (mo_shr v 8)))) (i := at_ + 2) cd11_40 (mv_gs hp) (by unfold mo_add; omega) (by omega) hq (mv_ss hp) ?_
    refine sy_aldn cd11_41 rfl rfl ?_
    refine sy_ildn cd11_42 rfl rfl ?_
    refine sy_iconst (v := 3) cd11_43 (by decide) ?_
    refine sy_iadd cd11_44 ?_
    refine sy_ildn cd11_45 rfl rfl ?_
    refine sy_i2b cd11_46 ?_
    refine sy_bas (w' := mv_set 10 w pt (1, 1, q, (su_1 (su_1 (su_1 (su_1 T at_ (mo_shr v 24)) (at_ + 1) (mo_shr v 16)) (at_ + 2) (mo_shr v 8)) (at_ + 3) v))) (i := at_ + 3) cd11_47 (mv_gs hp) (by unfold mo_add; omega) (by omega) hq (mv_ss hp) ?_
    exact sy_refl
  rw [mv_sg hp hw] at e0
  exact e0
theorem rc_run {x0 x1 x2 : Nat} (h12 : x1 ≤ x2) (h20 : x2 ≤ x0) (h0 : x0 < 2147483648) : sy_C 20 n 0 0 [(0, x0, 0), (0, x1, 0), (0, x2, 0)] w [] w := by
  refine sy_Cof (us := []) (ls' := [(0, x0, 0), (0, x1, 0), (0, x2, 0)]) (pe := 73) (sy_oks_cons (sy_ok0 (by omega)) (sy_oks_cons (sy_ok0 (by omega)) (sy_oks_cons (sy_ok0 (by omega)) sy_oks_nil))) rfl rfl ?_ (fun L f => sy_ret cd20_73 mr20)
  show sy_R 20 n 0 0 0 [(0, x0, 0), (0, x1, 0), (0, x2, 0)] [] w 73 [(0, x0, 0), (0, x1, 0), (0, x2, 0)] [] w
  refine sy_ildn cd20_0 rfl rfl ?_
  refine sy_ildn cd20_1 rfl rfl ?_
  refine sy_icmple_t (pc' := 46) cd20_2 (by decide) h12 (by omega) (by decide) ?_
  refine sy_ildn cd20_46 rfl rfl ?_
  refine sy_ifge_t (pc' := 59) cd20_47 (by decide) (by omega) (by decide) ?_
  refine sy_ildn cd20_59 rfl rfl ?_
  refine sy_ildn cd20_60 rfl rfl ?_
  refine sy_icmple_t (pc' := 73) cd20_61 (by decide) h20 h0 (by decide) ?_
  exact sy_refl
def fi_T (T a v : Nat) : Nat → Nat
  | 0 => T
  | m + 1 => mv_wr 32 (fi_T T a v m) (a + m) (mn_b v)
theorem fi_b {a b v m : Nat} (hp : pt < 1024) (hq : q ≤ 2147483647) (hbq : b ≤ q) (hm : a + m < b) : sy_R 19 n fr lo 10 [(2, pt, 0), (0, a, 0), (0, b, 0), (0, v, 0), (0, a + m, 0)] [] (mv_set 10 w pt (1, 1, q, T)) 10 [(2, pt, 0), (0, a, 0), (0, b, 0), (0, v, 0), (0, a + (m + 1), 0)] [] (mv_set 10 w pt (1, 1, q, mv_wr 32 T (a + m) (mn_b v))) := by
  refine sy_ild cd19_10 rfl rfl ?_
  refine sy_ildn cd19_12 rfl rfl ?_
  refine sy_ge_f cd19_13 (by decide) (by omega) (by omega) ?_
  refine sy_aldn cd19_16 rfl rfl ?_
  refine sy_ild cd19_17 rfl rfl ?_
  refine sy_ildn cd19_19 rfl rfl ?_
  refine sy_bas (i := a + m) cd19_20 (mv_gs hp) rfl (by omega) hq (mv_ss hp) ?_
  refine sy_iinc (c := 1) cd19_21 rfl (by decide) (by rw [mL19]; rfl) rfl ?_
  simp only [List.set_cons_zero, List.set_cons_succ]
  refine sy_goto (pc' := 10) cd19_24 (by decide) (by decide) ?_
  rw [mo_inc (by omega)]
  exact sy_refl
theorem fi_s {a b v : Nat} (hp : pt < 1024) (hq : q ≤ 2147483647) (hbq : b ≤ q) : ∀ m, a + m ≤ b → sy_R 19 n fr lo 10 [(2, pt, 0), (0, a, 0), (0, b, 0), (0, v, 0), (0, a + 0, 0)] [] (mv_set 10 w pt (1, 1, q, T)) 10 [(2, pt, 0), (0, a, 0), (0, b, 0), (0, v, 0), (0, a + m, 0)] [] (mv_set 10 w pt (1, 1, q, fi_T T a v m))
  | 0, _ => sy_refl
  | m + 1, h => sy_trans (fi_s hp hq hbq m (by omega)) (fi_b hp hq hbq (by omega))
theorem fi_run {a b v : Nat} (hp : pt < 1024) (hw : mv_get 10 w pt = (1, 1, q, T)) (hq : q ≤ 2147483647) (hab : a ≤ b) (hbq : b ≤ q) (hv : v < 4294967296) : sy_C 19 n 1 22 [(2, pt, 0), (0, a, 0), (0, b, 0), (0, v, 0)] w [] (mv_set 10 w pt (1, 1, q, fi_T T a v (b - a))) := by
  have hfr : 0 + 1 ≤ 1 := Nat.le_refl 1
  have hlo : 8 + (tt_mL 20 + 11) + 0 ≤ 22 := by rw [mL20]; decide
  refine sy_Cof (us := [(255, 0, 0)]) (ls' := [(2, pt, 0), (0, a, 0), (0, b, 0), (0, v, 0), (255, 0, 0)]) (pe := 27) (sy_oks_cons (sy_ok2 hp) (sy_oks_cons (sy_ok0 (by omega)) (sy_oks_cons (sy_ok0 (by omega)) (sy_oks_cons (sy_ok0 hv) sy_oks_nil)))) rfl rfl ?_ (fun L f => sy_ret cd19_27 mr19)
  have e0 : sy_R 19 n 1 22 0 [(2, pt, 0), (0, a, 0), (0, b, 0), (0, v, 0), (255, 0, 0)] [] (mv_set 10 w pt (1, 1, q, T)) 27 [(2, pt, 0), (0, a, 0), (0, b, 0), (0, v, 0), (255, 0, 0)] [] (mv_set 10 w pt (1, 1, q, fi_T T a v (b - a))) := by
    refine sy_aldn cd19_0 rfl rfl ?_
    refine sy_alen cd19_1 (mv_gs hp) rfl ?_
    refine sy_ildn cd19_2 rfl rfl ?_
    refine sy_ildn cd19_3 rfl rfl ?_
    refine sy_callG (kd := 1) (as := [(0, q, 0), (0, a, 0), (0, b, 0)]) (S0 := []) (ret := []) cd19_4 (sy_calS (as := [(0, q, 0), (0, a, 0), (0, b, 0)]) (S0 := []) ml19_13 rfl rfl) rfl rfl rfl rfl (sy_oka (sy_oks_cons (sy_ok0 (by omega)) (sy_oks_cons (sy_ok0 (by omega)) (sy_oks_cons (sy_ok0 (by omega)) sy_oks_nil))) rfl mL20) (rc_run hab hbq (by omega)) hfr hlo ?_
    simp only [List.nil_append, List.cons_append]
    refine sy_ildn cd19_7 rfl rfl ?_
    refine sy_ist cd19_8 rfl (sy_ok0 (by omega)) (by rw [mL19]; rfl) rfl ?_
    simp only [List.set_cons_zero, List.set_cons_succ]
    refine sy_trans (fi_s hp hq hbq (b - a) (by omega)) ?_
    refine sy_ild cd19_10 rfl rfl ?_
    refine sy_ildn cd19_12 rfl rfl ?_
    refine sy_ge_t (pc' := 27) cd19_13 (by decide) (by omega) (by omega) (by decide) ?_
    exact sy_weak (sy_lw_ok (by simp only [sy_lw]; simp))
  rw [mv_sg hp hw] at e0
  exact e0
end SF
