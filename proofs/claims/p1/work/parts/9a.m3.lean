/-! THE REFERENCE'S MINE, III -/
theorem xc114_0 : tt_cd 114 0 = (1, .aload_n 0, 1) := by decide +kernel
theorem xc114_1 : tt_cd 114 1 = (1, .aload_n 1, 1) := by decide +kernel
theorem xc114_2 : tt_cd 114 2 = (1, .iload_n 2, 1) := by decide +kernel
theorem xc114_3 : tt_cd 114 3 = (1, .aload_n 3, 1) := by decide +kernel
theorem xc114_4 : tt_cd 114 4 = (1, .iload 4, 2) := by decide +kernel
theorem xc114_6 : tt_cd 114 6 = (4, .bipush 20, 2) := by decide +kernel
theorem xc114_8 : tt_cd 114 8 = (1, .aload_n 0, 1) := by decide +kernel
theorem xc114_9 : tt_cd 114 9 = (3, .getfield 153, 3) := by decide +kernel
theorem xf114_153 : tt_fl 114 153 = (1, 0, 18) := by decide +kernel
theorem xc114_12 : tt_cd 114 12 = (2, .iconst 0, 1) := by decide +kernel
theorem xc114_13 : tt_cd 114 13 = (10, .invokevirtual 160, 3) := by decide +kernel
theorem xm114_160 : tt_ml 114 160 = (3, 107, 7) := by decide +kernel
theorem xi107 : tt_mci 107 = 0 := by decide +kernel
theorem xl107 : tt_mL 107 = 9 := by decide +kernel
theorem xc114_16 : tt_cd 114 16 = (1, .aload_n 0, 1) := by decide +kernel
theorem xc114_17 : tt_cd 114 17 = (3, .getfield 153, 3) := by decide +kernel
theorem xc114_20 : tt_cd 114 20 = (2, .iconst 0, 1) := by decide +kernel
theorem xc114_21 : tt_cd 114 21 = (10, .invokestatic 164, 3) := by decide +kernel
theorem xm114_164 : tt_ml 114 164 = (1, 108, 2) := by decide +kernel
theorem xc114_24 : tt_cd 114 24 = (2, .i2l, 1) := by decide +kernel
theorem xc114_25 : tt_cd 114 25 = (4, .ldc2_w 11, 3) := by decide +kernel
theorem xk114_11 : tt_kc 114 11 = (2, 4294967295) := by decide +kernel
theorem xc114_28 : tt_cd 114 28 = (2, .land, 1) := by decide +kernel
theorem xc114_29 : tt_cd 114 29 = (1, .lstore 6, 2) := by decide +kernel
theorem xl114 : tt_mL 114 = 8 := by decide +kernel
theorem xc114_31 : tt_cd 114 31 = (1, .lload 6, 2) := by decide +kernel
theorem xc114_33 : tt_cd 114 33 = (4, .ldc2_w 196, 3) := by decide +kernel
theorem xk114_196 : tt_kc 114 196 = (2, 64) := by decide +kernel
theorem xc114_36 : tt_cd 114 36 = (1, .iload 5, 2) := by decide +kernel
theorem xc114_38 : tt_cd 114 38 = (2, .i2l, 1) := by decide +kernel
theorem xc114_39 : tt_cd 114 39 = (2, .lmul, 1) := by decide +kernel
theorem xc114_40 : tt_cd 114 40 = (2, .lmul, 1) := by decide +kernel
theorem xc114_41 : tt_cd 114 41 = (4, .bipush 32, 2) := by decide +kernel
theorem xc114_43 : tt_cd 114 43 = (2, .lushr, 1) := by decide +kernel
theorem xc114_44 : tt_cd 114 44 = (2, .l2i, 1) := by decide +kernel
theorem xc114_45 : tt_cd 114 45 = (9, .ireturn, 1) := by decide +kernel
theorem xr114 : tt_mr 114 = 1 := by decide +kernel
theorem xc131_0 : tt_cd 131 0 = (1, .aload_n 0, 1) := by decide +kernel
theorem xc131_1 : tt_cd 131 1 = (3, .getfield 376, 3) := by decide +kernel
theorem xf131_376 : tt_fl 131 376 = (1, 0, 35) := by decide +kernel
theorem xc131_4 : tt_cd 131 4 = (1, .iload_n 1, 1) := by decide +kernel
theorem xc131_5 : tt_cd 131 5 = (3, .iaload, 1) := by decide +kernel
theorem xc131_6 : tt_cd 131 6 = (1, .istore 4, 2) := by decide +kernel
theorem xl131 : tt_mL 131 = 7 := by decide +kernel
theorem xc131_8 : tt_cd 131 8 = (2, .iconst 0, 1) := by decide +kernel
theorem xc131_9 : tt_cd 131 9 = (1, .istore 5, 2) := by decide +kernel
theorem xc131_11 : tt_cd 131 11 = (1, .iload 5, 2) := by decide +kernel
theorem xc131_13 : tt_cd 131 13 = (1, .iload 4, 2) := by decide +kernel
theorem xc131_15 : tt_cd 131 15 = (5, .if_icmp .ge 37, 3) := by decide +kernel
theorem xc131_18 : tt_cd 131 18 = (1, .aload_n 0, 1) := by decide +kernel
theorem xc131_19 : tt_cd 131 19 = (3, .getfield 373, 3) := by decide +kernel
theorem xf131_373 : tt_fl 131 373 = (1, 0, 34) := by decide +kernel
theorem xc131_22 : tt_cd 131 22 = (4, .bipush 32, 2) := by decide +kernel
theorem xc131_24 : tt_cd 131 24 = (1, .aload_n 0, 1) := by decide +kernel
theorem xc131_25 : tt_cd 131 25 = (1, .iload_n 1, 1) := by decide +kernel
theorem xc131_26 : tt_cd 131 26 = (1, .iload 5, 2) := by decide +kernel
theorem xc131_28 : tt_cd 131 28 = (10, .invokevirtual 585, 3) := by decide +kernel
theorem xm131_585 : tt_ml 131 585 = (3, 116, 2) := by decide +kernel
theorem xc131_31 : tt_cd 131 31 = (2, .imul, 1) := by decide +kernel
theorem xc131_32 : tt_cd 131 32 = (1, .aload_n 0, 1) := by decide +kernel
theorem xc131_33 : tt_cd 131 33 = (3, .getfield 436, 3) := by decide +kernel
theorem xf131_436 : tt_fl 131 436 = (1, 0, 58) := by decide +kernel
theorem xc131_36 : tt_cd 131 36 = (4, .bipush 32, 2) := by decide +kernel
theorem xc131_38 : tt_cd 131 38 = (1, .iload 5, 2) := by decide +kernel
theorem xc131_40 : tt_cd 131 40 = (2, .imul, 1) := by decide +kernel
theorem xc131_41 : tt_cd 131 41 = (4, .bipush 32, 2) := by decide +kernel
theorem xc131_43 : tt_cd 131 43 = (10, .invokestatic 184, 3) := by decide +kernel
theorem xm131_184 : tt_ml 131 184 = (1, 110, 5) := by decide +kernel
theorem xc131_46 : tt_cd 131 46 = (1, .iinc 5 1, 3) := by decide +kernel
theorem xc131_49 : tt_cd 131 49 = (5, .goto (-38), 3) := by decide +kernel
theorem xc131_52 : tt_cd 131 52 = (1, .iload 4, 2) := by decide +kernel
theorem xc131_54 : tt_cd 131 54 = (2, .iconst 1, 1) := by decide +kernel
theorem xc131_55 : tt_cd 131 55 = (5, .if_icmp .le 109, 3) := by decide +kernel
theorem xc131_164 : tt_cd 131 164 = (1, .aload_n 0, 1) := by decide +kernel
theorem xc131_165 : tt_cd 131 165 = (3, .getfield 436, 3) := by decide +kernel
theorem xc131_168 : tt_cd 131 168 = (2, .iconst 0, 1) := by decide +kernel
theorem xc131_169 : tt_cd 131 169 = (1, .aload_n 2, 1) := by decide +kernel
theorem xc131_170 : tt_cd 131 170 = (1, .iload_n 3, 1) := by decide +kernel
theorem xc131_171 : tt_cd 131 171 = (4, .bipush 32, 2) := by decide +kernel
theorem xc131_173 : tt_cd 131 173 = (10, .invokestatic 184, 3) := by decide +kernel
theorem xc131_176 : tt_cd 131 176 = (9, .return_, 1) := by decide +kernel
theorem xr131 : tt_mr 131 = 0 := by decide +kernel
theorem xc127_0 : tt_cd 127 0 = (1, .aload_n 0, 1) := by decide +kernel
theorem xc127_1 : tt_cd 127 1 = (1, .iload_n 1, 1) := by decide +kernel
theorem xc127_2 : tt_cd 127 2 = (1, .aload_n 0, 1) := by decide +kernel
theorem xc127_3 : tt_cd 127 3 = (3, .getfield 376, 3) := by decide +kernel
theorem xf127_376 : tt_fl 127 376 = (1, 0, 35) := by decide +kernel
theorem xc127_6 : tt_cd 127 6 = (1, .iload_n 1, 1) := by decide +kernel
theorem xc127_7 : tt_cd 127 7 = (3, .iaload, 1) := by decide +kernel
theorem xc127_8 : tt_cd 127 8 = (10, .invokevirtual 585, 3) := by decide +kernel
theorem xm127_585 : tt_ml 127 585 = (3, 116, 2) := by decide +kernel
theorem xc127_11 : tt_cd 127 11 = (1, .istore 6, 2) := by decide +kernel
theorem xl127 : tt_mL 127 = 7 := by decide +kernel
theorem xc127_13 : tt_cd 127 13 = (1, .aload_n 0, 1) := by decide +kernel
theorem xc127_14 : tt_cd 127 14 = (3, .getfield 364, 3) := by decide +kernel
theorem xf127_364 : tt_fl 127 364 = (1, 0, 31) := by decide +kernel
theorem xc127_17 : tt_cd 127 17 = (1, .iload 6, 2) := by decide +kernel
theorem xc127_19 : tt_cd 127 19 = (1, .aload_n 0, 1) := by decide +kernel
theorem xc127_20 : tt_cd 127 20 = (3, .getfield 379, 3) := by decide +kernel
theorem xf127_379 : tt_fl 127 379 = (1, 0, 36) := by decide +kernel
theorem xc127_23 : tt_cd 127 23 = (1, .iload_n 1, 1) := by decide +kernel
theorem xc127_24 : tt_cd 127 24 = (3, .iaload, 1) := by decide +kernel
theorem xc127_25 : tt_cd 127 25 = (6, .iastore, 1) := by decide +kernel
theorem xc127_26 : tt_cd 127 26 = (1, .aload_n 0, 1) := by decide +kernel
theorem xc127_27 : tt_cd 127 27 = (3, .getfield 367, 3) := by decide +kernel
theorem xf127_367 : tt_fl 127 367 = (1, 0, 32) := by decide +kernel
theorem xc127_30 : tt_cd 127 30 = (1, .iload 6, 2) := by decide +kernel
theorem xc127_32 : tt_cd 127 32 = (1, .iload 4, 2) := by decide +kernel
theorem xc127_34 : tt_cd 127 34 = (6, .iastore, 1) := by decide +kernel
theorem xc127_35 : tt_cd 127 35 = (1, .aload_n 0, 1) := by decide +kernel
theorem xc127_36 : tt_cd 127 36 = (3, .getfield 370, 3) := by decide +kernel
theorem xf127_370 : tt_fl 127 370 = (1, 0, 33) := by decide +kernel
theorem xc127_39 : tt_cd 127 39 = (1, .iload 6, 2) := by decide +kernel
theorem xc127_41 : tt_cd 127 41 = (1, .iload 5, 2) := by decide +kernel
theorem xc127_43 : tt_cd 127 43 = (6, .iastore, 1) := by decide +kernel
theorem xc127_44 : tt_cd 127 44 = (1, .aload_n 2, 1) := by decide +kernel
theorem xc127_45 : tt_cd 127 45 = (1, .iload_n 3, 1) := by decide +kernel
theorem xc127_46 : tt_cd 127 46 = (1, .aload_n 0, 1) := by decide +kernel
theorem xc127_47 : tt_cd 127 47 = (3, .getfield 361, 3) := by decide +kernel
theorem xf127_361 : tt_fl 127 361 = (1, 0, 30) := by decide +kernel
theorem xc127_50 : tt_cd 127 50 = (4, .sipush 1900, 3) := by decide +kernel
theorem xc127_53 : tt_cd 127 53 = (1, .iload_n 1, 1) := by decide +kernel
theorem xc127_54 : tt_cd 127 54 = (2, .imul, 1) := by decide +kernel
theorem xc127_55 : tt_cd 127 55 = (1, .aload_n 0, 1) := by decide +kernel
theorem xc127_56 : tt_cd 127 56 = (3, .getfield 379, 3) := by decide +kernel
theorem xc127_59 : tt_cd 127 59 = (1, .iload_n 1, 1) := by decide +kernel
theorem xc127_60 : tt_cd 127 60 = (3, .iaload, 1) := by decide +kernel
theorem xc127_61 : tt_cd 127 61 = (2, .iadd, 1) := by decide +kernel
theorem xc127_62 : tt_cd 127 62 = (1, .iload 5, 2) := by decide +kernel
theorem xc127_64 : tt_cd 127 64 = (10, .invokestatic 184, 3) := by decide +kernel
theorem xm127_184 : tt_ml 127 184 = (1, 110, 5) := by decide +kernel
theorem xc127_67 : tt_cd 127 67 = (1, .aload_n 0, 1) := by decide +kernel
theorem xc127_68 : tt_cd 127 68 = (1, .aload_n 2, 1) := by decide +kernel
theorem xc127_69 : tt_cd 127 69 = (1, .iload_n 3, 1) := by decide +kernel
theorem xc127_70 : tt_cd 127 70 = (1, .iload 4, 2) := by decide +kernel
theorem xc127_72 : tt_cd 127 72 = (1, .aload_n 0, 1) := by decide +kernel
theorem xc127_73 : tt_cd 127 73 = (3, .getfield 373, 3) := by decide +kernel
theorem xf127_373 : tt_fl 127 373 = (1, 0, 34) := by decide +kernel
theorem xc127_76 : tt_cd 127 76 = (4, .bipush 32, 2) := by decide +kernel
theorem xc127_78 : tt_cd 127 78 = (1, .iload 6, 2) := by decide +kernel
theorem xc127_80 : tt_cd 127 80 = (2, .imul, 1) := by decide +kernel
theorem xc127_81 : tt_cd 127 81 = (10, .invokevirtual 156, 3) := by decide +kernel
theorem xm127_156 : tt_ml 127 156 = (3, 100, 5) := by decide +kernel
theorem xc127_84 : tt_cd 127 84 = (1, .aload_n 0, 1) := by decide +kernel
theorem xc127_85 : tt_cd 127 85 = (3, .getfield 379, 3) := by decide +kernel
theorem xc127_88 : tt_cd 127 88 = (1, .iload_n 1, 1) := by decide +kernel
theorem xc127_89 : tt_cd 127 89 = (1, .aload_n 0, 1) := by decide +kernel
theorem xc127_90 : tt_cd 127 90 = (3, .getfield 379, 3) := by decide +kernel
theorem xc127_93 : tt_cd 127 93 = (1, .iload_n 1, 1) := by decide +kernel
theorem xc127_94 : tt_cd 127 94 = (3, .iaload, 1) := by decide +kernel
theorem xc127_95 : tt_cd 127 95 = (1, .iload 5, 2) := by decide +kernel
theorem xc127_97 : tt_cd 127 97 = (2, .iadd, 1) := by decide +kernel
theorem xc127_98 : tt_cd 127 98 = (6, .iastore, 1) := by decide +kernel
theorem xc127_99 : tt_cd 127 99 = (1, .aload_n 0, 1) := by decide +kernel
theorem xc127_100 : tt_cd 127 100 = (3, .getfield 376, 3) := by decide +kernel
theorem xc127_103 : tt_cd 127 103 = (1, .iload_n 1, 1) := by decide +kernel
theorem xc127_104 : tt_cd 127 104 = (2, .dup2, 1) := by decide +kernel
theorem xc127_105 : tt_cd 127 105 = (3, .iaload, 1) := by decide +kernel
theorem xc127_106 : tt_cd 127 106 = (2, .iconst 1, 1) := by decide +kernel
theorem xc127_107 : tt_cd 127 107 = (2, .iadd, 1) := by decide +kernel
theorem xc127_108 : tt_cd 127 108 = (6, .iastore, 1) := by decide +kernel
theorem xc127_109 : tt_cd 127 109 = (9, .return_, 1) := by decide +kernel
theorem xr127 : tt_mr 127 = 0 := by decide +kernel
section SXL
variable {k n fr lo pc : Nat} {ls ls' S : List mv_V} {w : mv_T 10}
def mo_land (a b : Nat) : Nat := a &&& b
theorem sx_land {x y z : Nat} (hc : tt_cd k pc = (2, .land, 1)) (h : mo_land x y = z) : sy_R k n fr lo pc ls ((1, y, 0) :: (1, x, 0) :: S) w (pc + 1) ls ((1, z, 0) :: S) w := by subst h; exact sy_sk hc rfl rfl sy_refl
theorem sx_lmul {x y z : Nat} (hc : tt_cd k pc = (2, .lmul, 1)) (h : mo_lmul x y = z) : sy_R k n fr lo pc ls ((1, y, 0) :: (1, x, 0) :: S) w (pc + 1) ls ((1, z, 0) :: S) w := by subst h; exact sy_lmul hc sy_refl
theorem sx_lushr {x y z : Nat} (hc : tt_cd k pc = (2, .lushr, 1)) (h : mo_lushr x y = z) : sy_R k n fr lo pc ls ((0, y, 0) :: (1, x, 0) :: S) w (pc + 1) ls ((1, z, 0) :: S) w := by subst h; exact sy_lushr hc sy_refl
theorem sx_l2i {x z : Nat} (hc : tt_cd k pc = (2, .l2i, 1)) (h : x % 4294967296 = z) : sy_R k n fr lo pc ls ((1, x, 0) :: S) w (pc + 1) ls ((0, z, 0) :: S) w := by subst h; exact sy_l2i hc sy_refl
theorem sx_lst {j : Nat} {x : mv_V} (hc : tt_cd k pc = (1, .lstore j, 2)) (hx : mv_isL x = true) (hok : mv_ok x = true) (hj : Nat.blt (j + 1) (tt_mL k) = true) (hnl : sy_nl ls j = true) (hl : (ls.set j x).set (j + 1) (255, 0, 0) = ls') : sy_R k n fr lo pc ls (x :: S) w (pc + 2) ls' S w := by
  subst hl
  refine sy_lk hc rfl (fun L hL => ⟨mv_ls2 L j x, ?_, ?_⟩) sy_refl
  · intro q v hv hn
    have h1 := sy_ls1 hL hnl hok
    show mv_lg (mv_wr 136 (mv_ls1 L j x) (j + 1) 0) q = v
    by_cases e : q = j + 1
    · exfalso
      subst e
      by_cases hq : j + 1 < (ls.set j x).length
      · rw [List.getElem?_set_self hq] at hv
        cases hv
        exact hn rfl
      · rw [List.getElem?_eq_none (by rw [List.length_set]; omega)] at hv
        cases hv
    · rw [mv_lg_wr, if_neg e]
      rw [List.getElem?_set_ne (fun z => e z.symm)] at hv
      exact h1 q v hv hn
  · show (bif mv_isL x && (mv_ok x && Nat.blt (j + 1) (tt_mL k)) then some (2, mv_ls2 L j x, S) else none) = _
    rw [hx, hok, hj]
    rfl
end SXL
section HM
variable {C ka Cf fa nn A Mi : Nat} {s : rs_T} {fk fm : Nat → Nat}
/-- the bytes that are hashed -/
def hm_g (fk : Nat → Nat) (x : Nat) (f : Nat → Nat) (j : Nat) : Nat := if j < 64 then mo_xor (if j < 32 then fk j else 0) x else f (j - 64)
def hm_i (fk fm : Nat → Nat) (nn : Nat) : Nat := hs_1 (hm_g fk 54 fm) (64 + nn)
def hm (fk fm : Nat → Nat) (nn : Nat) : Nat := hs_1 (hm_g fk 92 (bk_D (hm_i fk fm nn))) (64 + 32)
theorem bk_rk {x n S0 : Nat} {f : Nat → Nat} (hfk : ∀ j, j < 32 → mv_rd 32 C (ka + j) = fk j) (hn : 64 ≤ n) (h : bk_I (bk_B (hm_g fk x f) n) S0 0 s.1 s.2.2.1 s.2.2.2.2.2) : ∀ m, m ≤ 64 → bk_I (bk_B (hm_g fk x f) n) S0 m (rk mc_K C ka x s m).1 (rk mc_K C ka x s m).2.2.1 (rk mc_K C ka x s m).2.2.2.2.2
  | 0, _ => h
  | m + 1, hm => bk_rs (bk_rk hfk hn h m (by omega)) (by
      have e : rk_b C ka x m = hm_g fk x f m := by
        unfold rk_b hm_g
        rw [if_pos (show m < 64 by omega)]
        by_cases z : m < 32
        · rw [if_pos z, if_pos z, hfk m z]
        · rw [if_neg z, if_neg z]
      rw [e, mn_bb]
      unfold bk_B
      rw [if_pos (show m < n by omega)])
theorem bk_rs_m {n S0 t0 a : Nat} {g : Nat → Nat} (hf : ∀ j, t0 + j < n → mv_rd 32 C (a + j) = g (t0 + j)) (h : bk_I (bk_B g n) S0 t0 s.1 s.2.2.1 s.2.2.2.2.2) : ∀ m, t0 + m ≤ n → bk_I (bk_B g n) S0 (t0 + m) (rs_n mc_K C a s m).1 (rs_n mc_K C a s m).2.2.1 (rs_n mc_K C a s m).2.2.2.2.2
  | 0, _ => h
  | m + 1, hm => bk_rs (bk_rs_m hf h m (by omega)) (by
      rw [hf m (by omega), mn_bb]
      show _ = bk_B g n (t0 + m) % 2 ^ 32
      unfold bk_B
      rw [if_pos (show t0 + m < n by omega)])
theorem rk_len {x : Nat} : ∀ m, s.2.1 + m < 18446744073709551616 → (rk mc_K C ka x s m).2.1 = s.2.1 + m
  | 0, _ => rfl
  | m + 1, h => by
    show (rs_1 mc_K (rk_b C ka x m) (rk mc_K C ka x s m)).2.1 = _
    rw [rs_1_len, rk_len m (by omega)]
    unfold mo_ladd
    omega
theorem hm_half {x : Nat} {f : Nat → Nat} (hA : ∀ i, i < 8 → mv_rd 32 A i = mv_rd 32 hs_S0 i) (hfk : ∀ j, j < 32 → mv_rd 32 C (ka + j) = fk j) (hf : ∀ j, j < nn → mv_rd 32 Cf (fa + j) = f j) (hn : 64 + nn < 1048576) : ∀ i, i < 8 → mv_rd 32 (rs_e mc_K (rs_n mc_K Cf fa (rk mc_K C ka x (rs_b A s) 64) nn)).2.2.2.2.2 i = mv_rd 32 (hs_1 (hm_g fk x f) (64 + nn)) i := by
  have h0 : bk_I (bk_B (hm_g fk x f) (64 + nn)) hs_S0 0 (rs_b A s).1 (rs_b A s).2.2.1 (rs_b A s).2.2.2.2.2 := ⟨rfl, fun j hj => absurd hj (Nat.not_lt_zero _), fun i hi => (hs_A A _ 8 i hi).trans (hA i hi)⟩
  have h1 := bk_rk (f := f) (x := x) hfk (by omega) h0 64 (Nat.le_refl 64)
  have h2 := bk_rs_m (C := Cf) (a := fa) (fun j hj => by
    rw [hf j (by omega)]
    unfold hm_g
    rw [if_neg (show ¬ 64 + j < 64 by omega), show 64 + j - 64 = j by omega]) h1 nn (Nat.le_refl _)
  have hl : (rs_n mc_K Cf fa (rk mc_K C ka x (rs_b A s) 64) nn).2.1 = 64 + nn := by
    have e : (rk mc_K C ka x (rs_b A s) 64).2.1 = 64 := (rk_len 64 (by show 0 + 64 < 18446744073709551616; decide)).trans (by show 0 + 64 = 64; rfl)
    rw [rs_n_len nn (by rw [e]; omega), e]
  intro i hi
  rw [hs_1_eq]
  exact bk_rse hn hl (rs_n_ok (rk_ok rs_b_u 64) nn) h2 i hi
theorem hm_out {T a : Nat} (hA : ∀ i, i < 8 → mv_rd 32 A i = mv_rd 32 hs_S0 i) (hfk : ∀ j, j < 32 → mv_rd 32 C (ka + j) = fk j) (hf : ∀ j, j < nn → mv_rd 32 Cf (fa + j) = fm j) (hn : 64 + nn < 1048576) (j : Nat) : mv_rd 32 (rs_o T a (mk_s2 mc_K A C ka Cf fa nn Mi s).2.2.2.2.2 32) j = if a ≤ j ∧ j < a + 32 then bk_D (hm fk fm nn) (j - a) else mv_rd 32 T j := by
  have h1 : ∀ i, i < 8 → mv_rd 32 (mk_s1 mc_K A C ka Cf fa nn s).2.2.2.2.2 i = mv_rd 32 (hm_i fk fm nn) i := by
    unfold mk_s1 hm_i
    exact hm_half hA hfk hf hn
  have hm0 : ∀ j, j < 32 → mv_rd 32 (mk_m mc_K A C ka Cf fa nn Mi s) (0 + j) = bk_D (hm_i fk fm nn) j := by
    intro j hj
    unfold mk_m
    rw [bk_rso, if_pos (by omega), show 0 + j - 0 = j by omega]
    exact bk_Dc h1 hj
  have h2 : ∀ i, i < 8 → mv_rd 32 (mk_s2 mc_K A C ka Cf fa nn Mi s).2.2.2.2.2 i = mv_rd 32 (hm fk fm nn) i := by
    unfold mk_s2 hm
    exact hm_half hA hfk hm0 (by decide)
  rw [bk_rso]
  by_cases h : a ≤ j ∧ j < a + 32
  · rw [if_pos h, if_pos h]
    exact bk_Dc h2 (by omega)
  · rw [if_neg h, if_neg h]
end HM
section QM
variable {n : Nat} {pl : Nat → Nat} {w0 w : mv_T 10}
theorem wq_mac {cs : List mv_C} {vs : List mv_V} {X P Wd V St A Mi T C u l q qf at_ fa nn it jf : Nat} {fk fm : Nat → Nat} {jk ka qk Ck : Nat} (hw : wh 32 pl w0 w cs) (c0 : cs[0]? = some (0, 0, 107, X)) (c1 : cs[1]? = some (1, 1, 64, P)) (c2 : cs[2]? = some (1, 0, 64, mc_K)) (c3 : cs[3]? = some (1, 0, 64, Wd)) (c4 : cs[4]? = some (1, 0, 8, V)) (c5 : cs[5]? = some (1, 0, 8, St)) (c6 : cs[6]? = some (1, 0, 8, A)) (c7 : cs[7]? = some (1, 1, 32, Mi)) (ct : cs[it]? = some (1, 1, q, T)) (hit : 7 < it) (hit2 : it < 32) (cf : cs[jf]? = some (1, 1, qf, C)) (hjf : 7 < jf) (hjf2 : jf < 32) (hX : fh X jQ vs) (v1 : vs[1]? = some (2, pl 1, 0)) (v2 : vs[2]? = some (2, pl 2, 0)) (v3 : vs[3]? = some (2, pl 3, 0)) (v4 : vs[4]? = some (2, pl 4, 0)) (v5 : vs[5]? = some (2, pl 5, 0)) (v6 : vs[6]? = some (2, pl 6, 0)) (v7 : vs[7]? = some (2, pl 7, 0)) (v8 : vs[8]? = some (0, u, 0)) (v9 : vs[9]? = some (1, l, 0)) (hq : q ≤ 2147483647) (ha : at_ + 32 ≤ q) (hqf : qf ≤ 2147483647) (hn : fa + nn ≤ qf) (hA : ∀ i, i < 8 → mv_rd 32 A i = mv_rd 32 hs_S0 i) (ck : cs[jk]? = some (1, 1, qk, Ck)) (hjk : 7 < jk) (hjk2 : jk < 32) (hqk : qk ≤ 2147483647) (hk : ka + 32 ≤ qk) (hfk : ∀ j, j < 32 → mv_rd 32 Ck (ka + j) = fk j) (hf : ∀ j, j < nn → mv_rd 32 C (fa + j) = fm j) (hnn : 64 + nn < 1048576) :
    ∃ (w' : mv_T 10) (X' P' W' V' S' M' T' u' l' : Nat), sy_C 107 n 4 97 [(2, pl 0, 0), (2, pl jk, 0), (0, ka, 0), (2, pl jf, 0), (0, fa, 0), (0, nn, 0), (2, pl it, 0), (0, at_, 0)] w [] w' ∧ wh 32 pl w0 w' (((((((cs.set 7 (1, 1, 32, M')).set it (1, 1, q, T')).set 1 (1, 1, 64, P')).set 0 (0, 0, 107, X')).set 3 (1, 0, 64, W')).set 4 (1, 0, 8, V')).set 5 (1, 0, 8, S')) ∧ fh X' jQ ((vs.set 8 (0, u', 0)).set 9 (1, l', 0)) ∧ (u' < 64 ∧ l' < 18446744073709551616) ∧ ∀ j, mv_rd 32 T' j = if at_ ≤ j ∧ j < at_ + 32 then bk_D (hm fk fm nn) (j - at_) else mv_rd 32 T j := by
  have L : ∀ i, i < 32 → pl i < 1024 := fun i hi => wh_lt hw i hi
  have E : ∀ i j, i < 32 → j < 32 → i ≠ j → pl i ≠ pl j := fun i j hi hj e => wh_ne hw i j hi hj e
  have D : rs_D w (pl 0) (pl 1) (pl 2) (pl 3) (pl 4) (pl 5) X mc_K := ⟨⟨L 0 (by decide), L 1 (by decide), L 2 (by decide), L 3 (by decide), L 4 (by decide), L 5 (by decide)⟩, ⟨E 3 4 (by decide) (by decide) (by decide), E 3 5 (by decide) (by decide) (by decide), E 4 5 (by decide) (by decide) (by decide)⟩, ⟨E 0 3 (by decide) (by decide) (by decide), E 0 4 (by decide) (by decide) (by decide), E 0 5 (by decide) (by decide) (by decide)⟩, ⟨E 1 3 (by decide) (by decide) (by decide), E 1 4 (by decide) (by decide) (by decide), E 1 5 (by decide) (by decide) (by decide)⟩, ⟨E 2 3 (by decide) (by decide) (by decide), E 2 4 (by decide) (by decide) (by decide), E 2 5 (by decide) (by decide) (by decide)⟩, ⟨E 0 1 (by decide) (by decide) (by decide), E 2 1 (by decide) (by decide) (by decide), E 2 0 (by decide) (by decide) (by decide)⟩, wh_at hw 2 c2, fh_at hX 3 rfl v3, fh_at hX 1 rfl v1, fh_at hX 4 rfl v4, fh_at hX 5 rfl v5, fh_at hX 2 rfl v2⟩
  have O : ∀ i, 5 < i → i < 32 → rs_O (pl 0) (pl 1) (pl 3) (pl 4) (pl 5) (pl i) := fun i h5 hi => ⟨L i hi, E i 0 hi (by decide) (by omega), E i 1 hi (by decide) (by omega), E i 3 hi (by decide) (by omega), E i 4 hi (by decide) (by omega), E i 5 hi (by decide) (by omega)⟩
  have x1 : rs_x X u l = X := by
    unfold rs_x
    have r1 := mv_enc_dec (by decide) (fh_at hX 8 (j := 13) rfl v8)
    have r2 := mv_enc_dec (by decide) (fh_at hX 9 (j := 14) rfl v9)
    have q1 : mv_wr 136 X 13 (mv_enc (0, u, 0)) = X := by
      refine mv_wr_rd ?_
      rw [← r1]
      exact (Nat.mod_eq_of_lt (mv_rd_lt 136 X _)).symm
    rw [q1]
    refine mv_wr_rd ?_
    rw [← r2]
    exact (Nat.mod_eq_of_lt (mv_rd_lt 136 X _)).symm
  have eW : rs_W w (pl 0) (pl 1) (pl 3) (pl 4) (pl 5) X (u, l, P, Wd, V, St) = w := by
    show rs_w w (pl 0) (pl 1) (pl 3) (pl 4) (pl 5) (rs_x X u l) P Wd V St = w
    rw [x1]
    unfold rs_w
    rw [mv_sg (L 1 (by decide)) (wh_at hw 1 c1), mv_sg (L 0 (by decide)) (wh_at hw 0 c0)]
    unfold mr_w
    rw [mv_sg (L 3 (by decide)) (wh_at hw 3 c3), mv_sg (L 4 (by decide)) (wh_at hw 4 c4), mv_sg (L 5 (by decide)) (wh_at hw 5 c5)]
  have h := mk_mac (n := n) (ka := ka) (s := (u, l, P, Wd, V, St)) D (O 6 (by decide) (by decide)) (wh_at hw 6 c6) (fh_at hX 6 rfl v6) (O 7 (by decide) (by decide)) (E 2 7 (by decide) (by decide) (by decide)) (E 6 7 (by decide) (by decide) (by decide)) (wh_at hw 7 c7) (fh_at hX 7 rfl v7) (O it (by omega) hit2) (E 2 it (by decide) hit2 (by omega)) (E 7 it (by decide) hit2 (by omega)) (wh_at hw it ct) hq ha (O jf (by omega) hjf2) (wh_at hw jf cf) hqf hn (O jk (by omega) hjk2) (E jk 7 hjk2 (by decide) (by omega)) (wh_at hw jk ck) hqk hk
  rw [eW] at h
  have ok : (mk_s2 mc_K A Ck ka C fa nn Mi (u, l, P, Wd, V, St)).1 < 64 ∧ (mk_s2 mc_K A Ck ka C fa nn Mi (u, l, P, Wd, V, St)).2.1 < 18446744073709551616 := by
    unfold mk_s2
    exact rs_e_ok (rs_n_ok (rk_ok rs_b_u 64) 32)
  have hT : ∀ j, mv_rd 32 (rs_o T at_ (mk_s2 mc_K A Ck ka C fa nn Mi (u, l, P, Wd, V, St)).2.2.2.2.2 32) j = if at_ ≤ j ∧ j < at_ + 32 then bk_D (hm fk fm nn) (j - at_) else mv_rd 32 T j := fun j => hm_out hA hfk hf hnn j
  generalize mk_s2 mc_K A Ck ka C fa nn Mi (u, l, P, Wd, V, St) = R at h ok hT
  generalize mk_m mc_K A Ck ka C fa nn Mi (u, l, P, Wd, V, St) = HM at h
  generalize rs_o T at_ R.2.2.2.2.2 32 = TT at h hT
  refine ⟨_, rs_x X R.1 R.2.1, R.2.2.1, R.2.2.2.1, R.2.2.2.2.1, R.2.2.2.2.2, HM, TT, R.1, R.2.1, h, ?_, ?_, ok, hT⟩
  · unfold rs_W rs_w mr_w
    exact wh_set (wh_set (wh_set (wh_set (wh_set (wh_set (wh_set hw 7 (by decide) _) it hit2 _) 1 (by decide) _) 0 (by decide) _) 3 (by decide) _) 4 (by decide) _) 5 (by decide) _
  · unfold rs_x
    exact fh_set (fh_set hX (by decide) 8 rfl (sy_ok0 (by have := ok.1; omega))) (by decide) 9 rfl (sy_ok1 ok.2)
end QM
section QF
variable {n : Nat} {pl : Nat → Nat} {w0 w : mv_T 10} {X0 Pc Wd Vv St Af Mi Hd Bi Bf Hg Tm Bo Wk Pn Bs Mt Pst Ppl Psz Bb Pid So Fn Fc Fl Fs Ou Ly No Bu th up lp sc ba : Nat}
theorem wq_fv (hw : wh 32 pl w0 w [(0, 0, 107, X0), (1, 1, 64, Pc), (1, 0, 64, mc_K), (1, 0, 64, Wd), (1, 0, 8, Vv), (1, 0, 8, St), (1, 0, 8, Af), (1, 1, 32, Mi), (1, 1, 4200, Hd), (1, 1, 1280, Bi), (1, 0, 40, Bf), (1, 0, 40, Hg), (1, 0, 40, Tm), (1, 0, 40, Bo), (1, 0, 40, Wk), (1, 0, 40, Pn), (1, 0, 40, Bs), (1, 1, 28, Mt), (1, 0, 160, Pst), (1, 0, 160, Ppl), (1, 0, 160, Psz), (1, 1, 76000, Bb), (1, 1, 5120, Pid), (1, 1, 600, So), (1, 0, 960, Fn), (1, 0, 40, Fc), (1, 1, 3200, Fl), (1, 0, 40, Fs), (1, 1, 32, Ou), (1, 1, 2400, Ly), (1, 0, 40, No), (1, 1, 20, Bu)]) (hX0 : fh X0 jQ [(0, th, 0), (2, pl 1, 0), (2, pl 2, 0), (2, pl 3, 0), (2, pl 4, 0), (2, pl 5, 0), (2, pl 6, 0), (2, pl 7, 0), (0, up, 0), (1, lp, 0), (2, pl 8, 0), (2, pl 9, 0), (2, pl 10, 0), (2, pl 11, 0), (2, pl 12, 0), (2, pl 13, 0), (2, pl 14, 0), (2, pl 15, 0), (2, pl 16, 0), (2, pl 17, 0), (2, pl 18, 0), (2, pl 19, 0), (2, pl 20, 0), (2, pl 21, 0), (2, pl 22, 0), (2, pl 23, 0), (2, pl 24, 0), (2, pl 25, 0), (2, pl 26, 0), (2, pl 27, 0), (2, pl 28, 0), (2, pl 29, 0), (2, pl 30, 0), (2, pl 31, 0), (0, 1, 0), (0, 0, 0), (0, sc, 0), (0, ba, 0), (0, 0, 0)]) (hA : ∀ i, i < 8 → mv_rd 32 Af i = mv_rd 32 hs_S0 i) {fk fm : Nat → Nat} (hfk : ∀ j, j < 32 → mv_rd 32 Hd (105 + j) = fk j) (hfm : ∀ j, j < 20 → mv_rd 32 So (0 + j) = fm j) (hV : ∀ T : Nat, (∀ j, j < 32 → mv_rd 32 T j = bk_D (hm fk fm 20) j) → wo_0 T = 1634279031) : sy_D 114 n 5 125 [(2, pl 0, 0), (2, pl 8, 0), (0, 105, 0), (2, pl 23, 0), (0, 0, 0), (0, 1, 0)] w (fun ret w' => ret = [(0, 24, 0)] ∧ ∃ Y0 P1 W1 V1 S1 M1 T1 u1 l1 : Nat, wh 32 pl w0 w' [(0, 0, 107, Y0), (1, 1, 64, P1), (1, 0, 64, mc_K), (1, 0, 64, W1), (1, 0, 8, V1), (1, 0, 8, S1), (1, 0, 8, Af), (1, 1, 32, M1), (1, 1, 4200, Hd), (1, 1, 1280, Bi), (1, 0, 40, Bf), (1, 0, 40, Hg), (1, 0, 40, Tm), (1, 0, 40, Bo), (1, 0, 40, Wk), (1, 0, 40, Pn), (1, 0, 40, Bs), (1, 1, 28, Mt), (1, 0, 160, Pst), (1, 0, 160, Ppl), (1, 0, 160, Psz), (1, 1, 76000, Bb), (1, 1, 5120, Pid), (1, 1, 600, So), (1, 0, 960, Fn), (1, 0, 40, Fc), (1, 1, 3200, Fl), (1, 0, 40, Fs), (1, 1, 32, T1), (1, 1, 2400, Ly), (1, 0, 40, No), (1, 1, 20, Bu)] ∧ fh Y0 jQ [(0, th, 0), (2, pl 1, 0), (2, pl 2, 0), (2, pl 3, 0), (2, pl 4, 0), (2, pl 5, 0), (2, pl 6, 0), (2, pl 7, 0), (0, u1, 0), (1, l1, 0), (2, pl 8, 0), (2, pl 9, 0), (2, pl 10, 0), (2, pl 11, 0), (2, pl 12, 0), (2, pl 13, 0), (2, pl 14, 0), (2, pl 15, 0), (2, pl 16, 0), (2, pl 17, 0), (2, pl 18, 0), (2, pl 19, 0), (2, pl 20, 0), (2, pl 21, 0), (2, pl 22, 0), (2, pl 23, 0), (2, pl 24, 0), (2, pl 25, 0), (2, pl 26, 0), (2, pl 27, 0), (2, pl 28, 0), (2, pl 29, 0), (2, pl 30, 0), (2, pl 31, 0), (0, 1, 0), (0, 0, 0), (0, sc, 0), (0, ba, 0), (0, 0, 0)]) := by
  refine sy_Dof (us := [(255, 0, 0), (255, 0, 0)]) (sy_oks_cons (sy_ok2 (wh_lt hw 0 (by first | decide | assumption))) (sy_oks_cons (sy_ok2 (wh_lt hw 8 (by first | decide | assumption))) (sy_oks_cons (sy_ok0 (by first | decide | assumption | omega | exact mo_rd_lt _ _ | exact mo_add_lt _ _ | exact mo_sub_lt _ _ | exact mo_mul_lt _ _ | exact mo_shl_lt _ _ | exact mo_ushr_lt _ _ | exact mo_or_lt (by decide) (mo_and_lt (mo_rd_lt _ _)) | exact mo_or_lt (mo_shl_lt _ _) (mo_and_lt (mo_rd_lt _ _)))) (sy_oks_cons (sy_ok2 (wh_lt hw 23 (by first | decide | assumption))) (sy_oks_cons (sy_ok0 (by first | decide | assumption | omega | exact mo_rd_lt _ _ | exact mo_add_lt _ _ | exact mo_sub_lt _ _ | exact mo_mul_lt _ _ | exact mo_shl_lt _ _ | exact mo_ushr_lt _ _ | exact mo_or_lt (by decide) (mo_and_lt (mo_rd_lt _ _)) | exact mo_or_lt (mo_shl_lt _ _) (mo_and_lt (mo_rd_lt _ _)))) (sy_oks_cons (sy_ok0 (by first | decide | assumption | omega | exact mo_rd_lt _ _ | exact mo_add_lt _ _ | exact mo_sub_lt _ _ | exact mo_mul_lt _ _ | exact mo_shl_lt _ _ | exact mo_ushr_lt _ _ | exact mo_or_lt (by decide) (mo_and_lt (mo_rd_lt _ _)) | exact mo_or_lt (mo_shl_lt _ _) (mo_and_lt (mo_rd_lt _ _)))) sy_oks_nil)))))) rfl rfl ?_
  show sy_F 114 n 5 125 0 [(2, pl 0, 0), (2, pl 8, 0), (0, 105, 0), (2, pl 23, 0), (0, 0, 0), (0, 1, 0), (255, 0, 0), (255, 0, 0)] [] w _
  refine sy_Fs (sy_aldn xc114_0 rfl rfl sy_refl) ?_
  refine sy_Fs (sy_aldn xc114_1 rfl rfl sy_refl) ?_
  refine sy_Fs (sy_ildn xc114_2 rfl rfl sy_refl) ?_
  refine sy_Fs (sy_aldn xc114_3 rfl rfl sy_refl) ?_
  refine sy_Fs (sy_ild xc114_4 rfl rfl sy_refl) ?_
  refine sy_Fs (sy_bipush (v := 20) xc114_6 (by decide) (by decide) sy_refl) ?_
  refine sy_Fs (sy_aldn xc114_8 rfl rfl sy_refl) ?_
  refine sy_Fs (sy_gf xc114_9 xf114_153 rfl (wh_at hw 0 rfl) rfl (fh_at hX0 30 rfl rfl) sy_refl) ?_
  refine sy_Fs (sy_iconst (v := 0) xc114_12 (by decide) sy_refl) ?_
  obtain ⟨w, X0, P1, W1, V1, S1, M1, T1, u1, l1, hC, hw1, hX1x, ⟨hu1, hl1⟩, hT1⟩ := wq_mac (n := n) (fa := 0) (at_ := 0) (nn := 20) (it := 28) (jf := 23) (jk := 8) (ka := 105) (fk := fk) (fm := fm) hw rfl rfl rfl rfl rfl rfl rfl rfl rfl (by decide) (by decide) rfl (by decide) (by decide) hX0 rfl rfl rfl rfl rfl rfl rfl rfl rfl (by first | decide | assumption | omega) (by first | decide | assumption | omega) (by first | decide | assumption | omega) (by first | decide | assumption | omega) hA rfl (by decide) (by decide) (by first | decide | assumption | omega) (by first | decide | assumption | omega) hfk hfm (by first | decide | assumption | omega)
  refine sy_Fs (sy_callG (kd := 3) (as := [(2, pl 0, 0), (2, pl 8, 0), (0, 105, 0), (2, pl 23, 0), (0, 0, 0), (0, 20, 0), (2, pl 28, 0), (0, 0, 0)]) (S0 := []) (ret := []) xc114_13 (sy_calV (as := [(2, pl 0, 0), (2, pl 8, 0), (0, 105, 0), (2, pl 23, 0), (0, 0, 0), (0, 20, 0), (2, pl 28, 0), (0, 0, 0)]) (S0 := []) xm114_160 rfl rfl) rfl rfl (sy_rcvm xi107 (wh_at hw 0 rfl)) rfl (sy_oka (sy_oks_cons (sy_ok2 (wh_lt hw 0 (by first | decide | assumption))) (sy_oks_cons (sy_ok2 (wh_lt hw 8 (by first | decide | assumption))) (sy_oks_cons (sy_ok0 (by first | decide | assumption | omega | exact mo_rd_lt _ _ | exact mo_add_lt _ _ | exact mo_sub_lt _ _ | exact mo_mul_lt _ _ | exact mo_shl_lt _ _ | exact mo_ushr_lt _ _ | exact mo_or_lt (by decide) (mo_and_lt (mo_rd_lt _ _)) | exact mo_or_lt (mo_shl_lt _ _) (mo_and_lt (mo_rd_lt _ _)))) (sy_oks_cons (sy_ok2 (wh_lt hw 23 (by first | decide | assumption))) (sy_oks_cons (sy_ok0 (by first | decide | assumption | omega | exact mo_rd_lt _ _ | exact mo_add_lt _ _ | exact mo_sub_lt _ _ | exact mo_mul_lt _ _ | exact mo_shl_lt _ _ | exact mo_ushr_lt _ _ | exact mo_or_lt (by decide) (mo_and_lt (mo_rd_lt _ _)) | exact mo_or_lt (mo_shl_lt _ _) (mo_and_lt (mo_rd_lt _ _)))) (sy_oks_cons (sy_ok0 (by first | decide | assumption | omega | exact mo_rd_lt _ _ | exact mo_add_lt _ _ | exact mo_sub_lt _ _ | exact mo_mul_lt _ _ | exact mo_shl_lt _ _ | exact mo_ushr_lt _ _ | exact mo_or_lt (by decide) (mo_and_lt (mo_rd_lt _ _)) | exact mo_or_lt (mo_shl_lt _ _) (mo_and_lt (mo_rd_lt _ _)))) (sy_oks_cons (sy_ok2 (wh_lt hw 28 (by first | decide | assumption))) (sy_oks_cons (sy_ok0 (by first | decide | assumption | omega | exact mo_rd_lt _ _ | exact mo_add_lt _ _ | exact mo_sub_lt _ _ | exact mo_mul_lt _ _ | exact mo_shl_lt _ _ | exact mo_ushr_lt _ _ | exact mo_or_lt (by decide) (mo_and_lt (mo_rd_lt _ _)) | exact mo_or_lt (mo_shl_lt _ _) (mo_and_lt (mo_rd_lt _ _)))) sy_oks_nil)))))))) rfl xl107) hC (by decide) (by rw [xl107]; decide) sy_refl) ?_
  replace hw := hw1
  replace hX0 := hX1x
  simp only [List.set_cons_zero, List.set_cons_succ] at hw hX0
  refine sy_Fs (sy_aldn xc114_16 rfl rfl sy_refl) ?_
  refine sy_Fs (sy_gf xc114_17 xf114_153 rfl (wh_at hw 0 rfl) rfl (fh_at hX0 30 rfl rfl) sy_refl) ?_
  refine sy_Fs (sy_iconst (v := 0) xc114_20 (by decide) sy_refl) ?_
  refine sy_Fs (sy_callG (kd := 1) (as := [(2, pl 28, 0), (0, 0, 0)]) (S0 := []) (ret := [(0, (wo_0 T1), 0)]) xc114_21 (sy_calS (as := [(2, pl 28, 0), (0, 0, 0)]) (S0 := []) xm114_164 rfl rfl) rfl rfl rfl rfl (sy_oka (sy_oks_cons (sy_ok2 (wh_lt hw 28 (by first | decide | assumption))) (sy_oks_cons (sy_ok0 (by first | decide | assumption | omega | exact mo_rd_lt _ _ | exact mo_add_lt _ _ | exact mo_sub_lt _ _ | exact mo_mul_lt _ _ | exact mo_shl_lt _ _ | exact mo_ushr_lt _ _ | exact mo_or_lt (by decide) (mo_and_lt (mo_rd_lt _ _)) | exact mo_or_lt (mo_shl_lt _ _) (mo_and_lt (mo_rd_lt _ _)))) sy_oks_nil)) rfl xl108) (wo_run (wh_lt hw 28 (by first | decide | assumption)) (wh_at hw 28 rfl) (by decide) (by decide)) (by decide) (by rw [xl108]; decide) sy_refl) ?_
  rw [hV T1 (fun j hj => by rw [hT1 j, if_pos (by omega)]; rfl)]
  refine sy_Fs (sx_i2l xc114_24 (by first | decide | assumption | omega | exact mo_rd_lt _ _ | exact mo_add_lt _ _ | exact mo_sub_lt _ _ | exact mo_mul_lt _ _ | exact mo_shl_lt _ _ | exact mo_ushr_lt _ _ | exact mo_or_lt (by decide) (mo_and_lt (mo_rd_lt _ _)) | exact mo_or_lt (mo_shl_lt _ _) (mo_and_lt (mo_rd_lt _ _)))) ?_
  refine sy_Fs (sy_ldc2 (v := 4294967295) xc114_25 xk114_11 sy_refl) ?_
  refine sy_Fs (sx_land (z := 1634279031) xc114_28 (by decide)) ?_
  refine sy_Fs (sx_lst (j := 6) (ls' := [(2, pl 0, 0), (2, pl 8, 0), (0, 105, 0), (2, pl 23, 0), (0, 0, 0), (0, 1, 0), (1, 1634279031, 0), (255, 0, 0)]) xc114_29 rfl (sy_ok1 (by first | decide | assumption | omega | exact mo_rd_lt _ _ | exact mo_add_lt _ _ | exact mo_sub_lt _ _ | exact mo_mul_lt _ _ | exact mo_shl_lt _ _ | exact mo_ushr_lt _ _ | exact mo_or_lt (by decide) (mo_and_lt (mo_rd_lt _ _)) | exact mo_or_lt (mo_shl_lt _ _) (mo_and_lt (mo_rd_lt _ _)))) (by rw [xl114]; rfl) rfl rfl) ?_
  refine sy_Fs (sx_lld xc114_31 rfl rfl) ?_
  refine sy_Fs (sy_ldc2 (v := 64) xc114_33 xk114_196 sy_refl) ?_
  refine sy_Fs (sy_ild xc114_36 rfl rfl sy_refl) ?_
  refine sy_Fs (sx_i2l xc114_38 (by first | decide | assumption | omega | exact mo_rd_lt _ _ | exact mo_add_lt _ _ | exact mo_sub_lt _ _ | exact mo_mul_lt _ _ | exact mo_shl_lt _ _ | exact mo_ushr_lt _ _ | exact mo_or_lt (by decide) (mo_and_lt (mo_rd_lt _ _)) | exact mo_or_lt (mo_shl_lt _ _) (mo_and_lt (mo_rd_lt _ _)))) ?_
  refine sy_Fs (sx_lmul (z := 64) xc114_39 (by decide)) ?_
  refine sy_Fs (sx_lmul (z := 104593857984) xc114_40 (by decide)) ?_
  refine sy_Fs (sy_bipush (v := 32) xc114_41 (by decide) (by decide) sy_refl) ?_
  refine sy_Fs (sx_lushr (z := 24) xc114_43 (by decide)) ?_
  refine sy_Fs (sx_l2i (z := 24) xc114_44 (by decide)) ?_
  exact sy_Fi xc114_45 xr114 rfl ⟨rfl, _, _, _, _, _, _, _, _, _, hw, hX0⟩
theorem wq_root (hw : wh 32 pl w0 w [(0, 0, 107, X0), (1, 1, 64, Pc), (1, 0, 64, mc_K), (1, 0, 64, Wd), (1, 0, 8, Vv), (1, 0, 8, St), (1, 0, 8, Af), (1, 1, 32, Mi), (1, 1, 4200, Hd), (1, 1, 1280, Bi), (1, 0, 40, Bf), (1, 0, 40, Hg), (1, 0, 40, Tm), (1, 0, 40, Bo), (1, 0, 40, Wk), (1, 0, 40, Pn), (1, 0, 40, Bs), (1, 1, 28, Mt), (1, 0, 160, Pst), (1, 0, 160, Ppl), (1, 0, 160, Psz), (1, 1, 76000, Bb), (1, 1, 5120, Pid), (1, 1, 600, So), (1, 0, 960, Fn), (1, 0, 40, Fc), (1, 1, 3200, Fl), (1, 0, 40, Fs), (1, 1, 32, Ou), (1, 1, 2400, Ly), (1, 0, 40, No), (1, 1, 20, Bu)]) (hX0 : fh X0 jQ [(0, th, 0), (2, pl 1, 0), (2, pl 2, 0), (2, pl 3, 0), (2, pl 4, 0), (2, pl 5, 0), (2, pl 6, 0), (2, pl 7, 0), (0, up, 0), (1, lp, 0), (2, pl 8, 0), (2, pl 9, 0), (2, pl 10, 0), (2, pl 11, 0), (2, pl 12, 0), (2, pl 13, 0), (2, pl 14, 0), (2, pl 15, 0), (2, pl 16, 0), (2, pl 17, 0), (2, pl 18, 0), (2, pl 19, 0), (2, pl 20, 0), (2, pl 21, 0), (2, pl 22, 0), (2, pl 23, 0), (2, pl 24, 0), (2, pl 25, 0), (2, pl 26, 0), (2, pl 27, 0), (2, pl 28, 0), (2, pl 29, 0), (2, pl 30, 0), (2, pl 31, 0), (0, 1, 0), (0, 0, 0), (0, sc, 0), (0, ba, 0), (0, 0, 0)]) (hpn : mv_rd 32 Pn 1 = 1) : sy_D 131 n 1 25 [(2, pl 0, 0), (0, 1, 0), (2, pl 8, 0), (0, 137, 0)] w (fun ret w' => ret = [] ∧ wh 32 pl w0 w' [(0, 0, 107, X0), (1, 1, 64, Pc), (1, 0, 64, mc_K), (1, 0, 64, Wd), (1, 0, 8, Vv), (1, 0, 8, St), (1, 0, 8, Af), (1, 1, 32, Mi), (1, 1, 4200, (mo_T Hd 137 (mo_T Ly 0 Pid 128 32) 0 32)), (1, 1, 1280, Bi), (1, 0, 40, Bf), (1, 0, 40, Hg), (1, 0, 40, Tm), (1, 0, 40, Bo), (1, 0, 40, Wk), (1, 0, 40, Pn), (1, 0, 40, Bs), (1, 1, 28, Mt), (1, 0, 160, Pst), (1, 0, 160, Ppl), (1, 0, 160, Psz), (1, 1, 76000, Bb), (1, 1, 5120, Pid), (1, 1, 600, So), (1, 0, 960, Fn), (1, 0, 40, Fc), (1, 1, 3200, Fl), (1, 0, 40, Fs), (1, 1, 32, Ou), (1, 1, 2400, (mo_T Ly 0 Pid 128 32)), (1, 0, 40, No), (1, 1, 20, Bu)]) := by
  refine sy_Dof (us := [(255, 0, 0), (255, 0, 0), (255, 0, 0)]) (sy_oks_cons (sy_ok2 (wh_lt hw 0 (by first | decide | assumption))) (sy_oks_cons (sy_ok0 (by first | decide | assumption | omega | exact mo_rd_lt _ _ | exact mo_add_lt _ _ | exact mo_sub_lt _ _ | exact mo_mul_lt _ _ | exact mo_shl_lt _ _ | exact mo_ushr_lt _ _ | exact mo_or_lt (by decide) (mo_and_lt (mo_rd_lt _ _)) | exact mo_or_lt (mo_shl_lt _ _) (mo_and_lt (mo_rd_lt _ _)))) (sy_oks_cons (sy_ok2 (wh_lt hw 8 (by first | decide | assumption))) (sy_oks_cons (sy_ok0 (by first | decide | assumption | omega | exact mo_rd_lt _ _ | exact mo_add_lt _ _ | exact mo_sub_lt _ _ | exact mo_mul_lt _ _ | exact mo_shl_lt _ _ | exact mo_ushr_lt _ _ | exact mo_or_lt (by decide) (mo_and_lt (mo_rd_lt _ _)) | exact mo_or_lt (mo_shl_lt _ _) (mo_and_lt (mo_rd_lt _ _)))) sy_oks_nil)))) rfl rfl ?_
  show sy_F 131 n 1 25 0 [(2, pl 0, 0), (0, 1, 0), (2, pl 8, 0), (0, 137, 0), (255, 0, 0), (255, 0, 0), (255, 0, 0)] [] w _
  refine sy_Fs (sy_aldn xc131_0 rfl rfl sy_refl) ?_
  refine sy_Fs (sy_gf xc131_1 xf131_376 rfl (wh_at hw 0 rfl) rfl (fh_at hX0 17 rfl rfl) sy_refl) ?_
  refine sy_Fs (sy_ildn xc131_4 rfl rfl sy_refl) ?_
  refine sy_Fs (sx_ial (z := 1) xc131_5 (wh_at hw 15 rfl) (by decide) (by decide) hpn) ?_
  refine sy_Fs (sx_ist (j := 4) (ls' := [(2, pl 0, 0), (0, 1, 0), (2, pl 8, 0), (0, 137, 0), (0, 1, 0), (255, 0, 0), (255, 0, 0)]) xc131_6 rfl (sy_ok0 (by first | decide | assumption | omega | exact mo_rd_lt _ _ | exact mo_add_lt _ _ | exact mo_sub_lt _ _ | exact mo_mul_lt _ _ | exact mo_shl_lt _ _ | exact mo_ushr_lt _ _ | exact mo_or_lt (by decide) (mo_and_lt (mo_rd_lt _ _)) | exact mo_or_lt (mo_shl_lt _ _) (mo_and_lt (mo_rd_lt _ _)))) (by rw [xl131]; rfl) rfl rfl) ?_
  refine sy_Fs (sy_iconst (v := 0) xc131_8 (by decide) sy_refl) ?_
  refine sy_Fs (sx_ist (j := 5) (ls' := [(2, pl 0, 0), (0, 1, 0), (2, pl 8, 0), (0, 137, 0), (0, 1, 0), (0, 0, 0), (255, 0, 0)]) xc131_9 rfl (sy_ok0 (by first | decide | assumption | omega | exact mo_rd_lt _ _ | exact mo_add_lt _ _ | exact mo_sub_lt _ _ | exact mo_mul_lt _ _ | exact mo_shl_lt _ _ | exact mo_ushr_lt _ _ | exact mo_or_lt (by decide) (mo_and_lt (mo_rd_lt _ _)) | exact mo_or_lt (mo_shl_lt _ _) (mo_and_lt (mo_rd_lt _ _)))) (by rw [xl131]; rfl) rfl rfl) ?_
  refine sy_Fs (sy_ild xc131_11 rfl rfl sy_refl) ?_
  refine sy_Fs (sy_ild xc131_13 rfl rfl sy_refl) ?_
  refine sy_Fs (sy_ge_f xc131_15 (by decide) (by decide) (by decide) sy_refl) ?_
  refine sy_Fs (sy_aldn xc131_18 rfl rfl sy_refl) ?_
  refine sy_Fs (sy_gf xc131_19 xf131_373 rfl (wh_at hw 0 rfl) rfl (fh_at hX0 24 rfl rfl) sy_refl) ?_
  refine sy_Fs (sy_bipush (v := 32) xc131_22 (by decide) (by decide) sy_refl) ?_
  refine sy_Fs (sy_aldn xc131_24 rfl rfl sy_refl) ?_
  refine sy_Fs (sy_ildn xc131_25 rfl rfl sy_refl) ?_
  refine sy_Fs (sy_ild xc131_26 rfl rfl sy_refl) ?_
  refine sy_Fs (sy_callG (kd := 3) (as := [(2, pl 0, 0), (0, 1, 0), (0, 0, 0)]) (S0 := [(0, 32, 0), (2, pl 22, 0)]) (ret := [(0, 4, 0)]) xc131_28 (sy_calV (as := [(2, pl 0, 0), (0, 1, 0), (0, 0, 0)]) (S0 := [(0, 32, 0), (2, pl 22, 0)]) xm131_585 rfl rfl) rfl rfl (sy_rcvm xi116 (wh_at hw 0 rfl)) rfl (sy_oka (sy_oks_cons (sy_ok2 (wh_lt hw 0 (by first | decide | assumption))) (sy_oks_cons (sy_ok0 (by first | decide | assumption | omega | exact mo_rd_lt _ _ | exact mo_add_lt _ _ | exact mo_sub_lt _ _ | exact mo_mul_lt _ _ | exact mo_shl_lt _ _ | exact mo_ushr_lt _ _ | exact mo_or_lt (by decide) (mo_and_lt (mo_rd_lt _ _)) | exact mo_or_lt (mo_shl_lt _ _) (mo_and_lt (mo_rd_lt _ _)))) (sy_oks_cons (sy_ok0 (by first | decide | assumption | omega | exact mo_rd_lt _ _ | exact mo_add_lt _ _ | exact mo_sub_lt _ _ | exact mo_mul_lt _ _ | exact mo_shl_lt _ _ | exact mo_ushr_lt _ _ | exact mo_or_lt (by decide) (mo_and_lt (mo_rd_lt _ _)) | exact mo_or_lt (mo_shl_lt _ _) (mo_and_lt (mo_rd_lt _ _)))) sy_oks_nil))) rfl xl116) (sy_Cw (wq_pi (n := n) hw hX0)) (by decide) (by rw [xl116]; decide) sy_refl) ?_
  refine sy_Fs (sx_imul (z := 128) xc131_31 (by decide)) ?_
  refine sy_Fs (sy_aldn xc131_32 rfl rfl sy_refl) ?_
  refine sy_Fs (sy_gf xc131_33 xf131_436 rfl (wh_at hw 0 rfl) rfl (fh_at hX0 31 rfl rfl) sy_refl) ?_
  refine sy_Fs (sy_bipush (v := 32) xc131_36 (by decide) (by decide) sy_refl) ?_
  refine sy_Fs (sy_ild xc131_38 rfl rfl sy_refl) ?_
  refine sy_Fs (sx_imul (z := 0) xc131_40 (by decide)) ?_
  refine sy_Fs (sy_bipush (v := 32) xc131_41 (by decide) (by decide) sy_refl) ?_
  refine sy_Fw (i := 29) (x := (1, 1, 2400, (mo_T Ly 0 Pid 128 32))) hw (by decide) (sy_callG (kd := 1) (as := [(2, pl 22, 0), (0, 128, 0), (2, pl 29, 0), (0, 0, 0), (0, 32, 0)]) (S0 := []) (ret := []) xc131_43 (sy_calS (as := [(2, pl 22, 0), (0, 128, 0), (2, pl 29, 0), (0, 0, 0), (0, 32, 0)]) (S0 := []) xm131_184 rfl rfl) rfl rfl rfl rfl (sy_oka (sy_oks_cons (sy_ok2 (wh_lt hw 22 (by first | decide | assumption))) (sy_oks_cons (sy_ok0 (by first | decide | assumption | omega | exact mo_rd_lt _ _ | exact mo_add_lt _ _ | exact mo_sub_lt _ _ | exact mo_mul_lt _ _ | exact mo_shl_lt _ _ | exact mo_ushr_lt _ _ | exact mo_or_lt (by decide) (mo_and_lt (mo_rd_lt _ _)) | exact mo_or_lt (mo_shl_lt _ _) (mo_and_lt (mo_rd_lt _ _)))) (sy_oks_cons (sy_ok2 (wh_lt hw 29 (by first | decide | assumption))) (sy_oks_cons (sy_ok0 (by first | decide | assumption | omega | exact mo_rd_lt _ _ | exact mo_add_lt _ _ | exact mo_sub_lt _ _ | exact mo_mul_lt _ _ | exact mo_shl_lt _ _ | exact mo_ushr_lt _ _ | exact mo_or_lt (by decide) (mo_and_lt (mo_rd_lt _ _)) | exact mo_or_lt (mo_shl_lt _ _) (mo_and_lt (mo_rd_lt _ _)))) (sy_oks_cons (sy_ok0 (by first | decide | assumption | omega | exact mo_rd_lt _ _ | exact mo_add_lt _ _ | exact mo_sub_lt _ _ | exact mo_mul_lt _ _ | exact mo_shl_lt _ _ | exact mo_ushr_lt _ _ | exact mo_or_lt (by decide) (mo_and_lt (mo_rd_lt _ _)) | exact mo_or_lt (mo_shl_lt _ _) (mo_and_lt (mo_rd_lt _ _)))) sy_oks_nil))))) rfl xl110) (wr_move (wh_ne hw 22 29 (by decide) (by decide) (by decide)) (wh_lt hw 22 (by first | decide | assumption)) (wh_lt hw 29 (by first | decide | assumption)) (wh_at hw 22 rfl) (wh_at hw 29 rfl) (by first | decide | assumption | omega) (by first | decide | assumption | omega) (by first | decide | assumption | omega) (by first | decide | assumption | omega)) (by decide) (by rw [xl110]; decide) sy_refl) ?_
  intro w hw
  simp only [List.set_cons_zero, List.set_cons_succ] at hw
  refine sy_Fs (sx_iinc (c := 1) (z := 1) (ls' := [(2, pl 0, 0), (0, 1, 0), (2, pl 8, 0), (0, 137, 0), (0, 1, 0), (0, 1, 0), (255, 0, 0)]) xc131_46 rfl (by decide) (by rw [xl131]; rfl) rfl (by decide) rfl) ?_
  refine sy_Fs (sy_goto (pc' := 11) xc131_49 (by decide) (by decide) sy_refl) ?_
  refine sy_Fs (sy_ild xc131_11 rfl rfl sy_refl) ?_
  refine sy_Fs (sy_ild xc131_13 rfl rfl sy_refl) ?_
  refine sy_Fs (sy_ge_t (pc' := 52) xc131_15 (by decide) (by decide) (by decide) (by decide) sy_refl) ?_
  refine sy_Fs (sy_ild xc131_52 rfl rfl sy_refl) ?_
  refine sy_Fs (sy_iconst (v := 1) xc131_54 (by decide) sy_refl) ?_
  refine sy_Fs (sy_icmple_t (pc' := 164) xc131_55 (by decide) (by decide) (by decide) (by decide) sy_refl) ?_
  refine sy_Fs (sy_aldn xc131_164 rfl rfl sy_refl) ?_
  refine sy_Fs (sy_gf xc131_165 xf131_436 rfl (wh_at hw 0 rfl) rfl (fh_at hX0 31 rfl rfl) sy_refl) ?_
  refine sy_Fs (sy_iconst (v := 0) xc131_168 (by decide) sy_refl) ?_
  refine sy_Fs (sy_aldn xc131_169 rfl rfl sy_refl) ?_
  refine sy_Fs (sy_ildn xc131_170 rfl rfl sy_refl) ?_
  refine sy_Fs (sy_bipush (v := 32) xc131_171 (by decide) (by decide) sy_refl) ?_
  refine sy_Fw (i := 8) (x := (1, 1, 4200, (mo_T Hd 137 (mo_T Ly 0 Pid 128 32) 0 32))) hw (by decide) (sy_callG (kd := 1) (as := [(2, pl 29, 0), (0, 0, 0), (2, pl 8, 0), (0, 137, 0), (0, 32, 0)]) (S0 := []) (ret := []) xc131_173 (sy_calS (as := [(2, pl 29, 0), (0, 0, 0), (2, pl 8, 0), (0, 137, 0), (0, 32, 0)]) (S0 := []) xm131_184 rfl rfl) rfl rfl rfl rfl (sy_oka (sy_oks_cons (sy_ok2 (wh_lt hw 29 (by first | decide | assumption))) (sy_oks_cons (sy_ok0 (by first | decide | assumption | omega | exact mo_rd_lt _ _ | exact mo_add_lt _ _ | exact mo_sub_lt _ _ | exact mo_mul_lt _ _ | exact mo_shl_lt _ _ | exact mo_ushr_lt _ _ | exact mo_or_lt (by decide) (mo_and_lt (mo_rd_lt _ _)) | exact mo_or_lt (mo_shl_lt _ _) (mo_and_lt (mo_rd_lt _ _)))) (sy_oks_cons (sy_ok2 (wh_lt hw 8 (by first | decide | assumption))) (sy_oks_cons (sy_ok0 (by first | decide | assumption | omega | exact mo_rd_lt _ _ | exact mo_add_lt _ _ | exact mo_sub_lt _ _ | exact mo_mul_lt _ _ | exact mo_shl_lt _ _ | exact mo_ushr_lt _ _ | exact mo_or_lt (by decide) (mo_and_lt (mo_rd_lt _ _)) | exact mo_or_lt (mo_shl_lt _ _) (mo_and_lt (mo_rd_lt _ _)))) (sy_oks_cons (sy_ok0 (by first | decide | assumption | omega | exact mo_rd_lt _ _ | exact mo_add_lt _ _ | exact mo_sub_lt _ _ | exact mo_mul_lt _ _ | exact mo_shl_lt _ _ | exact mo_ushr_lt _ _ | exact mo_or_lt (by decide) (mo_and_lt (mo_rd_lt _ _)) | exact mo_or_lt (mo_shl_lt _ _) (mo_and_lt (mo_rd_lt _ _)))) sy_oks_nil))))) rfl xl110) (wr_move (wh_ne hw 29 8 (by decide) (by decide) (by decide)) (wh_lt hw 29 (by first | decide | assumption)) (wh_lt hw 8 (by first | decide | assumption)) (wh_at hw 29 rfl) (wh_at hw 8 rfl) (by first | decide | assumption | omega) (by first | decide | assumption | omega) (by first | decide | assumption | omega) (by first | decide | assumption | omega)) (by decide) (by rw [xl110]; decide) sy_refl) ?_
  intro w hw
  simp only [List.set_cons_zero, List.set_cons_succ] at hw
  exact sy_Fv xc131_176 xr131 ⟨rfl, hw⟩
theorem wq_pay (hw : wh 32 pl w0 w [(0, 0, 107, X0), (1, 1, 64, Pc), (1, 0, 64, mc_K), (1, 0, 64, Wd), (1, 0, 8, Vv), (1, 0, 8, St), (1, 0, 8, Af), (1, 1, 32, Mi), (1, 1, 4200, Hd), (1, 1, 1280, Bi), (1, 0, 40, Bf), (1, 0, 40, Hg), (1, 0, 40, Tm), (1, 0, 40, Bo), (1, 0, 40, Wk), (1, 0, 40, Pn), (1, 0, 40, Bs), (1, 1, 28, Mt), (1, 0, 160, Pst), (1, 0, 160, Ppl), (1, 0, 160, Psz), (1, 1, 76000, Bb), (1, 1, 5120, Pid), (1, 1, 600, So), (1, 0, 960, Fn), (1, 0, 40, Fc), (1, 1, 3200, Fl), (1, 0, 40, Fs), (1, 1, 32, Ou), (1, 1, 2400, Ly), (1, 0, 40, No), (1, 1, 20, Bu)]) (hX0 : fh X0 jQ [(0, th, 0), (2, pl 1, 0), (2, pl 2, 0), (2, pl 3, 0), (2, pl 4, 0), (2, pl 5, 0), (2, pl 6, 0), (2, pl 7, 0), (0, up, 0), (1, lp, 0), (2, pl 8, 0), (2, pl 9, 0), (2, pl 10, 0), (2, pl 11, 0), (2, pl 12, 0), (2, pl 13, 0), (2, pl 14, 0), (2, pl 15, 0), (2, pl 16, 0), (2, pl 17, 0), (2, pl 18, 0), (2, pl 19, 0), (2, pl 20, 0), (2, pl 21, 0), (2, pl 22, 0), (2, pl 23, 0), (2, pl 24, 0), (2, pl 25, 0), (2, pl 26, 0), (2, pl 27, 0), (2, pl 28, 0), (2, pl 29, 0), (2, pl 30, 0), (2, pl 31, 0), (0, 1, 0), (0, 0, 0), (0, sc, 0), (0, ba, 0), (0, 0, 0)]) (hA : ∀ i, i < 8 → mv_rd 32 Af i = mv_rd 32 hs_S0 i) {f : Nat → Nat} (hf : ∀ j, j < 28 → mv_rd 32 Mt (0 + j) = f j) (hpn : mv_rd 32 Pn 1 = 0) (hbs : mv_rd 32 Bs 1 = 0) : sy_D 127 n 5 122 [(2, pl 0, 0), (0, 1, 0), (2, pl 17, 0), (0, 0, 0), (0, 28, 0), (0, 28, 0)] w (fun ret w' => ret = [] ∧ ∃ Y0 P1 W1 V1 S1 M1 T1 u1 l1 : Nat, (∀ j, j < 32 → mv_rd 32 T1 (128 + j) = bk_D (hs_2 f 28) j) ∧ wh 32 pl w0 w' [(0, 0, 107, Y0), (1, 1, 64, P1), (1, 0, 64, mc_K), (1, 0, 64, W1), (1, 0, 8, V1), (1, 0, 8, S1), (1, 0, 8, Af), (1, 1, 32, M1), (1, 1, 4200, Hd), (1, 1, 1280, Bi), (1, 0, 40, Bf), (1, 0, 40, Hg), (1, 0, 40, Tm), (1, 0, 40, Bo), (1, 0, 40, Wk), (1, 0, 40, (mv_wr 32 Pn 1 1)), (1, 0, 40, (mv_wr 32 Bs 1 28)), (1, 1, 28, Mt), (1, 0, 160, (mv_wr 32 Pst 4 0)), (1, 0, 160, (mv_wr 32 Ppl 4 28)), (1, 0, 160, (mv_wr 32 Psz 4 28)), (1, 1, 76000, (mo_T Bb 1900 Mt 0 28)), (1, 1, 5120, T1), (1, 1, 600, So), (1, 0, 960, Fn), (1, 0, 40, Fc), (1, 1, 3200, Fl), (1, 0, 40, Fs), (1, 1, 32, Ou), (1, 1, 2400, Ly), (1, 0, 40, No), (1, 1, 20, Bu)] ∧ fh Y0 jQ [(0, th, 0), (2, pl 1, 0), (2, pl 2, 0), (2, pl 3, 0), (2, pl 4, 0), (2, pl 5, 0), (2, pl 6, 0), (2, pl 7, 0), (0, u1, 0), (1, l1, 0), (2, pl 8, 0), (2, pl 9, 0), (2, pl 10, 0), (2, pl 11, 0), (2, pl 12, 0), (2, pl 13, 0), (2, pl 14, 0), (2, pl 15, 0), (2, pl 16, 0), (2, pl 17, 0), (2, pl 18, 0), (2, pl 19, 0), (2, pl 20, 0), (2, pl 21, 0), (2, pl 22, 0), (2, pl 23, 0), (2, pl 24, 0), (2, pl 25, 0), (2, pl 26, 0), (2, pl 27, 0), (2, pl 28, 0), (2, pl 29, 0), (2, pl 30, 0), (2, pl 31, 0), (0, 1, 0), (0, 0, 0), (0, sc, 0), (0, ba, 0), (0, 0, 0)]) := by
  refine sy_Dof (us := [(255, 0, 0)]) (sy_oks_cons (sy_ok2 (wh_lt hw 0 (by first | decide | assumption))) (sy_oks_cons (sy_ok0 (by first | decide | assumption | omega | exact mo_rd_lt _ _ | exact mo_add_lt _ _ | exact mo_sub_lt _ _ | exact mo_mul_lt _ _ | exact mo_shl_lt _ _ | exact mo_ushr_lt _ _ | exact mo_or_lt (by decide) (mo_and_lt (mo_rd_lt _ _)) | exact mo_or_lt (mo_shl_lt _ _) (mo_and_lt (mo_rd_lt _ _)))) (sy_oks_cons (sy_ok2 (wh_lt hw 17 (by first | decide | assumption))) (sy_oks_cons (sy_ok0 (by first | decide | assumption | omega | exact mo_rd_lt _ _ | exact mo_add_lt _ _ | exact mo_sub_lt _ _ | exact mo_mul_lt _ _ | exact mo_shl_lt _ _ | exact mo_ushr_lt _ _ | exact mo_or_lt (by decide) (mo_and_lt (mo_rd_lt _ _)) | exact mo_or_lt (mo_shl_lt _ _) (mo_and_lt (mo_rd_lt _ _)))) (sy_oks_cons (sy_ok0 (by first | decide | assumption | omega | exact mo_rd_lt _ _ | exact mo_add_lt _ _ | exact mo_sub_lt _ _ | exact mo_mul_lt _ _ | exact mo_shl_lt _ _ | exact mo_ushr_lt _ _ | exact mo_or_lt (by decide) (mo_and_lt (mo_rd_lt _ _)) | exact mo_or_lt (mo_shl_lt _ _) (mo_and_lt (mo_rd_lt _ _)))) (sy_oks_cons (sy_ok0 (by first | decide | assumption | omega | exact mo_rd_lt _ _ | exact mo_add_lt _ _ | exact mo_sub_lt _ _ | exact mo_mul_lt _ _ | exact mo_shl_lt _ _ | exact mo_ushr_lt _ _ | exact mo_or_lt (by decide) (mo_and_lt (mo_rd_lt _ _)) | exact mo_or_lt (mo_shl_lt _ _) (mo_and_lt (mo_rd_lt _ _)))) sy_oks_nil)))))) rfl rfl ?_
  show sy_F 127 n 5 122 0 [(2, pl 0, 0), (0, 1, 0), (2, pl 17, 0), (0, 0, 0), (0, 28, 0), (0, 28, 0), (255, 0, 0)] [] w _
  refine sy_Fs (sy_aldn xc127_0 rfl rfl sy_refl) ?_
  refine sy_Fs (sy_ildn xc127_1 rfl rfl sy_refl) ?_
  refine sy_Fs (sy_aldn xc127_2 rfl rfl sy_refl) ?_
  refine sy_Fs (sy_gf xc127_3 xf127_376 rfl (wh_at hw 0 rfl) rfl (fh_at hX0 17 rfl rfl) sy_refl) ?_
  refine sy_Fs (sy_ildn xc127_6 rfl rfl sy_refl) ?_
  refine sy_Fs (sx_ial (z := 0) xc127_7 (wh_at hw 15 rfl) (by decide) (by decide) hpn) ?_
  refine sy_Fs (sy_callG (kd := 3) (as := [(2, pl 0, 0), (0, 1, 0), (0, 0, 0)]) (S0 := []) (ret := [(0, 4, 0)]) xc127_8 (sy_calV (as := [(2, pl 0, 0), (0, 1, 0), (0, 0, 0)]) (S0 := []) xm127_585 rfl rfl) rfl rfl (sy_rcvm xi116 (wh_at hw 0 rfl)) rfl (sy_oka (sy_oks_cons (sy_ok2 (wh_lt hw 0 (by first | decide | assumption))) (sy_oks_cons (sy_ok0 (by first | decide | assumption | omega | exact mo_rd_lt _ _ | exact mo_add_lt _ _ | exact mo_sub_lt _ _ | exact mo_mul_lt _ _ | exact mo_shl_lt _ _ | exact mo_ushr_lt _ _ | exact mo_or_lt (by decide) (mo_and_lt (mo_rd_lt _ _)) | exact mo_or_lt (mo_shl_lt _ _) (mo_and_lt (mo_rd_lt _ _)))) (sy_oks_cons (sy_ok0 (by first | decide | assumption | omega | exact mo_rd_lt _ _ | exact mo_add_lt _ _ | exact mo_sub_lt _ _ | exact mo_mul_lt _ _ | exact mo_shl_lt _ _ | exact mo_ushr_lt _ _ | exact mo_or_lt (by decide) (mo_and_lt (mo_rd_lt _ _)) | exact mo_or_lt (mo_shl_lt _ _) (mo_and_lt (mo_rd_lt _ _)))) sy_oks_nil))) rfl xl116) (sy_Cw (wq_pi (n := n) hw hX0)) (by decide) (by rw [xl116]; decide) sy_refl) ?_
  refine sy_Fs (sx_ist (j := 6) (ls' := [(2, pl 0, 0), (0, 1, 0), (2, pl 17, 0), (0, 0, 0), (0, 28, 0), (0, 28, 0), (0, 4, 0)]) xc127_11 rfl (sy_ok0 (by first | decide | assumption | omega | exact mo_rd_lt _ _ | exact mo_add_lt _ _ | exact mo_sub_lt _ _ | exact mo_mul_lt _ _ | exact mo_shl_lt _ _ | exact mo_ushr_lt _ _ | exact mo_or_lt (by decide) (mo_and_lt (mo_rd_lt _ _)) | exact mo_or_lt (mo_shl_lt _ _) (mo_and_lt (mo_rd_lt _ _)))) (by rw [xl127]; rfl) rfl rfl) ?_
  refine sy_Fs (sy_aldn xc127_13 rfl rfl sy_refl) ?_
  refine sy_Fs (sy_gf xc127_14 xf127_364 rfl (wh_at hw 0 rfl) rfl (fh_at hX0 20 rfl rfl) sy_refl) ?_
  refine sy_Fs (sy_ild xc127_17 rfl rfl sy_refl) ?_
  refine sy_Fs (sy_aldn xc127_19 rfl rfl sy_refl) ?_
  refine sy_Fs (sy_gf xc127_20 xf127_379 rfl (wh_at hw 0 rfl) rfl (fh_at hX0 18 rfl rfl) sy_refl) ?_
  refine sy_Fs (sy_ildn xc127_23 rfl rfl sy_refl) ?_
  refine sy_Fs (sx_ial (z := 0) xc127_24 (wh_at hw 16 rfl) (by decide) (by decide) hbs) ?_
  refine sy_Fw (i := 18) (x := (1, 0, 160, (mv_wr 32 Pst 4 0))) hw (by decide) (sy_ias (i := 4) xc127_25 (wh_at hw 18 rfl) rfl (by decide) (by decide) rfl sy_refl) ?_
  intro w hw
  simp only [List.set_cons_zero, List.set_cons_succ] at hw
  refine sy_Fs (sy_aldn xc127_26 rfl rfl sy_refl) ?_
  refine sy_Fs (sy_gf xc127_27 xf127_367 rfl (wh_at hw 0 rfl) rfl (fh_at hX0 21 rfl rfl) sy_refl) ?_
  refine sy_Fs (sy_ild xc127_30 rfl rfl sy_refl) ?_
  refine sy_Fs (sy_ild xc127_32 rfl rfl sy_refl) ?_
  refine sy_Fw (i := 19) (x := (1, 0, 160, (mv_wr 32 Ppl 4 28))) hw (by decide) (sy_ias (i := 4) xc127_34 (wh_at hw 19 rfl) rfl (by decide) (by decide) rfl sy_refl) ?_
  intro w hw
  simp only [List.set_cons_zero, List.set_cons_succ] at hw
  refine sy_Fs (sy_aldn xc127_35 rfl rfl sy_refl) ?_
  refine sy_Fs (sy_gf xc127_36 xf127_370 rfl (wh_at hw 0 rfl) rfl (fh_at hX0 22 rfl rfl) sy_refl) ?_
  refine sy_Fs (sy_ild xc127_39 rfl rfl sy_refl) ?_
  refine sy_Fs (sy_ild xc127_41 rfl rfl sy_refl) ?_
  refine sy_Fw (i := 20) (x := (1, 0, 160, (mv_wr 32 Psz 4 28))) hw (by decide) (sy_ias (i := 4) xc127_43 (wh_at hw 20 rfl) rfl (by decide) (by decide) rfl sy_refl) ?_
  intro w hw
  simp only [List.set_cons_zero, List.set_cons_succ] at hw
  refine sy_Fs (sy_aldn xc127_44 rfl rfl sy_refl) ?_
  refine sy_Fs (sy_ildn xc127_45 rfl rfl sy_refl) ?_
  refine sy_Fs (sy_aldn xc127_46 rfl rfl sy_refl) ?_
  refine sy_Fs (sy_gf xc127_47 xf127_361 rfl (wh_at hw 0 rfl) rfl (fh_at hX0 23 rfl rfl) sy_refl) ?_
  refine sy_Fs (sy_sipush (v := 1900) xc127_50 (by decide) (by decide) sy_refl) ?_
  refine sy_Fs (sy_ildn xc127_53 rfl rfl sy_refl) ?_
  refine sy_Fs (sx_imul (z := 1900) xc127_54 (by decide)) ?_
  refine sy_Fs (sy_aldn xc127_55 rfl rfl sy_refl) ?_
  refine sy_Fs (sy_gf xc127_56 xf127_379 rfl (wh_at hw 0 rfl) rfl (fh_at hX0 18 rfl rfl) sy_refl) ?_
  refine sy_Fs (sy_ildn xc127_59 rfl rfl sy_refl) ?_
  refine sy_Fs (sx_ial (z := 0) xc127_60 (wh_at hw 16 rfl) (by decide) (by decide) hbs) ?_
  refine sy_Fs (sx_iadd (z := 1900) xc127_61 (by decide)) ?_
  refine sy_Fs (sy_ild xc127_62 rfl rfl sy_refl) ?_
  refine sy_Fw (i := 21) (x := (1, 1, 76000, (mo_T Bb 1900 Mt 0 28))) hw (by decide) (sy_callG (kd := 1) (as := [(2, pl 17, 0), (0, 0, 0), (2, pl 21, 0), (0, 1900, 0), (0, 28, 0)]) (S0 := []) (ret := []) xc127_64 (sy_calS (as := [(2, pl 17, 0), (0, 0, 0), (2, pl 21, 0), (0, 1900, 0), (0, 28, 0)]) (S0 := []) xm127_184 rfl rfl) rfl rfl rfl rfl (sy_oka (sy_oks_cons (sy_ok2 (wh_lt hw 17 (by first | decide | assumption))) (sy_oks_cons (sy_ok0 (by first | decide | assumption | omega | exact mo_rd_lt _ _ | exact mo_add_lt _ _ | exact mo_sub_lt _ _ | exact mo_mul_lt _ _ | exact mo_shl_lt _ _ | exact mo_ushr_lt _ _ | exact mo_or_lt (by decide) (mo_and_lt (mo_rd_lt _ _)) | exact mo_or_lt (mo_shl_lt _ _) (mo_and_lt (mo_rd_lt _ _)))) (sy_oks_cons (sy_ok2 (wh_lt hw 21 (by first | decide | assumption))) (sy_oks_cons (sy_ok0 (by first | decide | assumption | omega | exact mo_rd_lt _ _ | exact mo_add_lt _ _ | exact mo_sub_lt _ _ | exact mo_mul_lt _ _ | exact mo_shl_lt _ _ | exact mo_ushr_lt _ _ | exact mo_or_lt (by decide) (mo_and_lt (mo_rd_lt _ _)) | exact mo_or_lt (mo_shl_lt _ _) (mo_and_lt (mo_rd_lt _ _)))) (sy_oks_cons (sy_ok0 (by first | decide | assumption | omega | exact mo_rd_lt _ _ | exact mo_add_lt _ _ | exact mo_sub_lt _ _ | exact mo_mul_lt _ _ | exact mo_shl_lt _ _ | exact mo_ushr_lt _ _ | exact mo_or_lt (by decide) (mo_and_lt (mo_rd_lt _ _)) | exact mo_or_lt (mo_shl_lt _ _) (mo_and_lt (mo_rd_lt _ _)))) sy_oks_nil))))) rfl xl110) (wr_move (wh_ne hw 17 21 (by decide) (by decide) (by decide)) (wh_lt hw 17 (by first | decide | assumption)) (wh_lt hw 21 (by first | decide | assumption)) (wh_at hw 17 rfl) (wh_at hw 21 rfl) (by first | decide | assumption | omega) (by first | decide | assumption | omega) (by first | decide | assumption | omega) (by first | decide | assumption | omega)) (by decide) (by rw [xl110]; decide) sy_refl) ?_
  intro w hw
  simp only [List.set_cons_zero, List.set_cons_succ] at hw
  refine sy_Fs (sy_aldn xc127_67 rfl rfl sy_refl) ?_
  refine sy_Fs (sy_aldn xc127_68 rfl rfl sy_refl) ?_
  refine sy_Fs (sy_ildn xc127_69 rfl rfl sy_refl) ?_
  refine sy_Fs (sy_ild xc127_70 rfl rfl sy_refl) ?_
  refine sy_Fs (sy_aldn xc127_72 rfl rfl sy_refl) ?_
  refine sy_Fs (sy_gf xc127_73 xf127_373 rfl (wh_at hw 0 rfl) rfl (fh_at hX0 24 rfl rfl) sy_refl) ?_
  refine sy_Fs (sy_bipush (v := 32) xc127_76 (by decide) (by decide) sy_refl) ?_
  refine sy_Fs (sy_ild xc127_78 rfl rfl sy_refl) ?_
  refine sy_Fs (sx_imul (z := 128) xc127_80 (by decide)) ?_
  obtain ⟨w, X0, P1, W1, V1, S1, M1, T1, u1, l1, hC, hw1, hX1x, ⟨hu1, hl1⟩, hT1⟩ := wq_hash (n := n) (fa := 0) (at_ := 128) (nn := 28) (it := 22) (jf := 17) (f := f) hw rfl rfl rfl rfl rfl rfl rfl rfl rfl (by decide) (by decide) rfl (by decide) (by decide) hX0 rfl rfl rfl rfl rfl rfl rfl rfl rfl (by first | decide | assumption | omega) (by first | decide | assumption | omega) (by first | decide | assumption | omega) (by first | decide | assumption | omega) hA hf (by first | decide | assumption | omega)
  refine sy_Fs (sy_callG (kd := 3) (as := [(2, pl 0, 0), (2, pl 17, 0), (0, 0, 0), (0, 28, 0), (2, pl 22, 0), (0, 128, 0)]) (S0 := []) (ret := []) xc127_81 (sy_calV (as := [(2, pl 0, 0), (2, pl 17, 0), (0, 0, 0), (0, 28, 0), (2, pl 22, 0), (0, 128, 0)]) (S0 := []) xm127_156 rfl rfl) rfl rfl (sy_rcvm xi100 (wh_at hw 0 rfl)) rfl (sy_oka (sy_oks_cons (sy_ok2 (wh_lt hw 0 (by first | decide | assumption))) (sy_oks_cons (sy_ok2 (wh_lt hw 17 (by first | decide | assumption))) (sy_oks_cons (sy_ok0 (by first | decide | assumption | omega | exact mo_rd_lt _ _ | exact mo_add_lt _ _ | exact mo_sub_lt _ _ | exact mo_mul_lt _ _ | exact mo_shl_lt _ _ | exact mo_ushr_lt _ _ | exact mo_or_lt (by decide) (mo_and_lt (mo_rd_lt _ _)) | exact mo_or_lt (mo_shl_lt _ _) (mo_and_lt (mo_rd_lt _ _)))) (sy_oks_cons (sy_ok0 (by first | decide | assumption | omega | exact mo_rd_lt _ _ | exact mo_add_lt _ _ | exact mo_sub_lt _ _ | exact mo_mul_lt _ _ | exact mo_shl_lt _ _ | exact mo_ushr_lt _ _ | exact mo_or_lt (by decide) (mo_and_lt (mo_rd_lt _ _)) | exact mo_or_lt (mo_shl_lt _ _) (mo_and_lt (mo_rd_lt _ _)))) (sy_oks_cons (sy_ok2 (wh_lt hw 22 (by first | decide | assumption))) (sy_oks_cons (sy_ok0 (by first | decide | assumption | omega | exact mo_rd_lt _ _ | exact mo_add_lt _ _ | exact mo_sub_lt _ _ | exact mo_mul_lt _ _ | exact mo_shl_lt _ _ | exact mo_ushr_lt _ _ | exact mo_or_lt (by decide) (mo_and_lt (mo_rd_lt _ _)) | exact mo_or_lt (mo_shl_lt _ _) (mo_and_lt (mo_rd_lt _ _)))) sy_oks_nil)))))) rfl xl100) hC (by decide) (by rw [xl100]; decide) sy_refl) ?_
  replace hw := hw1
  replace hX0 := hX1x
  simp only [List.set_cons_zero, List.set_cons_succ] at hw hX0
  refine sy_Fs (sy_aldn xc127_84 rfl rfl sy_refl) ?_
  refine sy_Fs (sy_gf xc127_85 xf127_379 rfl (wh_at hw 0 rfl) rfl (fh_at hX0 18 rfl rfl) sy_refl) ?_
  refine sy_Fs (sy_ildn xc127_88 rfl rfl sy_refl) ?_
  refine sy_Fs (sy_aldn xc127_89 rfl rfl sy_refl) ?_
  refine sy_Fs (sy_gf xc127_90 xf127_379 rfl (wh_at hw 0 rfl) rfl (fh_at hX0 18 rfl rfl) sy_refl) ?_
  refine sy_Fs (sy_ildn xc127_93 rfl rfl sy_refl) ?_
  refine sy_Fs (sx_ial (z := 0) xc127_94 (wh_at hw 16 rfl) (by decide) (by decide) hbs) ?_
  refine sy_Fs (sy_ild xc127_95 rfl rfl sy_refl) ?_
  refine sy_Fs (sx_iadd (z := 28) xc127_97 (by decide)) ?_
  refine sy_Fw (i := 16) (x := (1, 0, 40, (mv_wr 32 Bs 1 28))) hw (by decide) (sy_ias (i := 1) xc127_98 (wh_at hw 16 rfl) rfl (by decide) (by decide) rfl sy_refl) ?_
  intro w hw
  simp only [List.set_cons_zero, List.set_cons_succ] at hw
  refine sy_Fs (sy_aldn xc127_99 rfl rfl sy_refl) ?_
  refine sy_Fs (sy_gf xc127_100 xf127_376 rfl (wh_at hw 0 rfl) rfl (fh_at hX0 17 rfl rfl) sy_refl) ?_
  refine sy_Fs (sy_ildn xc127_103 rfl rfl sy_refl) ?_
  refine sy_Fs (sy_dup2 xc127_104 rfl sy_refl) ?_
  refine sy_Fs (sx_ial (z := 0) xc127_105 (wh_at hw 15 rfl) (by decide) (by decide) hpn) ?_
  refine sy_Fs (sy_iconst (v := 1) xc127_106 (by decide) sy_refl) ?_
  refine sy_Fs (sx_iadd (z := 1) xc127_107 (by decide)) ?_
  refine sy_Fw (i := 15) (x := (1, 0, 40, (mv_wr 32 Pn 1 1))) hw (by decide) (sy_ias (i := 1) xc127_108 (wh_at hw 15 rfl) rfl (by decide) (by decide) rfl sy_refl) ?_
  intro w hw
  simp only [List.set_cons_zero, List.set_cons_succ] at hw
  exact sy_Fv xc127_109 xr127 ⟨rfl, X0, P1, W1, V1, S1, M1, T1, u1, l1, fun j hj => by rw [hT1 (128 + j), if_pos (by omega), show 128 + j - 128 = j by omega], hw, hX0⟩
end QF
