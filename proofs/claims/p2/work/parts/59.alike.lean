/-! SYMBOLIC RUNS, IV: to an end, one of several; sameBytes and alike -/
def sy_E (k n fr lo pc : Nat) (ls S : List mv_V) (w : mv_T 10) (res : mv_R) : Prop := ∀ L, sy_L L ls → ∃ f, sy_run f k pc L S n w fr lo = some res
section SE
variable {k n fr lo pc pc' : Nat} {ls ls' S S' : List mv_V} {w w' : mv_T 10} {res : mv_R}
theorem sy_to (h : sy_R k n fr lo pc ls S w pc' ls' S' w') (e : sy_E k n fr lo pc' ls' S' w' res) : sy_E k n fr lo pc ls S w res := by
  intro L hL
  obtain ⟨c, L', h1, h2⟩ := h L hL
  obtain ⟨f, hf⟩ := e L' h1
  exact ⟨f + c, h2 f res hf⟩
theorem sy_Eof {as us : List mv_V} {ret : List mv_V} (ho : mv_oks as = true) (hl : as.all (fun v => !(mv_isL v)) = true) (hu : us.all (fun v => Nat.beq v.1 255) = true) (h : sy_E k n fr lo 0 (as ++ us) [] w (ret, n, w', 0, 0, fr, lo)) : sy_C k n fr lo as w ret w' := h _ (sy_l0L ho hl hu)
theorem sy_Ei {x : mv_V} (hc : tt_cd k pc = (9, .ireturn, 1)) (hm : tt_mr k = 1) (hx : mv_isI x = true) : sy_E k n fr lo pc ls [x] w ([x], n, w, 0, 0, fr, lo) := fun _ _ => ⟨1, sy_reti hc hm hx⟩
theorem sy_Ez {x : Nat} (hc : tt_cd k pc = (9, .ireturn, 1)) (hm : tt_mr k = 4) (hx : x < 2) : sy_E k n fr lo pc ls [(0, x, 0)] w ([(0, x, 0)], n, w, 0, 0, fr, lo) := fun _ _ => ⟨1, sy_retz hc hm hx⟩
end SE
/-- rows of bytes, the same -/
def sb_eq (A a B b : Nat) : Nat → Bool
  | 0 => true
  | m + 1 => sb_eq A a B b m && Nat.beq (mv_rd 32 A (a + m)) (mv_rd 32 B (b + m))
theorem sb_iff (A a B b : Nat) : ∀ m, sb_eq A a B b m = true ↔ ∀ j, j < m → mv_rd 32 A (a + j) = mv_rd 32 B (b + j)
  | 0 => ⟨fun _ j h => absurd h (Nat.not_lt_zero j), fun _ => rfl⟩
  | m + 1 => by
    show (sb_eq A a B b m && Nat.beq (mv_rd 32 A (a + m)) (mv_rd 32 B (b + m))) = true ↔ _
    rw [Bool.and_eq_true, sb_iff A a B b m]
    constructor
    · rintro ⟨h1, h2⟩ j hj
      rcases Nat.lt_or_ge j m with z | z
      · exact h1 j z
      · have e : j = m := by omega
        rw [e]
        exact Nat.eq_of_beq_eq_true h2
    · intro h
      refine ⟨fun j hj => h j (by omega), ?_⟩
      rw [h m (by omega)]
      exact Nat.beq_refl _
def sb_n (A a B b m : Nat) : Nat := bif sb_eq A a B b m then 1 else 0
theorem sb_no {A a B b m j : Nat} (hj : j < m) (h : mv_rd 32 A (a + j) ≠ mv_rd 32 B (b + j)) : sb_n A a B b m = 0 := by
  unfold sb_n
  cases hb : sb_eq A a B b m with
  | false => rfl
  | true => exact absurd ((sb_iff A a B b m).mp hb j hj) h
theorem sb_yes {A a B b m : Nat} (h : ∀ j, j < m → mv_rd 32 A (a + j) = mv_rd 32 B (b + j)) : sb_n A a B b m = 1 := by
  unfold sb_n
  rw [(sb_iff A a B b m).mpr h]
  rfl
theorem cd35_0 : tt_cd 35 0 = (1, .iload_n 1, 1) := by decide +kernel
theorem cd35_1 : tt_cd 35 1 = (5, .ifCond .lt 25, 3) := by decide +kernel
theorem cd35_4 : tt_cd 35 4 = (1, .iload_n 3, 1) := by decide +kernel
theorem cd35_5 : tt_cd 35 5 = (5, .ifCond .lt 21, 3) := by decide +kernel
theorem cd35_8 : tt_cd 35 8 = (1, .iload_n 1, 1) := by decide +kernel
theorem cd35_9 : tt_cd 35 9 = (1, .aload_n 0, 1) := by decide +kernel
theorem cd35_10 : tt_cd 35 10 = (3, .arraylength, 1) := by decide +kernel
theorem cd35_11 : tt_cd 35 11 = (1, .iload 4, 2) := by decide +kernel
theorem cd35_13 : tt_cd 35 13 = (2, .isub, 1) := by decide +kernel
theorem cd35_14 : tt_cd 35 14 = (5, .if_icmp .gt 12, 3) := by decide +kernel
theorem cd35_17 : tt_cd 35 17 = (1, .iload_n 3, 1) := by decide +kernel
theorem cd35_18 : tt_cd 35 18 = (1, .aload_n 2, 1) := by decide +kernel
theorem cd35_19 : tt_cd 35 19 = (3, .arraylength, 1) := by decide +kernel
theorem cd35_20 : tt_cd 35 20 = (1, .iload 4, 2) := by decide +kernel
theorem cd35_22 : tt_cd 35 22 = (2, .isub, 1) := by decide +kernel
theorem cd35_23 : tt_cd 35 23 = (5, .if_icmp .le 5, 3) := by decide +kernel
theorem cd35_28 : tt_cd 35 28 = (2, .iconst 0, 1) := by decide +kernel
theorem cd35_29 : tt_cd 35 29 = (1, .istore 5, 2) := by decide +kernel
theorem cd35_31 : tt_cd 35 31 = (1, .iload 5, 2) := by decide +kernel
theorem cd35_33 : tt_cd 35 33 = (1, .iload 4, 2) := by decide +kernel
theorem cd35_35 : tt_cd 35 35 = (5, .if_icmp .ge 26, 3) := by decide +kernel
theorem cd35_38 : tt_cd 35 38 = (1, .aload_n 0, 1) := by decide +kernel
theorem cd35_39 : tt_cd 35 39 = (1, .iload_n 1, 1) := by decide +kernel
theorem cd35_40 : tt_cd 35 40 = (1, .iload 5, 2) := by decide +kernel
theorem cd35_42 : tt_cd 35 42 = (2, .iadd, 1) := by decide +kernel
theorem cd35_43 : tt_cd 35 43 = (3, .baload, 1) := by decide +kernel
theorem cd35_44 : tt_cd 35 44 = (1, .aload_n 2, 1) := by decide +kernel
theorem cd35_45 : tt_cd 35 45 = (1, .iload_n 3, 1) := by decide +kernel
theorem cd35_46 : tt_cd 35 46 = (1, .iload 5, 2) := by decide +kernel
theorem cd35_48 : tt_cd 35 48 = (2, .iadd, 1) := by decide +kernel
theorem cd35_49 : tt_cd 35 49 = (3, .baload, 1) := by decide +kernel
theorem cd35_50 : tt_cd 35 50 = (5, .if_icmp .eq 5, 3) := by decide +kernel
theorem cd35_53 : tt_cd 35 53 = (2, .iconst 0, 1) := by decide +kernel
theorem cd35_54 : tt_cd 35 54 = (9, .ireturn, 1) := by decide +kernel
theorem cd35_55 : tt_cd 35 55 = (1, .iinc 5 1, 3) := by decide +kernel
theorem cd35_58 : tt_cd 35 58 = (5, .goto (-27), 3) := by decide +kernel
theorem cd35_61 : tt_cd 35 61 = (2, .iconst 1, 1) := by decide +kernel
theorem cd35_62 : tt_cd 35 62 = (9, .ireturn, 1) := by decide +kernel
theorem mL35 : tt_mL 35 = 6 := by decide +kernel
theorem mr35 : tt_mr 35 = 4 := by decide +kernel
theorem cd113_0 : tt_cd 113 0 = (2, .iconst 0, 1) := by decide +kernel
theorem cd113_1 : tt_cd 113 1 = (1, .istore 5, 2) := by decide +kernel
theorem cd113_3 : tt_cd 113 3 = (1, .iload 5, 2) := by decide +kernel
theorem cd113_5 : tt_cd 113 5 = (1, .iload 4, 2) := by decide +kernel
theorem cd113_7 : tt_cd 113 7 = (5, .if_icmp .ge 26, 3) := by decide +kernel
theorem cd113_10 : tt_cd 113 10 = (1, .aload_n 0, 1) := by decide +kernel
theorem cd113_11 : tt_cd 113 11 = (1, .iload_n 1, 1) := by decide +kernel
theorem cd113_12 : tt_cd 113 12 = (1, .iload 5, 2) := by decide +kernel
theorem cd113_14 : tt_cd 113 14 = (2, .iadd, 1) := by decide +kernel
theorem cd113_15 : tt_cd 113 15 = (3, .baload, 1) := by decide +kernel
theorem cd113_16 : tt_cd 113 16 = (1, .aload_n 2, 1) := by decide +kernel
theorem cd113_17 : tt_cd 113 17 = (1, .iload_n 3, 1) := by decide +kernel
theorem cd113_18 : tt_cd 113 18 = (1, .iload 5, 2) := by decide +kernel
theorem cd113_20 : tt_cd 113 20 = (2, .iadd, 1) := by decide +kernel
theorem cd113_21 : tt_cd 113 21 = (3, .baload, 1) := by decide +kernel
theorem cd113_22 : tt_cd 113 22 = (5, .if_icmp .eq 5, 3) := by decide +kernel
theorem cd113_25 : tt_cd 113 25 = (2, .iconst 0, 1) := by decide +kernel
theorem cd113_26 : tt_cd 113 26 = (9, .ireturn, 1) := by decide +kernel
theorem cd113_27 : tt_cd 113 27 = (1, .iinc 5 1, 3) := by decide +kernel
theorem cd113_30 : tt_cd 113 30 = (5, .goto (-27), 3) := by decide +kernel
theorem cd113_33 : tt_cd 113 33 = (2, .iconst 1, 1) := by decide +kernel
theorem cd113_34 : tt_cd 113 34 = (9, .ireturn, 1) := by decide +kernel
theorem mL113 : tt_mL 113 = 6 := by decide +kernel
theorem mr113 : tt_mr 113 = 4 := by decide +kernel
section SB
variable {w : mv_T 10} {pa pb qa qb A B a b nn n : Nat}
theorem sbA_s {m : Nat} (hm : m < nn) (he : mv_rd 32 A (a + m) = mv_rd 32 B (b + m)) (h1 : mv_get 10 w pa = (1, 1, qa, A)) (h2 : mv_get 10 w pb = (1, 1, qb, B)) (ha : a + nn ≤ qa) (hb : b + nn ≤ qb) (hqa : qa ≤ 2147483647) (hqb : qb ≤ 2147483647) : sy_R 35 n 0 0 31 [(2, pa, 0), (0, a, 0), (2, pb, 0), (0, b, 0), (0, nn, 0), (0, m, 0)] [] w 31 [(2, pa, 0), (0, a, 0), (2, pb, 0), (0, b, 0), (0, nn, 0), (0, m + 1, 0)] [] w := by
  refine sy_ild cd35_31 rfl rfl ?_
  refine sy_ild cd35_33 rfl rfl ?_
  refine sy_ge_f cd35_35 (by decide) hm (by omega) ?_
  refine sy_aldn cd35_38 rfl rfl ?_
  refine sy_ildn cd35_39 rfl rfl ?_
  refine sy_ild cd35_40 rfl rfl ?_
  refine sy_iadd cd35_42 ?_
  refine sy_bal (i := a + m) cd35_43 h1 (by unfold mo_add; omega) (by omega) hqa ?_
  refine sy_aldn cd35_44 rfl rfl ?_
  refine sy_ildn cd35_45 rfl rfl ?_
  refine sy_ild cd35_46 rfl rfl ?_
  refine sy_iadd cd35_48 ?_
  refine sy_bal (i := b + m) cd35_49 h2 (by unfold mo_add; omega) (by omega) hqb ?_
  refine sy_icmpeq_t (pc' := 55) cd35_50 (by decide) he (by decide) ?_
  refine sy_iinc (c := 1) cd35_55 rfl (by decide) (by rw [mL35]; rfl) rfl ?_
  simp only [List.set_cons_zero, List.set_cons_succ]
  refine sy_goto (pc' := 31) cd35_58 (by decide) (by decide) ?_
  rw [mo_inc (by omega)]
  exact sy_refl
theorem sbA_d {m : Nat} (hm : m < nn) (he : mv_rd 32 A (a + m) ≠ mv_rd 32 B (b + m)) (h1 : mv_get 10 w pa = (1, 1, qa, A)) (h2 : mv_get 10 w pb = (1, 1, qb, B)) (ha : a + nn ≤ qa) (hb : b + nn ≤ qb) (hqa : qa ≤ 2147483647) (hqb : qb ≤ 2147483647) : sy_R 35 n 0 0 31 [(2, pa, 0), (0, a, 0), (2, pb, 0), (0, b, 0), (0, nn, 0), (0, m, 0)] [] w 54 [(2, pa, 0), (0, a, 0), (2, pb, 0), (0, b, 0), (0, nn, 0), (255, 0, 0)] [(0, 0, 0)] w := by
  refine sy_ild cd35_31 rfl rfl ?_
  refine sy_ild cd35_33 rfl rfl ?_
  refine sy_ge_f cd35_35 (by decide) hm (by omega) ?_
  refine sy_aldn cd35_38 rfl rfl ?_
  refine sy_ildn cd35_39 rfl rfl ?_
  refine sy_ild cd35_40 rfl rfl ?_
  refine sy_iadd cd35_42 ?_
  refine sy_bal (i := a + m) cd35_43 h1 (by unfold mo_add; omega) (by omega) hqa ?_
  refine sy_aldn cd35_44 rfl rfl ?_
  refine sy_ildn cd35_45 rfl rfl ?_
  refine sy_ild cd35_46 rfl rfl ?_
  refine sy_iadd cd35_48 ?_
  refine sy_bal (i := b + m) cd35_49 h2 (by unfold mo_add; omega) (by omega) hqb ?_
  refine sy_icmpeq_f cd35_50 (by decide) he (mo_rd_lt _ _) (mo_rd_lt _ _) ?_
  refine sy_iconst (v := 0) cd35_53 (by decide) ?_
  exact sy_weak (sy_lw_ok (by simp only [sy_lw]; simp))
theorem sbA_e (h1 : mv_get 10 w pa = (1, 1, qa, A)) (h2 : mv_get 10 w pb = (1, 1, qb, B)) (ha : a + nn ≤ qa) (hb : b + nn ≤ qb) (hqa : qa ≤ 2147483647) (hqb : qb ≤ 2147483647) : sy_R 35 n 0 0 31 [(2, pa, 0), (0, a, 0), (2, pb, 0), (0, b, 0), (0, nn, 0), (0, nn, 0)] [] w 62 [(2, pa, 0), (0, a, 0), (2, pb, 0), (0, b, 0), (0, nn, 0), (255, 0, 0)] [(0, 1, 0)] w := by
  refine sy_ild cd35_31 rfl rfl ?_
  refine sy_ild cd35_33 rfl rfl ?_
  refine sy_ge_t (pc' := 61) cd35_35 (by decide) (Nat.le_refl nn) (by omega) (by decide) ?_
  refine sy_iconst (v := 1) cd35_61 (by decide) ?_
  exact sy_weak (sy_lw_ok (by simp only [sy_lw]; simp))
theorem sbA_l (h1 : mv_get 10 w pa = (1, 1, qa, A)) (h2 : mv_get 10 w pb = (1, 1, qb, B)) (ha : a + nn ≤ qa) (hb : b + nn ≤ qb) (hqa : qa ≤ 2147483647) (hqb : qb ≤ 2147483647) : ∀ d m, m + d = nn → (∀ j, j < m → mv_rd 32 A (a + j) = mv_rd 32 B (b + j)) → sy_E 35 n 0 0 31 [(2, pa, 0), (0, a, 0), (2, pb, 0), (0, b, 0), (0, nn, 0), (0, m, 0)] [] w ([(0, sb_n A a B b nn, 0)], n, w, 0, 0, 0, 0)
  | 0, m, hd, h => by
    have e : m = nn := by omega
    subst e
    rw [sb_yes h]
    exact sy_to (sbA_e h1 h2 ha hb hqa hqb) (sy_Ez cd35_62 mr35 (by decide))
  | d + 1, m, hd, h => by
    by_cases he : mv_rd 32 A (a + m) = mv_rd 32 B (b + m)
    · refine sy_to (sbA_s (by omega) he h1 h2 ha hb hqa hqb) (sbA_l h1 h2 ha hb hqa hqb d (m + 1) (by omega) (fun j hj => ?_))
      rcases Nat.lt_or_ge j m with z | z
      · exact h j z
      · have e : j = m := by omega
        rw [e]
        exact he
    · rw [sb_no (show m < nn by omega) he]
      exact sy_to (sbA_d (by omega) he h1 h2 ha hb hqa hqb) (sy_Ez cd35_54 mr35 (by decide))
theorem sbA_run (hpa : pa < 1024) (hpb : pb < 1024) (h1 : mv_get 10 w pa = (1, 1, qa, A)) (h2 : mv_get 10 w pb = (1, 1, qb, B)) (ha : a + nn ≤ qa) (hb : b + nn ≤ qb) (hqa : qa ≤ 2147483647) (hqb : qb ≤ 2147483647) : sy_C 35 n 0 0 [(2, pa, 0), (0, a, 0), (2, pb, 0), (0, b, 0), (0, nn, 0)] w [(0, sb_n A a B b nn, 0)] w := by
  refine sy_Eof (us := [(255, 0, 0)]) (sy_oks_cons (sy_ok2 hpa) (sy_oks_cons (sy_ok0 (by omega)) (sy_oks_cons (sy_ok2 hpb) (sy_oks_cons (sy_ok0 (by omega)) (sy_oks_cons (sy_ok0 (by omega)) sy_oks_nil))))) rfl rfl ?_
  have e0 : sy_R 35 n 0 0 0 [(2, pa, 0), (0, a, 0), (2, pb, 0), (0, b, 0), (0, nn, 0), (255, 0, 0)] [] w 31 [(2, pa, 0), (0, a, 0), (2, pb, 0), (0, b, 0), (0, nn, 0), (0, 0, 0)] [] w := by
    refine sy_ildn cd35_0 rfl rfl ?_
    refine sy_iflt_f cd35_1 (by decide) (by omega) ?_
    refine sy_ildn cd35_4 rfl rfl ?_
    refine sy_iflt_f cd35_5 (by decide) (by omega) ?_
    refine sy_ildn cd35_8 rfl rfl ?_
    refine sy_aldn cd35_9 rfl rfl ?_
    refine sy_alen cd35_10 h1 rfl ?_
    refine sy_ild cd35_11 rfl rfl ?_
    refine sy_isub cd35_13 ?_
    refine sy_icmpgt_f cd35_14 (by decide) (by unfold mo_sub; omega) (by unfold mo_sub; omega) ?_
    refine sy_ildn cd35_17 rfl rfl ?_
    refine sy_aldn cd35_18 rfl rfl ?_
    refine sy_alen cd35_19 h2 rfl ?_
    refine sy_ild cd35_20 rfl rfl ?_
    refine sy_isub cd35_22 ?_
    refine sy_icmple_t (pc' := 28) cd35_23 (by decide) (by unfold mo_sub; omega) (by unfold mo_sub; omega) (by decide) ?_
    refine sy_iconst (v := 0) cd35_28 (by decide) ?_
    refine sy_ist cd35_29 rfl (sy_ok0 (by decide)) (by rw [mL35]; rfl) rfl ?_
    simp only [List.set_cons_zero, List.set_cons_succ]
    exact sy_refl
  exact sy_to e0 (sbA_l h1 h2 ha hb hqa hqb nn 0 (by omega) (fun j h => absurd h (Nat.not_lt_zero j)))
end SB
section SB
variable {w : mv_T 10} {pa pb qa qb A B a b nn n : Nat}
theorem sbL_s {m : Nat} (hm : m < nn) (he : mv_rd 32 A (a + m) = mv_rd 32 B (b + m)) (h1 : mv_get 10 w pa = (1, 1, qa, A)) (h2 : mv_get 10 w pb = (1, 1, qb, B)) (ha : a + nn ≤ qa) (hb : b + nn ≤ qb) (hqa : qa ≤ 2147483647) (hqb : qb ≤ 2147483647) : sy_R 113 n 0 0 3 [(2, pa, 0), (0, a, 0), (2, pb, 0), (0, b, 0), (0, nn, 0), (0, m, 0)] [] w 3 [(2, pa, 0), (0, a, 0), (2, pb, 0), (0, b, 0), (0, nn, 0), (0, m + 1, 0)] [] w := by
  refine sy_ild cd113_3 rfl rfl ?_
  refine sy_ild cd113_5 rfl rfl ?_
  refine sy_ge_f cd113_7 (by decide) hm (by omega) ?_
  refine sy_aldn cd113_10 rfl rfl ?_
  refine sy_ildn cd113_11 rfl rfl ?_
  refine sy_ild cd113_12 rfl rfl ?_
  refine sy_iadd cd113_14 ?_
  refine sy_bal (i := a + m) cd113_15 h1 (by unfold mo_add; omega) (by omega) hqa ?_
  refine sy_aldn cd113_16 rfl rfl ?_
  refine sy_ildn cd113_17 rfl rfl ?_
  refine sy_ild cd113_18 rfl rfl ?_
  refine sy_iadd cd113_20 ?_
  refine sy_bal (i := b + m) cd113_21 h2 (by unfold mo_add; omega) (by omega) hqb ?_
  refine sy_icmpeq_t (pc' := 27) cd113_22 (by decide) he (by decide) ?_
  refine sy_iinc (c := 1) cd113_27 rfl (by decide) (by rw [mL113]; rfl) rfl ?_
  simp only [List.set_cons_zero, List.set_cons_succ]
  refine sy_goto (pc' := 3) cd113_30 (by decide) (by decide) ?_
  rw [mo_inc (by omega)]
  exact sy_refl
theorem sbL_d {m : Nat} (hm : m < nn) (he : mv_rd 32 A (a + m) ≠ mv_rd 32 B (b + m)) (h1 : mv_get 10 w pa = (1, 1, qa, A)) (h2 : mv_get 10 w pb = (1, 1, qb, B)) (ha : a + nn ≤ qa) (hb : b + nn ≤ qb) (hqa : qa ≤ 2147483647) (hqb : qb ≤ 2147483647) : sy_R 113 n 0 0 3 [(2, pa, 0), (0, a, 0), (2, pb, 0), (0, b, 0), (0, nn, 0), (0, m, 0)] [] w 26 [(2, pa, 0), (0, a, 0), (2, pb, 0), (0, b, 0), (0, nn, 0), (255, 0, 0)] [(0, 0, 0)] w := by
  refine sy_ild cd113_3 rfl rfl ?_
  refine sy_ild cd113_5 rfl rfl ?_
  refine sy_ge_f cd113_7 (by decide) hm (by omega) ?_
  refine sy_aldn cd113_10 rfl rfl ?_
  refine sy_ildn cd113_11 rfl rfl ?_
  refine sy_ild cd113_12 rfl rfl ?_
  refine sy_iadd cd113_14 ?_
  refine sy_bal (i := a + m) cd113_15 h1 (by unfold mo_add; omega) (by omega) hqa ?_
  refine sy_aldn cd113_16 rfl rfl ?_
  refine sy_ildn cd113_17 rfl rfl ?_
  refine sy_ild cd113_18 rfl rfl ?_
  refine sy_iadd cd113_20 ?_
  refine sy_bal (i := b + m) cd113_21 h2 (by unfold mo_add; omega) (by omega) hqb ?_
  refine sy_icmpeq_f cd113_22 (by decide) he (mo_rd_lt _ _) (mo_rd_lt _ _) ?_
  refine sy_iconst (v := 0) cd113_25 (by decide) ?_
  exact sy_weak (sy_lw_ok (by simp only [sy_lw]; simp))
theorem sbL_e (h1 : mv_get 10 w pa = (1, 1, qa, A)) (h2 : mv_get 10 w pb = (1, 1, qb, B)) (ha : a + nn ≤ qa) (hb : b + nn ≤ qb) (hqa : qa ≤ 2147483647) (hqb : qb ≤ 2147483647) : sy_R 113 n 0 0 3 [(2, pa, 0), (0, a, 0), (2, pb, 0), (0, b, 0), (0, nn, 0), (0, nn, 0)] [] w 34 [(2, pa, 0), (0, a, 0), (2, pb, 0), (0, b, 0), (0, nn, 0), (255, 0, 0)] [(0, 1, 0)] w := by
  refine sy_ild cd113_3 rfl rfl ?_
  refine sy_ild cd113_5 rfl rfl ?_
  refine sy_ge_t (pc' := 33) cd113_7 (by decide) (Nat.le_refl nn) (by omega) (by decide) ?_
  refine sy_iconst (v := 1) cd113_33 (by decide) ?_
  exact sy_weak (sy_lw_ok (by simp only [sy_lw]; simp))
theorem sbL_l (h1 : mv_get 10 w pa = (1, 1, qa, A)) (h2 : mv_get 10 w pb = (1, 1, qb, B)) (ha : a + nn ≤ qa) (hb : b + nn ≤ qb) (hqa : qa ≤ 2147483647) (hqb : qb ≤ 2147483647) : ∀ d m, m + d = nn → (∀ j, j < m → mv_rd 32 A (a + j) = mv_rd 32 B (b + j)) → sy_E 113 n 0 0 3 [(2, pa, 0), (0, a, 0), (2, pb, 0), (0, b, 0), (0, nn, 0), (0, m, 0)] [] w ([(0, sb_n A a B b nn, 0)], n, w, 0, 0, 0, 0)
  | 0, m, hd, h => by
    have e : m = nn := by omega
    subst e
    rw [sb_yes h]
    exact sy_to (sbL_e h1 h2 ha hb hqa hqb) (sy_Ez cd113_34 mr113 (by decide))
  | d + 1, m, hd, h => by
    by_cases he : mv_rd 32 A (a + m) = mv_rd 32 B (b + m)
    · refine sy_to (sbL_s (by omega) he h1 h2 ha hb hqa hqb) (sbL_l h1 h2 ha hb hqa hqb d (m + 1) (by omega) (fun j hj => ?_))
      rcases Nat.lt_or_ge j m with z | z
      · exact h j z
      · have e : j = m := by omega
        rw [e]
        exact he
    · rw [sb_no (show m < nn by omega) he]
      exact sy_to (sbL_d (by omega) he h1 h2 ha hb hqa hqb) (sy_Ez cd113_26 mr113 (by decide))
theorem sbL_run (hpa : pa < 1024) (hpb : pb < 1024) (h1 : mv_get 10 w pa = (1, 1, qa, A)) (h2 : mv_get 10 w pb = (1, 1, qb, B)) (ha : a + nn ≤ qa) (hb : b + nn ≤ qb) (hqa : qa ≤ 2147483647) (hqb : qb ≤ 2147483647) : sy_C 113 n 0 0 [(2, pa, 0), (0, a, 0), (2, pb, 0), (0, b, 0), (0, nn, 0)] w [(0, sb_n A a B b nn, 0)] w := by
  refine sy_Eof (us := [(255, 0, 0)]) (sy_oks_cons (sy_ok2 hpa) (sy_oks_cons (sy_ok0 (by omega)) (sy_oks_cons (sy_ok2 hpb) (sy_oks_cons (sy_ok0 (by omega)) (sy_oks_cons (sy_ok0 (by omega)) sy_oks_nil))))) rfl rfl ?_
  have e0 : sy_R 113 n 0 0 0 [(2, pa, 0), (0, a, 0), (2, pb, 0), (0, b, 0), (0, nn, 0), (255, 0, 0)] [] w 3 [(2, pa, 0), (0, a, 0), (2, pb, 0), (0, b, 0), (0, nn, 0), (0, 0, 0)] [] w := by
    refine sy_iconst (v := 0) cd113_0 (by decide) ?_
    refine sy_ist cd113_1 rfl (sy_ok0 (by decide)) (by rw [mL113]; rfl) rfl ?_
    simp only [List.set_cons_zero, List.set_cons_succ]
    exact sy_refl
  exact sy_to e0 (sbL_l h1 h2 ha hb hqa hqb nn 0 (by omega) (fun j h => absurd h (Nat.not_lt_zero j)))
end SB
