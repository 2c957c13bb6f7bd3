/-! THE HASH, of the class and of the reference -/
def hs_S0 : Nat := 41557658498906279274860226408925318911382702236748615442085426012007055353447
theorem hs_S0c (St : Nat) : ∀ i, i < 8 → mv_rd 32 (sh_S0 St) i = mv_rd 32 hs_S0 i := by
  intro i hi
  unfold sh_S0
  rw [mv_cw_rd, if_pos (by omega), show 0 + (i - 0) = i by omega]
  rfl
theorem hs_A (A St : Nat) : ∀ m i, i < m → mv_rd 32 (rs_A A St m) i = mv_rd 32 A i
  | 0, _, h => absurd h (Nat.not_lt_zero _)
  | m + 1, i, h => by
    show mv_rd 32 (mv_wr 32 (rs_A A St m) m (mv_rd 32 A m)) i = _
    rw [mv_rd_wr]
    by_cases e : i = m
    · rw [if_pos e, e, ag_m _ (mo_rd_lt _ _)]
    · rw [if_neg e]
      exact hs_A A St m i (by omega)
/-- once, and twice -/
def hs_1 (f : Nat → Nat) (n : Nat) : Nat := bk_G (bk_B f n) hs_S0 (bk_N n)
def hs_2 (f : Nat → Nat) (n : Nat) : Nat := hs_1 (bk_D (hs_1 f n)) 32
theorem bk_Dc {St St' m : Nat} (h : ∀ i, i < 8 → mv_rd 32 St i = mv_rd 32 St' i) (hm : m < 32) : bk_D St m = bk_D St' m := by
  unfold bk_D
  rw [h (m / 4) (by omega)]
theorem hs_c1 {C fa nn : Nat} {f : Nat → Nat} {s : sh_T} (hf : ∀ j, j < nn → mv_rd 32 C (fa + j) = f j) (hn : nn < 1048576) : ∀ i, i < 8 → mv_rd 32 (sh_e (sh_h C fa nn s)).2.2.2.2 i = mv_rd 32 (hs_1 f nn) i := by
  have h0 : bk_I (bk_B f nn) hs_S0 0 (sh_b s).1 (sh_b s).2.2.1 (sh_b s).2.2.2.2 := ⟨rfl, fun j hj => absurd hj (Nat.not_lt_zero _), fun i hi => hs_S0c _ i hi⟩
  exact bk_she (s := sh_h C fa nn s) hn (show mo_add 0 nn = nn from by unfold mo_add; omega) (bk_sh_n hf h0 nn (Nat.le_refl nn))
theorem hs_ci {C fa nn I : Nat} {f : Nat → Nat} {s : sh_T} (hf : ∀ j, j < nn → mv_rd 32 C (fa + j) = f j) (hn : nn < 1048576) : ∀ j, j < 32 → mv_rd 32 (sh_i (sh_h C fa nn s) I) (0 + j) = bk_D (hs_1 f nn) j := by
  intro j hj
  unfold sh_i
  rw [bk_sho, if_pos (by omega), show 0 + j - 0 = j by omega]
  exact bk_Dc (hs_c1 hf hn) hj
theorem sh_t_eq (s : sh_T) (I : Nat) : sh_t s I = sh_e (sh_h (sh_i s I) 0 32 (sh_e s)) := rfl
theorem hs_2_eq (f : Nat → Nat) (n : Nat) : hs_2 f n = hs_1 (bk_D (hs_1 f n)) 32 := rfl
theorem hs_1_eq (f : Nat → Nat) (n : Nat) : hs_1 f n = bk_G (bk_B f n) hs_S0 (bk_N n) := rfl
theorem rs_h1_eq (K A C fa nn : Nat) (s : rs_T) : rs_h1 K A C fa nn s = rs_e K (rs_n K C fa (rs_b A s) nn) := rfl
theorem rs_h_eq (K A C fa nn Mi : Nat) (s : rs_T) : rs_h K A C fa nn Mi s = rs_h1 K A (rs_hm K A C fa nn Mi s) 0 32 (rs_h1 K A C fa nn s) := rfl
theorem hs_ct {C fa nn I : Nat} {f : Nat → Nat} {s : sh_T} (hf : ∀ j, j < nn → mv_rd 32 C (fa + j) = f j) (hn : nn < 1048576) : ∀ i, i < 8 → mv_rd 32 (sh_t (sh_h C fa nn s) I).2.2.2.2 i = mv_rd 32 (hs_2 f nn) i := by
  intro i hi
  rw [sh_t_eq, hs_2_eq]
  exact hs_c1 (hs_ci hf hn) (by decide) i hi
/-- what hashOf leaves -/
theorem hs_cls {C fa nn I T a : Nat} {f : Nat → Nat} {s : sh_T} (hf : ∀ j, j < nn → mv_rd 32 C (fa + j) = f j) (hn : nn < 1048576) (j : Nat) : mv_rd 32 (sh_o T a (sh_t (sh_h C fa nn s) I).2.2.2.2 8) j = if a ≤ j ∧ j < a + 32 then bk_D (hs_2 f nn) (j - a) else mv_rd 32 T j := by
  rw [bk_sho]
  by_cases h : a ≤ j ∧ j < a + 4 * 8
  · rw [if_pos h, if_pos (by omega), bk_Dc (hs_ct hf hn) (by omega)]
  · rw [if_neg h, if_neg (by omega)]
/-- the reference -/
theorem rs_1_len {K b : Nat} {s : rs_T} : (rs_1 K b s).2.1 = mo_ladd s.2.1 1 := by
  unfold rs_1
  cases Nat.beq (s.1 + 1) 64 <;> rfl
theorem rs_n_len {K C a : Nat} {s : rs_T} : ∀ m, s.2.1 + m < 18446744073709551616 → (rs_n K C a s m).2.1 = s.2.1 + m
  | 0, _ => rfl
  | m + 1, h => by
    show (rs_1 K (mv_rd 32 C (a + m)) (rs_n K C a s m)).2.1 = _
    rw [rs_1_len, rs_n_len m (by omega)]
    unfold mo_ladd
    omega
theorem hs_r1 {A C fa nn : Nat} {f : Nat → Nat} {s : rs_T} (hA : ∀ i, i < 8 → mv_rd 32 A i = mv_rd 32 hs_S0 i) (hf : ∀ j, j < nn → mv_rd 32 C (fa + j) = f j) (hn : nn < 1048576) : ∀ i, i < 8 → mv_rd 32 (rs_h1 mc_K A C fa nn s).2.2.2.2.2 i = mv_rd 32 (hs_1 f nn) i := by
  have h0 : bk_I (bk_B f nn) hs_S0 0 (rs_b A s).1 (rs_b A s).2.2.1 (rs_b A s).2.2.2.2.2 := ⟨rfl, fun j hj => absurd hj (Nat.not_lt_zero _), fun i hi => (hs_A A _ 8 i hi).trans (hA i hi)⟩
  have hl : (rs_n mc_K C fa (rs_b A s) nn).2.1 = nn := by
    rw [rs_n_len nn (by show 0 + nn < 18446744073709551616; omega)]
    show 0 + nn = nn
    omega
  intro i hi
  rw [rs_h1_eq, hs_1_eq]
  exact bk_rse hn hl (rs_n_ok rs_b_u nn) (bk_rs_n hf h0 nn (Nat.le_refl nn)) i hi
theorem hs_rm {A C fa nn Mi : Nat} {f : Nat → Nat} {s : rs_T} (hA : ∀ i, i < 8 → mv_rd 32 A i = mv_rd 32 hs_S0 i) (hf : ∀ j, j < nn → mv_rd 32 C (fa + j) = f j) (hn : nn < 1048576) : ∀ j, j < 32 → mv_rd 32 (rs_hm mc_K A C fa nn Mi s) (0 + j) = bk_D (hs_1 f nn) j := by
  intro j hj
  unfold rs_hm
  rw [bk_rso, if_pos (by omega), show 0 + j - 0 = j by omega]
  exact bk_Dc (hs_r1 hA hf hn) hj
theorem hs_rt {A C fa nn Mi : Nat} {f : Nat → Nat} {s : rs_T} (hA : ∀ i, i < 8 → mv_rd 32 A i = mv_rd 32 hs_S0 i) (hf : ∀ j, j < nn → mv_rd 32 C (fa + j) = f j) (hn : nn < 1048576) : ∀ i, i < 8 → mv_rd 32 (rs_h mc_K A C fa nn Mi s).2.2.2.2.2 i = mv_rd 32 (hs_2 f nn) i := by
  intro i hi
  rw [rs_h_eq, hs_2_eq]
  exact hs_r1 hA (hs_rm hA hf hn) (by decide) i hi
/-- what hashRow leaves -/
theorem hs_ref {A C fa nn Mi T a : Nat} {f : Nat → Nat} {s : rs_T} (hA : ∀ i, i < 8 → mv_rd 32 A i = mv_rd 32 hs_S0 i) (hf : ∀ j, j < nn → mv_rd 32 C (fa + j) = f j) (hn : nn < 1048576) (j : Nat) : mv_rd 32 (rs_o T a (rs_h mc_K A C fa nn Mi s).2.2.2.2.2 32) j = if a ≤ j ∧ j < a + 32 then bk_D (hs_2 f nn) (j - a) else mv_rd 32 T j := by
  rw [bk_rso]
  by_cases h : a ≤ j ∧ j < a + 32
  · rw [if_pos h, if_pos h, bk_Dc (hs_rt hA hf hn) (by omega)]
  · rw [if_neg h, if_neg h]
