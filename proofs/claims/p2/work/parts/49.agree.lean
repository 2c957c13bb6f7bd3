/-! BOTH PIECES ARE ONE FUNCTION -/
theorem mo_ch {e f g : Nat} (hg : g < 4294967296) : mo_xor g (mo_and e (mo_xor f g)) = mo_xor (mo_and e f) (mo_and (mo_xor e 4294967295) g) := by
  unfold mo_xor mo_and
  apply Nat.eq_of_testBit_eq
  intro i
  simp only [Nat.testBit_xor, Nat.testBit_and]
  rw [show (4294967295 : Nat) = 2 ^ 32 - 1 from rfl, Nat.testBit_two_pow_sub_one]
  by_cases hi : i < 32
  · simp only [hi, decide_true]
    cases e.testBit i <;> cases f.testBit i <;> cases g.testBit i <;> rfl
  · have hz : g.testBit i = false := Nat.testBit_lt_two_pow (Nat.lt_of_lt_of_le hg (Nat.pow_le_pow_right (n := 2) (by decide) (show 32 ≤ i by omega)))
    rw [hz]
    cases e.testBit i <;> cases f.testBit i <;> simp
theorem mo_mj (a b c : Nat) : mo_or (mo_and a b) (mo_and c (mo_or a b)) = mo_xor (mo_xor (mo_and a b) (mo_and a c)) (mo_and b c) := by
  unfold mo_xor mo_and mo_or
  apply Nat.eq_of_testBit_eq
  intro i
  simp only [Nat.testBit_xor, Nat.testBit_and, Nat.testBit_or]
  cases a.testBit i <;> cases b.testBit i <;> cases c.testBit i <;> rfl
theorem mo_b8 (a : Nat) : mo_shl a 24 = mo_shl (mo_and a 255) 24 := by
  have e : a &&& 255 = a % 256 := Nat.and_two_pow_sub_one_eq_mod a 8
  unfold mo_shl mo_and
  rw [e]
  show a * 16777216 % 4294967296 = a % 256 * 16777216 % 4294967296
  omega
theorem mo_a3 (a b c d : Nat) : mo_add (mo_add (mo_add a b) c) d = mo_add (mo_add (mo_add a c) b) d := by
  unfold mo_add
  omega
theorem ag_b (P i : Nat) : mc_b P i = mr_b P i := by
  unfold mc_b mr_b
  rw [mo_b8 (mv_rd 32 P (4 * i))]
theorem ag_x (a : Nat) : mc_x a = mr_x a := rfl
theorem ag_y (a : Nat) : mc_y a = mr_y a := rfl
theorem ag_c {W W' i : Nat} (h : ∀ j, j < i → mv_rd 32 W j = mv_rd 32 W' j) (hi : 16 ≤ i) : mc_c W i = mr_c W' i := by
  unfold mc_c mr_c
  rw [h (i - 16) (by omega), h (i - 7) (by omega), h (i - 15) (by omega), h (i - 2) (by omega), ag_x, ag_y, mo_a3]
theorem ag_W1 {P W W' : Nat} : ∀ m, ∀ j, j < m → mv_rd 32 (mc_W1 P W m) j = mv_rd 32 (mr_W1 P W' m) j
  | 0, _, h => absurd h (Nat.not_lt_zero _)
  | m + 1, j, h => by
    show mv_rd 32 (mv_wr 32 (mc_W1 P W m) m (mc_b P m)) j = mv_rd 32 (mv_wr 32 (mr_W1 P W' m) m (mr_b P m)) j
    rw [mv_rd_wr, mv_rd_wr, ag_b]
    by_cases e : j = m
    · rw [if_pos e, if_pos e]
    · rw [if_neg e, if_neg e]
      exact ag_W1 m j (by omega)
theorem ag_W2 {W W' : Nat} (h : ∀ j, j < 16 → mv_rd 32 W j = mv_rd 32 W' j) : ∀ m, ∀ j, j < 16 + m → mv_rd 32 (mc_W2 W m) j = mv_rd 32 (mr_W2 W' m) j
  | 0, j, hj => h j hj
  | m + 1, j, hj => by
    show mv_rd 32 (mv_wr 32 (mc_W2 W m) (16 + m) (mc_c (mc_W2 W m) (16 + m))) j = mv_rd 32 (mv_wr 32 (mr_W2 W' m) (16 + m) (mr_c (mr_W2 W' m) (16 + m))) j
    rw [mv_rd_wr, mv_rd_wr, ag_c (ag_W2 h m) (by omega)]
    by_cases e : j = 16 + m
    · rw [if_pos e, if_pos e]
    · rw [if_neg e, if_neg e]
      exact ag_W2 h m j (by omega)
theorem ag_Wf {P W W' : Nat} : ∀ j, j < 64 → mv_rd 32 (mc_Wf P W) j = mv_rd 32 (mr_Wf P W') j := fun j hj => ag_W2 (fun i hi => ag_W1 16 i hi) 48 j hj
def ag_v (V : Nat) : mc_V := (mv_rd 32 V 0, mv_rd 32 V 1, mv_rd 32 V 2, mv_rd 32 V 3, mv_rd 32 V 4, mv_rd 32 V 5, mv_rd 32 V 6, mv_rd 32 V 7)
theorem ag_m (v : Nat) (h : v < 4294967296) : v % 2 ^ 32 = v := Nat.mod_eq_of_lt h
theorem ag_sh (V : Nat) : mv_rd 32 (mr_sh V 7) 1 = mv_rd 32 V 0 ∧ mv_rd 32 (mr_sh V 7) 2 = mv_rd 32 V 1 ∧ mv_rd 32 (mr_sh V 7) 3 = mv_rd 32 V 2 ∧ mv_rd 32 (mr_sh V 7) 4 = mv_rd 32 V 3 ∧ mv_rd 32 (mr_sh V 7) 5 = mv_rd 32 V 4 ∧ mv_rd 32 (mr_sh V 7) 6 = mv_rd 32 V 5 ∧ mv_rd 32 (mr_sh V 7) 7 = mv_rd 32 V 6 := by
  simp only [mr_sh, mv_rd_wr]
  simp [ag_m, mo_rd_lt]
theorem ag_f {W W' i V : Nat} (h : mv_rd 32 W i = mv_rd 32 W' i) : mc_f W i (ag_v V) = ag_v (mr_f mc_K W' i V) := by
  obtain ⟨s1, s2, s3, s4, s5, s6, s7⟩ := ag_sh V
  have e1 : mc_t (mv_rd 32 V 4) (mv_rd 32 V 5) (mv_rd 32 V 6) (mv_rd 32 V 7) (mv_rd 32 mc_K i) (mv_rd 32 W i) = mr_one V (mv_rd 32 mc_K i) (mv_rd 32 W' i) := by
    unfold mc_t mr_one
    rw [h, mo_ch (mo_rd_lt V 6)]
    rfl
  have e2 : mc_u (mv_rd 32 V 0) (mv_rd 32 V 1) (mv_rd 32 V 2) = mr_two V := by
    unfold mc_u mr_two
    rw [mo_mj]
    rfl
  show (mo_add (mc_t (mv_rd 32 V 4) (mv_rd 32 V 5) (mv_rd 32 V 6) (mv_rd 32 V 7) (mv_rd 32 mc_K i) (mv_rd 32 W i)) (mc_u (mv_rd 32 V 0) (mv_rd 32 V 1) (mv_rd 32 V 2)), mv_rd 32 V 0, mv_rd 32 V 1, mv_rd 32 V 2, mo_add (mv_rd 32 V 3) (mc_t (mv_rd 32 V 4) (mv_rd 32 V 5) (mv_rd 32 V 6) (mv_rd 32 V 7) (mv_rd 32 mc_K i) (mv_rd 32 W i)), mv_rd 32 V 4, mv_rd 32 V 5, mv_rd 32 V 6) = ag_v (mr_f mc_K W' i V)
  rw [e1, e2]
  unfold ag_v mr_f
  generalize mr_one V (mv_rd 32 mc_K i) (mv_rd 32 W' i) = o1
  generalize mr_two V = o2
  refine Prod.ext ?_ (Prod.ext ?_ (Prod.ext ?_ (Prod.ext ?_ (Prod.ext ?_ (Prod.ext ?_ (Prod.ext ?_ ?_)))))) <;> dsimp only
  · rw [mv_rd_self, ag_m _ (mo_add_lt _ _)]
  · rw [mv_rd_ne (by decide), mv_rd_ne (by decide), s1]
  · rw [mv_rd_ne (by decide), mv_rd_ne (by decide), s2]
  · rw [mv_rd_ne (by decide), mv_rd_ne (by decide), s3]
  · rw [mv_rd_ne (by decide), mv_rd_self, ag_m _ (mo_add_lt _ _), s4]
  · rw [mv_rd_ne (by decide), mv_rd_ne (by decide), s5]
  · rw [mv_rd_ne (by decide), mv_rd_ne (by decide), s6]
  · rw [mv_rd_ne (by decide), mv_rd_ne (by decide), s7]
theorem ag_R {W W' V : Nat} (h : ∀ j, j < 64 → mv_rd 32 W j = mv_rd 32 W' j) : ∀ m, m ≤ 64 → mc_R W (ag_v V) m = ag_v (mr_R mc_K W' V m)
  | 0, _ => rfl
  | m + 1, hm => by
    show mc_f W m (mc_R W (ag_v V) m) = ag_v (mr_f mc_K W' m (mr_R mc_K W' V m))
    rw [ag_R h m (by omega), ag_f (h m (by omega))]
theorem ag_V1 (St V : Nat) : ag_v (mr_V1 St V 8) = mc_v0 St := by
  unfold ag_v mc_v0
  simp only [mr_V1, mv_rd_wr]
  simp [ag_m, mo_rd_lt]
/-- what the piece does to the state -/
theorem ag_S (P W W' V St : Nat) : mc_Sf P W St = mr_Sf mc_K P W' V St := by
  unfold mc_Sf mr_Sf mr_Vf
  rw [← ag_V1 St V, ag_R ag_Wf 64 (Nat.le_refl 64)]
  rfl
