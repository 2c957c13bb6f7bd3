/-! FACTS: constants of the pools -/
theorem tt_kk0 : (List.range 1024).all (fun j => tt_okK (mt_get 4 tt_pn0 0) j (mt_get 10 (mt_get 4 tt_ent0 0) j)) = true := by decide +kernel
theorem tt_kk1 : (List.range 1024).all (fun j => tt_okK (mt_get 4 tt_pn0 1) j (mt_get 10 (mt_get 4 tt_ent0 1) j)) = true := by decide +kernel
theorem tt_kk2 : (List.range 1024).all (fun j => tt_okK (mt_get 4 tt_pn0 2) j (mt_get 10 (mt_get 4 tt_ent0 2) j)) = true := by decide +kernel
theorem tt_kk3 : (List.range 1024).all (fun j => tt_okK (mt_get 4 tt_pn0 3) j (mt_get 10 (mt_get 4 tt_ent0 3) j)) = true := by decide +kernel
theorem tt_kk4 : (List.range 1024).all (fun j => tt_okK (mt_get 4 tt_pn0 4) j (mt_get 10 (mt_get 4 tt_ent0 4) j)) = true := by decide +kernel
theorem tt_kk5 : (List.range 1024).all (fun j => tt_okK (mt_get 4 tt_pn0 5) j (mt_get 10 (mt_get 4 tt_ent0 5) j)) = true := by decide +kernel
theorem tt_kk6 : (List.range 1024).all (fun j => tt_okK (mt_get 4 tt_pn0 6) j (mt_get 10 (mt_get 4 tt_ent0 6) j)) = true := by decide +kernel
theorem tt_kk7 : (List.range 1024).all (fun j => tt_okK (mt_get 4 tt_pn0 7) j (mt_get 10 (mt_get 4 tt_ent0 7) j)) = true := by decide +kernel
theorem tt_kk8 : (List.range 1024).all (fun j => tt_okK (mt_get 4 tt_pn0 8) j (mt_get 10 (mt_get 4 tt_ent0 8) j)) = true := by decide +kernel
theorem tt_kk9 : (List.range 1024).all (fun j => tt_okK (mt_get 4 tt_pn0 9) j (mt_get 10 (mt_get 4 tt_ent0 9) j)) = true := by decide +kernel
theorem tt_kk10 : (List.range 1024).all (fun j => tt_okK (mt_get 4 tt_pn0 10) j (mt_get 10 (mt_get 4 tt_ent0 10) j)) = true := by decide +kernel
theorem tt_kk11 : (List.range 1024).all (fun j => tt_okK (mt_get 4 tt_pn0 11) j (mt_get 10 (mt_get 4 tt_ent0 11) j)) = true := by decide +kernel
theorem tt_kk12 : (List.range 1024).all (fun j => tt_okK (mt_get 4 tt_pn0 12) j (mt_get 10 (mt_get 4 tt_ent0 12) j)) = true := by decide +kernel
theorem tt_kk13 : (List.range 1024).all (fun j => tt_okK (mt_get 4 tt_pn0 13) j (mt_get 10 (mt_get 4 tt_ent0 13) j)) = true := by decide +kernel
theorem tt_kk14 : (List.range 1024).all (fun j => tt_okK (mt_get 4 tt_pn0 14) j (mt_get 10 (mt_get 4 tt_ent0 14) j)) = true := by decide +kernel
theorem tt_kk15 : (List.range 1024).all (fun j => tt_okK (mt_get 4 tt_pn0 15) j (mt_get 10 (mt_get 4 tt_ent0 15) j)) = true := by decide +kernel
theorem tt_kk : ∀ c, c < 16 → (List.range 1024).all (fun j => tt_okK (mt_get 4 tt_pn0 c) j (mt_get 10 (mt_get 4 tt_ent0 c) j)) = true := by
  intro c hc
  match c, hc with
  | 0, _ => exact tt_kk0
  | 1, _ => exact tt_kk1
  | 2, _ => exact tt_kk2
  | 3, _ => exact tt_kk3
  | 4, _ => exact tt_kk4
  | 5, _ => exact tt_kk5
  | 6, _ => exact tt_kk6
  | 7, _ => exact tt_kk7
  | 8, _ => exact tt_kk8
  | 9, _ => exact tt_kk9
  | 10, _ => exact tt_kk10
  | 11, _ => exact tt_kk11
  | 12, _ => exact tt_kk12
  | 13, _ => exact tt_kk13
  | 14, _ => exact tt_kk14
  | 15, _ => exact tt_kk15
  | c + 16, h => exact absurd h (by omega)
/-- a fact of all entries of all pools -/
theorem tt_entP {P : String → Nat → Nat × Nat × Nat × Nat → Bool} (h : ∀ c, c < 16 → (List.range 1024).all (fun j => P (mt_get 4 tt_pn0 c) j (mt_get 10 (mt_get 4 tt_ent0 c) j)) = true) (h0 : ∀ own j, P own j (0, 0, 0, 0) = true) (hz : ∀ j, mt_get 10 (mt_get 4 tt_ent0 15) j = (0, 0, 0, 0)) (k j : Nat) : P (tt_my k).cls j (tt_ent k j) = true := by
  unfold tt_ent
  cases hb : Nat.blt j 1024 with
  | false => exact h0 _ _
  | true =>
    simp only [cond_true]
    rcases tt_pn k with e | e
    · rw [Nat.eq_of_beq_eq_true e, hz]; exact h0 _ _
    · rw [e, mt_mod 4 tt_pn0, mt_mod 4 tt_ent0]
      exact List.all_eq_true.mp (h _ (Nat.mod_lt _ (by decide))) j (List.mem_range.mpr (by simpa using hb))
theorem tt_ent15 : ∀ j, mt_get 10 (mt_get 4 tt_ent0 15) j = (0, 0, 0, 0) := by
  intro j
  rw [mt_mod 10]
  exact (show ∀ i, i < 2 ^ 10 → mt_get 10 (mt_get 4 tt_ent0 15) i = (0, 0, 0, 0) by decide +kernel) _ (Nat.mod_lt _ (by decide))
theorem tt_f3 : ∀ k j a, tt_kc k j = (1, a) → Cond.constant (tt_my k).cls j (nI a) ∈ tt_mw := by
  intro k j a h
  have hP := tt_entP (P := tt_okK) tt_kk (fun _ _ => rfl) tt_ent15 k j
  unfold tt_kc at h
  unfold tt_okK at hP
  cases h3 : Nat.beq (tt_ent k j).1 3 with
  | true =>
    rw [h3] at h hP
    simp only [cond_true, Prod.mk.injEq, decide_eq_true_eq] at h hP
    rw [← h.2]; exact hP
  | false =>
    rw [h3] at h
    simp only [cond_false] at h
    cases h4 : Nat.beq (tt_ent k j).1 4 with
    | true => rw [h4] at h; simp at h
    | false => rw [h4] at h; simp at h
theorem tt_f4 : ∀ k j a, tt_kc k j = (2, a) → Cond.constantLong (tt_my k).cls j (lN a) ∈ tt_mw := by
  intro k j a h
  have hP := tt_entP (P := tt_okK) tt_kk (fun _ _ => rfl) tt_ent15 k j
  unfold tt_kc at h
  unfold tt_okK at hP
  cases h3 : Nat.beq (tt_ent k j).1 3 with
  | true => rw [h3] at h; simp at h
  | false =>
    rw [h3] at h hP
    simp only [cond_false] at h hP
    cases h4 : Nat.beq (tt_ent k j).1 4 with
    | true =>
      rw [h4] at h hP
      simp only [cond_true, Prod.mk.injEq, decide_eq_true_eq] at h hP
      rw [← h.2]; exact hP
    | false => rw [h4] at h; simp at h
