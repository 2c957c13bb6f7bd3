/-! FACTS: static tables, arrays of objects -/
noncomputable def tt_zt : List (FieldType × Nat × (Nat → Value)) := [(.byte, (tt_stt 0).2.1, fun i => .int (nI (mv_rd 32 (tt_stt 0).2.2 i))), (.int, (tt_stt 1).2.1, fun i => .int (nI (mv_rd 32 (tt_stt 1).2.2 i))), (.int, (tt_stt 2).2.1, fun i => .int (nI (mv_rd 32 (tt_stt 2).2.2 i)))]
theorem tt_f16 : ∀ j, tt_tl[(tt_stt j).1]? = none ∨ ∃ ty, tt_tl[(tt_stt j).1]? = some ty ∧ tt_zt[j]? = some (ty, (tt_stt j).2.1, fun i => .int (nI (mv_rd 32 (tt_stt j).2.2 i)))
  | 0 => Or.inr ⟨.byte, by decide +kernel, rfl⟩
  | 1 => Or.inr ⟨.int, by decide +kernel, rfl⟩
  | 2 => Or.inr ⟨.int, by decide +kernel, rfl⟩
  | 3 => Or.inl (by decide +kernel)
  | 4 => Or.inl (by decide +kernel)
  | 5 => Or.inl (by decide +kernel)
  | 6 => Or.inl (by decide +kernel)
  | 7 => Or.inl (by decide +kernel)
  | j + 8 => Or.inl (by
    have e : tt_stt (j + 8) = (99, 0, 0) := by
      unfold tt_stt
      have hb : Nat.blt (j + 8) 8 = false := by
        cases h : Nat.blt (j + 8) 8 with
        | false => rfl
        | true => exact absurd (show j + 8 < 8 by simpa using h) (by omega)
      rw [hb]; rfl
    rw [e]
    decide +kernel)
noncomputable def tt_okS (own : String) (j : Nat) (e : Nat × Nat × Nat × Nat) : Bool := bif Nat.beq e.1 7 then (match tt_zs[e.2.1 - 1]? with
  | some q => decide (Cond.fieldLink own j q.1 q.2.1 q.2.2 ∈ tt_mw) || decide (Cond.fieldLinkNest own j q.1 q.2.1 q.2.2 "PurseHouse" ∈ tt_nst)
  | none => false) else bif Nat.beq e.1 5 && Nat.blt 0 e.2.2.2 then (match tt_tl[e.2.2.2 - 1]? with
  | some (.object C) => decide (Cond.classLink own j C ∈ tt_mw) && decide (C ∈ tt_aos)
  | _ => false) else true
theorem tt_ss0 : (List.range 1024).all (fun j => tt_okS (mt_get 4 tt_pn0 0) j (mt_get 10 (mt_get 4 tt_ent0 0) j)) = true := by decide +kernel
theorem tt_ss1 : (List.range 1024).all (fun j => tt_okS (mt_get 4 tt_pn0 1) j (mt_get 10 (mt_get 4 tt_ent0 1) j)) = true := by decide +kernel
theorem tt_ss2 : (List.range 1024).all (fun j => tt_okS (mt_get 4 tt_pn0 2) j (mt_get 10 (mt_get 4 tt_ent0 2) j)) = true := by decide +kernel
theorem tt_ss3 : (List.range 1024).all (fun j => tt_okS (mt_get 4 tt_pn0 3) j (mt_get 10 (mt_get 4 tt_ent0 3) j)) = true := by decide +kernel
theorem tt_ss4 : (List.range 1024).all (fun j => tt_okS (mt_get 4 tt_pn0 4) j (mt_get 10 (mt_get 4 tt_ent0 4) j)) = true := by decide +kernel
theorem tt_ss5 : (List.range 1024).all (fun j => tt_okS (mt_get 4 tt_pn0 5) j (mt_get 10 (mt_get 4 tt_ent0 5) j)) = true := by decide +kernel
theorem tt_ss6 : (List.range 1024).all (fun j => tt_okS (mt_get 4 tt_pn0 6) j (mt_get 10 (mt_get 4 tt_ent0 6) j)) = true := by decide +kernel
theorem tt_ss7 : (List.range 1024).all (fun j => tt_okS (mt_get 4 tt_pn0 7) j (mt_get 10 (mt_get 4 tt_ent0 7) j)) = true := by decide +kernel
theorem tt_ss8 : (List.range 1024).all (fun j => tt_okS (mt_get 4 tt_pn0 8) j (mt_get 10 (mt_get 4 tt_ent0 8) j)) = true := by decide +kernel
theorem tt_ss9 : (List.range 1024).all (fun j => tt_okS (mt_get 4 tt_pn0 9) j (mt_get 10 (mt_get 4 tt_ent0 9) j)) = true := by decide +kernel
theorem tt_ss10 : (List.range 1024).all (fun j => tt_okS (mt_get 4 tt_pn0 10) j (mt_get 10 (mt_get 4 tt_ent0 10) j)) = true := by decide +kernel
theorem tt_ss11 : (List.range 1024).all (fun j => tt_okS (mt_get 4 tt_pn0 11) j (mt_get 10 (mt_get 4 tt_ent0 11) j)) = true := by decide +kernel
theorem tt_ss12 : (List.range 1024).all (fun j => tt_okS (mt_get 4 tt_pn0 12) j (mt_get 10 (mt_get 4 tt_ent0 12) j)) = true := by decide +kernel
theorem tt_ss13 : (List.range 1024).all (fun j => tt_okS (mt_get 4 tt_pn0 13) j (mt_get 10 (mt_get 4 tt_ent0 13) j)) = true := by decide +kernel
theorem tt_ss14 : (List.range 1024).all (fun j => tt_okS (mt_get 4 tt_pn0 14) j (mt_get 10 (mt_get 4 tt_ent0 14) j)) = true := by decide +kernel
theorem tt_ss15 : (List.range 1024).all (fun j => tt_okS (mt_get 4 tt_pn0 15) j (mt_get 10 (mt_get 4 tt_ent0 15) j)) = true := by decide +kernel
theorem tt_ss : ∀ c, c < 16 → (List.range 1024).all (fun j => tt_okS (mt_get 4 tt_pn0 c) j (mt_get 10 (mt_get 4 tt_ent0 c) j)) = true := by
  intro c hc
  match c, hc with
  | 0, _ => exact tt_ss0
  | 1, _ => exact tt_ss1
  | 2, _ => exact tt_ss2
  | 3, _ => exact tt_ss3
  | 4, _ => exact tt_ss4
  | 5, _ => exact tt_ss5
  | 6, _ => exact tt_ss6
  | 7, _ => exact tt_ss7
  | 8, _ => exact tt_ss8
  | 9, _ => exact tt_ss9
  | 10, _ => exact tt_ss10
  | 11, _ => exact tt_ss11
  | 12, _ => exact tt_ss12
  | 13, _ => exact tt_ss13
  | 14, _ => exact tt_ss14
  | 15, _ => exact tt_ss15
  | c + 16, h => exact absurd h (by omega)
theorem tt_f8 : ∀ k j, 0 < tt_sl k j → ∃ q, tt_zs[tt_sl k j - 1]? = some q ∧ (Cond.fieldLink (tt_my k).cls j q.1 q.2.1 q.2.2 ∈ tt_mw ∨ ∃ host, Cond.fieldLinkNest (tt_my k).cls j q.1 q.2.1 q.2.2 host ∈ tt_nst) := by
  intro k j h
  have hP := tt_entP (P := tt_okS) tt_ss (fun _ _ => rfl) tt_ent15 k j
  unfold tt_sl at h ⊢
  unfold tt_okS at hP
  cases h7 : Nat.beq (tt_ent k j).1 7 with
  | false => rw [h7] at h; exact absurd h (Nat.not_lt_zero _)
  | true =>
    rw [h7] at hP
    simp only [cond_true] at hP ⊢
    split at hP
    · rename_i q hq
      simp only [Bool.or_eq_true, decide_eq_true_eq] at hP
      refine ⟨q, hq, ?_⟩
      rcases hP with hP | hP
      · exact Or.inl hP
      · exact Or.inr ⟨_, hP⟩
    · cases hP
theorem tt_f7 : ∀ k j, 0 < tt_al k j → ∃ C, tt_tl[tt_al k j - 1]? = some (.object C) ∧ Cond.classLink (tt_my k).cls j C ∈ tt_mw ∧ C ∈ tt_aos := by
  intro k j h
  have hP := tt_entP (P := tt_okS) tt_ss (fun _ _ => rfl) tt_ent15 k j
  unfold tt_al at h ⊢
  unfold tt_okS at hP
  cases h5 : Nat.beq (tt_ent k j).1 5 with
  | false => rw [h5] at h; exact absurd h (Nat.not_lt_zero _)
  | true =>
    rw [h5] at h hP
    simp only [cond_true] at h ⊢
    have h7 : Nat.beq (tt_ent k j).1 7 = false := by rw [Nat.eq_of_beq_eq_true h5]; rfl
    have h9 : Nat.blt 0 (tt_ent k j).2.2.2 = true := by simpa using h
    rw [h7, h9] at hP
    simp only [cond_false, Bool.and_self, cond_true] at hP
    split at hP
    · rename_i C hC
      simp only [Bool.and_eq_true, decide_eq_true_eq] at hP
      exact ⟨C, hC, hP.1, hP.2⟩
    · cases hP
