/-! FACTS: fields and new objects -/
noncomputable def tt_okF (own : String) (j : Nat) (e : Nat × Nat × Nat × Nat) : Bool := bif Nat.beq e.1 1 then (Nat.blt e.2.2.1 12 && Nat.blt e.2.2.2 (tt_nf e.2.2.1)) && ((Nat.beq e.2.1 1 && (decide (Cond.fieldLink own j (tt_fd e.2.2.1 e.2.2.2).1 (tt_fd e.2.2.1 e.2.2.2).2.1 (tt_fd e.2.2.1 e.2.2.2).2.2.1 ∈ tt_mw) && (!(tt_fd e.2.2.1 e.2.2.2).2.2.2 || decide ((tt_fd e.2.2.1 e.2.2.2).1 = own)))) || (Nat.beq e.2.1 2 && decide (Cond.fieldLinkNest own j (tt_fd e.2.2.1 e.2.2.2).1 (tt_fd e.2.2.1 e.2.2.2).2.1 (tt_fd e.2.2.1 e.2.2.2).2.2.1 "PurseHouse" ∈ tt_nst))) else bif Nat.beq e.1 5 && Nat.blt 0 e.2.1 then (Nat.blt (e.2.1 - 1) 12 && Nat.beq e.2.2.1 (tt_nf (e.2.1 - 1))) && (match tt_cn[e.2.1 - 1]? with
  | some C => decide (Cond.classLink own j C ∈ tt_mw)
  | none => false) else bif Nat.beq e.1 5 && Nat.beq e.2.2.1 101 then decide (Cond.classLink own j "[[B" ∈ tt_mw) else bif Nat.beq e.1 5 && Nat.beq e.2.2.1 102 then decide (Cond.classLink own j "[[J" ∈ tt_mw) else true
theorem tt_ff0 : (List.range 1024).all (fun j => tt_okF (mt_get 4 tt_pn0 0) j (mt_get 10 (mt_get 4 tt_ent0 0) j)) = true := by decide +kernel
theorem tt_ff1 : (List.range 1024).all (fun j => tt_okF (mt_get 4 tt_pn0 1) j (mt_get 10 (mt_get 4 tt_ent0 1) j)) = true := by decide +kernel
theorem tt_ff2 : (List.range 1024).all (fun j => tt_okF (mt_get 4 tt_pn0 2) j (mt_get 10 (mt_get 4 tt_ent0 2) j)) = true := by decide +kernel
theorem tt_ff3 : (List.range 1024).all (fun j => tt_okF (mt_get 4 tt_pn0 3) j (mt_get 10 (mt_get 4 tt_ent0 3) j)) = true := by decide +kernel
theorem tt_ff4 : (List.range 1024).all (fun j => tt_okF (mt_get 4 tt_pn0 4) j (mt_get 10 (mt_get 4 tt_ent0 4) j)) = true := by decide +kernel
theorem tt_ff5 : (List.range 1024).all (fun j => tt_okF (mt_get 4 tt_pn0 5) j (mt_get 10 (mt_get 4 tt_ent0 5) j)) = true := by decide +kernel
theorem tt_ff6 : (List.range 1024).all (fun j => tt_okF (mt_get 4 tt_pn0 6) j (mt_get 10 (mt_get 4 tt_ent0 6) j)) = true := by decide +kernel
theorem tt_ff7 : (List.range 1024).all (fun j => tt_okF (mt_get 4 tt_pn0 7) j (mt_get 10 (mt_get 4 tt_ent0 7) j)) = true := by decide +kernel
theorem tt_ff8 : (List.range 1024).all (fun j => tt_okF (mt_get 4 tt_pn0 8) j (mt_get 10 (mt_get 4 tt_ent0 8) j)) = true := by decide +kernel
theorem tt_ff9 : (List.range 1024).all (fun j => tt_okF (mt_get 4 tt_pn0 9) j (mt_get 10 (mt_get 4 tt_ent0 9) j)) = true := by decide +kernel
theorem tt_ff10 : (List.range 1024).all (fun j => tt_okF (mt_get 4 tt_pn0 10) j (mt_get 10 (mt_get 4 tt_ent0 10) j)) = true := by decide +kernel
theorem tt_ff11 : (List.range 1024).all (fun j => tt_okF (mt_get 4 tt_pn0 11) j (mt_get 10 (mt_get 4 tt_ent0 11) j)) = true := by decide +kernel
theorem tt_ff12 : (List.range 1024).all (fun j => tt_okF (mt_get 4 tt_pn0 12) j (mt_get 10 (mt_get 4 tt_ent0 12) j)) = true := by decide +kernel
theorem tt_ff13 : (List.range 1024).all (fun j => tt_okF (mt_get 4 tt_pn0 13) j (mt_get 10 (mt_get 4 tt_ent0 13) j)) = true := by decide +kernel
theorem tt_ff14 : (List.range 1024).all (fun j => tt_okF (mt_get 4 tt_pn0 14) j (mt_get 10 (mt_get 4 tt_ent0 14) j)) = true := by decide +kernel
theorem tt_ff15 : (List.range 1024).all (fun j => tt_okF (mt_get 4 tt_pn0 15) j (mt_get 10 (mt_get 4 tt_ent0 15) j)) = true := by decide +kernel
theorem tt_ff : ∀ c, c < 16 → (List.range 1024).all (fun j => tt_okF (mt_get 4 tt_pn0 c) j (mt_get 10 (mt_get 4 tt_ent0 c) j)) = true := by
  intro c hc
  match c, hc with
  | 0, _ => exact tt_ff0
  | 1, _ => exact tt_ff1
  | 2, _ => exact tt_ff2
  | 3, _ => exact tt_ff3
  | 4, _ => exact tt_ff4
  | 5, _ => exact tt_ff5
  | 6, _ => exact tt_ff6
  | 7, _ => exact tt_ff7
  | 8, _ => exact tt_ff8
  | 9, _ => exact tt_ff9
  | 10, _ => exact tt_ff10
  | 11, _ => exact tt_ff11
  | 12, _ => exact tt_ff12
  | 13, _ => exact tt_ff13
  | 14, _ => exact tt_ff14
  | 15, _ => exact tt_ff15
  | c + 16, h => exact absurd h (by omega)
theorem tt_f5 : ∀ k j, 1 ≤ (tt_fl k j).1 → mv_FL tt_cl tt_mw tt_nst (tt_my k).cls tt_fty tt_ffin (tt_fl k j) j := by
  intro k j h
  have hP := tt_entP (P := tt_okF) tt_ff (fun _ _ => rfl) tt_ent15 k j
  unfold tt_fl at h ⊢
  unfold tt_okF at hP
  cases h1 : Nat.beq (tt_ent k j).1 1 with
  | false => rw [h1] at h; exact absurd h (Nat.not_succ_le_zero _)
  | true =>
    rw [h1] at hP
    simp only [cond_true, Bool.and_eq_true, Bool.or_eq_true, decide_eq_true_eq, Nat.blt_eq, Nat.beq_eq] at hP ⊢
    obtain ⟨⟨a1, a2⟩, a3⟩ := hP
    obtain ⟨C, T, c1, c2, c3, c4, c5, c6, c7, c8, c9⟩ := tt_cw _ a1
    refine ⟨C, T, _, c1, a2, c4, c5, c6, ?_, ?_⟩
    · rw [c3]; rfl
    · rw [c3]
      rcases a3 with ⟨b1, b2, b3⟩ | ⟨b1, b2⟩
      · refine Or.inl ⟨b1, b2, fun z => ?_⟩
        rcases b3 with b3 | b3
        · have z' : (tt_fd (tt_ent k j).2.2.1 (tt_ent k j).2.2.2).2.2.2 = true := z
          rw [z'] at b3; cases b3
        · exact b3
      · exact Or.inr ⟨b1, _, b2⟩
theorem tt_f6 : ∀ k j, 0 < (tt_nl k j).1 → mv_NL tt_cl tt_mw (tt_my k).cls tt_fty tt_dpk (tt_nl k j) j := by
  intro k j h
  have hP := tt_entP (P := tt_okF) tt_ff (fun _ _ => rfl) tt_ent15 k j
  unfold tt_nl at h ⊢
  unfold tt_okF at hP
  cases h5 : Nat.beq (tt_ent k j).1 5 with
  | false => rw [h5] at h; exact absurd h (Nat.not_lt_zero _)
  | true =>
    rw [h5] at h
    simp only [cond_true] at h ⊢
    have h1 : Nat.beq (tt_ent k j).1 1 = false := by rw [Nat.eq_of_beq_eq_true h5]; rfl
    have h9 : Nat.blt 0 (tt_ent k j).2.1 = true := by simpa using h
    rw [h1, h5, h9] at hP
    simp only [cond_false, Bool.and_self, cond_true, Bool.and_eq_true, Nat.blt_eq, Nat.beq_eq] at hP
    obtain ⟨⟨a1, a2⟩, a3⟩ := hP
    obtain ⟨C, T, c1, c2, c3, c4, c5, c6, c7, c8, c9⟩ := tt_cw _ a1
    rw [c2] at a3
    simp only [decide_eq_true_eq] at a3
    refine ⟨C, T, ?_⟩
    show tt_cl[(tt_ent k j).2.1 - 1]? = some (C, T, (tt_ent k j).2.2.1) ∧ _
    rw [a2]
    exact ⟨c1, c4, c5, a3, c7, c8, c9⟩
theorem tt_f17 : ∀ k j, (tt_nl k j).1 = 0 → ((tt_nl k j).2 = 101 → Cond.classLink (tt_my k).cls j "[[B" ∈ tt_mw) ∧ ((tt_nl k j).2 = 102 → Cond.classLink (tt_my k).cls j "[[J" ∈ tt_mw) := by
  intro k j h
  have hP := tt_entP (P := tt_okF) tt_ff (fun _ _ => rfl) tt_ent15 k j
  unfold tt_nl at h ⊢
  unfold tt_okF at hP
  cases h5 : Nat.beq (tt_ent k j).1 5 with
  | false => exact ⟨fun z => by simp at z, fun z => by simp at z⟩
  | true =>
    rw [h5] at h
    simp only [cond_true] at h ⊢
    have h1 : Nat.beq (tt_ent k j).1 1 = false := by rw [Nat.eq_of_beq_eq_true h5]; rfl
    have h9 : Nat.blt 0 (tt_ent k j).2.1 = false := by rw [h]; rfl
    rw [h1, h5, h9] at hP
    simp only [cond_false, Bool.and_false, Bool.true_and] at hP
    refine ⟨fun z => ?_, fun z => ?_⟩
    · rw [z] at hP
      exact of_decide_eq_true hP
    · rw [z] at hP
      exact of_decide_eq_true hP
