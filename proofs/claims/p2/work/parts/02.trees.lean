/-! TABLES, I: trees of anything -/
def mt_T (α : Type) : Nat → Type
  | 0 => α
  | d + 1 => mt_T α d × mt_T α d
def mt_l {α : Type} (x : α) : mt_T α 0 := x
def mt_n {α : Type} {d : Nat} (a b : mt_T α d) : mt_T α (d + 1) := (a, b)
def mt_z {α : Type} (x : α) : (d : Nat) → mt_T α d
  | 0 => x
  | d + 1 => (mt_z x d, mt_z x d)
noncomputable def mt_get {α : Type} (d : Nat) (t : mt_T α d) (i : Nat) : α := Nat.rec (motive := fun d => mt_T α d → Nat → α) (fun t _ => t) (fun d ih t i => cond (Nat.beq (Nat.mod i 2) 0) (ih (Prod.fst (α := mt_T α d) (β := mt_T α d) t) (Nat.div i 2)) (ih (Prod.snd (α := mt_T α d) (β := mt_T α d) t) (Nat.div i 2))) d t i
theorem mt_get_n {α : Type} {d : Nat} (a b : mt_T α d) (i : Nat) : mt_get (d + 1) (mt_n a b) i = bif Nat.beq (i % 2) 0 then mt_get d a (i / 2) else mt_get d b (i / 2) := rfl
/-- two trees leaf by leaf -/
theorem mt_both {α β : Type} {ok : α → β → Prop} {d : Nat} {a b : mt_T α d} {a' b' : mt_T β d} (h1 : ∀ k, ok (mt_get d a k) (mt_get d a' k)) (h2 : ∀ k, ok (mt_get d b k) (mt_get d b' k)) : ∀ k, ok (mt_get (d + 1) (mt_n a b) k) (mt_get (d + 1) (mt_n a' b') k) := by
  intro k
  rw [mt_get_n, mt_get_n]
  cases Nat.beq (k % 2) 0 with
  | true => exact h1 _
  | false => exact h2 _
theorem mt_leaf {α β : Type} {ok : α → β → Prop} {x : α} {y : β} (h : ok x y) : ∀ k, ok (mt_get 0 (mt_l x) k) (mt_get 0 (mt_l y) k) := fun _ => h
theorem mt_mod {α : Type} : ∀ (d : Nat) (t : mt_T α d) (k : Nat), mt_get d t k = mt_get d t (k % 2 ^ d)
  | 0, _, _ => rfl
  | d + 1, (a, b), k => by
    have e1 : k % 2 ^ (d + 1) % 2 = k % 2 := by
      rw [Nat.pow_succ, Nat.mul_comm, Nat.mod_mul_right_mod]
    have e2 : k % 2 ^ (d + 1) / 2 = k / 2 % 2 ^ d := by
      rw [Nat.pow_succ, Nat.mul_comm]
      exact Nat.mod_mul_right_div_self k 2 (2 ^ d)
    have ha := mt_mod d a (k / 2)
    have hb := mt_mod d b (k / 2)
    have g1 := mt_get_n a b k
    have g2 := mt_get_n a b (k % 2 ^ (d + 1))
    rw [e1, e2, ← ha, ← hb] at g2
    exact g1.trans g2.symm
def cy_ok (f : Nat → Nat × Instr × Nat) (cc : ByteArray) : Prop := ∀ pc, 0 < (f pc).2.2 → decode cc pc = .ok (f pc).2
theorem mt_allapp {P : Nat → Bool} {a b : List Nat} (h1 : a.all P = true) (h2 : b.all P = true) : (a ++ b).all P = true := by rw [List.all_append, h1, h2]; rfl
/-- the code of a method, place by place -/
theorem mt_code {d : Nat} {t : mt_T (Nat × Instr × Nat) d} {cc : ByteArray} {ps : List Nat} (h : ps.all (fun pc => decide (decode cc pc = .ok (mt_get d t pc).2)) = true) (h2 : (List.range (2 ^ d)).all (fun pc => Nat.beq (mt_get d t pc).2.2 0 || ps.elem pc) = true) : cy_ok (fun pc => bif Nat.blt pc (2 ^ d) then mt_get d t pc else (0, Instr.nop, 0)) cc := by
  intro pc hp
  dsimp only at hp ⊢
  cases hb : Nat.blt pc (2 ^ d) with
  | false => rw [hb] at hp; exact absurd hp (Nat.not_lt_zero _)
  | true =>
    rw [hb] at hp
    simp only [cond_true] at hp ⊢
    have h1 := List.all_eq_true.mp h2 pc (List.mem_range.mpr (by simpa using hb))
    simp only [Bool.or_eq_true, Nat.beq_eq] at h1
    rcases h1 with h1 | h1
    · omega
    · have h3 := List.all_eq_true.mp h pc (by simpa using h1)
      simpa using h3
