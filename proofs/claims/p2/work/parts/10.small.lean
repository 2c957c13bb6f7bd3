/-! A SMALL MACHINE, I: numbers packed in one number; a tree of cells. All of it is evaluated by the kernel. -/
/-- place j of width w -/
def mv_rd (w p j : Nat) : Nat := Nat.mod (Nat.shiftRight p (Nat.mul w j)) (Nat.pow 2 w)
/-- place i of width w becomes v -/
def mv_wr (w p i v : Nat) : Nat := Nat.xor p (Nat.shiftLeft (Nat.xor (mv_rd w p i) (Nat.mod v (Nat.pow 2 w))) (Nat.mul w i))
theorem mv_rd_lt (w p j : Nat) : mv_rd w p j < 2 ^ w := Nat.mod_lt _ (Nat.two_pow_pos w)
theorem mv_rd_bit (w p j t : Nat) : (mv_rd w p j).testBit t = (decide (t < w) && p.testBit (w * j + t)) := by
  show ((p >>> (w * j)) % 2 ^ w).testBit t = _
  rw [Nat.testBit_mod_two_pow, Nat.testBit_shiftRight]
theorem mv_wr_bit (w p i v t : Nat) : (mv_wr w p i v).testBit t = if w * i ≤ t ∧ t < w * i + w then v.testBit (t - w * i) else p.testBit t := by
  show (p ^^^ ((mv_rd w p i ^^^ (v % 2 ^ w)) <<< (w * i))).testBit t = _
  rw [Nat.testBit_xor, Nat.testBit_shiftLeft, Nat.testBit_xor, mv_rd_bit, Nat.testBit_mod_two_pow]
  by_cases h1 : w * i ≤ t
  · by_cases h2 : t < w * i + w
    · have e : w * i + (t - w * i) = t := by omega
      have h3 : t - w * i < w := by omega
      simp [h1, h2, h3, e]
    · have h3 : ¬ t - w * i < w := by omega
      simp [h1, h2, h3]
  · simp [h1]
theorem mv_rd_wr (w p i v j : Nat) : mv_rd w (mv_wr w p i v) j = if j = i then v % 2 ^ w else mv_rd w p j := by
  apply Nat.eq_of_testBit_eq
  intro t
  rw [mv_rd_bit, mv_wr_bit]
  by_cases hj : j = i
  · subst hj
    rw [if_pos rfl, Nat.testBit_mod_two_pow]
    by_cases ht : t < w
    · have e : w * j + t - w * j = t := by omega
      have h1 : w * j ≤ w * j + t ∧ w * j + t < w * j + w := by omega
      simp [ht, e]
    · simp [ht]
  · rw [if_neg hj, mv_rd_bit]
    by_cases ht : t < w
    · have h1 : ¬ (w * i ≤ w * j + t ∧ w * j + t < w * i + w) := by
        rintro ⟨a, b⟩
        rcases Nat.lt_or_gt_of_ne hj with h | h
        · have : w * (j + 1) ≤ w * i := Nat.mul_le_mul_left w h
          rw [Nat.mul_add, Nat.mul_one] at this
          omega
        · have : w * (i + 1) ≤ w * j := Nat.mul_le_mul_left w h
          rw [Nat.mul_add, Nat.mul_one] at this
          omega
      rw [if_neg h1]
    · simp [ht]
theorem mv_rd_self (w p i v : Nat) : mv_rd w (mv_wr w p i v) i = v % 2 ^ w := by rw [mv_rd_wr, if_pos rfl]
theorem mv_rd_ne {w p i v j : Nat} (h : j ≠ i) : mv_rd w (mv_wr w p i v) j = mv_rd w p j := by rw [mv_rd_wr, if_neg h]
theorem mv_rd_zero (w j : Nat) : mv_rd w 0 j = 0 := by
  show (0 >>> (w * j)) % 2 ^ w = 0
  simp
/-- a cell: (kind, class or array type, length, contents); kinds: 0 object, 1 ints (bytes, booleans), 2 longs, 3 references, 4 ints of which nothing is known, 9 something of which nothing is known; others: no cell -/
abbrev mv_C : Type := Nat × Nat × Nat × Nat
/-- trees of 2^d cells -/
def mv_T : Nat → Type
  | 0 => mv_C
  | d + 1 => mv_T d × mv_T d
noncomputable def mv_get (d : Nat) (t : mv_T d) (i : Nat) : mv_C := Nat.rec (motive := fun d => mv_T d → Nat → mv_C) (fun t _ => t) (fun d ih t i => cond (Nat.beq (Nat.mod i 2) 0) (ih (Prod.fst (α := mv_T d) (β := mv_T d) t) (Nat.div i 2)) (ih (Prod.snd (α := mv_T d) (β := mv_T d) t) (Nat.div i 2))) d t i
noncomputable def mv_set (d : Nat) (t : mv_T d) (i : Nat) (x : mv_C) : mv_T d := Nat.rec (motive := fun d => mv_T d → Nat → mv_T d) (fun _ _ => x) (fun d ih t i => cond (Nat.beq (Nat.mod i 2) 0) (Prod.mk (α := mv_T d) (β := mv_T d) (ih (Prod.fst (α := mv_T d) (β := mv_T d) t) (Nat.div i 2)) (Prod.snd (α := mv_T d) (β := mv_T d) t)) (Prod.mk (α := mv_T d) (β := mv_T d) (Prod.fst (α := mv_T d) (β := mv_T d) t) (ih (Prod.snd (α := mv_T d) (β := mv_T d) t) (Nat.div i 2)))) d t i
def mv_nil : (d : Nat) → mv_T d
  | 0 => (9, 0, 0, 0)
  | d + 1 => (mv_nil d, mv_nil d)
theorem mv_beq0 (n : Nat) : Nat.beq n 0 = decide (n = 0) := by cases n <;> rfl
theorem mv_get_t {d : Nat} {a b : mv_T d} {i : Nat} (h : i % 2 = 0) : mv_get (d + 1) ((a, b) : mv_T d × mv_T d) i = mv_get d a (i / 2) := by
  show (bif Nat.beq (i % 2) 0 then mv_get d a (i / 2) else mv_get d b (i / 2)) = _
  rw [h]; rfl
theorem mv_get_f {d : Nat} {a b : mv_T d} {i : Nat} (h : ¬ i % 2 = 0) : mv_get (d + 1) ((a, b) : mv_T d × mv_T d) i = mv_get d b (i / 2) := by
  show (bif Nat.beq (i % 2) 0 then mv_get d a (i / 2) else mv_get d b (i / 2)) = _
  have e : Nat.beq (i % 2) 0 = false := by rw [mv_beq0]; simpa using h
  rw [e]; rfl
theorem mv_set_t {d : Nat} {a b : mv_T d} {i : Nat} {x : mv_C} (h : i % 2 = 0) : mv_set (d + 1) ((a, b) : mv_T d × mv_T d) i x = ((mv_set d a (i / 2) x, b) : mv_T d × mv_T d) := by
  show (bif Nat.beq (i % 2) 0 then (mv_set d a (i / 2) x, b) else (a, mv_set d b (i / 2) x)) = _
  rw [h]; rfl
theorem mv_set_f {d : Nat} {a b : mv_T d} {i : Nat} {x : mv_C} (h : ¬ i % 2 = 0) : mv_set (d + 1) ((a, b) : mv_T d × mv_T d) i x = ((a, mv_set d b (i / 2) x) : mv_T d × mv_T d) := by
  show (bif Nat.beq (i % 2) 0 then (mv_set d a (i / 2) x, b) else (a, mv_set d b (i / 2) x)) = _
  have e : Nat.beq (i % 2) 0 = false := by rw [mv_beq0]; simpa using h
  rw [e]; rfl
theorem mv_get_set : ∀ (d : Nat) (t : mv_T d) (i j : Nat) (x : mv_C), i < 2 ^ d → j < 2 ^ d → mv_get d (mv_set d t i x) j = if j = i then x else mv_get d t j
  | 0, t, i, j, x, hi, hj => by
    have h1 : i = 0 := by simpa using hi
    have h2 : j = 0 := by simpa using hj
    subst h1; subst h2
    rfl
  | d + 1, (t1, t2), i, j, x, hi, hj => by
    have hi2 : i / 2 < 2 ^ d := by rw [Nat.pow_succ] at hi; omega
    have hj2 : j / 2 < 2 ^ d := by rw [Nat.pow_succ] at hj; omega
    have ih1 := mv_get_set d t1 (i / 2) (j / 2) x hi2 hj2
    have ih2 := mv_get_set d t2 (i / 2) (j / 2) x hi2 hj2
    by_cases a : i % 2 = 0 <;> by_cases b : j % 2 = 0
    · rw [mv_set_t a, mv_get_t b, mv_get_t b, ih1]
      by_cases e : j = i
      · subst e; simp
      · have : ¬ j / 2 = i / 2 := by omega
        rw [if_neg e, if_neg this]
    · rw [mv_set_t a, mv_get_f b, mv_get_f b]
      have e : ¬ j = i := by omega
      rw [if_neg e]
    · rw [mv_set_f a, mv_get_t b, mv_get_t b]
      have e : ¬ j = i := by omega
      rw [if_neg e]
    · rw [mv_set_f a, mv_get_f b, mv_get_f b, ih2]
      by_cases e : j = i
      · subst e; simp
      · have : ¬ j / 2 = i / 2 := by omega
        rw [if_neg e, if_neg this]
