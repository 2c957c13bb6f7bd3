/-! TABLES, I: trees of anything -/
def mt_T (α : Type) : Nat → Type
  | 0 => α
  | d + 1 => mt_T α d × mt_T α d
def mt_l {α : Type} (x : α) : mt_T α 0 := x
def mt_n {α : Type} {d : Nat} (a b : mt_T α d) : mt_T α (d + 1) := (a, b)
def mt_z {α : Type} (x : α) : (d : Nat) → mt_T α d
  | 0 => x
  | d + 1 => (mt_z x d, mt_z x d)
noncomputable def mt_get {α : Type} (d : Nat) (t : mt_T α d) (i : Nat) : α := Nat.rec (motive := fun d => mt_T α d → Nat → α) (fun t _ => t) (fun d ih t i => cond (Nat.beq (Nat.mod i 2) 0) (ih (Prod.fst (α := mt_T α d) (β := mt_T α d) t) (Nat.div i 2)) (ih (Prod.snd (α := mt_T α d) (β := mt_T α d) t) (Nat.div i 2))) d t i
