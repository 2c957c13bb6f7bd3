/-! TABLES, I: trees of anything -/
def mt_T (α : Type) : Nat → Type
  | 0 => α
  | d + 1 => mt_T α d × mt_T α d
def mt_l {α : Type} (x : α) : mt_T α 0 := x
def mt_n {α : Type} {d : Nat} (a b : mt_T α d) : mt_T α (d + 1) := (a, b)
def mt_z {α : Type} (x : α) : (d : Nat) → mt_T α d
  | 0 => x
  | d + 1 => (mt_z x d, mt_z x d)
def mt_get {α : Type} : (d : Nat) → mt_T α d → Nat → α
  | 0, t, _ => t
  | d + 1, t, i => bif Nat.beq (i % 2) 0 then mt_get d t.1 (i / 2) else mt_get d t.2 (i / 2)
