/-! A SMALL MACHINE, IV: a frame of it stands for frames of the JVM; instructions of the stack alone -/
def mv_G (p : Program) (l : Launch) (e : Env) (R : Room) (s : State) (m : MethodId) (args : Array Value) (below : List Frame) (meth : Method) (c : Code) (D : va_G) (cl : List vw_C) (tys : List (ClassId × FieldType)) (A : Nat → Prop) (tb : Nat → Nat) (nL : Nat) (Q : State → Prop) (n0 : Nat) (ad0 : Nat → Nat)
    (pc L : Nat) (S : List mv_V) (n : Nat) (w : mv_T 10) (cells slots : Nat) : Prop :=
  ∀ (ad : Nat → Nat) (ws : va_W) (H : Heap) (locs : List Loc) (ls : Array Slot) (vs : List Value), n0 ≤ n → (∀ k : Nat, k < n0 → ad k = ad0 k) → mv_W n ad tb tys w ws → va_P D cl ws H → va_D A ws → va_S A s.heap H locs → mv_L n ad tb nL L ls → mv_S n ad tb S vs →
    W p l e R s m args below meth c H locs cells slots Q (F0 m pc ls vs)
def mv_isI (x : mv_V) : Bool := Nat.beq x.1 0 || Nat.beq x.1 4
/-- bounds of an int, 2^31 added -/
def mv_iv (x : mv_V) : Nat × Nat := bif Nat.beq x.1 0 then (mn_up x.2.1, mn_up x.2.1) else x.2
theorem mv_isI_or {x : mv_V} (h : mv_isI x = true) : x.1 = 0 ∨ x.1 = 4 := by
  unfold mv_isI at h
  simpa using h
theorem mv_r.int {n : Nat} {ad tb : Nat → Nat} {x : mv_V} {v : Value} (h : mv_r n ad tb x v) (hx : mv_isI x = true) : ∃ y : Int32, v = .int y ∧ ((mv_iv x).1 : Int) ≤ y.toInt + 2147483648 ∧ y.toInt + 2147483648 ≤ ((mv_iv x).2 : Int) := by
  obtain ⟨k, a, b⟩ := x
  unfold mv_r at h
  rcases mv_isI_or hx with e | e
  · dsimp only at e; subst e
    dsimp only at h
    refine ⟨nI a, h, ?_⟩
    have := mn_toInt a
    show ((mn_up a : Nat) : Int) ≤ _ ∧ _ ≤ ((mn_up a : Nat) : Int)
    omega
  · dsimp only at e; subst e
    exact h
theorem mv_r.some {n : Nat} {ad tb : Nat → Nat} (y : Int32) : mv_r n ad tb (4, 0, 4294967295) (.int y) := by
  refine ⟨y, rfl, ?_, ?_⟩
  · have := y.minValue_le_toInt
    show (0 : Int) ≤ _
    have e : Int32.minValue.toInt = -2147483648 := by decide
    omega
  · have := y.toInt_le
    show _ ≤ (4294967295 : Int)
    have e : Int32.maxValue.toInt = 2147483647 := by decide
    omega
def mv_bi (f : Nat → Nat → Nat) (x y : mv_V) : Option mv_V := bif Nat.beq x.1 0 && Nat.beq y.1 0 then some (0, f x.2.1 y.2.1, 0) else bif mv_isI x && mv_isI y then some (4, 0, 4294967295) else none
theorem mv_bi_ok {F : Int32 → Int32 → Int32} {f : Nat → Nat → Nat} (hf : ∀ a b, F (nI a) (nI b) = nI (f a b)) {n : Nat} {ad tb : Nat → Nat} {x y z : mv_V} {v u : Value} (h : mv_bi f x y = some z) (hx : mv_r n ad tb x v) (hy : mv_r n ad tb y u) : ∃ a b : Int32, v = .int a ∧ u = .int b ∧ mv_r n ad tb z (.int (F a b)) := by
  unfold mv_bi at h
  cases h0 : (Nat.beq x.1 0 && Nat.beq y.1 0) with
  | true =>
    rw [h0] at h
    simp only [cond_true, Option.some.injEq] at h
    simp only [Bool.and_eq_true, Nat.beq_eq] at h0
    obtain ⟨kx, ax, bx⟩ := x
    obtain ⟨ky, ay, b_y⟩ := y
    dsimp only at h0 h
    obtain ⟨rfl, rfl⟩ := h0
    subst h
    exact ⟨nI ax, nI ay, hx, hy, congrArg Value.int (hf ax ay)⟩
  | false =>
    rw [h0] at h
    simp only [cond_false] at h
    cases h1 : (mv_isI x && mv_isI y) with
    | false => rw [h1] at h; cases h
    | true =>
      rw [h1] at h
      simp only [cond_true, Option.some.injEq] at h
      simp only [Bool.and_eq_true] at h1
      subst h
      obtain ⟨a, ha, -⟩ := hx.int h1.1
      obtain ⟨b, hb, -⟩ := hy.int h1.2
      exact ⟨a, b, ha, hb, mv_r.some _⟩
def mv_isN (x : mv_V) : Bool := Nat.beq x.1 1
theorem mv_isN_spec {n : Nat} {ad tb : Nat → Nat} {x : mv_V} {v : Value} (h : mv_r n ad tb x v) (hx : mv_isN x = true) : v = .long (lN x.2.1) := by
  obtain ⟨k, a, b⟩ := x
  unfold mv_isN at hx
  simp only [Nat.beq_eq] at hx
  subst hx
  exact h
def mv_bl (f : Nat → Nat → Nat) (x y : mv_V) : Option mv_V := bif mv_isN x && mv_isN y then some (1, f x.2.1 y.2.1, 0) else none
theorem mv_bl_ok {F : Int64 → Int64 → Int64} {f : Nat → Nat → Nat} (hf : ∀ a b, F (lN a) (lN b) = lN (f a b)) {n : Nat} {ad tb : Nat → Nat} {x y z : mv_V} {v u : Value} (h : mv_bl f x y = some z) (hx : mv_r n ad tb x v) (hy : mv_r n ad tb y u) : ∃ a b : Int64, v = .long a ∧ u = .long b ∧ mv_r n ad tb z (.long (F a b)) := by
  unfold mv_bl at h
  cases h0 : (mv_isN x && mv_isN y) with
  | false => rw [h0] at h; cases h
  | true =>
    rw [h0] at h
    simp only [cond_true, Option.some.injEq] at h
    simp only [Bool.and_eq_true] at h0
    subst h
    exact ⟨_, _, mv_isN_spec hx h0.1, mv_isN_spec hy h0.2, congrArg Value.long (hf _ _)⟩
/-- a long by an int -/
def mv_bs (f : Nat → Nat → Nat) (x y : mv_V) : Option mv_V := bif mv_isN x && Nat.beq y.1 0 then some (1, f x.2.1 y.2.1, 0) else none
def mv_sgn (i : Int) : Nat := (i % 4294967296).toNat
/-- bounds of a long, 2^63 added -/
def mv_lv (x : mv_V) : Nat × Nat := bif Nat.beq x.1 1 then (ml_up x.2.1, ml_up x.2.1) else (x.2.1 + 9223372034707292160, x.2.2 + 9223372034707292160)
theorem mv_r.long {n : Nat} {ad tb : Nat → Nat} {x : mv_V} {v : Value} (h : mv_r n ad tb x v) (hx : mv_isL x = true) : ∃ y : Int64, v = .long y ∧ ((mv_lv x).1 : Int) ≤ y.toInt + 9223372036854775808 ∧ y.toInt + 9223372036854775808 ≤ ((mv_lv x).2 : Int) := by
  obtain ⟨k, a, b⟩ := x
  unfold mv_isL at hx
  unfold mv_r at h
  simp only [Bool.or_eq_true, Nat.beq_eq] at hx
  rcases hx with e | e
  · subst e
    dsimp only at h
    refine ⟨lN a, h, ?_⟩
    have := ml_toInt a
    show ((ml_up a : Nat) : Int) ≤ _ ∧ _ ≤ ((ml_up a : Nat) : Int)
    omega
  · subst e
    obtain ⟨y, h1, h2, h3⟩ := h
    refine ⟨y, h1, ?_⟩
    show ((a + 9223372034707292160 : Nat) : Int) ≤ _ ∧ _ ≤ ((b + 9223372034707292160 : Nat) : Int)
    dsimp only at h2 h3
    omega
def mv_lc (x y : mv_V) : Option mv_V := bif mv_isL x && mv_isL y then (bif Nat.blt (mv_lv x).2 (mv_lv y).1 then some (0, 4294967295, 0) else bif Nat.blt (mv_lv y).2 (mv_lv x).1 then some (0, 1, 0) else bif Nat.beq (mv_lv x).1 (mv_lv x).2 && (Nat.beq (mv_lv y).1 (mv_lv y).2 && Nat.beq (mv_lv x).1 (mv_lv y).1) then some (0, 0, 0) else bif Nat.ble (mv_lv x).2 (mv_lv y).1 then some (4, 2147483647, 2147483648) else bif Nat.ble (mv_lv y).2 (mv_lv x).1 then some (4, 2147483648, 2147483649) else none) else none
def mv_c1 (x : mv_V) : Bool := !(mv_isL x)
/-- instructions that touch the stack alone: their lengths, and the stack behind them -/
def mv_sk (i : Instr) (S : List mv_V) : Option (Nat × List mv_V) := match i, S with
  | .iconst k, S => some (1, (0, mv_sgn k, 0) :: S)
  | .lconst k, S => some (1, (1, k.val, 0) :: S)
  | .aconst_null, S => some (1, (3, 0, 0) :: S)
  | .iadd, y :: x :: S => (mv_bi (fun a b => (a + b) % 4294967296) x y).map (fun z => (1, z :: S))
  | .isub, y :: x :: S => (mv_bi (fun a b => (a + (4294967296 - b % 4294967296)) % 4294967296) x y).map (fun z => (1, z :: S))
  | .imul, y :: x :: S => (mv_bi (fun a b => (a * b) % 4294967296) x y).map (fun z => (1, z :: S))
  | .iand, y :: x :: S => (mv_bi (fun a b => a &&& b) x y).map (fun z => (1, z :: S))
  | .ior, y :: x :: S => (mv_bi (fun a b => a ||| b) x y).map (fun z => (1, z :: S))
  | .ixor, y :: x :: S => (mv_bi (fun a b => a ^^^ b) x y).map (fun z => (1, z :: S))
  | .ishl, y :: x :: S => (mv_bi (fun a b => a * 2 ^ (b % 32) % 4294967296) x y).map (fun z => (1, z :: S))
  | .ishr, y :: x :: S => (mv_bi (fun a b => (mn_up a / 2 ^ (b % 32) + (4294967296 - 2147483648 / 2 ^ (b % 32))) % 4294967296) x y).map (fun z => (1, z :: S))
  | .iushr, y :: x :: S => (mv_bi (fun a b => a % 4294967296 / 2 ^ (b % 32)) x y).map (fun z => (1, z :: S))
  | .ladd, y :: x :: S => (mv_bl (fun a b => (a + b) % 18446744073709551616) x y).map (fun z => (1, z :: S))
  | .lsub, y :: x :: S => (mv_bl (fun a b => (a + (18446744073709551616 - b % 18446744073709551616)) % 18446744073709551616) x y).map (fun z => (1, z :: S))
  | .lmul, y :: x :: S => (mv_bl (fun a b => (a * b) % 18446744073709551616) x y).map (fun z => (1, z :: S))
  | .land, y :: x :: S => (mv_bl (fun a b => a &&& b) x y).map (fun z => (1, z :: S))
  | .lushr, y :: x :: S => (mv_bs (fun a b => a % 18446744073709551616 / 2 ^ (b % 64)) x y).map (fun z => (1, z :: S))
  | .idiv, y :: x :: S => bif Nat.beq x.1 0 && (Nat.beq y.1 0 && (Nat.blt x.2.1 2147483648 && (Nat.blt y.2.1 2147483648 && Nat.blt 0 y.2.1))) then some (1, (0, x.2.1 / y.2.1, 0) :: S) else none
  | .irem, y :: x :: S => bif Nat.beq x.1 0 && (Nat.beq y.1 0 && (Nat.blt x.2.1 2147483648 && (Nat.blt y.2.1 2147483648 && Nat.blt 0 y.2.1))) then some (1, (0, x.2.1 % y.2.1, 0) :: S) else none
  | .i2l, x :: S => bif Nat.beq x.1 0 then some (1, (1, (mn_up x.2.1 + 18446744071562067968) % 18446744073709551616, 0) :: S) else bif Nat.beq x.1 4 then some (1, (5, x.2.1, x.2.2) :: S) else none
  | .l2i, x :: S => bif mv_isN x then some (1, (0, x.2.1 % 4294967296, 0) :: S) else none
  | .i2b, x :: S => bif Nat.beq x.1 0 then some (1, (0, mn_b x.2.1, 0) :: S) else bif Nat.beq x.1 4 then some (1, (4, 0, 4294967295) :: S) else none
  | .lcmp, y :: x :: S => (mv_lc x y).map (fun z => (1, z :: S))
  | .dup, x :: S => bif mv_c1 x then some (1, x :: x :: S) else none
  | .dup2, y :: x :: S => bif mv_c1 x && mv_c1 y then some (1, y :: x :: y :: x :: S) else none
  | .pop, x :: S => bif mv_c1 x then some (1, S) else none
  | _, _ => none
section MG
variable {p : Program} {l : Launch} {e : Env} {R : Room} {s : State} {m : MethodId} {args : Array Value} {below : List Frame} {meth : Method} {c : Code} {D : va_G} {cl : List vw_C} {tys : List (ClassId × FieldType)} {A : Nat → Prop} {tb : Nat → Nat} {nL : Nat} {Q : State → Prop} {n0 : Nat} {ad0 : Nat → Nat} {cc : ByteArray} {pc L : Nat} {S S' : List mv_V} {n : Nat} {w : mv_T 10} {cells slots : Nat}
theorem mg_push {x : mv_V} {len : Nat} (hrow : ∀ (ad : Nat → Nat) (H : Heap) (locs : List Loc) (ls : Array Slot) (vs : List Value), ∃ v, mv_r n ad tb x v ∧ (W p l e R s m args below meth c H locs cells slots Q (F0 m (pc + len) ls (v :: vs)) → W p l e R s m args below meth c H locs cells slots Q (F0 m pc ls vs))) (k : mv_G p l e R s m args below meth c D cl tys A tb nL Q n0 ad0 (pc + len) L (x :: S) n w cells slots) : mv_G p l e R s m args below meth c D cl tys A tb nL Q n0 ad0 pc L S n w cells slots := by
  intro ad ws H locs ls vs hn h0 hW hP hD hS hL hV
  obtain ⟨v, h1, h2⟩ := hrow ad H locs ls vs
  exact h2 (k ad ws H locs ls (v :: vs) hn h0 hW hP hD hS hL ⟨h1, hV⟩)
theorem mg_iadd (hx : p.tables.exec = Jvm.exec) (hb : c.code = cc) (hdg : decode cc pc = .ok (.iadd, 1)) {x y z : mv_V} (h : mv_bi (fun a b => (a + b) % 4294967296) x y = some z) (k : mv_G p l e R s m args below meth c D cl tys A tb nL Q n0 ad0 (pc + 1) L (z :: S) n w cells slots) : mv_G p l e R s m args below meth c D cl tys A tb nL Q n0 ad0 pc L (y :: x :: S) n w cells slots := by
  intro ad ws H locs ls vs hn h0 hW hP hD hS hL hV
  obtain ⟨vy, vs1, rfl, hy, hV1⟩ := hV.cons
  obtain ⟨vx, vs2, rfl, hxx, hV2⟩ := hV1.cons
  obtain ⟨a, b, rfl, rfl, hz⟩ := mv_bi_ok (F := fun a b => a + b) mn_add h hxx hy
  exact lv_iadd hx hb hdg (k ad ws H locs ls _ hn h0 hW hP hD hS hL ⟨hz, hV2⟩)
theorem mg_isub (hx : p.tables.exec = Jvm.exec) (hb : c.code = cc) (hdg : decode cc pc = .ok (.isub, 1)) {x y z : mv_V} (h : mv_bi (fun a b => (a + (4294967296 - b % 4294967296)) % 4294967296) x y = some z) (k : mv_G p l e R s m args below meth c D cl tys A tb nL Q n0 ad0 (pc + 1) L (z :: S) n w cells slots) : mv_G p l e R s m args below meth c D cl tys A tb nL Q n0 ad0 pc L (y :: x :: S) n w cells slots := by
  intro ad ws H locs ls vs hn h0 hW hP hD hS hL hV
  obtain ⟨vy, vs1, rfl, hy, hV1⟩ := hV.cons
  obtain ⟨vx, vs2, rfl, hxx, hV2⟩ := hV1.cons
  obtain ⟨a, b, rfl, rfl, hz⟩ := mv_bi_ok (F := fun a b => a - b) mn_sub h hxx hy
  exact lv_isub hx hb hdg (k ad ws H locs ls _ hn h0 hW hP hD hS hL ⟨hz, hV2⟩)
theorem mg_imul (hx : p.tables.exec = Jvm.exec) (hb : c.code = cc) (hdg : decode cc pc = .ok (.imul, 1)) {x y z : mv_V} (h : mv_bi (fun a b => (a * b) % 4294967296) x y = some z) (k : mv_G p l e R s m args below meth c D cl tys A tb nL Q n0 ad0 (pc + 1) L (z :: S) n w cells slots) : mv_G p l e R s m args below meth c D cl tys A tb nL Q n0 ad0 pc L (y :: x :: S) n w cells slots := by
  intro ad ws H locs ls vs hn h0 hW hP hD hS hL hV
  obtain ⟨vy, vs1, rfl, hy, hV1⟩ := hV.cons
  obtain ⟨vx, vs2, rfl, hxx, hV2⟩ := hV1.cons
  obtain ⟨a, b, rfl, rfl, hz⟩ := mv_bi_ok (F := fun a b => a * b) mn_mul h hxx hy
  exact lv_imul hx hb hdg (k ad ws H locs ls _ hn h0 hW hP hD hS hL ⟨hz, hV2⟩)
theorem mg_iand (hx : p.tables.exec = Jvm.exec) (hb : c.code = cc) (hdg : decode cc pc = .ok (.iand, 1)) {x y z : mv_V} (h : mv_bi (fun a b => a &&& b) x y = some z) (k : mv_G p l e R s m args below meth c D cl tys A tb nL Q n0 ad0 (pc + 1) L (z :: S) n w cells slots) : mv_G p l e R s m args below meth c D cl tys A tb nL Q n0 ad0 pc L (y :: x :: S) n w cells slots := by
  intro ad ws H locs ls vs hn h0 hW hP hD hS hL hV
  obtain ⟨vy, vs1, rfl, hy, hV1⟩ := hV.cons
  obtain ⟨vx, vs2, rfl, hxx, hV2⟩ := hV1.cons
  obtain ⟨a, b, rfl, rfl, hz⟩ := mv_bi_ok (F := fun a b => a &&& b) mn_and h hxx hy
  exact lv_iand hx hb hdg (k ad ws H locs ls _ hn h0 hW hP hD hS hL ⟨hz, hV2⟩)
theorem mg_ior (hx : p.tables.exec = Jvm.exec) (hb : c.code = cc) (hdg : decode cc pc = .ok (.ior, 1)) {x y z : mv_V} (h : mv_bi (fun a b => a ||| b) x y = some z) (k : mv_G p l e R s m args below meth c D cl tys A tb nL Q n0 ad0 (pc + 1) L (z :: S) n w cells slots) : mv_G p l e R s m args below meth c D cl tys A tb nL Q n0 ad0 pc L (y :: x :: S) n w cells slots := by
  intro ad ws H locs ls vs hn h0 hW hP hD hS hL hV
  obtain ⟨vy, vs1, rfl, hy, hV1⟩ := hV.cons
  obtain ⟨vx, vs2, rfl, hxx, hV2⟩ := hV1.cons
  obtain ⟨a, b, rfl, rfl, hz⟩ := mv_bi_ok (F := fun a b => a ||| b) mn_or h hxx hy
  exact lv_ior hx hb hdg (k ad ws H locs ls _ hn h0 hW hP hD hS hL ⟨hz, hV2⟩)
theorem mg_ixor (hx : p.tables.exec = Jvm.exec) (hb : c.code = cc) (hdg : decode cc pc = .ok (.ixor, 1)) {x y z : mv_V} (h : mv_bi (fun a b => a ^^^ b) x y = some z) (k : mv_G p l e R s m args below meth c D cl tys A tb nL Q n0 ad0 (pc + 1) L (z :: S) n w cells slots) : mv_G p l e R s m args below meth c D cl tys A tb nL Q n0 ad0 pc L (y :: x :: S) n w cells slots := by
  intro ad ws H locs ls vs hn h0 hW hP hD hS hL hV
  obtain ⟨vy, vs1, rfl, hy, hV1⟩ := hV.cons
  obtain ⟨vx, vs2, rfl, hxx, hV2⟩ := hV1.cons
  obtain ⟨a, b, rfl, rfl, hz⟩ := mv_bi_ok (F := fun a b => a ^^^ b) mn_xor h hxx hy
  exact lv_ixor hx hb hdg (k ad ws H locs ls _ hn h0 hW hP hD hS hL ⟨hz, hV2⟩)
theorem mg_ishl (hx : p.tables.exec = Jvm.exec) (hb : c.code = cc) (hdg : decode cc pc = .ok (.ishl, 1)) {x y z : mv_V} (h : mv_bi (fun a b => a * 2 ^ (b % 32) % 4294967296) x y = some z) (k : mv_G p l e R s m args below meth c D cl tys A tb nL Q n0 ad0 (pc + 1) L (z :: S) n w cells slots) : mv_G p l e R s m args below meth c D cl tys A tb nL Q n0 ad0 pc L (y :: x :: S) n w cells slots := by
  intro ad ws H locs ls vs hn h0 hW hP hD hS hL hV
  obtain ⟨vy, vs1, rfl, hy, hV1⟩ := hV.cons
  obtain ⟨vx, vs2, rfl, hxx, hV2⟩ := hV1.cons
  obtain ⟨a, b, rfl, rfl, hz⟩ := mv_bi_ok (F := fun a b => a <<< (b &&& 31)) mn_shl h hxx hy
  exact lv_ishl hx hb hdg (k ad ws H locs ls _ hn h0 hW hP hD hS hL ⟨hz, hV2⟩)
theorem mg_ishr (hx : p.tables.exec = Jvm.exec) (hb : c.code = cc) (hdg : decode cc pc = .ok (.ishr, 1)) {x y z : mv_V} (h : mv_bi (fun a b => (mn_up a / 2 ^ (b % 32) + (4294967296 - 2147483648 / 2 ^ (b % 32))) % 4294967296) x y = some z) (k : mv_G p l e R s m args below meth c D cl tys A tb nL Q n0 ad0 (pc + 1) L (z :: S) n w cells slots) : mv_G p l e R s m args below meth c D cl tys A tb nL Q n0 ad0 pc L (y :: x :: S) n w cells slots := by
  intro ad ws H locs ls vs hn h0 hW hP hD hS hL hV
  obtain ⟨vy, vs1, rfl, hy, hV1⟩ := hV.cons
  obtain ⟨vx, vs2, rfl, hxx, hV2⟩ := hV1.cons
  obtain ⟨a, b, rfl, rfl, hz⟩ := mv_bi_ok (F := fun a b => a >>> (b &&& 31)) mn_shr h hxx hy
  exact lv_ishr hx hb hdg (k ad ws H locs ls _ hn h0 hW hP hD hS hL ⟨hz, hV2⟩)
theorem mg_iushr (hx : p.tables.exec = Jvm.exec) (hb : c.code = cc) (hdg : decode cc pc = .ok (.iushr, 1)) {x y z : mv_V} (h : mv_bi (fun a b => a % 4294967296 / 2 ^ (b % 32)) x y = some z) (k : mv_G p l e R s m args below meth c D cl tys A tb nL Q n0 ad0 (pc + 1) L (z :: S) n w cells slots) : mv_G p l e R s m args below meth c D cl tys A tb nL Q n0 ad0 pc L (y :: x :: S) n w cells slots := by
  intro ad ws H locs ls vs hn h0 hW hP hD hS hL hV
  obtain ⟨vy, vs1, rfl, hy, hV1⟩ := hV.cons
  obtain ⟨vx, vs2, rfl, hxx, hV2⟩ := hV1.cons
  obtain ⟨a, b, rfl, rfl, hz⟩ := mv_bi_ok (F := fun a b => (a.toUInt32 >>> (b.toUInt32 &&& Int32.toUInt32 31)).toInt32) mn_ushr h hxx hy
  exact lv_iushr hx hb hdg rfl (k ad ws H locs ls _ hn h0 hW hP hD hS hL ⟨hz, hV2⟩)
theorem mg_ladd (hx : p.tables.exec = Jvm.exec) (hb : c.code = cc) (hdg : decode cc pc = .ok (.ladd, 1)) {x y z : mv_V} (h : mv_bl (fun a b => (a + b) % 18446744073709551616) x y = some z) (k : mv_G p l e R s m args below meth c D cl tys A tb nL Q n0 ad0 (pc + 1) L (z :: S) n w cells slots) : mv_G p l e R s m args below meth c D cl tys A tb nL Q n0 ad0 pc L (y :: x :: S) n w cells slots := by
  intro ad ws H locs ls vs hn h0 hW hP hD hS hL hV
  obtain ⟨vy, vs1, rfl, hy, hV1⟩ := hV.cons
  obtain ⟨vx, vs2, rfl, hxx, hV2⟩ := hV1.cons
  obtain ⟨a, b, rfl, rfl, hz⟩ := mv_bl_ok (F := fun a b => a + b) ml_add h hxx hy
  exact lv_ladd hx hb hdg (k ad ws H locs ls _ hn h0 hW hP hD hS hL ⟨hz, hV2⟩)
theorem mg_lsub (hx : p.tables.exec = Jvm.exec) (hb : c.code = cc) (hdg : decode cc pc = .ok (.lsub, 1)) {x y z : mv_V} (h : mv_bl (fun a b => (a + (18446744073709551616 - b % 18446744073709551616)) % 18446744073709551616) x y = some z) (k : mv_G p l e R s m args below meth c D cl tys A tb nL Q n0 ad0 (pc + 1) L (z :: S) n w cells slots) : mv_G p l e R s m args below meth c D cl tys A tb nL Q n0 ad0 pc L (y :: x :: S) n w cells slots := by
  intro ad ws H locs ls vs hn h0 hW hP hD hS hL hV
  obtain ⟨vy, vs1, rfl, hy, hV1⟩ := hV.cons
  obtain ⟨vx, vs2, rfl, hxx, hV2⟩ := hV1.cons
  obtain ⟨a, b, rfl, rfl, hz⟩ := mv_bl_ok (F := fun a b => a - b) ml_sub h hxx hy
  exact lv_lsub hx hb hdg (k ad ws H locs ls _ hn h0 hW hP hD hS hL ⟨hz, hV2⟩)
theorem mg_lmul (hx : p.tables.exec = Jvm.exec) (hb : c.code = cc) (hdg : decode cc pc = .ok (.lmul, 1)) {x y z : mv_V} (h : mv_bl (fun a b => (a * b) % 18446744073709551616) x y = some z) (k : mv_G p l e R s m args below meth c D cl tys A tb nL Q n0 ad0 (pc + 1) L (z :: S) n w cells slots) : mv_G p l e R s m args below meth c D cl tys A tb nL Q n0 ad0 pc L (y :: x :: S) n w cells slots := by
  intro ad ws H locs ls vs hn h0 hW hP hD hS hL hV
  obtain ⟨vy, vs1, rfl, hy, hV1⟩ := hV.cons
  obtain ⟨vx, vs2, rfl, hxx, hV2⟩ := hV1.cons
  obtain ⟨a, b, rfl, rfl, hz⟩ := mv_bl_ok (F := fun a b => a * b) ml_mul h hxx hy
  exact lv_lmul hx hb hdg (k ad ws H locs ls _ hn h0 hW hP hD hS hL ⟨hz, hV2⟩)
theorem mg_land (hx : p.tables.exec = Jvm.exec) (hb : c.code = cc) (hdg : decode cc pc = .ok (.land, 1)) {x y z : mv_V} (h : mv_bl (fun a b => a &&& b) x y = some z) (k : mv_G p l e R s m args below meth c D cl tys A tb nL Q n0 ad0 (pc + 1) L (z :: S) n w cells slots) : mv_G p l e R s m args below meth c D cl tys A tb nL Q n0 ad0 pc L (y :: x :: S) n w cells slots := by
  intro ad ws H locs ls vs hn h0 hW hP hD hS hL hV
  obtain ⟨vy, vs1, rfl, hy, hV1⟩ := hV.cons
  obtain ⟨vx, vs2, rfl, hxx, hV2⟩ := hV1.cons
  obtain ⟨a, b, rfl, rfl, hz⟩ := mv_bl_ok (F := fun a b => a &&& b) ml_and h hxx hy
  exact lv_land hx hb hdg (k ad ws H locs ls _ hn h0 hW hP hD hS hL ⟨hz, hV2⟩)
end MG
