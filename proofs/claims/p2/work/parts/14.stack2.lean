/-! A SMALL MACHINE, V: the other instructions of stack and locals -/
theorem mn_ofInt (k : Int) : Int32.ofInt k = nI (mv_sgn k) := by
  apply mn_ext
  rw [mn_tn]
  have h : (Int32.ofInt k).toBitVec = BitVec.ofInt 32 k := rfl
  rw [h, BitVec.toNat_ofInt]
  unfold mv_sgn
  omega
theorem mn_ofInt8 {k : Int} (h1 : -128 ≤ k) (h2 : k ≤ 127) : (Int8.ofInt k).toInt32 = nI (mv_sgn k) := by
  rw [← mn_ofInt]
  apply Int32.toInt_inj.mp
  have s1 : Int8.size = 256 := rfl
  have s2 : Int32.size = 4294967296 := rfl
  rw [Int8.toInt_toInt32, Int8.toInt_ofInt, Int32.toInt_ofInt, s1, s2]
  simp only [Int.bmod]
  omega
theorem mn_ofInt16 {k : Int} (h1 : -32768 ≤ k) (h2 : k ≤ 32767) : (Int16.ofInt k).toInt32 = nI (mv_sgn k) := by
  rw [← mn_ofInt]
  apply Int32.toInt_inj.mp
  have s1 : Int16.size = 65536 := rfl
  have s2 : Int32.size = 4294967296 := rfl
  rw [Int16.toInt_toInt32, Int16.toInt_ofInt, Int32.toInt_ofInt, s1, s2]
  simp only [Int.bmod]
  omega
theorem mv_cat1 {n : Nat} {ad tb : Nat → Nat} {x : mv_V} {v : Value} (h : mv_r n ad tb x v) (hx : mv_c1 x = true) : v.category = 1 := by
  rcases lv_cat v with e | e
  · exact e
  · have := h.cat.mp e
    unfold mv_c1 at hx
    rw [this] at hx
    cases hx
theorem mv_k0 {n : Nat} {ad tb : Nat → Nat} {x : mv_V} {v : Value} (h : mv_r n ad tb x v) (hx : Nat.beq x.1 0 = true) : v = .int (nI x.2.1) := by
  obtain ⟨k, a, b⟩ := x
  simp only [Nat.beq_eq] at hx
  subst hx
  exact h
def mv_isA (x : mv_V) : Bool := Nat.beq x.1 2 || (Nat.beq x.1 3 || Nat.beq x.1 6)
theorem mv_isA_or {x : mv_V} (h : mv_isA x = true) : x.1 = 2 ∨ x.1 = 3 ∨ x.1 = 6 := by
  unfold mv_isA at h
  simpa using h
theorem mv_isA_ne {x : mv_V} (h : mv_isA x = true) : x.1 ≠ 255 := by
  rcases mv_isA_or h with e | e | e <;> omega
theorem mv_isA_spec {n : Nat} {ad tb : Nat → Nat} {x : mv_V} {v : Value} (h : mv_r n ad tb x v) (hx : mv_isA x = true) : v = .null ∨ ∃ a, v = .ref a := by
  obtain ⟨k, a, b⟩ := x
  unfold mv_r at h
  rcases mv_isA_or hx with e | e | e
  · dsimp only at e; subst e; exact Or.inr ⟨_, h.2⟩
  · dsimp only at e; subst e; exact Or.inl h
  · dsimp only at e; subst e; exact Or.inr ⟨_, h⟩
theorem mv_isA_ref {n : Nat} {ad tb : Nat → Nat} {x : mv_V} {v : Value} (h : mv_r n ad tb x v) (hx : mv_isA x = true) (h3 : x.1 ≠ 3) : ∃ a, v = .ref a := by
  obtain ⟨k, a, b⟩ := x
  unfold mv_r at h
  rcases mv_isA_or hx with e | e | e
  · dsimp only at e; subst e; exact ⟨_, h.2⟩
  · exact absurd e h3
  · dsimp only at e; subst e; exact ⟨_, h⟩
section MG
variable {p : Program} {l : Launch} {e : Env} {R : Room} {s : State} {m : MethodId} {args : Array Value} {below : List Frame} {meth : Method} {c : Code} {D : va_G} {cl : List vw_C} {tys : List (ClassId × FieldType)} {A : Nat → Prop} {tb : Nat → Nat} {nL : Nat} {Q : State → Prop} {n0 : Nat} {ad0 : Nat → Nat} {cc : ByteArray} {pc L : Nat} {S S' : List mv_V} {n : Nat} {w : mv_T 10} {cells slots : Nat}
theorem mg_iconst (hx : p.tables.exec = Jvm.exec) (hb : c.code = cc) {q : Int} (hdg : decode cc pc = .ok (.iconst q, 1)) (k : mv_G p l e R s m args below meth c D cl tys A tb nL Q n0 ad0 (pc + 1) L ((0, mv_sgn q, 0) :: S) n w cells slots) : mv_G p l e R s m args below meth c D cl tys A tb nL Q n0 ad0 pc L S n w cells slots := by
  intro ad ws H locs ls vs hn h0 hW hP hD hS hL hV
  exact lv_iconst hx hb hdg (mn_ofInt q) (k ad ws H locs ls _ hn h0 hW hP hD hS hL ⟨rfl, hV⟩)
theorem mg_bipush (hx : p.tables.exec = Jvm.exec) (hb : c.code = cc) {q : Int} (h1 : -128 ≤ q) (h2 : q ≤ 127) (hdg : decode cc pc = .ok (.bipush q, 2)) (k : mv_G p l e R s m args below meth c D cl tys A tb nL Q n0 ad0 (pc + 2) L ((0, mv_sgn q, 0) :: S) n w cells slots) : mv_G p l e R s m args below meth c D cl tys A tb nL Q n0 ad0 pc L S n w cells slots := by
  intro ad ws H locs ls vs hn h0 hW hP hD hS hL hV
  exact lv_bipush hx hb hdg (mn_ofInt8 h1 h2) (k ad ws H locs ls _ hn h0 hW hP hD hS hL ⟨rfl, hV⟩)
theorem mg_sipush (hx : p.tables.exec = Jvm.exec) (hb : c.code = cc) {q : Int} (h1 : -32768 ≤ q) (h2 : q ≤ 32767) (hdg : decode cc pc = .ok (.sipush q, 3)) (k : mv_G p l e R s m args below meth c D cl tys A tb nL Q n0 ad0 (pc + 3) L ((0, mv_sgn q, 0) :: S) n w cells slots) : mv_G p l e R s m args below meth c D cl tys A tb nL Q n0 ad0 pc L S n w cells slots := by
  intro ad ws H locs ls vs hn h0 hW hP hD hS hL hV
  exact lv_sipush hx hb hdg (mn_ofInt16 h1 h2) (k ad ws H locs ls _ hn h0 hW hP hD hS hL ⟨rfl, hV⟩)
theorem mg_lconst (hx : p.tables.exec = Jvm.exec) (hb : c.code = cc) {q : Fin 2} (hdg : decode cc pc = .ok (.lconst q, 1)) (k : mv_G p l e R s m args below meth c D cl tys A tb nL Q n0 ad0 (pc + 1) L ((1, q.val, 0) :: S) n w cells slots) : mv_G p l e R s m args below meth c D cl tys A tb nL Q n0 ad0 pc L S n w cells slots := by
  intro ad ws H locs ls vs hn h0 hW hP hD hS hL hV
  exact lv_lconst hx hb hdg rfl (k ad ws H locs ls _ hn h0 hW hP hD hS hL ⟨rfl, hV⟩)
theorem mg_null (hx : p.tables.exec = Jvm.exec) (hb : c.code = cc) (hdg : decode cc pc = .ok (.aconst_null, 1)) (k : mv_G p l e R s m args below meth c D cl tys A tb nL Q n0 ad0 (pc + 1) L ((3, 0, 0) :: S) n w cells slots) : mv_G p l e R s m args below meth c D cl tys A tb nL Q n0 ad0 pc L S n w cells slots := by
  intro ad ws H locs ls vs hn h0 hW hP hD hS hL hV
  exact lv_null hx hb hdg (k ad ws H locs ls _ hn h0 hW hP hD hS hL ⟨rfl, hV⟩)
theorem mg_ldc (hx : p.tables.exec = Jvm.exec) (hb : c.code = cc) {own : String} {i a : Nat} (hown : s.vm.findClass own = some m.cls) (hc : (Jvm.Cond.constant own i (nI a)).before args s = true) (hdg : decode cc pc = .ok (.ldc i, 2)) (k : mv_G p l e R s m args below meth c D cl tys A tb nL Q n0 ad0 (pc + 2) L ((0, a, 0) :: S) n w cells slots) : mv_G p l e R s m args below meth c D cl tys A tb nL Q n0 ad0 pc L S n w cells slots := by
  intro ad ws H locs ls vs hn h0 hW hP hD hS hL hV
  exact lv_ldc hx hb hown hc hdg (k ad ws H locs ls _ hn h0 hW hP hD hS hL ⟨rfl, hV⟩)
theorem mg_ldcw (hx : p.tables.exec = Jvm.exec) (hb : c.code = cc) {own : String} {i a : Nat} (hown : s.vm.findClass own = some m.cls) (hc : (Jvm.Cond.constant own i (nI a)).before args s = true) (hdg : decode cc pc = .ok (.ldc_w i, 3)) (k : mv_G p l e R s m args below meth c D cl tys A tb nL Q n0 ad0 (pc + 3) L ((0, a, 0) :: S) n w cells slots) : mv_G p l e R s m args below meth c D cl tys A tb nL Q n0 ad0 pc L S n w cells slots := by
  intro ad ws H locs ls vs hn h0 hW hP hD hS hL hV
  exact lv_ldcw hx hb hown hc hdg (k ad ws H locs ls _ hn h0 hW hP hD hS hL ⟨rfl, hV⟩)
theorem mg_ldc2 (hx : p.tables.exec = Jvm.exec) (hb : c.code = cc) {own : String} {i a : Nat} (hown : s.vm.findClass own = some m.cls) (hc : (Jvm.Cond.constantLong own i (lN a)).before args s = true) (hdg : decode cc pc = .ok (.ldc2_w i, 3)) (k : mv_G p l e R s m args below meth c D cl tys A tb nL Q n0 ad0 (pc + 3) L ((1, a, 0) :: S) n w cells slots) : mv_G p l e R s m args below meth c D cl tys A tb nL Q n0 ad0 pc L S n w cells slots := by
  intro ad ws H locs ls vs hn h0 hW hP hD hS hL hV
  exact lv_ldc2 hx hb hown hc hdg (k ad ws H locs ls _ hn h0 hW hP hD hS hL ⟨rfl, hV⟩)
theorem mg_lushr (hx : p.tables.exec = Jvm.exec) (hb : c.code = cc) (hdg : decode cc pc = .ok (.lushr, 1)) {x y z : mv_V} (h : mv_bs (fun a b => a % 18446744073709551616 / 2 ^ (b % 64)) x y = some z) (k : mv_G p l e R s m args below meth c D cl tys A tb nL Q n0 ad0 (pc + 1) L (z :: S) n w cells slots) : mv_G p l e R s m args below meth c D cl tys A tb nL Q n0 ad0 pc L (y :: x :: S) n w cells slots := by
  intro ad ws H locs ls vs hn h0 hW hP hD hS hL hV
  obtain ⟨vy, vs1, rfl, hy, hV1⟩ := hV.cons
  obtain ⟨vx, vs2, rfl, hxx, hV2⟩ := hV1.cons
  unfold mv_bs at h
  cases h1 : (mv_isN x && Nat.beq y.1 0) with
  | false => rw [h1] at h; cases h
  | true =>
    rw [h1] at h
    simp only [cond_true, Option.some.injEq] at h
    simp only [Bool.and_eq_true] at h1
    subst h
    have e1 := mv_isN_spec hxx h1.1
    have e2 := mv_k0 hy h1.2
    subst e1; subst e2
    exact lv_lushr hx hb hdg (ml_ushr _ _) (k ad ws H locs ls _ hn h0 hW hP hD hS hL ⟨rfl, hV2⟩)
theorem mg_idiv (hx : p.tables.exec = Jvm.exec) (hb : c.code = cc) (hdg : decode cc pc = .ok (.idiv, 1)) {x y : mv_V} (h1 : Nat.beq x.1 0 = true) (h2 : Nat.beq y.1 0 = true) (h3 : x.2.1 < 2147483648) (h4 : y.2.1 < 2147483648) (h5 : 0 < y.2.1) (k : mv_G p l e R s m args below meth c D cl tys A tb nL Q n0 ad0 (pc + 1) L ((0, x.2.1 / y.2.1, 0) :: S) n w cells slots) : mv_G p l e R s m args below meth c D cl tys A tb nL Q n0 ad0 pc L (y :: x :: S) n w cells slots := by
  intro ad ws H locs ls vs hn h0 hW hP hD hS hL hV
  obtain ⟨vy, vs1, rfl, hy, hV1⟩ := hV.cons
  obtain ⟨vx, vs2, rfl, hxx, hV2⟩ := hV1.cons
  have e1 := mv_k0 hxx h1
  have e2 := mv_k0 hy h2
  subst e1; subst e2
  refine lv_idiv hx hb hdg (nI_ne0 h5 h4) ?_
  rw [pk_div h3 h5 h4]
  exact k ad ws H locs ls _ hn h0 hW hP hD hS hL ⟨rfl, hV2⟩
theorem mg_irem (hx : p.tables.exec = Jvm.exec) (hb : c.code = cc) (hdg : decode cc pc = .ok (.irem, 1)) {x y : mv_V} (h1 : Nat.beq x.1 0 = true) (h2 : Nat.beq y.1 0 = true) (h3 : x.2.1 < 2147483648) (h4 : y.2.1 < 2147483648) (h5 : 0 < y.2.1) (k : mv_G p l e R s m args below meth c D cl tys A tb nL Q n0 ad0 (pc + 1) L ((0, x.2.1 % y.2.1, 0) :: S) n w cells slots) : mv_G p l e R s m args below meth c D cl tys A tb nL Q n0 ad0 pc L (y :: x :: S) n w cells slots := by
  intro ad ws H locs ls vs hn h0 hW hP hD hS hL hV
  obtain ⟨vy, vs1, rfl, hy, hV1⟩ := hV.cons
  obtain ⟨vx, vs2, rfl, hxx, hV2⟩ := hV1.cons
  have e1 := mv_k0 hxx h1
  have e2 := mv_k0 hy h2
  subst e1; subst e2
  refine lv_irem hx hb hdg (nI_ne0 h5 h4) ?_
  rw [pk_rem h3 h5 h4]
  exact k ad ws H locs ls _ hn h0 hW hP hD hS hL ⟨rfl, hV2⟩
theorem mg_i2l (hx : p.tables.exec = Jvm.exec) (hb : c.code = cc) (hdg : decode cc pc = .ok (.i2l, 1)) {x : mv_V} (h : Nat.beq x.1 0 = true) (k : mv_G p l e R s m args below meth c D cl tys A tb nL Q n0 ad0 (pc + 1) L ((1, (mn_up x.2.1 + 18446744071562067968) % 18446744073709551616, 0) :: S) n w cells slots) : mv_G p l e R s m args below meth c D cl tys A tb nL Q n0 ad0 pc L (x :: S) n w cells slots := by
  intro ad ws H locs ls vs hn h0 hW hP hD hS hL hV
  obtain ⟨vx, vs1, rfl, hxx, hV1⟩ := hV.cons
  have e1 := mv_k0 hxx h
  subst e1
  exact lv_i2l hx hb hdg (mn_i2l _) (k ad ws H locs ls _ hn h0 hW hP hD hS hL ⟨rfl, hV1⟩)
theorem mg_i2l4 (hx : p.tables.exec = Jvm.exec) (hb : c.code = cc) (hdg : decode cc pc = .ok (.i2l, 1)) {a b : Nat} (k : mv_G p l e R s m args below meth c D cl tys A tb nL Q n0 ad0 (pc + 1) L ((5, a, b) :: S) n w cells slots) : mv_G p l e R s m args below meth c D cl tys A tb nL Q n0 ad0 pc L ((4, a, b) :: S) n w cells slots := by
  intro ad ws H locs ls vs hn h0 hW hP hD hS hL hV
  obtain ⟨vx, vs1, rfl, hxx, hV1⟩ := hV.cons
  obtain ⟨y, rfl, h1, h2⟩ := hxx
  refine lv_i2l hx hb hdg rfl (k ad ws H locs ls _ hn h0 hW hP hD hS hL ⟨⟨y.toInt64, rfl, ?_, ?_⟩, hV1⟩)
  · rw [Int32.toInt_toInt64]; exact h1
  · rw [Int32.toInt_toInt64]; exact h2
theorem mg_l2i (hx : p.tables.exec = Jvm.exec) (hb : c.code = cc) (hdg : decode cc pc = .ok (.l2i, 1)) {x : mv_V} (h : mv_isN x = true) (k : mv_G p l e R s m args below meth c D cl tys A tb nL Q n0 ad0 (pc + 1) L ((0, x.2.1 % 4294967296, 0) :: S) n w cells slots) : mv_G p l e R s m args below meth c D cl tys A tb nL Q n0 ad0 pc L (x :: S) n w cells slots := by
  intro ad ws H locs ls vs hn h0 hW hP hD hS hL hV
  obtain ⟨vx, vs1, rfl, hxx, hV1⟩ := hV.cons
  have e1 := mv_isN_spec hxx h
  subst e1
  exact lv_l2i hx hb hdg (ml_l2i _) (k ad ws H locs ls _ hn h0 hW hP hD hS hL ⟨rfl, hV1⟩)
theorem mg_i2b (hx : p.tables.exec = Jvm.exec) (hb : c.code = cc) (hdg : decode cc pc = .ok (.i2b, 1)) {x : mv_V} (h : Nat.beq x.1 0 = true) (k : mv_G p l e R s m args below meth c D cl tys A tb nL Q n0 ad0 (pc + 1) L ((0, mn_b x.2.1, 0) :: S) n w cells slots) : mv_G p l e R s m args below meth c D cl tys A tb nL Q n0 ad0 pc L (x :: S) n w cells slots := by
  intro ad ws H locs ls vs hn h0 hW hP hD hS hL hV
  obtain ⟨vx, vs1, rfl, hxx, hV1⟩ := hV.cons
  have e1 := mv_k0 hxx h
  subst e1
  exact lv_i2b hx hb hdg (mn_i2b _) (k ad ws H locs ls _ hn h0 hW hP hD hS hL ⟨rfl, hV1⟩)
theorem mg_i2b4 (hx : p.tables.exec = Jvm.exec) (hb : c.code = cc) (hdg : decode cc pc = .ok (.i2b, 1)) {a b : Nat} (k : mv_G p l e R s m args below meth c D cl tys A tb nL Q n0 ad0 (pc + 1) L ((4, 0, 4294967295) :: S) n w cells slots) : mv_G p l e R s m args below meth c D cl tys A tb nL Q n0 ad0 pc L ((4, a, b) :: S) n w cells slots := by
  intro ad ws H locs ls vs hn h0 hW hP hD hS hL hV
  obtain ⟨vx, vs1, rfl, hxx, hV1⟩ := hV.cons
  obtain ⟨y, rfl, h1, h2⟩ := hxx
  exact lv_i2b hx hb hdg rfl (k ad ws H locs ls _ hn h0 hW hP hD hS hL ⟨mv_r.some _, hV1⟩)
theorem mg_dup (hx : p.tables.exec = Jvm.exec) (hb : c.code = cc) (hdg : decode cc pc = .ok (.dup, 1)) {x : mv_V} (h : mv_c1 x = true) (k : mv_G p l e R s m args below meth c D cl tys A tb nL Q n0 ad0 (pc + 1) L (x :: x :: S) n w cells slots) : mv_G p l e R s m args below meth c D cl tys A tb nL Q n0 ad0 pc L (x :: S) n w cells slots := by
  intro ad ws H locs ls vs hn h0 hW hP hD hS hL hV
  obtain ⟨vx, vs1, rfl, hxx, hV1⟩ := hV.cons
  exact lv_dup hx hb hdg (mv_cat1 hxx h) (k ad ws H locs ls _ hn h0 hW hP hD hS hL ⟨hxx, hxx, hV1⟩)
theorem mg_dup2 (hx : p.tables.exec = Jvm.exec) (hb : c.code = cc) (hdg : decode cc pc = .ok (.dup2, 1)) {x y : mv_V} (h1 : mv_c1 x = true) (h2 : mv_c1 y = true) (k : mv_G p l e R s m args below meth c D cl tys A tb nL Q n0 ad0 (pc + 1) L (y :: x :: y :: x :: S) n w cells slots) : mv_G p l e R s m args below meth c D cl tys A tb nL Q n0 ad0 pc L (y :: x :: S) n w cells slots := by
  intro ad ws H locs ls vs hn h0 hW hP hD hS hL hV
  obtain ⟨vy, vs1, rfl, hy, hV1⟩ := hV.cons
  obtain ⟨vx, vs2, rfl, hxx, hV2⟩ := hV1.cons
  exact lv_dup2_11 hx hb hdg (mv_cat1 hy h2) (mv_cat1 hxx h1) (k ad ws H locs ls _ hn h0 hW hP hD hS hL ⟨hy, hxx, hy, hxx, hV2⟩)
theorem mg_pop (hx : p.tables.exec = Jvm.exec) (hb : c.code = cc) (hdg : decode cc pc = .ok (.pop, 1)) {x : mv_V} (h : mv_c1 x = true) (k : mv_G p l e R s m args below meth c D cl tys A tb nL Q n0 ad0 (pc + 1) L S n w cells slots) : mv_G p l e R s m args below meth c D cl tys A tb nL Q n0 ad0 pc L (x :: S) n w cells slots := by
  intro ad ws H locs ls vs hn h0 hW hP hD hS hL hV
  obtain ⟨vx, vs1, rfl, hxx, hV1⟩ := hV.cons
  exact lv_pop hx hb hdg (mv_cat1 hxx h) (k ad ws H locs ls _ hn h0 hW hP hD hS hL hV1)
theorem mg_iload (hx : p.tables.exec = Jvm.exec) (hb : c.code = cc) {i : Nat} (hdg : decode cc pc = .ok (.iload i, 2)) (h : mv_isI (mv_lg L i) = true) (h2 : (mv_lg L i).1 ≠ 255) (k : mv_G p l e R s m args below meth c D cl tys A tb nL Q n0 ad0 (pc + 2) L (mv_lg L i :: S) n w cells slots) : mv_G p l e R s m args below meth c D cl tys A tb nL Q n0 ad0 pc L S n w cells slots := by
  intro ad ws H locs ls vs hn h0 hW hP hD hS hL hV
  obtain ⟨v, h3, h4⟩ := hL.2.2 i h2
  obtain ⟨y, rfl, -⟩ := h4.int h
  exact lv_iload hx hb hdg h3 (k ad ws H locs ls _ hn h0 hW hP hD hS hL ⟨h4, hV⟩)
theorem mg_iload_n (hx : p.tables.exec = Jvm.exec) (hb : c.code = cc) {q : Fin 4} (hdg : decode cc pc = .ok (.iload_n q, 1)) (h : mv_isI (mv_lg L q.val) = true) (h2 : (mv_lg L q.val).1 ≠ 255) (k : mv_G p l e R s m args below meth c D cl tys A tb nL Q n0 ad0 (pc + 1) L (mv_lg L q.val :: S) n w cells slots) : mv_G p l e R s m args below meth c D cl tys A tb nL Q n0 ad0 pc L S n w cells slots := by
  intro ad ws H locs ls vs hn h0 hW hP hD hS hL hV
  obtain ⟨v, h3, h4⟩ := hL.2.2 q.val h2
  obtain ⟨y, rfl, -⟩ := h4.int h
  exact lv_iload_n hx hb hdg rfl h3 (k ad ws H locs ls _ hn h0 hW hP hD hS hL ⟨h4, hV⟩)
theorem mg_lload (hx : p.tables.exec = Jvm.exec) (hb : c.code = cc) {i : Nat} (hdg : decode cc pc = .ok (.lload i, 2)) (h : mv_isL (mv_lg L i) = true) (h2 : (mv_lg L i).1 ≠ 255) (k : mv_G p l e R s m args below meth c D cl tys A tb nL Q n0 ad0 (pc + 2) L (mv_lg L i :: S) n w cells slots) : mv_G p l e R s m args below meth c D cl tys A tb nL Q n0 ad0 pc L S n w cells slots := by
  intro ad ws H locs ls vs hn h0 hW hP hD hS hL hV
  obtain ⟨v, h3, h4⟩ := hL.2.2 i h2
  obtain ⟨y, rfl, -⟩ := h4.long h
  exact lv_lload hx hb hdg h3 (k ad ws H locs ls _ hn h0 hW hP hD hS hL ⟨h4, hV⟩)
theorem mg_lload_n (hx : p.tables.exec = Jvm.exec) (hb : c.code = cc) {q : Fin 4} (hdg : decode cc pc = .ok (.lload_n q, 1)) (h : mv_isL (mv_lg L q.val) = true) (h2 : (mv_lg L q.val).1 ≠ 255) (k : mv_G p l e R s m args below meth c D cl tys A tb nL Q n0 ad0 (pc + 1) L (mv_lg L q.val :: S) n w cells slots) : mv_G p l e R s m args below meth c D cl tys A tb nL Q n0 ad0 pc L S n w cells slots := by
  intro ad ws H locs ls vs hn h0 hW hP hD hS hL hV
  obtain ⟨v, h3, h4⟩ := hL.2.2 q.val h2
  obtain ⟨y, rfl, -⟩ := h4.long h
  exact lv_lload_n hx hb hdg rfl h3 (k ad ws H locs ls _ hn h0 hW hP hD hS hL ⟨h4, hV⟩)
theorem mg_aload (hx : p.tables.exec = Jvm.exec) (hb : c.code = cc) {i : Nat} (hdg : decode cc pc = .ok (.aload i, 2)) (h : mv_isA (mv_lg L i) = true) (k : mv_G p l e R s m args below meth c D cl tys A tb nL Q n0 ad0 (pc + 2) L (mv_lg L i :: S) n w cells slots) : mv_G p l e R s m args below meth c D cl tys A tb nL Q n0 ad0 pc L S n w cells slots := by
  intro ad ws H locs ls vs hn h0 hW hP hD hS hL hV
  obtain ⟨v, h3, h4⟩ := hL.2.2 i (mv_isA_ne h)
  rcases mv_isA_spec h4 h with rfl | ⟨a, rfl⟩
  · exact lv_aloadN hx hb hdg h3 (k ad ws H locs ls _ hn h0 hW hP hD hS hL ⟨h4, hV⟩)
  · exact lv_aload hx hb hdg h3 (k ad ws H locs ls _ hn h0 hW hP hD hS hL ⟨h4, hV⟩)
theorem mg_aload_n (hx : p.tables.exec = Jvm.exec) (hb : c.code = cc) {q : Fin 4} (hdg : decode cc pc = .ok (.aload_n q, 1)) (h : mv_isA (mv_lg L q.val) = true) (k : mv_G p l e R s m args below meth c D cl tys A tb nL Q n0 ad0 (pc + 1) L (mv_lg L q.val :: S) n w cells slots) : mv_G p l e R s m args below meth c D cl tys A tb nL Q n0 ad0 pc L S n w cells slots := by
  intro ad ws H locs ls vs hn h0 hW hP hD hS hL hV
  obtain ⟨v, h3, h4⟩ := hL.2.2 q.val (mv_isA_ne h)
  rcases mv_isA_spec h4 h with rfl | ⟨a, rfl⟩
  · exact lv_aload_nN hx hb hdg rfl h3 (k ad ws H locs ls _ hn h0 hW hP hD hS hL ⟨h4, hV⟩)
  · exact lv_aload_n hx hb hdg rfl h3 (k ad ws H locs ls _ hn h0 hW hP hD hS hL ⟨h4, hV⟩)
theorem mg_istore (hx : p.tables.exec = Jvm.exec) (hb : c.code = cc) {i : Nat} {x : mv_V} (hdg : decode cc pc = .ok (.istore i, 2)) (h : mv_isI x = true) (hok : mv_ok x = true) (hi : i < nL) (k : mv_G p l e R s m args below meth c D cl tys A tb nL Q n0 ad0 (pc + 2) (mv_ls1 L i x) S n w cells slots) : mv_G p l e R s m args below meth c D cl tys A tb nL Q n0 ad0 pc L (x :: S) n w cells slots := by
  intro ad ws H locs ls vs hn h0 hW hP hD hS hL hV
  obtain ⟨vx, vs1, rfl, hxx, hV1⟩ := hV.cons
  obtain ⟨y, rfl, -⟩ := hxx.int h
  obtain ⟨lv, g1, g2, g3⟩ := hL.list
  exact lv_istore hx hb hdg g1 hi rfl (fun ls' hl' => k ad ws H locs ls' _ hn h0 hW hP hD hS (mv_L.store1 g2 g3 hxx hok hl') hV1)
theorem mg_istore_n (hx : p.tables.exec = Jvm.exec) (hb : c.code = cc) {q : Fin 4} {x : mv_V} (hdg : decode cc pc = .ok (.istore_n q, 1)) (h : mv_isI x = true) (hok : mv_ok x = true) (hi : q.val < nL) (k : mv_G p l e R s m args below meth c D cl tys A tb nL Q n0 ad0 (pc + 1) (mv_ls1 L q.val x) S n w cells slots) : mv_G p l e R s m args below meth c D cl tys A tb nL Q n0 ad0 pc L (x :: S) n w cells slots := by
  intro ad ws H locs ls vs hn h0 hW hP hD hS hL hV
  obtain ⟨vx, vs1, rfl, hxx, hV1⟩ := hV.cons
  obtain ⟨y, rfl, -⟩ := hxx.int h
  obtain ⟨lv, g1, g2, g3⟩ := hL.list
  exact lv_istore_n hx hb hdg rfl g1 hi rfl (fun ls' hl' => k ad ws H locs ls' _ hn h0 hW hP hD hS (mv_L.store1 g2 g3 hxx hok hl') hV1)
theorem mg_lstore (hx : p.tables.exec = Jvm.exec) (hb : c.code = cc) {i : Nat} {x : mv_V} (hdg : decode cc pc = .ok (.lstore i, 2)) (h : mv_isL x = true) (hok : mv_ok x = true) (hi : i + 1 < nL) (k : mv_G p l e R s m args below meth c D cl tys A tb nL Q n0 ad0 (pc + 2) (mv_ls2 L i x) S n w cells slots) : mv_G p l e R s m args below meth c D cl tys A tb nL Q n0 ad0 pc L (x :: S) n w cells slots := by
  intro ad ws H locs ls vs hn h0 hW hP hD hS hL hV
  obtain ⟨vx, vs1, rfl, hxx, hV1⟩ := hV.cons
  obtain ⟨y, rfl, -⟩ := hxx.long h
  obtain ⟨lv, g1, g2, g3⟩ := hL.list
  exact lv_lstore hx hb hdg g1 hi rfl (fun ls' hl' => k ad ws H locs ls' _ hn h0 hW hP hD hS (mv_L.store2 g2 g3 hxx hok hl') hV1)
theorem mg_lstore_n (hx : p.tables.exec = Jvm.exec) (hb : c.code = cc) {q : Fin 4} {x : mv_V} (hdg : decode cc pc = .ok (.lstore_n q, 1)) (h : mv_isL x = true) (hok : mv_ok x = true) (hi : q.val + 1 < nL) (k : mv_G p l e R s m args below meth c D cl tys A tb nL Q n0 ad0 (pc + 1) (mv_ls2 L q.val x) S n w cells slots) : mv_G p l e R s m args below meth c D cl tys A tb nL Q n0 ad0 pc L (x :: S) n w cells slots := by
  intro ad ws H locs ls vs hn h0 hW hP hD hS hL hV
  obtain ⟨vx, vs1, rfl, hxx, hV1⟩ := hV.cons
  obtain ⟨y, rfl, -⟩ := hxx.long h
  obtain ⟨lv, g1, g2, g3⟩ := hL.list
  exact lv_lstore_n hx hb hdg rfl g1 hi rfl (fun ls' hl' => k ad ws H locs ls' _ hn h0 hW hP hD hS (mv_L.store2 g2 g3 hxx hok hl') hV1)
theorem mg_astore (hx : p.tables.exec = Jvm.exec) (hb : c.code = cc) {i : Nat} {x : mv_V} (hdg : decode cc pc = .ok (.astore i, 2)) (h : mv_isA x = true) (hok : mv_ok x = true) (hi : i < nL) (k : mv_G p l e R s m args below meth c D cl tys A tb nL Q n0 ad0 (pc + 2) (mv_ls1 L i x) S n w cells slots) : mv_G p l e R s m args below meth c D cl tys A tb nL Q n0 ad0 pc L (x :: S) n w cells slots := by
  intro ad ws H locs ls vs hn h0 hW hP hD hS hL hV
  obtain ⟨vx, vs1, rfl, hxx, hV1⟩ := hV.cons
  obtain ⟨lv, g1, g2, g3⟩ := hL.list
  rcases mv_isA_spec hxx h with rfl | ⟨a, rfl⟩
  · exact lv_astoreN hx hb hdg g1 hi rfl (fun ls' hl' => k ad ws H locs ls' _ hn h0 hW hP hD hS (mv_L.store1 g2 g3 hxx hok hl') hV1)
  · exact lv_astore hx hb hdg g1 hi rfl (fun ls' hl' => k ad ws H locs ls' _ hn h0 hW hP hD hS (mv_L.store1 g2 g3 hxx hok hl') hV1)
theorem mg_astore_n (hx : p.tables.exec = Jvm.exec) (hb : c.code = cc) {q : Fin 4} {x : mv_V} (hdg : decode cc pc = .ok (.astore_n q, 1)) (h : mv_isA x = true) (hok : mv_ok x = true) (hi : q.val < nL) (k : mv_G p l e R s m args below meth c D cl tys A tb nL Q n0 ad0 (pc + 1) (mv_ls1 L q.val x) S n w cells slots) : mv_G p l e R s m args below meth c D cl tys A tb nL Q n0 ad0 pc L (x :: S) n w cells slots := by
  intro ad ws H locs ls vs hn h0 hW hP hD hS hL hV
  obtain ⟨vx, vs1, rfl, hxx, hV1⟩ := hV.cons
  obtain ⟨lv, g1, g2, g3⟩ := hL.list
  rcases mv_isA_spec hxx h with rfl | ⟨a, rfl⟩
  · exact lv_astore_nN hx hb hdg rfl g1 hi rfl (fun ls' hl' => k ad ws H locs ls' _ hn h0 hW hP hD hS (mv_L.store1 g2 g3 hxx hok hl') hV1)
  · exact lv_astore_n hx hb hdg rfl g1 hi rfl (fun ls' hl' => k ad ws H locs ls' _ hn h0 hW hP hD hS (mv_L.store1 g2 g3 hxx hok hl') hV1)
theorem mg_iinc (hx : p.tables.exec = Jvm.exec) (hb : c.code = cc) {i : Nat} {q : Int} (hdg : decode cc pc = .ok (.iinc i q, 3)) (h : Nat.beq (mv_lg L i).1 0 = true) (hok : mv_ok (0, ((mv_lg L i).2.1 + mv_sgn q) % 4294967296, 0) = true) (hi : i < nL) (k : mv_G p l e R s m args below meth c D cl tys A tb nL Q n0 ad0 (pc + 3) (mv_ls1 L i (0, ((mv_lg L i).2.1 + mv_sgn q) % 4294967296, 0)) S n w cells slots) : mv_G p l e R s m args below meth c D cl tys A tb nL Q n0 ad0 pc L S n w cells slots := by
  intro ad ws H locs ls vs hn h0 hW hP hD hS hL hV
  have h2 : (mv_lg L i).1 ≠ 255 := by
    simp only [Nat.beq_eq] at h
    omega
  obtain ⟨v, h3, h4⟩ := hL.2.2 i h2
  have e1 := mv_k0 h4 h
  subst e1
  obtain ⟨lv, g1, g2, g3⟩ := hL.list
  obtain ⟨v', g4⟩ := g3 i h2
  have e2 := mv_k0 (g2 _ g4) h
  dsimp only at e2
  subst e2
  obtain ⟨kk, g5⟩ := List.getElem?_of_mem g4
  refine lv_iinc hx hb hdg g1 g5 (v := nI (((mv_lg L i).2.1 + mv_sgn q) % 4294967296)) ?_ hi rfl (fun ls' hl' => k ad ws H locs ls' _ hn h0 hW hP hD hS (mv_L.store1 g2 g3 rfl hok hl') hV)
  rw [mn_ofInt, mn_add]
theorem mg_goto (hx : p.tables.exec = Jvm.exec) (hb : c.code = cc) {off : Int} {tgt : Nat} (hdg : decode cc pc = .ok (.goto off, 3)) (ht : (pc : Int) + off = (tgt : Int)) (k : mv_G p l e R s m args below meth c D cl tys A tb nL Q n0 ad0 tgt L S n w cells slots) : mv_G p l e R s m args below meth c D cl tys A tb nL Q n0 ad0 pc L S n w cells slots := by
  intro ad ws H locs ls vs hn h0 hW hP hD hS hL hV
  exact lv_goto hx hb hdg ht (k ad ws H locs ls _ hn h0 hW hP hD hS hL hV)
theorem mg_ifnull_t (hx : p.tables.exec = Jvm.exec) (hb : c.code = cc) {off : Int} {tgt : Nat} {a b : Nat} (hdg : decode cc pc = .ok (.ifnull off, 3)) (ht : (pc : Int) + off = (tgt : Int)) (k : mv_G p l e R s m args below meth c D cl tys A tb nL Q n0 ad0 tgt L S n w cells slots) : mv_G p l e R s m args below meth c D cl tys A tb nL Q n0 ad0 pc L ((3, a, b) :: S) n w cells slots := by
  intro ad ws H locs ls vs hn h0 hW hP hD hS hL hV
  obtain ⟨vx, vs1, rfl, hxx, hV1⟩ := hV.cons
  have e1 : vx = .null := hxx
  subst e1
  exact lv_ifnullN hx hb hdg ht (k ad ws H locs ls _ hn h0 hW hP hD hS hL hV1)
theorem mg_ifnull_f (hx : p.tables.exec = Jvm.exec) (hb : c.code = cc) {off : Int} {x : mv_V} (hdg : decode cc pc = .ok (.ifnull off, 3)) (h : mv_isA x = true) (h3 : x.1 ≠ 3) (k : mv_G p l e R s m args below meth c D cl tys A tb nL Q n0 ad0 (pc + 3) L S n w cells slots) : mv_G p l e R s m args below meth c D cl tys A tb nL Q n0 ad0 pc L (x :: S) n w cells slots := by
  intro ad ws H locs ls vs hn h0 hW hP hD hS hL hV
  obtain ⟨vx, vs1, rfl, hxx, hV1⟩ := hV.cons
  obtain ⟨a, rfl⟩ := mv_isA_ref hxx h h3
  exact lv_ifnull hx hb hdg (k ad ws H locs ls _ hn h0 hW hP hD hS hL hV1)
theorem mg_ifnonnull_t (hx : p.tables.exec = Jvm.exec) (hb : c.code = cc) {off : Int} {tgt : Nat} {x : mv_V} (hdg : decode cc pc = .ok (.ifnonnull off, 3)) (ht : (pc : Int) + off = (tgt : Int)) (h : mv_isA x = true) (h3 : x.1 ≠ 3) (k : mv_G p l e R s m args below meth c D cl tys A tb nL Q n0 ad0 tgt L S n w cells slots) : mv_G p l e R s m args below meth c D cl tys A tb nL Q n0 ad0 pc L (x :: S) n w cells slots := by
  intro ad ws H locs ls vs hn h0 hW hP hD hS hL hV
  obtain ⟨vx, vs1, rfl, hxx, hV1⟩ := hV.cons
  obtain ⟨a, rfl⟩ := mv_isA_ref hxx h h3
  exact lv_ifnonnull hx hb hdg ht (k ad ws H locs ls _ hn h0 hW hP hD hS hL hV1)
theorem mg_ifnonnull_f (hx : p.tables.exec = Jvm.exec) (hb : c.code = cc) {off : Int} {a b : Nat} (hdg : decode cc pc = .ok (.ifnonnull off, 3)) (k : mv_G p l e R s m args below meth c D cl tys A tb nL Q n0 ad0 (pc + 3) L S n w cells slots) : mv_G p l e R s m args below meth c D cl tys A tb nL Q n0 ad0 pc L ((3, a, b) :: S) n w cells slots := by
  intro ad ws H locs ls vs hn h0 hW hP hD hS hL hV
  obtain ⟨vx, vs1, rfl, hxx, hV1⟩ := hV.cons
  have e1 : vx = .null := hxx
  subst e1
  exact lv_ifnonnullN hx hb hdg (k ad ws H locs ls _ hn h0 hW hP hD hS hL hV1)
end MG
