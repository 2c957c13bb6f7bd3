/-! A SMALL MACHINE, VI: comparisons and branches -/
def mv_lt (x y : mv_V) : Option Bool := bif mv_isI x && mv_isI y then (bif Nat.blt (mv_iv x).2 (mv_iv y).1 then some true else bif Nat.ble (mv_iv y).2 (mv_iv x).1 then some false else none) else none
def mv_eq (x y : mv_V) : Option Bool := bif mv_isI x && mv_isI y then (bif Nat.blt (mv_iv x).2 (mv_iv y).1 then some false else bif Nat.blt (mv_iv y).2 (mv_iv x).1 then some false else bif Nat.beq (mv_iv x).1 (mv_iv x).2 && (Nat.beq (mv_iv y).1 (mv_iv y).2 && Nat.beq (mv_iv x).1 (mv_iv y).1) then some true else none) else none
theorem mv_lt_ok {n : Nat} {ad tb : Nat → Nat} {x y : mv_V} {v u : Value} {r : Bool} (h : mv_lt x y = some r) (hx : mv_r n ad tb x v) (hy : mv_r n ad tb y u) : ∃ a b : Int32, v = .int a ∧ u = .int b ∧ (a < b ↔ r = true) := by
  unfold mv_lt at h
  cases h0 : (mv_isI x && mv_isI y) with
  | false => rw [h0] at h; cases h
  | true =>
    rw [h0] at h
    simp only [cond_true] at h
    simp only [Bool.and_eq_true] at h0
    obtain ⟨a, rfl, a1, a2⟩ := hx.int h0.1
    obtain ⟨b, rfl, b1, b2⟩ := hy.int h0.2
    refine ⟨a, b, rfl, rfl, ?_⟩
    rw [Int32.lt_iff_toInt_lt]
    cases h1 : Nat.blt (mv_iv x).2 (mv_iv y).1 with
    | true =>
      rw [h1] at h
      simp only [cond_true, Option.some.injEq] at h
      simp only [Nat.blt_eq] at h1
      subst h
      exact ⟨fun _ => rfl, fun _ => by omega⟩
    | false =>
      rw [h1] at h
      simp only [cond_false] at h
      cases h2 : Nat.ble (mv_iv y).2 (mv_iv x).1 with
      | false => rw [h2] at h; cases h
      | true =>
        rw [h2] at h
        simp only [cond_true, Option.some.injEq] at h
        simp only [Nat.ble_eq] at h2
        subst h
        exact ⟨fun z => by omega, fun z => by cases z⟩
theorem mv_eq_ok {n : Nat} {ad tb : Nat → Nat} {x y : mv_V} {v u : Value} {r : Bool} (h : mv_eq x y = some r) (hx : mv_r n ad tb x v) (hy : mv_r n ad tb y u) : ∃ a b : Int32, v = .int a ∧ u = .int b ∧ (a = b ↔ r = true) := by
  unfold mv_eq at h
  cases h0 : (mv_isI x && mv_isI y) with
  | false => rw [h0] at h; cases h
  | true =>
    rw [h0] at h
    simp only [cond_true] at h
    simp only [Bool.and_eq_true] at h0
    obtain ⟨a, rfl, a1, a2⟩ := hx.int h0.1
    obtain ⟨b, rfl, b1, b2⟩ := hy.int h0.2
    refine ⟨a, b, rfl, rfl, ?_⟩
    rw [← Int32.toInt_inj]
    cases h1 : Nat.blt (mv_iv x).2 (mv_iv y).1 with
    | true =>
      rw [h1] at h
      simp only [cond_true, Option.some.injEq] at h
      simp only [Nat.blt_eq] at h1
      subst h
      exact ⟨fun z => by omega, fun z => by cases z⟩
    | false =>
      rw [h1] at h
      simp only [cond_false] at h
      cases h2 : Nat.blt (mv_iv y).2 (mv_iv x).1 with
      | true =>
        rw [h2] at h
        simp only [cond_true, Option.some.injEq] at h
        simp only [Nat.blt_eq] at h2
        subst h
        exact ⟨fun z => by omega, fun z => by cases z⟩
      | false =>
        rw [h2] at h
        simp only [cond_false] at h
        cases h3 : (Nat.beq (mv_iv x).1 (mv_iv x).2 && (Nat.beq (mv_iv y).1 (mv_iv y).2 && Nat.beq (mv_iv x).1 (mv_iv y).1)) with
        | false => rw [h3] at h; cases h
        | true =>
          rw [h3] at h
          simp only [cond_true, Option.some.injEq] at h
          simp only [Bool.and_eq_true, Nat.beq_eq] at h3
          subst h
          exact ⟨fun _ => rfl, fun _ => by omega⟩
/-- a branch's condition -/
def mv_bc (q : Jvm.ClassFile.Cond) (x y : mv_V) : Option Bool := match q with
  | .eq => mv_eq x y
  | .ne => (mv_eq x y).map (fun b => !b)
  | .lt => mv_lt x y
  | .ge => (mv_lt x y).map (fun b => !b)
  | .gt => mv_lt y x
  | .le => (mv_lt y x).map (fun b => !b)
theorem mv_map_not {o : Option Bool} {r : Bool} (h : o.map (fun b => !b) = some r) : o = some (!r) := by
  cases o with
  | none => cases h
  | some b =>
    simp only [Option.map_some, Option.some.injEq] at h
    subst h
    simp
theorem mn_le_not {a b : Int32} : a ≤ b ↔ ¬ b < a := by
  rw [Int32.le_iff_toInt_le, Int32.lt_iff_toInt_lt]; omega
theorem mv_c_lc {n : Nat} {ad tb : Nat → Nat} {x y z : mv_V} {v u : Value} (h : mv_lc x y = some z) (hx : mv_r n ad tb x v) (hy : mv_r n ad tb y u) : ∃ a b : Int64, v = .long a ∧ u = .long b ∧ mv_r n ad tb z (.int (lg_cmp a b)) := by
  unfold mv_lc at h
  cases h0 : (mv_isL x && mv_isL y) with
  | false => rw [h0] at h; cases h
  | true =>
    rw [h0] at h
    simp only [cond_true] at h
    simp only [Bool.and_eq_true] at h0
    obtain ⟨a, rfl, a1, a2⟩ := hx.long h0.1
    obtain ⟨b, rfl, b1, b2⟩ := hy.long h0.2
    refine ⟨a, b, rfl, rfl, ?_⟩
    have hgt : a > b ↔ b.toInt < a.toInt := Int64.lt_iff_toInt_lt
    have heq : a = b ↔ a.toInt = b.toInt := Int64.toInt_inj.symm
    have e1 : (1 : Int32).toInt = 1 := by decide
    have e2 : (0 : Int32).toInt = 0 := by decide
    have e3 : (-1 : Int32).toInt = -1 := by decide
    cases h1 : Nat.blt (mv_lv x).2 (mv_lv y).1 with
    | true =>
      rw [h1] at h
      simp only [cond_true, Option.some.injEq] at h
      simp only [Nat.blt_eq] at h1
      subst h
      have g1 : ¬ a > b := by rw [hgt]; omega
      have g2 : ¬ a = b := by rw [heq]; omega
      unfold lg_cmp
      rw [if_neg g1, if_neg g2]
      rfl
    | false =>
      rw [h1] at h
      simp only [cond_false] at h
      cases h2 : Nat.blt (mv_lv y).2 (mv_lv x).1 with
      | true =>
        rw [h2] at h
        simp only [cond_true, Option.some.injEq] at h
        simp only [Nat.blt_eq] at h2
        subst h
        have g1 : a > b := by rw [hgt]; omega
        unfold lg_cmp
        rw [if_pos g1]
        rfl
      | false =>
        rw [h2] at h
        simp only [cond_false] at h
        cases h3 : (Nat.beq (mv_lv x).1 (mv_lv x).2 && (Nat.beq (mv_lv y).1 (mv_lv y).2 && Nat.beq (mv_lv x).1 (mv_lv y).1)) with
        | true =>
          rw [h3] at h
          simp only [cond_true, Option.some.injEq] at h
          simp only [Bool.and_eq_true, Nat.beq_eq] at h3
          subst h
          have g1 : ¬ a > b := by rw [hgt]; omega
          have g2 : a = b := by rw [heq]; omega
          unfold lg_cmp
          rw [if_neg g1, if_pos g2]
          rfl
        | false =>
          rw [h3] at h
          simp only [cond_false] at h
          cases h4 : Nat.ble (mv_lv x).2 (mv_lv y).1 with
          | true =>
            rw [h4] at h
            simp only [cond_true, Option.some.injEq] at h
            simp only [Nat.ble_eq] at h4
            subst h
            have g1 : ¬ a > b := by rw [hgt]; omega
            refine ⟨lg_cmp a b, rfl, ?_⟩
            unfold lg_cmp
            rw [if_neg g1]
            by_cases g2 : a = b
            · rw [if_pos g2]; decide
            · rw [if_neg g2]; decide
          | false =>
            rw [h4] at h
            simp only [cond_false] at h
            cases h5 : Nat.ble (mv_lv y).2 (mv_lv x).1 with
            | false => rw [h5] at h; cases h
            | true =>
              rw [h5] at h
              simp only [cond_true, Option.some.injEq] at h
              simp only [Nat.ble_eq] at h5
              subst h
              refine ⟨lg_cmp a b, rfl, ?_⟩
              unfold lg_cmp
              by_cases g1 : a > b
              · rw [if_pos g1]; decide
              · rw [hgt] at g1
                have g2 : a = b := by rw [heq]; omega
                have g3 : ¬ a > b := by rw [hgt]; exact g1
                rw [if_neg g3, if_pos g2]; decide
section MG
variable {p : Program} {l : Launch} {e : Env} {R : Room} {s : State} {m : MethodId} {args : Array Value} {below : List Frame} {meth : Method} {c : Code} {D : va_G} {cl : List vw_C} {tys : List (ClassId × FieldType)} {A : Nat → Prop} {tb : Nat → Nat} {nL : Nat} {Q : State → Prop} {n0 : Nat} {ad0 : Nat → Nat} {cc : ByteArray} {pc L : Nat} {S S' : List mv_V} {n : Nat} {w : mv_T 10} {cells slots : Nat}
theorem mg_lcmp (hx : p.tables.exec = Jvm.exec) (hb : c.code = cc) (hdg : decode cc pc = .ok (.lcmp, 1)) {x y z : mv_V} (h : mv_lc x y = some z) (k : mv_G p l e R s m args below meth c D cl tys A tb nL Q n0 ad0 (pc + 1) L (z :: S) n w cells slots) : mv_G p l e R s m args below meth c D cl tys A tb nL Q n0 ad0 pc L (y :: x :: S) n w cells slots := by
  intro ad ws H locs ls vs hn h0 hW hP hD hS hL hV
  obtain ⟨vy, vs1, rfl, hy, hV1⟩ := hV.cons
  obtain ⟨vx, vs2, rfl, hxx, hV2⟩ := hV1.cons
  obtain ⟨a, b, rfl, rfl, hz⟩ := mv_c_lc h hxx hy
  exact W.lcmp hx hb hdg (k ad ws H locs ls _ hn h0 hW hP hD hS hL ⟨hz, hV2⟩)
theorem mg_icmp_t (hx : p.tables.exec = Jvm.exec) (hb : c.code = cc) {q : Jvm.ClassFile.Cond} {off : Int} {tgt : Nat} (hdg : decode cc pc = .ok (.if_icmp q off, 3)) (ht : (pc : Int) + off = (tgt : Int)) {x y : mv_V} (h : mv_bc q x y = some true) (k : mv_G p l e R s m args below meth c D cl tys A tb nL Q n0 ad0 tgt L S n w cells slots) : mv_G p l e R s m args below meth c D cl tys A tb nL Q n0 ad0 pc L (y :: x :: S) n w cells slots := by
  intro ad ws H locs ls vs hn h0 hW hP hD hS hL hV
  obtain ⟨vy, vs1, rfl, hy, hV1⟩ := hV.cons
  obtain ⟨vx, vs2, rfl, hxx, hV2⟩ := hV1.cons
  have kk := k ad ws H locs ls _ hn h0 hW hP hD hS hL hV2
  cases q with
  | eq =>
    obtain ⟨a, b, e1, e2, hr⟩ := mv_eq_ok h hxx hy
    subst e1; subst e2
    exact lv_icmp_eq hx hb hdg ht (fun _ => kk) (fun z => absurd (hr.mpr rfl) z)
  | ne =>
    obtain ⟨a, b, e1, e2, hr⟩ := mv_eq_ok (mv_map_not h) hxx hy
    subst e1; subst e2
    exact lv_icmp_ne hx hb hdg ht (fun _ => kk) (fun z => absurd z (fun z => by have := hr.mp z; cases this))
  | lt =>
    obtain ⟨a, b, e1, e2, hr⟩ := mv_lt_ok h hxx hy
    subst e1; subst e2
    exact lv_icmp_lt hx hb hdg ht (fun _ => kk) (fun z => absurd (hr.mpr rfl) z)
  | ge =>
    obtain ⟨a, b, e1, e2, hr⟩ := mv_lt_ok (mv_map_not h) hxx hy
    subst e1; subst e2
    exact lv_icmp_ge hx hb hdg ht (fun _ => kk) (fun z => absurd (mn_le_not.mpr (fun z => by have := hr.mp z; cases this)) z)
  | gt =>
    obtain ⟨a, b, e1, e2, hr⟩ := mv_lt_ok h hy hxx
    subst e1; subst e2
    exact lv_icmp_gt hx hb hdg ht (fun _ => kk) (fun z => absurd (hr.mpr rfl) z)
  | le =>
    obtain ⟨a, b, e1, e2, hr⟩ := mv_lt_ok (mv_map_not h) hy hxx
    subst e1; subst e2
    exact lv_icmp_le hx hb hdg ht (fun _ => kk) (fun z => absurd (mn_le_not.mpr (fun z => by have := hr.mp z; cases this)) z)
theorem mg_icmp_f (hx : p.tables.exec = Jvm.exec) (hb : c.code = cc) {q : Jvm.ClassFile.Cond} {off : Int} {tgt : Nat} (hdg : decode cc pc = .ok (.if_icmp q off, 3)) (ht : (pc : Int) + off = (tgt : Int)) {x y : mv_V} (h : mv_bc q x y = some false) (k : mv_G p l e R s m args below meth c D cl tys A tb nL Q n0 ad0 (pc + 3) L S n w cells slots) : mv_G p l e R s m args below meth c D cl tys A tb nL Q n0 ad0 pc L (y :: x :: S) n w cells slots := by
  intro ad ws H locs ls vs hn h0 hW hP hD hS hL hV
  obtain ⟨vy, vs1, rfl, hy, hV1⟩ := hV.cons
  obtain ⟨vx, vs2, rfl, hxx, hV2⟩ := hV1.cons
  have kk := k ad ws H locs ls _ hn h0 hW hP hD hS hL hV2
  cases q with
  | eq =>
    obtain ⟨a, b, e1, e2, hr⟩ := mv_eq_ok h hxx hy
    subst e1; subst e2
    exact lv_icmp_eq hx hb hdg ht (fun z => absurd z (fun z => by have := hr.mp z; cases this)) (fun _ => kk)
  | ne =>
    obtain ⟨a, b, e1, e2, hr⟩ := mv_eq_ok (mv_map_not h) hxx hy
    subst e1; subst e2
    exact lv_icmp_ne hx hb hdg ht (fun z => absurd (hr.mpr rfl) z) (fun _ => kk)
  | lt =>
    obtain ⟨a, b, e1, e2, hr⟩ := mv_lt_ok h hxx hy
    subst e1; subst e2
    exact lv_icmp_lt hx hb hdg ht (fun z => absurd z (fun z => by have := hr.mp z; cases this)) (fun _ => kk)
  | ge =>
    obtain ⟨a, b, e1, e2, hr⟩ := mv_lt_ok (mv_map_not h) hxx hy
    subst e1; subst e2
    exact lv_icmp_ge hx hb hdg ht (fun z => absurd (hr.mpr rfl) (mn_le_not.mp z)) (fun _ => kk)
  | gt =>
    obtain ⟨a, b, e1, e2, hr⟩ := mv_lt_ok h hy hxx
    subst e1; subst e2
    exact lv_icmp_gt hx hb hdg ht (fun z => absurd z (fun z => by have := hr.mp z; cases this)) (fun _ => kk)
  | le =>
    obtain ⟨a, b, e1, e2, hr⟩ := mv_lt_ok (mv_map_not h) hy hxx
    subst e1; subst e2
    exact lv_icmp_le hx hb hdg ht (fun z => absurd (hr.mpr rfl) (mn_le_not.mp z)) (fun _ => kk)
theorem mg_if_t (hx : p.tables.exec = Jvm.exec) (hb : c.code = cc) {q : Jvm.ClassFile.Cond} {off : Int} {tgt : Nat} (hdg : decode cc pc = .ok (.ifCond q off, 3)) (ht : (pc : Int) + off = (tgt : Int)) {x : mv_V} (h : mv_bc q x (0, 0, 0) = some true) (k : mv_G p l e R s m args below meth c D cl tys A tb nL Q n0 ad0 tgt L S n w cells slots) : mv_G p l e R s m args below meth c D cl tys A tb nL Q n0 ad0 pc L (x :: S) n w cells slots := by
  intro ad ws H locs ls vs hn h0 hW hP hD hS hL hV
  obtain ⟨vx, vs2, rfl, hxx, hV2⟩ := hV.cons
  have hy : mv_r n ad tb (0, 0, 0) (.int 0) := congrArg Value.int nI_0.symm
  have kk := k ad ws H locs ls _ hn h0 hW hP hD hS hL hV2
  cases q with
  | eq =>
    obtain ⟨a, b, e1, e2, hr⟩ := mv_eq_ok h hxx hy
    cases e2
    subst e1
    exact lv_if_eq hx hb hdg ht (fun _ => kk) (fun z => absurd (hr.mpr rfl) z)
  | ne =>
    obtain ⟨a, b, e1, e2, hr⟩ := mv_eq_ok (mv_map_not h) hxx hy
    cases e2
    subst e1
    exact lv_if_ne hx hb hdg ht (fun _ => kk) (fun z => absurd z (fun z => by have := hr.mp z; cases this))
  | lt =>
    obtain ⟨a, b, e1, e2, hr⟩ := mv_lt_ok h hxx hy
    cases e2
    subst e1
    exact lv_if_lt hx hb hdg ht (fun _ => kk) (fun z => absurd (hr.mpr rfl) z)
  | ge =>
    obtain ⟨a, b, e1, e2, hr⟩ := mv_lt_ok (mv_map_not h) hxx hy
    cases e2
    subst e1
    exact lv_if_ge hx hb hdg ht (fun _ => kk) (fun z => absurd (mn_le_not.mpr (fun z => by have := hr.mp z; cases this)) z)
  | gt =>
    obtain ⟨a, b, e1, e2, hr⟩ := mv_lt_ok h hy hxx
    cases e1
    subst e2
    exact lv_if_gt hx hb hdg ht (fun _ => kk) (fun z => absurd (hr.mpr rfl) z)
  | le =>
    obtain ⟨a, b, e1, e2, hr⟩ := mv_lt_ok (mv_map_not h) hy hxx
    cases e1
    subst e2
    exact lv_if_le hx hb hdg ht (fun _ => kk) (fun z => absurd (mn_le_not.mpr (fun z => by have := hr.mp z; cases this)) z)
theorem mg_if_f (hx : p.tables.exec = Jvm.exec) (hb : c.code = cc) {q : Jvm.ClassFile.Cond} {off : Int} {tgt : Nat} (hdg : decode cc pc = .ok (.ifCond q off, 3)) (ht : (pc : Int) + off = (tgt : Int)) {x : mv_V} (h : mv_bc q x (0, 0, 0) = some false) (k : mv_G p l e R s m args below meth c D cl tys A tb nL Q n0 ad0 (pc + 3) L S n w cells slots) : mv_G p l e R s m args below meth c D cl tys A tb nL Q n0 ad0 pc L (x :: S) n w cells slots := by
  intro ad ws H locs ls vs hn h0 hW hP hD hS hL hV
  obtain ⟨vx, vs2, rfl, hxx, hV2⟩ := hV.cons
  have hy : mv_r n ad tb (0, 0, 0) (.int 0) := congrArg Value.int nI_0.symm
  have kk := k ad ws H locs ls _ hn h0 hW hP hD hS hL hV2
  cases q with
  | eq =>
    obtain ⟨a, b, e1, e2, hr⟩ := mv_eq_ok h hxx hy
    cases e2
    subst e1
    exact lv_if_eq hx hb hdg ht (fun z => absurd z (fun z => by have := hr.mp z; cases this)) (fun _ => kk)
  | ne =>
    obtain ⟨a, b, e1, e2, hr⟩ := mv_eq_ok (mv_map_not h) hxx hy
    cases e2
    subst e1
    exact lv_if_ne hx hb hdg ht (fun z => absurd (hr.mpr rfl) z) (fun _ => kk)
  | lt =>
    obtain ⟨a, b, e1, e2, hr⟩ := mv_lt_ok h hxx hy
    cases e2
    subst e1
    exact lv_if_lt hx hb hdg ht (fun z => absurd z (fun z => by have := hr.mp z; cases this)) (fun _ => kk)
  | ge =>
    obtain ⟨a, b, e1, e2, hr⟩ := mv_lt_ok (mv_map_not h) hxx hy
    cases e2
    subst e1
    exact lv_if_ge hx hb hdg ht (fun z => absurd (hr.mpr rfl) (mn_le_not.mp z)) (fun _ => kk)
  | gt =>
    obtain ⟨a, b, e1, e2, hr⟩ := mv_lt_ok h hy hxx
    cases e1
    subst e2
    exact lv_if_gt hx hb hdg ht (fun z => absurd z (fun z => by have := hr.mp z; cases this)) (fun _ => kk)
  | le =>
    obtain ⟨a, b, e1, e2, hr⟩ := mv_lt_ok (mv_map_not h) hy hxx
    cases e1
    subst e2
    exact lv_if_le hx hb hdg ht (fun z => absurd (hr.mpr rfl) (mn_le_not.mp z)) (fun _ => kk)
theorem mg_tin (hx : p.tables.exec = Jvm.exec) (hb : c.code = cc) {dflt lo hi off : Int} {offs : Array Int} {len tgt : Nat} (hdg : decode cc pc = .ok (.tableswitch dflt lo hi offs, len)) {x : mv_V} (h0 : Nat.beq x.1 0 = true) (h1 : ¬ (mn_up x.2.1 : Int) - 2147483648 < lo) (h2 : ¬ hi < (mn_up x.2.1 : Int) - 2147483648) (ho : offs[((mn_up x.2.1 : Int) - 2147483648 - lo).toNat]? = some off) (ht : (pc : Int) + off = (tgt : Int)) (k : mv_G p l e R s m args below meth c D cl tys A tb nL Q n0 ad0 tgt L S n w cells slots) : mv_G p l e R s m args below meth c D cl tys A tb nL Q n0 ad0 pc L (x :: S) n w cells slots := by
  intro ad ws H locs ls vs hn hh0 hW hP hD hS hL hV
  obtain ⟨vx, vs2, rfl, hxx, hV2⟩ := hV.cons
  have e1 := mv_k0 hxx h0
  subst e1
  have e2 : (nI x.2.1).toInt = (mn_up x.2.1 : Int) - 2147483648 := by
    have := mn_toInt x.2.1
    omega
  exact lv_tableIn hx hb hdg (by rw [e2]; exact h1) (by rw [e2]; exact h2) (by rw [e2]; exact ho) ht (k ad ws H locs ls _ hn hh0 hW hP hD hS hL hV2)
theorem mg_tout (hx : p.tables.exec = Jvm.exec) (hb : c.code = cc) {dflt lo hi : Int} {offs : Array Int} {len tgt : Nat} (hdg : decode cc pc = .ok (.tableswitch dflt lo hi offs, len)) {x : mv_V} (h0 : mv_isI x = true) (h1 : ((mv_iv x).2 : Int) - 2147483648 < lo ∨ hi < ((mv_iv x).1 : Int) - 2147483648) (ht : (pc : Int) + dflt = (tgt : Int)) (k : mv_G p l e R s m args below meth c D cl tys A tb nL Q n0 ad0 tgt L S n w cells slots) : mv_G p l e R s m args below meth c D cl tys A tb nL Q n0 ad0 pc L (x :: S) n w cells slots := by
  intro ad ws H locs ls vs hn hh0 hW hP hD hS hL hV
  obtain ⟨vx, vs2, rfl, hxx, hV2⟩ := hV.cons
  obtain ⟨y, rfl, g1, g2⟩ := hxx.int h0
  exact lv_tableOut hx hb hdg (by omega) ht (k ad ws H locs ls _ hn hh0 hW hP hD hS hL hV2)
end MG
