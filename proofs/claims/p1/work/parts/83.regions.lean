/-! THE LAW, from its entry -/
theorem z_get {cs : List (Nat × Nat × List (List mv_V))} (h : z_all cs = true) {a b : mv_R} (ha : z_c = some a) (hb : z_m a = some b) : ∀ c ∈ cs, ∀ as ∈ c.2.2, z_1 a b c.1 c.2.1 as = true := by
  unfold z_all at h
  rw [ha] at h
  dsimp only at h
  rw [hb] at h
  simp only [Bool.and_eq_true, List.all_eq_true] at h
  exact h.2
theorem z_start {cs : List (Nat × Nat × List (List mv_V))} (h : z_all cs = true) : ∃ a b, z_c = some a ∧ z_m a = some b ∧ z_ok a = true ∧ z_ok b = true ∧ a.2.1 < 1000 ∧ a.1 = [] ∧ b.1 = [] := by
  unfold z_all at h
  split at h
  · rename_i a ha
    split at h
    · rename_i b hb
      simp only [Bool.and_eq_true, Nat.blt_eq, Nat.beq_eq] at h
      exact ⟨a, b, ha, hb, h.1.1.1, h.1.1.2, h.1.2.1, List.eq_nil_of_length_eq_zero h.1.2.2.1, List.eq_nil_of_length_eq_zero h.1.2.2.2⟩
    · cases h
  · cases h
theorem lwp_t {y : Int32} {k : Nat} (hk : k < 2147483648) (h : y.toInt = (k : Int)) : y = nI k := by
  apply Int32.toInt_inj.mp
  rw [nI_toInt hk, h]
section LZ
variable {p : Program} {l : Launch} {e : Env} {R : Room} {s : State} {m : MethodId} {args : Array Value} {below : List Frame} {meth : Method} {c : Code} {D : va_G} {tys : List (ClassId × FieldType)} {A : Nat → Prop} {tb : Nat → Nat} {Q : State → Prop} {b0 : Nat} {xs : Nat → Int32}
variable {cells slots : Nat} {a b : mv_R}

theorem lwp_i {y : Int32} {lo hi : Nat} (h1 : (lo : Int) ≤ y.toInt + 2147483648) (h2 : y.toInt + 2147483648 ≤ (hi : Int)) : ∀ (n : Nat) (ad : Nat → Nat), mv_r n ad tb (4, lo, hi) (.int y) := fun _ _ => ⟨y, rfl, h1, h2⟩
theorem lwp_0 {y : Int32} {k : Nat} (hk : k < 2147483648) (h : y.toInt = (k : Int)) : ∀ (n : Nat) (ad : Nat → Nat), mv_r n ad tb (0, k, 0) (.int y) := fun _ _ => congrArg Value.int (lwp_t hk h)
theorem lwa_feed (C : lg_C p s m args meth c D tys A tb b0 6 xs) (hend : ∀ (ls : List mv_V) (n : Nat) (w : mv_T 10) (cells slots : Nat), cells ≤ R.cells → slots ≤ R.slots → lg_G p l e R s m args below meth c D tys A tb Q 957 ls [(0, 1, 0)] n w cells slots) (hR : 13 ≤ R.frames ∧ 560 ≤ R.locals) (hc1 : cells + 1800 ≤ R.cells) (hc2 : slots + 2000000 ≤ R.slots) (ha : z_c = some a) (hb : z_m a = some b) (hn1 : a.2.1 < 1000)  : lg_G p l e R s m args below meth c D tys A tb Q 152 [(6, 7, 0), (2, 0, 0), (2, a.2.1, 0), (0, 0, 0)] [] b.2.1 b.2.2.1 cells slots := by
  have l1 := Int32.le_toInt (xs 1)
  have m1 := Int32.toInt_lt (xs 1)
  have l2 := Int32.le_toInt (xs 2)
  have m2 := Int32.toInt_lt (xs 2)
  have l3 := Int32.le_toInt (xs 3)
  have m3 := Int32.toInt_lt (xs 3)
  have l4 := Int32.le_toInt (xs 4)
  have m4 := Int32.toInt_lt (xs 4)
  have l5 := Int32.le_toInt (xs 5)
  have m5 := Int32.toInt_lt (xs 5)
  exact lw_feed C hend hR hc1 hc2 (lwp_i (by omega) (by omega)) (lwp_i (by omega) (by omega)) (lwp_i (by omega) (by omega)) (lwp_i (by omega) (by omega)) (lwp_i (by omega) (by omega)) (z_get zz_0 ha hb _ (List.mem_of_getElem? (i := 0) rfl) _ (List.mem_of_getElem? (i := 0) rfl)) hn1
theorem lwa_cut (C : lg_C p s m args meth c D tys A tb b0 6 xs) (hend : ∀ (ls : List mv_V) (n : Nat) (w : mv_T 10) (cells slots : Nat), cells ≤ R.cells → slots ≤ R.slots → lg_G p l e R s m args below meth c D tys A tb Q 957 ls [(0, 1, 0)] n w cells slots) (hR : 13 ≤ R.frames ∧ 560 ≤ R.locals) (hc1 : cells + 1800 ≤ R.cells) (hc2 : slots + 2000000 ≤ R.slots) (ha : z_c = some a) (hb : z_m a = some b) (hn1 : a.2.1 < 1000)  : lg_G p l e R s m args below meth c D tys A tb Q 215 [(6, 7, 0), (2, 0, 0), (2, a.2.1, 0), (0, 0, 0)] [] b.2.1 b.2.2.1 cells slots := by
  have l1 := Int32.le_toInt (xs 1)
  have m1 := Int32.toInt_lt (xs 1)
  by_cases g1_0 : (xs 1).toInt ≤ -1
  · exact lw_cut C hend hR hc1 hc2 (lwp_i (by omega) (by omega)) (z_get zz_0 ha hb _ (List.mem_of_getElem? (i := 1) rfl) _ (List.mem_of_getElem? (i := 0) rfl)) hn1
  by_cases g1_1 : (xs 1).toInt ≤ 0
  · exact lw_cut C hend hR hc1 hc2 (lwp_0 (by decide) (by omega)) (z_get zz_0 ha hb _ (List.mem_of_getElem? (i := 1) rfl) _ (List.mem_of_getElem? (i := 1) rfl)) hn1
  exact lw_cut C hend hR hc1 hc2 (lwp_i (by omega) (by omega)) (z_get zz_0 ha hb _ (List.mem_of_getElem? (i := 1) rfl) _ (List.mem_of_getElem? (i := 2) rfl)) hn1
theorem lwa_hash (C : lg_C p s m args meth c D tys A tb b0 6 xs) (hend : ∀ (ls : List mv_V) (n : Nat) (w : mv_T 10) (cells slots : Nat), cells ≤ R.cells → slots ≤ R.slots → lg_G p l e R s m args below meth c D tys A tb Q 957 ls [(0, 1, 0)] n w cells slots) (hR : 13 ≤ R.frames ∧ 560 ≤ R.locals) (hc1 : cells + 1800 ≤ R.cells) (hc2 : slots + 2000000 ≤ R.slots) (ha : z_c = some a) (hb : z_m a = some b) (hn1 : a.2.1 < 1000)  : lg_G p l e R s m args below meth c D tys A tb Q 238 [(6, 7, 0), (2, 0, 0), (2, a.2.1, 0), (0, 0, 0)] [] b.2.1 b.2.2.1 cells slots := by
  have l1 := Int32.le_toInt (xs 1)
  have m1 := Int32.toInt_lt (xs 1)
  have l2 := Int32.le_toInt (xs 2)
  have m2 := Int32.toInt_lt (xs 2)
  by_cases g1_0 : (xs 1).toInt ≤ -1
  · exact lw_hash C hend hR hc1 hc2 (lwp_i (by omega) (by omega)) (lwp_i (by omega) (by omega)) (z_get zz_0 ha hb _ (List.mem_of_getElem? (i := 2) rfl) _ (List.mem_of_getElem? (i := 0) rfl)) hn1
  by_cases g1_1 : (xs 1).toInt ≤ 0
  · by_cases g2_0 : (xs 2).toInt ≤ -1
    · exact lw_hash C hend hR hc1 hc2 (lwp_0 (by decide) (by omega)) (lwp_i (by omega) (by omega)) (z_get zz_0 ha hb _ (List.mem_of_getElem? (i := 2) rfl) _ (List.mem_of_getElem? (i := 5) rfl)) hn1
    by_cases g2_1 : (xs 2).toInt ≤ 0
    · exact lw_hash C hend hR hc1 hc2 (lwp_0 (by decide) (by omega)) (lwp_0 (by decide) (by omega)) (z_get zz_0 ha hb _ (List.mem_of_getElem? (i := 2) rfl) _ (List.mem_of_getElem? (i := 6) rfl)) hn1
    by_cases g2_2 : (xs 2).toInt ≤ 1
    · exact lw_hash C hend hR hc1 hc2 (lwp_0 (by decide) (by omega)) (lwp_0 (by decide) (by omega)) (z_get zz_0 ha hb _ (List.mem_of_getElem? (i := 2) rfl) _ (List.mem_of_getElem? (i := 7) rfl)) hn1
    by_cases g2_3 : (xs 2).toInt ≤ 2
    · exact lw_hash C hend hR hc1 hc2 (lwp_0 (by decide) (by omega)) (lwp_0 (by decide) (by omega)) (z_get zz_0 ha hb _ (List.mem_of_getElem? (i := 2) rfl) _ (List.mem_of_getElem? (i := 8) rfl)) hn1
    by_cases g2_4 : (xs 2).toInt ≤ 3
    · exact lw_hash C hend hR hc1 hc2 (lwp_0 (by decide) (by omega)) (lwp_0 (by decide) (by omega)) (z_get zz_0 ha hb _ (List.mem_of_getElem? (i := 2) rfl) _ (List.mem_of_getElem? (i := 9) rfl)) hn1
    by_cases g2_5 : (xs 2).toInt ≤ 4
    · exact lw_hash C hend hR hc1 hc2 (lwp_0 (by decide) (by omega)) (lwp_0 (by decide) (by omega)) (z_get zz_0 ha hb _ (List.mem_of_getElem? (i := 2) rfl) _ (List.mem_of_getElem? (i := 10) rfl)) hn1
    by_cases g2_6 : (xs 2).toInt ≤ 5
    · exact lw_hash C hend hR hc1 hc2 (lwp_0 (by decide) (by omega)) (lwp_0 (by decide) (by omega)) (z_get zz_0 ha hb _ (List.mem_of_getElem? (i := 2) rfl) _ (List.mem_of_getElem? (i := 11) rfl)) hn1
    by_cases g2_7 : (xs 2).toInt ≤ 6
    · exact lw_hash C hend hR hc1 hc2 (lwp_0 (by decide) (by omega)) (lwp_0 (by decide) (by omega)) (z_get zz_0 ha hb _ (List.mem_of_getElem? (i := 2) rfl) _ (List.mem_of_getElem? (i := 12) rfl)) hn1
    by_cases g2_8 : (xs 2).toInt ≤ 7
    · exact lw_hash C hend hR hc1 hc2 (lwp_0 (by decide) (by omega)) (lwp_0 (by decide) (by omega)) (z_get zz_0 ha hb _ (List.mem_of_getElem? (i := 2) rfl) _ (List.mem_of_getElem? (i := 13) rfl)) hn1
    exact lw_hash C hend hR hc1 hc2 (lwp_0 (by decide) (by omega)) (lwp_i (by omega) (by omega)) (z_get zz_0 ha hb _ (List.mem_of_getElem? (i := 2) rfl) _ (List.mem_of_getElem? (i := 14) rfl)) hn1
  by_cases g1_2 : (xs 1).toInt ≤ 1
  · by_cases g2_0 : (xs 2).toInt ≤ -1
    · exact lw_hash C hend hR hc1 hc2 (lwp_0 (by decide) (by omega)) (lwp_i (by omega) (by omega)) (z_get zz_0 ha hb _ (List.mem_of_getElem? (i := 2) rfl) _ (List.mem_of_getElem? (i := 2) rfl)) hn1
    by_cases g2_1 : (xs 2).toInt ≤ 7
    · exact lw_hash C hend hR hc1 hc2 (lwp_0 (by decide) (by omega)) (lwp_i (by omega) (by omega)) (z_get zz_0 ha hb _ (List.mem_of_getElem? (i := 2) rfl) _ (List.mem_of_getElem? (i := 3) rfl)) hn1
    exact lw_hash C hend hR hc1 hc2 (lwp_0 (by decide) (by omega)) (lwp_i (by omega) (by omega)) (z_get zz_0 ha hb _ (List.mem_of_getElem? (i := 2) rfl) _ (List.mem_of_getElem? (i := 4) rfl)) hn1
  exact lw_hash C hend hR hc1 hc2 (lwp_i (by omega) (by omega)) (lwp_i (by omega) (by omega)) (z_get zz_0 ha hb _ (List.mem_of_getElem? (i := 2) rfl) _ (List.mem_of_getElem? (i := 1) rfl)) hn1
theorem lwa_seed (C : lg_C p s m args meth c D tys A tb b0 6 xs) (hend : ∀ (ls : List mv_V) (n : Nat) (w : mv_T 10) (cells slots : Nat), cells ≤ R.cells → slots ≤ R.slots → lg_G p l e R s m args below meth c D tys A tb Q 957 ls [(0, 1, 0)] n w cells slots) (hR : 13 ≤ R.frames ∧ 560 ≤ R.locals) (hc1 : cells + 1800 ≤ R.cells) (hc2 : slots + 2000000 ≤ R.slots) (ha : z_c = some a) (hb : z_m a = some b) (hn1 : a.2.1 < 1000)  : lg_G p l e R s m args below meth c D tys A tb Q 271 [(6, 7, 0), (2, 0, 0), (2, a.2.1, 0), (0, 0, 0)] [] b.2.1 b.2.2.1 cells slots := by
  exact lw_seed C hend hR hc1 hc2  (z_get zz_0 ha hb _ (List.mem_of_getElem? (i := 3) rfl) _ (List.mem_of_getElem? (i := 0) rfl)) hn1
theorem lwa_gap (C : lg_C p s m args meth c D tys A tb b0 6 xs) (hend : ∀ (ls : List mv_V) (n : Nat) (w : mv_T 10) (cells slots : Nat), cells ≤ R.cells → slots ≤ R.slots → lg_G p l e R s m args below meth c D tys A tb Q 957 ls [(0, 1, 0)] n w cells slots) (hR : 13 ≤ R.frames ∧ 560 ≤ R.locals) (hc1 : cells + 1800 ≤ R.cells) (hc2 : slots + 2000000 ≤ R.slots) (ha : z_c = some a) (hb : z_m a = some b) (hn1 : a.2.1 < 1000)  : lg_G p l e R s m args below meth c D tys A tb Q 284 [(6, 7, 0), (2, 0, 0), (2, a.2.1, 0), (0, 0, 0)] [] b.2.1 b.2.2.1 cells slots := by
  have l1 := Int32.le_toInt (xs 1)
  have m1 := Int32.toInt_lt (xs 1)
  by_cases g1_0 : (xs 1).toInt ≤ 0
  · exact lw_gap C hend hR hc1 hc2 (lwp_i (by omega) (by omega)) (z_get zz_0 ha hb _ (List.mem_of_getElem? (i := 4) rfl) _ (List.mem_of_getElem? (i := 0) rfl)) hn1
  by_cases g1_1 : (xs 1).toInt ≤ 8
  · exact lw_gap C hend hR hc1 hc2 (lwp_i (by omega) (by omega)) (z_get zz_0 ha hb _ (List.mem_of_getElem? (i := 4) rfl) _ (List.mem_of_getElem? (i := 1) rfl)) hn1
  exact lw_gap C hend hR hc1 hc2 (lwp_i (by omega) (by omega)) (z_get zz_0 ha hb _ (List.mem_of_getElem? (i := 4) rfl) _ (List.mem_of_getElem? (i := 2) rfl)) hn1
theorem lwa_key (C : lg_C p s m args meth c D tys A tb b0 6 xs) (hend : ∀ (ls : List mv_V) (n : Nat) (w : mv_T 10) (cells slots : Nat), cells ≤ R.cells → slots ≤ R.slots → lg_G p l e R s m args below meth c D tys A tb Q 957 ls [(0, 1, 0)] n w cells slots) (hR : 13 ≤ R.frames ∧ 560 ≤ R.locals) (hc1 : cells + 1800 ≤ R.cells) (hc2 : slots + 2000000 ≤ R.slots) (ha : z_c = some a) (hb : z_m a = some b) (hn1 : a.2.1 < 1000)  : lg_G p l e R s m args below meth c D tys A tb Q 307 [(6, 7, 0), (2, 0, 0), (2, a.2.1, 0), (0, 0, 0)] [] b.2.1 b.2.2.1 cells slots := by
  have l1 := Int32.le_toInt (xs 1)
  have m1 := Int32.toInt_lt (xs 1)
  have l2 := Int32.le_toInt (xs 2)
  have m2 := Int32.toInt_lt (xs 2)
  have l3 := Int32.le_toInt (xs 3)
  have m3 := Int32.toInt_lt (xs 3)
  exact lw_key C hend hR hc1 hc2 (lwp_i (by omega) (by omega)) (lwp_i (by omega) (by omega)) (lwp_i (by omega) (by omega)) (z_get zz_0 ha hb _ (List.mem_of_getElem? (i := 5) rfl) _ (List.mem_of_getElem? (i := 0) rfl)) hn1
theorem lwa_address (C : lg_C p s m args meth c D tys A tb b0 6 xs) (hend : ∀ (ls : List mv_V) (n : Nat) (w : mv_T 10) (cells slots : Nat), cells ≤ R.cells → slots ≤ R.slots → lg_G p l e R s m args below meth c D tys A tb Q 957 ls [(0, 1, 0)] n w cells slots) (hR : 13 ≤ R.frames ∧ 560 ≤ R.locals) (hc1 : cells + 1800 ≤ R.cells) (hc2 : slots + 2000000 ≤ R.slots) (ha : z_c = some a) (hb : z_m a = some b) (hn1 : a.2.1 < 1000)  : lg_G p l e R s m args below meth c D tys A tb Q 350 [(6, 7, 0), (2, 0, 0), (2, a.2.1, 0), (0, 0, 0)] [] b.2.1 b.2.2.1 cells slots := by
  have l1 := Int32.le_toInt (xs 1)
  have m1 := Int32.toInt_lt (xs 1)
  have l2 := Int32.le_toInt (xs 2)
  have m2 := Int32.toInt_lt (xs 2)
  exact lw_address C hend hR hc1 hc2 (lwp_i (by omega) (by omega)) (lwp_i (by omega) (by omega)) (z_get zz_0 ha hb _ (List.mem_of_getElem? (i := 6) rfl) _ (List.mem_of_getElem? (i := 0) rfl)) hn1
theorem lwa_mine (C : lg_C p s m args meth c D tys A tb b0 6 xs) (hend : ∀ (ls : List mv_V) (n : Nat) (w : mv_T 10) (cells slots : Nat), cells ≤ R.cells → slots ≤ R.slots → lg_G p l e R s m args below meth c D tys A tb Q 957 ls [(0, 1, 0)] n w cells slots) (hR : 13 ≤ R.frames ∧ 560 ≤ R.locals) (hc1 : cells + 1800 ≤ R.cells) (hc2 : slots + 2000000 ≤ R.slots) (ha : z_c = some a) (hb : z_m a = some b) (hn1 : a.2.1 < 1000) (hsp : (xs 1).toInt = 0 → 0 ≤ (xs 2).toInt → (xs 2).toInt ≤ 1000 → lg_G p l e R s m args below meth c D tys A tb Q 383 [(6, 7, 0), (2, 0, 0), (2, a.2.1, 0), (0, 0, 0)] [] b.2.1 b.2.2.1 cells slots) : lg_G p l e R s m args below meth c D tys A tb Q 383 [(6, 7, 0), (2, 0, 0), (2, a.2.1, 0), (0, 0, 0)] [] b.2.1 b.2.2.1 cells slots := by
  have l1 := Int32.le_toInt (xs 1)
  have m1 := Int32.toInt_lt (xs 1)
  have l2 := Int32.le_toInt (xs 2)
  have m2 := Int32.toInt_lt (xs 2)
  by_cases g1_0 : (xs 1).toInt ≤ -1
  · exact lw_mine C hend hR hc1 hc2 (lwp_i (by omega) (by omega)) (lwp_i (by omega) (by omega)) (z_get zz_1 ha hb _ (List.mem_of_getElem? (i := 0) rfl) _ (List.mem_of_getElem? (i := 0) rfl)) hn1
  by_cases g1_1 : (xs 1).toInt ≤ 0
  · by_cases g2_0 : (xs 2).toInt ≤ -1
    · exact lw_mine C hend hR hc1 hc2 (lwp_0 (by decide) (by omega)) (lwp_i (by omega) (by omega)) (z_get zz_1 ha hb _ (List.mem_of_getElem? (i := 0) rfl) _ (List.mem_of_getElem? (i := 2) rfl)) hn1
    by_cases g2_1 : (xs 2).toInt ≤ 1000
    · exact hsp (by omega) (by omega) (by omega)
    exact lw_mine C hend hR hc1 hc2 (lwp_0 (by decide) (by omega)) (lwp_i (by omega) (by omega)) (z_get zz_1 ha hb _ (List.mem_of_getElem? (i := 0) rfl) _ (List.mem_of_getElem? (i := 3) rfl)) hn1
  exact lw_mine C hend hR hc1 hc2 (lwp_i (by omega) (by omega)) (lwp_i (by omega) (by omega)) (z_get zz_1 ha hb _ (List.mem_of_getElem? (i := 0) rfl) _ (List.mem_of_getElem? (i := 1) rfl)) hn1
theorem lwa_block (C : lg_C p s m args meth c D tys A tb b0 6 xs) (hend : ∀ (ls : List mv_V) (n : Nat) (w : mv_T 10) (cells slots : Nat), cells ≤ R.cells → slots ≤ R.slots → lg_G p l e R s m args below meth c D tys A tb Q 957 ls [(0, 1, 0)] n w cells slots) (hR : 13 ≤ R.frames ∧ 560 ≤ R.locals) (hc1 : cells + 1800 ≤ R.cells) (hc2 : slots + 2000000 ≤ R.slots) (ha : z_c = some a) (hb : z_m a = some b) (hn1 : a.2.1 < 1000)  : lg_G p l e R s m args below meth c D tys A tb Q 416 [(6, 7, 0), (2, 0, 0), (2, a.2.1, 0), (0, 0, 0)] [] b.2.1 b.2.2.1 cells slots := by
  have l1 := Int32.le_toInt (xs 1)
  have m1 := Int32.toInt_lt (xs 1)
  have l2 := Int32.le_toInt (xs 2)
  have m2 := Int32.toInt_lt (xs 2)
  by_cases g1_0 : (xs 1).toInt ≤ -1
  · exact lw_block C hend hR hc1 hc2 (lwp_i (by omega) (by omega)) (lwp_i (by omega) (by omega)) (z_get zz_2 ha hb _ (List.mem_of_getElem? (i := 0) rfl) _ (List.mem_of_getElem? (i := 0) rfl)) hn1
  by_cases g1_1 : (xs 1).toInt ≤ 0
  · by_cases g2_0 : (xs 2).toInt ≤ -1
    · exact lw_block C hend hR hc1 hc2 (lwp_0 (by decide) (by omega)) (lwp_i (by omega) (by omega)) (z_get zz_2 ha hb _ (List.mem_of_getElem? (i := 0) rfl) _ (List.mem_of_getElem? (i := 2) rfl)) hn1
    by_cases g2_1 : (xs 2).toInt ≤ 0
    · exact lw_block C hend hR hc1 hc2 (lwp_0 (by decide) (by omega)) (lwp_0 (by decide) (by omega)) (z_get zz_2 ha hb _ (List.mem_of_getElem? (i := 0) rfl) _ (List.mem_of_getElem? (i := 3) rfl)) hn1
    by_cases g2_2 : (xs 2).toInt ≤ 1
    · exact lw_block C hend hR hc1 hc2 (lwp_0 (by decide) (by omega)) (lwp_0 (by decide) (by omega)) (z_get zz_2 ha hb _ (List.mem_of_getElem? (i := 0) rfl) _ (List.mem_of_getElem? (i := 4) rfl)) hn1
    by_cases g2_3 : (xs 2).toInt ≤ 2
    · exact lw_block C hend hR hc1 hc2 (lwp_0 (by decide) (by omega)) (lwp_0 (by decide) (by omega)) (z_get zz_2 ha hb _ (List.mem_of_getElem? (i := 0) rfl) _ (List.mem_of_getElem? (i := 5) rfl)) hn1
    by_cases g2_4 : (xs 2).toInt ≤ 3
    · exact lw_block C hend hR hc1 hc2 (lwp_0 (by decide) (by omega)) (lwp_0 (by decide) (by omega)) (z_get zz_2 ha hb _ (List.mem_of_getElem? (i := 0) rfl) _ (List.mem_of_getElem? (i := 6) rfl)) hn1
    by_cases g2_5 : (xs 2).toInt ≤ 4
    · exact lw_block C hend hR hc1 hc2 (lwp_0 (by decide) (by omega)) (lwp_0 (by decide) (by omega)) (z_get zz_2 ha hb _ (List.mem_of_getElem? (i := 0) rfl) _ (List.mem_of_getElem? (i := 7) rfl)) hn1
    by_cases g2_6 : (xs 2).toInt ≤ 5
    · exact lw_block C hend hR hc1 hc2 (lwp_0 (by decide) (by omega)) (lwp_0 (by decide) (by omega)) (z_get zz_2 ha hb _ (List.mem_of_getElem? (i := 0) rfl) _ (List.mem_of_getElem? (i := 8) rfl)) hn1
    by_cases g2_7 : (xs 2).toInt ≤ 6
    · exact lw_block C hend hR hc1 hc2 (lwp_0 (by decide) (by omega)) (lwp_0 (by decide) (by omega)) (z_get zz_2 ha hb _ (List.mem_of_getElem? (i := 0) rfl) _ (List.mem_of_getElem? (i := 9) rfl)) hn1
    by_cases g2_8 : (xs 2).toInt ≤ 7
    · exact lw_block C hend hR hc1 hc2 (lwp_0 (by decide) (by omega)) (lwp_0 (by decide) (by omega)) (z_get zz_2 ha hb _ (List.mem_of_getElem? (i := 0) rfl) _ (List.mem_of_getElem? (i := 10) rfl)) hn1
    by_cases g2_9 : (xs 2).toInt ≤ 8
    · exact lw_block C hend hR hc1 hc2 (lwp_0 (by decide) (by omega)) (lwp_0 (by decide) (by omega)) (z_get zz_2 ha hb _ (List.mem_of_getElem? (i := 0) rfl) _ (List.mem_of_getElem? (i := 11) rfl)) hn1
    by_cases g2_10 : (xs 2).toInt ≤ 9
    · exact lw_block C hend hR hc1 hc2 (lwp_0 (by decide) (by omega)) (lwp_0 (by decide) (by omega)) (z_get zz_3 ha hb _ (List.mem_of_getElem? (i := 0) rfl) _ (List.mem_of_getElem? (i := 0) rfl)) hn1
    by_cases g2_11 : (xs 2).toInt ≤ 10
    · exact lw_block C hend hR hc1 hc2 (lwp_0 (by decide) (by omega)) (lwp_0 (by decide) (by omega)) (z_get zz_3 ha hb _ (List.mem_of_getElem? (i := 0) rfl) _ (List.mem_of_getElem? (i := 1) rfl)) hn1
    by_cases g2_12 : (xs 2).toInt ≤ 11
    · exact lw_block C hend hR hc1 hc2 (lwp_0 (by decide) (by omega)) (lwp_0 (by decide) (by omega)) (z_get zz_3 ha hb _ (List.mem_of_getElem? (i := 0) rfl) _ (List.mem_of_getElem? (i := 2) rfl)) hn1
    by_cases g2_13 : (xs 2).toInt ≤ 12
    · exact lw_block C hend hR hc1 hc2 (lwp_0 (by decide) (by omega)) (lwp_0 (by decide) (by omega)) (z_get zz_3 ha hb _ (List.mem_of_getElem? (i := 0) rfl) _ (List.mem_of_getElem? (i := 3) rfl)) hn1
    by_cases g2_14 : (xs 2).toInt ≤ 13
    · exact lw_block C hend hR hc1 hc2 (lwp_0 (by decide) (by omega)) (lwp_0 (by decide) (by omega)) (z_get zz_3 ha hb _ (List.mem_of_getElem? (i := 0) rfl) _ (List.mem_of_getElem? (i := 4) rfl)) hn1
    by_cases g2_15 : (xs 2).toInt ≤ 14
    · exact lw_block C hend hR hc1 hc2 (lwp_0 (by decide) (by omega)) (lwp_0 (by decide) (by omega)) (z_get zz_3 ha hb _ (List.mem_of_getElem? (i := 0) rfl) _ (List.mem_of_getElem? (i := 5) rfl)) hn1
    by_cases g2_16 : (xs 2).toInt ≤ 15
    · exact lw_block C hend hR hc1 hc2 (lwp_0 (by decide) (by omega)) (lwp_0 (by decide) (by omega)) (z_get zz_3 ha hb _ (List.mem_of_getElem? (i := 0) rfl) _ (List.mem_of_getElem? (i := 6) rfl)) hn1
    by_cases g2_17 : (xs 2).toInt ≤ 16
    · exact lw_block C hend hR hc1 hc2 (lwp_0 (by decide) (by omega)) (lwp_0 (by decide) (by omega)) (z_get zz_3 ha hb _ (List.mem_of_getElem? (i := 0) rfl) _ (List.mem_of_getElem? (i := 7) rfl)) hn1
    by_cases g2_18 : (xs 2).toInt ≤ 17
    · exact lw_block C hend hR hc1 hc2 (lwp_0 (by decide) (by omega)) (lwp_0 (by decide) (by omega)) (z_get zz_3 ha hb _ (List.mem_of_getElem? (i := 0) rfl) _ (List.mem_of_getElem? (i := 8) rfl)) hn1
    by_cases g2_19 : (xs 2).toInt ≤ 18
    · exact lw_block C hend hR hc1 hc2 (lwp_0 (by decide) (by omega)) (lwp_0 (by decide) (by omega)) (z_get zz_3 ha hb _ (List.mem_of_getElem? (i := 0) rfl) _ (List.mem_of_getElem? (i := 9) rfl)) hn1
    by_cases g2_20 : (xs 2).toInt ≤ 19
    · exact lw_block C hend hR hc1 hc2 (lwp_0 (by decide) (by omega)) (lwp_0 (by decide) (by omega)) (z_get zz_3 ha hb _ (List.mem_of_getElem? (i := 0) rfl) _ (List.mem_of_getElem? (i := 10) rfl)) hn1
    by_cases g2_21 : (xs 2).toInt ≤ 20
    · exact lw_block C hend hR hc1 hc2 (lwp_0 (by decide) (by omega)) (lwp_0 (by decide) (by omega)) (z_get zz_3 ha hb _ (List.mem_of_getElem? (i := 0) rfl) _ (List.mem_of_getElem? (i := 11) rfl)) hn1
    by_cases g2_22 : (xs 2).toInt ≤ 21
    · exact lw_block C hend hR hc1 hc2 (lwp_0 (by decide) (by omega)) (lwp_0 (by decide) (by omega)) (z_get zz_4 ha hb _ (List.mem_of_getElem? (i := 0) rfl) _ (List.mem_of_getElem? (i := 0) rfl)) hn1
    by_cases g2_23 : (xs 2).toInt ≤ 22
    · exact lw_block C hend hR hc1 hc2 (lwp_0 (by decide) (by omega)) (lwp_0 (by decide) (by omega)) (z_get zz_4 ha hb _ (List.mem_of_getElem? (i := 0) rfl) _ (List.mem_of_getElem? (i := 1) rfl)) hn1
    by_cases g2_24 : (xs 2).toInt ≤ 23
    · exact lw_block C hend hR hc1 hc2 (lwp_0 (by decide) (by omega)) (lwp_0 (by decide) (by omega)) (z_get zz_4 ha hb _ (List.mem_of_getElem? (i := 0) rfl) _ (List.mem_of_getElem? (i := 2) rfl)) hn1
    by_cases g2_25 : (xs 2).toInt ≤ 24
    · exact lw_block C hend hR hc1 hc2 (lwp_0 (by decide) (by omega)) (lwp_0 (by decide) (by omega)) (z_get zz_4 ha hb _ (List.mem_of_getElem? (i := 0) rfl) _ (List.mem_of_getElem? (i := 3) rfl)) hn1
    by_cases g2_26 : (xs 2).toInt ≤ 25
    · exact lw_block C hend hR hc1 hc2 (lwp_0 (by decide) (by omega)) (lwp_0 (by decide) (by omega)) (z_get zz_4 ha hb _ (List.mem_of_getElem? (i := 0) rfl) _ (List.mem_of_getElem? (i := 4) rfl)) hn1
    by_cases g2_27 : (xs 2).toInt ≤ 26
    · exact lw_block C hend hR hc1 hc2 (lwp_0 (by decide) (by omega)) (lwp_0 (by decide) (by omega)) (z_get zz_4 ha hb _ (List.mem_of_getElem? (i := 0) rfl) _ (List.mem_of_getElem? (i := 5) rfl)) hn1
    by_cases g2_28 : (xs 2).toInt ≤ 27
    · exact lw_block C hend hR hc1 hc2 (lwp_0 (by decide) (by omega)) (lwp_0 (by decide) (by omega)) (z_get zz_4 ha hb _ (List.mem_of_getElem? (i := 0) rfl) _ (List.mem_of_getElem? (i := 6) rfl)) hn1
    by_cases g2_29 : (xs 2).toInt ≤ 28
    · exact lw_block C hend hR hc1 hc2 (lwp_0 (by decide) (by omega)) (lwp_0 (by decide) (by omega)) (z_get zz_4 ha hb _ (List.mem_of_getElem? (i := 0) rfl) _ (List.mem_of_getElem? (i := 7) rfl)) hn1
    by_cases g2_30 : (xs 2).toInt ≤ 29
    · exact lw_block C hend hR hc1 hc2 (lwp_0 (by decide) (by omega)) (lwp_0 (by decide) (by omega)) (z_get zz_4 ha hb _ (List.mem_of_getElem? (i := 0) rfl) _ (List.mem_of_getElem? (i := 8) rfl)) hn1
    by_cases g2_31 : (xs 2).toInt ≤ 30
    · exact lw_block C hend hR hc1 hc2 (lwp_0 (by decide) (by omega)) (lwp_0 (by decide) (by omega)) (z_get zz_4 ha hb _ (List.mem_of_getElem? (i := 0) rfl) _ (List.mem_of_getElem? (i := 9) rfl)) hn1
    by_cases g2_32 : (xs 2).toInt ≤ 31
    · exact lw_block C hend hR hc1 hc2 (lwp_0 (by decide) (by omega)) (lwp_0 (by decide) (by omega)) (z_get zz_4 ha hb _ (List.mem_of_getElem? (i := 0) rfl) _ (List.mem_of_getElem? (i := 10) rfl)) hn1
    exact lw_block C hend hR hc1 hc2 (lwp_0 (by decide) (by omega)) (lwp_i (by omega) (by omega)) (z_get zz_4 ha hb _ (List.mem_of_getElem? (i := 0) rfl) _ (List.mem_of_getElem? (i := 11) rfl)) hn1
  exact lw_block C hend hR hc1 hc2 (lwp_i (by omega) (by omega)) (lwp_i (by omega) (by omega)) (z_get zz_2 ha hb _ (List.mem_of_getElem? (i := 0) rfl) _ (List.mem_of_getElem? (i := 1) rfl)) hn1
theorem lwa_payment (C : lg_C p s m args meth c D tys A tb b0 6 xs) (hend : ∀ (ls : List mv_V) (n : Nat) (w : mv_T 10) (cells slots : Nat), cells ≤ R.cells → slots ≤ R.slots → lg_G p l e R s m args below meth c D tys A tb Q 957 ls [(0, 1, 0)] n w cells slots) (hR : 13 ≤ R.frames ∧ 560 ≤ R.locals) (hc1 : cells + 1800 ≤ R.cells) (hc2 : slots + 2000000 ≤ R.slots) (ha : z_c = some a) (hb : z_m a = some b) (hn1 : a.2.1 < 1000)  : lg_G p l e R s m args below meth c D tys A tb Q 449 [(6, 7, 0), (2, 0, 0), (2, a.2.1, 0), (0, 0, 0)] [] b.2.1 b.2.2.1 cells slots := by
  have l1 := Int32.le_toInt (xs 1)
  have m1 := Int32.toInt_lt (xs 1)
  have l2 := Int32.le_toInt (xs 2)
  have m2 := Int32.toInt_lt (xs 2)
  have l3 := Int32.le_toInt (xs 3)
  have m3 := Int32.toInt_lt (xs 3)
  by_cases g1_0 : (xs 1).toInt ≤ -1
  · exact lw_payment C hend hR hc1 hc2 (lwp_i (by omega) (by omega)) (lwp_i (by omega) (by omega)) (lwp_i (by omega) (by omega)) (z_get zz_5 ha hb _ (List.mem_of_getElem? (i := 0) rfl) _ (List.mem_of_getElem? (i := 0) rfl)) hn1
  by_cases g1_1 : (xs 1).toInt ≤ 0
  · by_cases g2_0 : (xs 2).toInt ≤ -1
    · exact lw_payment C hend hR hc1 hc2 (lwp_0 (by decide) (by omega)) (lwp_i (by omega) (by omega)) (lwp_i (by omega) (by omega)) (z_get zz_5 ha hb _ (List.mem_of_getElem? (i := 0) rfl) _ (List.mem_of_getElem? (i := 2) rfl)) hn1
    by_cases g2_1 : (xs 2).toInt ≤ 0
    · by_cases g3_0 : (xs 3).toInt ≤ -1
      · exact lw_payment C hend hR hc1 hc2 (lwp_0 (by decide) (by omega)) (lwp_0 (by decide) (by omega)) (lwp_i (by omega) (by omega)) (z_get zz_5 ha hb _ (List.mem_of_getElem? (i := 0) rfl) _ (List.mem_of_getElem? (i := 4) rfl)) hn1
      by_cases g3_1 : (xs 3).toInt ≤ 0
      · exact lw_payment C hend hR hc1 hc2 (lwp_0 (by decide) (by omega)) (lwp_0 (by decide) (by omega)) (lwp_0 (by decide) (by omega)) (z_get zz_5 ha hb _ (List.mem_of_getElem? (i := 0) rfl) _ (List.mem_of_getElem? (i := 5) rfl)) hn1
      by_cases g3_2 : (xs 3).toInt ≤ 1
      · exact lw_payment C hend hR hc1 hc2 (lwp_0 (by decide) (by omega)) (lwp_0 (by decide) (by omega)) (lwp_0 (by decide) (by omega)) (z_get zz_5 ha hb _ (List.mem_of_getElem? (i := 0) rfl) _ (List.mem_of_getElem? (i := 6) rfl)) hn1
      by_cases g3_3 : (xs 3).toInt ≤ 2
      · exact lw_payment C hend hR hc1 hc2 (lwp_0 (by decide) (by omega)) (lwp_0 (by decide) (by omega)) (lwp_0 (by decide) (by omega)) (z_get zz_5 ha hb _ (List.mem_of_getElem? (i := 0) rfl) _ (List.mem_of_getElem? (i := 7) rfl)) hn1
      by_cases g3_4 : (xs 3).toInt ≤ 3
      · exact lw_payment C hend hR hc1 hc2 (lwp_0 (by decide) (by omega)) (lwp_0 (by decide) (by omega)) (lwp_0 (by decide) (by omega)) (z_get zz_5 ha hb _ (List.mem_of_getElem? (i := 0) rfl) _ (List.mem_of_getElem? (i := 8) rfl)) hn1
      by_cases g3_5 : (xs 3).toInt ≤ 4
      · exact lw_payment C hend hR hc1 hc2 (lwp_0 (by decide) (by omega)) (lwp_0 (by decide) (by omega)) (lwp_0 (by decide) (by omega)) (z_get zz_5 ha hb _ (List.mem_of_getElem? (i := 0) rfl) _ (List.mem_of_getElem? (i := 9) rfl)) hn1
      by_cases g3_6 : (xs 3).toInt ≤ 5
      · exact lw_payment C hend hR hc1 hc2 (lwp_0 (by decide) (by omega)) (lwp_0 (by decide) (by omega)) (lwp_0 (by decide) (by omega)) (z_get zz_6 ha hb _ (List.mem_of_getElem? (i := 0) rfl) _ (List.mem_of_getElem? (i := 0) rfl)) hn1
      by_cases g3_7 : (xs 3).toInt ≤ 6
      · exact lw_payment C hend hR hc1 hc2 (lwp_0 (by decide) (by omega)) (lwp_0 (by decide) (by omega)) (lwp_0 (by decide) (by omega)) (z_get zz_6 ha hb _ (List.mem_of_getElem? (i := 0) rfl) _ (List.mem_of_getElem? (i := 1) rfl)) hn1
      by_cases g3_8 : (xs 3).toInt ≤ 7
      · exact lw_payment C hend hR hc1 hc2 (lwp_0 (by decide) (by omega)) (lwp_0 (by decide) (by omega)) (lwp_0 (by decide) (by omega)) (z_get zz_6 ha hb _ (List.mem_of_getElem? (i := 0) rfl) _ (List.mem_of_getElem? (i := 2) rfl)) hn1
      by_cases g3_9 : (xs 3).toInt ≤ 8
      · exact lw_payment C hend hR hc1 hc2 (lwp_0 (by decide) (by omega)) (lwp_0 (by decide) (by omega)) (lwp_0 (by decide) (by omega)) (z_get zz_6 ha hb _ (List.mem_of_getElem? (i := 0) rfl) _ (List.mem_of_getElem? (i := 3) rfl)) hn1
      by_cases g3_10 : (xs 3).toInt ≤ 9
      · exact lw_payment C hend hR hc1 hc2 (lwp_0 (by decide) (by omega)) (lwp_0 (by decide) (by omega)) (lwp_0 (by decide) (by omega)) (z_get zz_6 ha hb _ (List.mem_of_getElem? (i := 0) rfl) _ (List.mem_of_getElem? (i := 4) rfl)) hn1
      by_cases g3_11 : (xs 3).toInt ≤ 10
      · exact lw_payment C hend hR hc1 hc2 (lwp_0 (by decide) (by omega)) (lwp_0 (by decide) (by omega)) (lwp_0 (by decide) (by omega)) (z_get zz_6 ha hb _ (List.mem_of_getElem? (i := 0) rfl) _ (List.mem_of_getElem? (i := 5) rfl)) hn1
      by_cases g3_12 : (xs 3).toInt ≤ 11
      · exact lw_payment C hend hR hc1 hc2 (lwp_0 (by decide) (by omega)) (lwp_0 (by decide) (by omega)) (lwp_0 (by decide) (by omega)) (z_get zz_6 ha hb _ (List.mem_of_getElem? (i := 0) rfl) _ (List.mem_of_getElem? (i := 6) rfl)) hn1
      by_cases g3_13 : (xs 3).toInt ≤ 12
      · exact lw_payment C hend hR hc1 hc2 (lwp_0 (by decide) (by omega)) (lwp_0 (by decide) (by omega)) (lwp_0 (by decide) (by omega)) (z_get zz_6 ha hb _ (List.mem_of_getElem? (i := 0) rfl) _ (List.mem_of_getElem? (i := 7) rfl)) hn1
      exact lw_payment C hend hR hc1 hc2 (lwp_0 (by decide) (by omega)) (lwp_0 (by decide) (by omega)) (lwp_i (by omega) (by omega)) (z_get zz_6 ha hb _ (List.mem_of_getElem? (i := 0) rfl) _ (List.mem_of_getElem? (i := 8) rfl)) hn1
    exact lw_payment C hend hR hc1 hc2 (lwp_0 (by decide) (by omega)) (lwp_i (by omega) (by omega)) (lwp_i (by omega) (by omega)) (z_get zz_5 ha hb _ (List.mem_of_getElem? (i := 0) rfl) _ (List.mem_of_getElem? (i := 3) rfl)) hn1
  exact lw_payment C hend hR hc1 hc2 (lwp_i (by omega) (by omega)) (lwp_i (by omega) (by omega)) (lwp_i (by omega) (by omega)) (z_get zz_5 ha hb _ (List.mem_of_getElem? (i := 0) rfl) _ (List.mem_of_getElem? (i := 1) rfl)) hn1
theorem lwa_filterByte (C : lg_C p s m args meth c D tys A tb b0 6 xs) (hend : ∀ (ls : List mv_V) (n : Nat) (w : mv_T 10) (cells slots : Nat), cells ≤ R.cells → slots ≤ R.slots → lg_G p l e R s m args below meth c D tys A tb Q 957 ls [(0, 1, 0)] n w cells slots) (hR : 13 ≤ R.frames ∧ 560 ≤ R.locals) (hc1 : cells + 1800 ≤ R.cells) (hc2 : slots + 2000000 ≤ R.slots) (ha : z_c = some a) (hb : z_m a = some b) (hn1 : a.2.1 < 1000)  : lg_G p l e R s m args below meth c D tys A tb Q 492 [(6, 7, 0), (2, 0, 0), (2, a.2.1, 0), (0, 0, 0)] [] b.2.1 b.2.2.1 cells slots := by
  have l1 := Int32.le_toInt (xs 1)
  have m1 := Int32.toInt_lt (xs 1)
  have l2 := Int32.le_toInt (xs 2)
  have m2 := Int32.toInt_lt (xs 2)
  by_cases g1_0 : (xs 1).toInt ≤ -1
  · exact lw_filterByte C hend hR hc1 hc2 (lwp_i (by omega) (by omega)) (lwp_i (by omega) (by omega)) (z_get zz_1 ha hb _ (List.mem_of_getElem? (i := 1) rfl) _ (List.mem_of_getElem? (i := 0) rfl)) hn1
  by_cases g1_1 : (xs 1).toInt ≤ 0
  · by_cases g2_0 : (xs 2).toInt ≤ -1
    · exact lw_filterByte C hend hR hc1 hc2 (lwp_0 (by decide) (by omega)) (lwp_i (by omega) (by omega)) (z_get zz_1 ha hb _ (List.mem_of_getElem? (i := 1) rfl) _ (List.mem_of_getElem? (i := 2) rfl)) hn1
    by_cases g2_1 : (xs 2).toInt ≤ 0
    · exact lw_filterByte C hend hR hc1 hc2 (lwp_0 (by decide) (by omega)) (lwp_0 (by decide) (by omega)) (z_get zz_1 ha hb _ (List.mem_of_getElem? (i := 1) rfl) _ (List.mem_of_getElem? (i := 3) rfl)) hn1
    by_cases g2_2 : (xs 2).toInt ≤ 1
    · exact lw_filterByte C hend hR hc1 hc2 (lwp_0 (by decide) (by omega)) (lwp_0 (by decide) (by omega)) (z_get zz_1 ha hb _ (List.mem_of_getElem? (i := 1) rfl) _ (List.mem_of_getElem? (i := 4) rfl)) hn1
    by_cases g2_3 : (xs 2).toInt ≤ 2
    · exact lw_filterByte C hend hR hc1 hc2 (lwp_0 (by decide) (by omega)) (lwp_0 (by decide) (by omega)) (z_get zz_1 ha hb _ (List.mem_of_getElem? (i := 1) rfl) _ (List.mem_of_getElem? (i := 5) rfl)) hn1
    by_cases g2_4 : (xs 2).toInt ≤ 3
    · exact lw_filterByte C hend hR hc1 hc2 (lwp_0 (by decide) (by omega)) (lwp_0 (by decide) (by omega)) (z_get zz_1 ha hb _ (List.mem_of_getElem? (i := 1) rfl) _ (List.mem_of_getElem? (i := 6) rfl)) hn1
    exact lw_filterByte C hend hR hc1 hc2 (lwp_0 (by decide) (by omega)) (lwp_i (by omega) (by omega)) (z_get zz_1 ha hb _ (List.mem_of_getElem? (i := 1) rfl) _ (List.mem_of_getElem? (i := 7) rfl)) hn1
  exact lw_filterByte C hend hR hc1 hc2 (lwp_i (by omega) (by omega)) (lwp_i (by omega) (by omega)) (z_get zz_1 ha hb _ (List.mem_of_getElem? (i := 1) rfl) _ (List.mem_of_getElem? (i := 1) rfl)) hn1
theorem lwa_waiting (C : lg_C p s m args meth c D tys A tb b0 6 xs) (hend : ∀ (ls : List mv_V) (n : Nat) (w : mv_T 10) (cells slots : Nat), cells ≤ R.cells → slots ≤ R.slots → lg_G p l e R s m args below meth c D tys A tb Q 957 ls [(0, 1, 0)] n w cells slots) (hR : 13 ≤ R.frames ∧ 560 ≤ R.locals) (hc1 : cells + 1800 ≤ R.cells) (hc2 : slots + 2000000 ≤ R.slots) (ha : z_c = some a) (hb : z_m a = some b) (hn1 : a.2.1 < 1000)  : lg_G p l e R s m args below meth c D tys A tb Q 525 [(6, 7, 0), (2, 0, 0), (2, a.2.1, 0), (0, 0, 0)] [] b.2.1 b.2.2.1 cells slots := by
  exact lw_waiting C hend hR hc1 hc2  (z_get zz_1 ha hb _ (List.mem_of_getElem? (i := 2) rfl) _ (List.mem_of_getElem? (i := 0) rfl)) hn1
theorem lwa_forget (C : lg_C p s m args meth c D tys A tb b0 6 xs) (hend : ∀ (ls : List mv_V) (n : Nat) (w : mv_T 10) (cells slots : Nat), cells ≤ R.cells → slots ≤ R.slots → lg_G p l e R s m args below meth c D tys A tb Q 957 ls [(0, 1, 0)] n w cells slots) (hR : 13 ≤ R.frames ∧ 560 ≤ R.locals) (hc1 : cells + 1800 ≤ R.cells) (hc2 : slots + 2000000 ≤ R.slots) (ha : z_c = some a) (hb : z_m a = some b) (hn1 : a.2.1 < 1000)  : lg_G p l e R s m args below meth c D tys A tb Q 538 [(6, 7, 0), (2, 0, 0), (2, a.2.1, 0), (0, 0, 0)] [] b.2.1 b.2.2.1 cells slots := by
  exact lw_forget C hend hR hc1 hc2  (z_get zz_1 ha hb _ (List.mem_of_getElem? (i := 3) rfl) _ (List.mem_of_getElem? (i := 0) rfl)) hn1
theorem lwa_give (C : lg_C p s m args meth c D tys A tb b0 6 xs) (hend : ∀ (ls : List mv_V) (n : Nat) (w : mv_T 10) (cells slots : Nat), cells ≤ R.cells → slots ≤ R.slots → lg_G p l e R s m args below meth c D tys A tb Q 957 ls [(0, 1, 0)] n w cells slots) (hR : 13 ≤ R.frames ∧ 560 ≤ R.locals) (hc1 : cells + 1800 ≤ R.cells) (hc2 : slots + 2000000 ≤ R.slots) (ha : z_c = some a) (hb : z_m a = some b) (hn1 : a.2.1 < 1000) (hsp : (xs 1).toInt = 0 → ((xs 2).toInt = 0 ∧ (xs 3).toInt ≤ 104 ∨ (xs 2).toInt = 1 ∧ (xs 3).toInt ≤ 2 ∨ (xs 2).toInt = 2 ∧ (xs 3).toInt ≤ 27) → 0 ≤ (xs 3).toInt → 1 ≤ (xs 4).toInt → (xs 4).toInt ≤ 255 → lg_G p l e R s m args below meth c D tys A tb Q 551 [(6, 7, 0), (2, 0, 0), (2, a.2.1, 0), (0, 0, 0)] [] b.2.1 b.2.2.1 cells slots) : lg_G p l e R s m args below meth c D tys A tb Q 551 [(6, 7, 0), (2, 0, 0), (2, a.2.1, 0), (0, 0, 0)] [] b.2.1 b.2.2.1 cells slots := by
  have l1 := Int32.le_toInt (xs 1)
  have m1 := Int32.toInt_lt (xs 1)
  have l2 := Int32.le_toInt (xs 2)
  have m2 := Int32.toInt_lt (xs 2)
  have l3 := Int32.le_toInt (xs 3)
  have m3 := Int32.toInt_lt (xs 3)
  have l4 := Int32.le_toInt (xs 4)
  have m4 := Int32.toInt_lt (xs 4)
  by_cases g1_0 : (xs 1).toInt ≤ -1
  · exact lw_give C hend hR hc1 hc2 (lwp_i (by omega) (by omega)) (lwp_i (by omega) (by omega)) (lwp_i (by omega) (by omega)) (lwp_i (by omega) (by omega)) (z_get zz_7 ha hb _ (List.mem_of_getElem? (i := 0) rfl) _ (List.mem_of_getElem? (i := 0) rfl)) hn1
  by_cases g1_1 : (xs 1).toInt ≤ 0
  · by_cases g2_0 : (xs 2).toInt ≤ -1
    · exact lw_give C hend hR hc1 hc2 (lwp_0 (by decide) (by omega)) (lwp_i (by omega) (by omega)) (lwp_i (by omega) (by omega)) (lwp_i (by omega) (by omega)) (z_get zz_7 ha hb _ (List.mem_of_getElem? (i := 0) rfl) _ (List.mem_of_getElem? (i := 2) rfl)) hn1
    by_cases g2_1 : (xs 2).toInt ≤ 0
    · by_cases g4_0 : (xs 4).toInt ≤ -1
      · exact lw_give C hend hR hc1 hc2 (lwp_0 (by decide) (by omega)) (lwp_0 (by decide) (by omega)) (lwp_i (by omega) (by omega)) (lwp_i (by omega) (by omega)) (z_get zz_7 ha hb _ (List.mem_of_getElem? (i := 0) rfl) _ (List.mem_of_getElem? (i := 4) rfl)) hn1
      by_cases g4_1 : (xs 4).toInt ≤ 0
      · exact lw_give C hend hR hc1 hc2 (lwp_0 (by decide) (by omega)) (lwp_0 (by decide) (by omega)) (lwp_i (by omega) (by omega)) (lwp_0 (by decide) (by omega)) (z_get zz_7 ha hb _ (List.mem_of_getElem? (i := 0) rfl) _ (List.mem_of_getElem? (i := 5) rfl)) hn1
      by_cases g4_2 : (xs 4).toInt ≤ 255
      · by_cases g3_0 : (xs 3).toInt ≤ -1
        · exact lw_give C hend hR hc1 hc2 (lwp_0 (by decide) (by omega)) (lwp_0 (by decide) (by omega)) (lwp_i (by omega) (by omega)) (lwp_i (by omega) (by omega)) (z_get zz_8 ha hb _ (List.mem_of_getElem? (i := 0) rfl) _ (List.mem_of_getElem? (i := 5) rfl)) hn1
        by_cases g3_1 : (xs 3).toInt ≤ 104
        · exact hsp (by omega) (by omega) (by omega) (by omega) (by omega)
        exact lw_give C hend hR hc1 hc2 (lwp_0 (by decide) (by omega)) (lwp_0 (by decide) (by omega)) (lwp_i (by omega) (by omega)) (lwp_i (by omega) (by omega)) (z_get zz_9 ha hb _ (List.mem_of_getElem? (i := 0) rfl) _ (List.mem_of_getElem? (i := 0) rfl)) hn1
      exact lw_give C hend hR hc1 hc2 (lwp_0 (by decide) (by omega)) (lwp_0 (by decide) (by omega)) (lwp_i (by omega) (by omega)) (lwp_i (by omega) (by omega)) (z_get zz_7 ha hb _ (List.mem_of_getElem? (i := 0) rfl) _ (List.mem_of_getElem? (i := 6) rfl)) hn1
    by_cases g2_2 : (xs 2).toInt ≤ 1
    · by_cases g4_0 : (xs 4).toInt ≤ -1
      · exact lw_give C hend hR hc1 hc2 (lwp_0 (by decide) (by omega)) (lwp_0 (by decide) (by omega)) (lwp_i (by omega) (by omega)) (lwp_i (by omega) (by omega)) (z_get zz_7 ha hb _ (List.mem_of_getElem? (i := 0) rfl) _ (List.mem_of_getElem? (i := 7) rfl)) hn1
      by_cases g4_1 : (xs 4).toInt ≤ 0
      · exact lw_give C hend hR hc1 hc2 (lwp_0 (by decide) (by omega)) (lwp_0 (by decide) (by omega)) (lwp_i (by omega) (by omega)) (lwp_0 (by decide) (by omega)) (z_get zz_8 ha hb _ (List.mem_of_getElem? (i := 0) rfl) _ (List.mem_of_getElem? (i := 0) rfl)) hn1
      by_cases g4_2 : (xs 4).toInt ≤ 255
      · by_cases g3_0 : (xs 3).toInt ≤ -1
        · exact lw_give C hend hR hc1 hc2 (lwp_0 (by decide) (by omega)) (lwp_0 (by decide) (by omega)) (lwp_i (by omega) (by omega)) (lwp_i (by omega) (by omega)) (z_get zz_9 ha hb _ (List.mem_of_getElem? (i := 0) rfl) _ (List.mem_of_getElem? (i := 1) rfl)) hn1
        by_cases g3_1 : (xs 3).toInt ≤ 2
        · exact hsp (by omega) (by omega) (by omega) (by omega) (by omega)
        exact lw_give C hend hR hc1 hc2 (lwp_0 (by decide) (by omega)) (lwp_0 (by decide) (by omega)) (lwp_i (by omega) (by omega)) (lwp_i (by omega) (by omega)) (z_get zz_9 ha hb _ (List.mem_of_getElem? (i := 0) rfl) _ (List.mem_of_getElem? (i := 2) rfl)) hn1
      exact lw_give C hend hR hc1 hc2 (lwp_0 (by decide) (by omega)) (lwp_0 (by decide) (by omega)) (lwp_i (by omega) (by omega)) (lwp_i (by omega) (by omega)) (z_get zz_8 ha hb _ (List.mem_of_getElem? (i := 0) rfl) _ (List.mem_of_getElem? (i := 1) rfl)) hn1
    by_cases g2_3 : (xs 2).toInt ≤ 2
    · by_cases g4_0 : (xs 4).toInt ≤ -1
      · exact lw_give C hend hR hc1 hc2 (lwp_0 (by decide) (by omega)) (lwp_0 (by decide) (by omega)) (lwp_i (by omega) (by omega)) (lwp_i (by omega) (by omega)) (z_get zz_8 ha hb _ (List.mem_of_getElem? (i := 0) rfl) _ (List.mem_of_getElem? (i := 2) rfl)) hn1
      by_cases g4_1 : (xs 4).toInt ≤ 0
      · exact lw_give C hend hR hc1 hc2 (lwp_0 (by decide) (by omega)) (lwp_0 (by decide) (by omega)) (lwp_i (by omega) (by omega)) (lwp_0 (by decide) (by omega)) (z_get zz_8 ha hb _ (List.mem_of_getElem? (i := 0) rfl) _ (List.mem_of_getElem? (i := 3) rfl)) hn1
      by_cases g4_2 : (xs 4).toInt ≤ 255
      · by_cases g3_0 : (xs 3).toInt ≤ -1
        · exact lw_give C hend hR hc1 hc2 (lwp_0 (by decide) (by omega)) (lwp_0 (by decide) (by omega)) (lwp_i (by omega) (by omega)) (lwp_i (by omega) (by omega)) (z_get zz_9 ha hb _ (List.mem_of_getElem? (i := 0) rfl) _ (List.mem_of_getElem? (i := 3) rfl)) hn1
        by_cases g3_1 : (xs 3).toInt ≤ 27
        · exact hsp (by omega) (by omega) (by omega) (by omega) (by omega)
        exact lw_give C hend hR hc1 hc2 (lwp_0 (by decide) (by omega)) (lwp_0 (by decide) (by omega)) (lwp_i (by omega) (by omega)) (lwp_i (by omega) (by omega)) (z_get zz_9 ha hb _ (List.mem_of_getElem? (i := 0) rfl) _ (List.mem_of_getElem? (i := 4) rfl)) hn1
      exact lw_give C hend hR hc1 hc2 (lwp_0 (by decide) (by omega)) (lwp_0 (by decide) (by omega)) (lwp_i (by omega) (by omega)) (lwp_i (by omega) (by omega)) (z_get zz_8 ha hb _ (List.mem_of_getElem? (i := 0) rfl) _ (List.mem_of_getElem? (i := 4) rfl)) hn1
    exact lw_give C hend hR hc1 hc2 (lwp_0 (by decide) (by omega)) (lwp_i (by omega) (by omega)) (lwp_i (by omega) (by omega)) (lwp_i (by omega) (by omega)) (z_get zz_7 ha hb _ (List.mem_of_getElem? (i := 0) rfl) _ (List.mem_of_getElem? (i := 3) rfl)) hn1
  exact lw_give C hend hR hc1 hc2 (lwp_i (by omega) (by omega)) (lwp_i (by omega) (by omega)) (lwp_i (by omega) (by omega)) (lwp_i (by omega) (by omega)) (z_get zz_7 ha hb _ (List.mem_of_getElem? (i := 0) rfl) _ (List.mem_of_getElem? (i := 1) rfl)) hn1
theorem lwa_header (C : lg_C p s m args meth c D tys A tb b0 6 xs) (hend : ∀ (ls : List mv_V) (n : Nat) (w : mv_T 10) (cells slots : Nat), cells ≤ R.cells → slots ≤ R.slots → lg_G p l e R s m args below meth c D tys A tb Q 957 ls [(0, 1, 0)] n w cells slots) (hR : 13 ≤ R.frames ∧ 560 ≤ R.locals) (hc1 : cells + 1800 ≤ R.cells) (hc2 : slots + 2000000 ≤ R.slots) (ha : z_c = some a) (hb : z_m a = some b) (hn1 : a.2.1 < 1000)  : lg_G p l e R s m args below meth c D tys A tb Q 604 [(6, 7, 0), (2, 0, 0), (2, a.2.1, 0), (0, 0, 0)] [] b.2.1 b.2.2.1 cells slots := by
  have l1 := Int32.le_toInt (xs 1)
  have m1 := Int32.toInt_lt (xs 1)
  have l2 := Int32.le_toInt (xs 2)
  have m2 := Int32.toInt_lt (xs 2)
  by_cases g1_0 : (xs 1).toInt ≤ -1
  · exact lw_header C hend hR hc1 hc2 (lwp_i (by omega) (by omega)) (lwp_i (by omega) (by omega)) (z_get zz_10 ha hb _ (List.mem_of_getElem? (i := 0) rfl) _ (List.mem_of_getElem? (i := 0) rfl)) hn1
  by_cases g1_1 : (xs 1).toInt ≤ 0
  · by_cases g2_0 : (xs 2).toInt ≤ -1
    · exact lw_header C hend hR hc1 hc2 (lwp_0 (by decide) (by omega)) (lwp_i (by omega) (by omega)) (z_get zz_10 ha hb _ (List.mem_of_getElem? (i := 0) rfl) _ (List.mem_of_getElem? (i := 2) rfl)) hn1
    by_cases g2_1 : (xs 2).toInt ≤ 0
    · exact lw_header C hend hR hc1 hc2 (lwp_0 (by decide) (by omega)) (lwp_0 (by decide) (by omega)) (z_get zz_10 ha hb _ (List.mem_of_getElem? (i := 0) rfl) _ (List.mem_of_getElem? (i := 3) rfl)) hn1
    by_cases g2_2 : (xs 2).toInt ≤ 1
    · exact lw_header C hend hR hc1 hc2 (lwp_0 (by decide) (by omega)) (lwp_0 (by decide) (by omega)) (z_get zz_10 ha hb _ (List.mem_of_getElem? (i := 0) rfl) _ (List.mem_of_getElem? (i := 4) rfl)) hn1
    by_cases g2_3 : (xs 2).toInt ≤ 2
    · exact lw_header C hend hR hc1 hc2 (lwp_0 (by decide) (by omega)) (lwp_0 (by decide) (by omega)) (z_get zz_10 ha hb _ (List.mem_of_getElem? (i := 0) rfl) _ (List.mem_of_getElem? (i := 5) rfl)) hn1
    by_cases g2_4 : (xs 2).toInt ≤ 3
    · exact lw_header C hend hR hc1 hc2 (lwp_0 (by decide) (by omega)) (lwp_0 (by decide) (by omega)) (z_get zz_10 ha hb _ (List.mem_of_getElem? (i := 0) rfl) _ (List.mem_of_getElem? (i := 6) rfl)) hn1
    by_cases g2_5 : (xs 2).toInt ≤ 4
    · exact lw_header C hend hR hc1 hc2 (lwp_0 (by decide) (by omega)) (lwp_0 (by decide) (by omega)) (z_get zz_10 ha hb _ (List.mem_of_getElem? (i := 0) rfl) _ (List.mem_of_getElem? (i := 7) rfl)) hn1
    by_cases g2_6 : (xs 2).toInt ≤ 5
    · exact lw_header C hend hR hc1 hc2 (lwp_0 (by decide) (by omega)) (lwp_0 (by decide) (by omega)) (z_get zz_10 ha hb _ (List.mem_of_getElem? (i := 0) rfl) _ (List.mem_of_getElem? (i := 8) rfl)) hn1
    by_cases g2_7 : (xs 2).toInt ≤ 6
    · exact lw_header C hend hR hc1 hc2 (lwp_0 (by decide) (by omega)) (lwp_0 (by decide) (by omega)) (z_get zz_10 ha hb _ (List.mem_of_getElem? (i := 0) rfl) _ (List.mem_of_getElem? (i := 9) rfl)) hn1
    by_cases g2_8 : (xs 2).toInt ≤ 7
    · exact lw_header C hend hR hc1 hc2 (lwp_0 (by decide) (by omega)) (lwp_0 (by decide) (by omega)) (z_get zz_11 ha hb _ (List.mem_of_getElem? (i := 0) rfl) _ (List.mem_of_getElem? (i := 0) rfl)) hn1
    by_cases g2_9 : (xs 2).toInt ≤ 8
    · exact lw_header C hend hR hc1 hc2 (lwp_0 (by decide) (by omega)) (lwp_0 (by decide) (by omega)) (z_get zz_11 ha hb _ (List.mem_of_getElem? (i := 0) rfl) _ (List.mem_of_getElem? (i := 1) rfl)) hn1
    by_cases g2_10 : (xs 2).toInt ≤ 9
    · exact lw_header C hend hR hc1 hc2 (lwp_0 (by decide) (by omega)) (lwp_0 (by decide) (by omega)) (z_get zz_11 ha hb _ (List.mem_of_getElem? (i := 0) rfl) _ (List.mem_of_getElem? (i := 2) rfl)) hn1
    by_cases g2_11 : (xs 2).toInt ≤ 10
    · exact lw_header C hend hR hc1 hc2 (lwp_0 (by decide) (by omega)) (lwp_0 (by decide) (by omega)) (z_get zz_11 ha hb _ (List.mem_of_getElem? (i := 0) rfl) _ (List.mem_of_getElem? (i := 3) rfl)) hn1
    by_cases g2_12 : (xs 2).toInt ≤ 11
    · exact lw_header C hend hR hc1 hc2 (lwp_0 (by decide) (by omega)) (lwp_0 (by decide) (by omega)) (z_get zz_11 ha hb _ (List.mem_of_getElem? (i := 0) rfl) _ (List.mem_of_getElem? (i := 4) rfl)) hn1
    by_cases g2_13 : (xs 2).toInt ≤ 12
    · exact lw_header C hend hR hc1 hc2 (lwp_0 (by decide) (by omega)) (lwp_0 (by decide) (by omega)) (z_get zz_11 ha hb _ (List.mem_of_getElem? (i := 0) rfl) _ (List.mem_of_getElem? (i := 5) rfl)) hn1
    by_cases g2_14 : (xs 2).toInt ≤ 13
    · exact lw_header C hend hR hc1 hc2 (lwp_0 (by decide) (by omega)) (lwp_0 (by decide) (by omega)) (z_get zz_11 ha hb _ (List.mem_of_getElem? (i := 0) rfl) _ (List.mem_of_getElem? (i := 6) rfl)) hn1
    exact lw_header C hend hR hc1 hc2 (lwp_0 (by decide) (by omega)) (lwp_i (by omega) (by omega)) (z_get zz_11 ha hb _ (List.mem_of_getElem? (i := 0) rfl) _ (List.mem_of_getElem? (i := 7) rfl)) hn1
  exact lw_header C hend hR hc1 hc2 (lwp_i (by omega) (by omega)) (lwp_i (by omega) (by omega)) (z_get zz_10 ha hb _ (List.mem_of_getElem? (i := 0) rfl) _ (List.mem_of_getElem? (i := 1) rfl)) hn1
theorem lwa_chain (C : lg_C p s m args meth c D tys A tb b0 6 xs) (hend : ∀ (ls : List mv_V) (n : Nat) (w : mv_T 10) (cells slots : Nat), cells ≤ R.cells → slots ≤ R.slots → lg_G p l e R s m args below meth c D tys A tb Q 957 ls [(0, 1, 0)] n w cells slots) (hR : 13 ≤ R.frames ∧ 560 ≤ R.locals) (hc1 : cells + 1800 ≤ R.cells) (hc2 : slots + 2000000 ≤ R.slots) (ha : z_c = some a) (hb : z_m a = some b) (hn1 : a.2.1 < 1000)  : lg_G p l e R s m args below meth c D tys A tb Q 637 [(6, 7, 0), (2, 0, 0), (2, a.2.1, 0), (0, 0, 0)] [] b.2.1 b.2.2.1 cells slots := by
  have l1 := Int32.le_toInt (xs 1)
  have m1 := Int32.toInt_lt (xs 1)
  by_cases g1_0 : (xs 1).toInt ≤ -1
  · exact lw_chain C hend hR hc1 hc2 (lwp_i (by omega) (by omega)) (z_get zz_11 ha hb _ (List.mem_of_getElem? (i := 1) rfl) _ (List.mem_of_getElem? (i := 0) rfl)) hn1
  by_cases g1_1 : (xs 1).toInt ≤ 0
  · exact lw_chain C hend hR hc1 hc2 (lwp_0 (by decide) (by omega)) (z_get zz_11 ha hb _ (List.mem_of_getElem? (i := 1) rfl) _ (List.mem_of_getElem? (i := 1) rfl)) hn1
  by_cases g1_2 : (xs 1).toInt ≤ 1
  · exact lw_chain C hend hR hc1 hc2 (lwp_0 (by decide) (by omega)) (z_get zz_11 ha hb _ (List.mem_of_getElem? (i := 1) rfl) _ (List.mem_of_getElem? (i := 2) rfl)) hn1
  by_cases g1_3 : (xs 1).toInt ≤ 2
  · exact lw_chain C hend hR hc1 hc2 (lwp_0 (by decide) (by omega)) (z_get zz_11 ha hb _ (List.mem_of_getElem? (i := 1) rfl) _ (List.mem_of_getElem? (i := 3) rfl)) hn1
  by_cases g1_4 : (xs 1).toInt ≤ 5
  · exact lw_chain C hend hR hc1 hc2 (lwp_i (by omega) (by omega)) (z_get zz_11 ha hb _ (List.mem_of_getElem? (i := 1) rfl) _ (List.mem_of_getElem? (i := 4) rfl)) hn1
  exact lw_chain C hend hR hc1 hc2 (lwp_i (by omega) (by omega)) (z_get zz_11 ha hb _ (List.mem_of_getElem? (i := 1) rfl) _ (List.mem_of_getElem? (i := 5) rfl)) hn1
theorem lwa_last (C : lg_C p s m args meth c D tys A tb b0 6 xs) (hend : ∀ (ls : List mv_V) (n : Nat) (w : mv_T 10) (cells slots : Nat), cells ≤ R.cells → slots ≤ R.slots → lg_G p l e R s m args below meth c D tys A tb Q 957 ls [(0, 1, 0)] n w cells slots) (hR : 13 ≤ R.frames ∧ 560 ≤ R.locals) (hc1 : cells + 1800 ≤ R.cells) (hc2 : slots + 2000000 ≤ R.slots) (ha : z_c = some a) (hb : z_m a = some b) (hn1 : a.2.1 < 1000)  : lg_G p l e R s m args below meth c D tys A tb Q 660 [(6, 7, 0), (2, 0, 0), (2, a.2.1, 0), (0, 0, 0)] [] b.2.1 b.2.2.1 cells slots := by
  have l1 := Int32.le_toInt (xs 1)
  have m1 := Int32.toInt_lt (xs 1)
  exact lw_last C hend hR hc1 hc2 (lwp_i (by omega) (by omega)) (z_get zz_12 ha hb _ (List.mem_of_getElem? (i := 0) rfl) _ (List.mem_of_getElem? (i := 0) rfl)) hn1
theorem lwa_coin (C : lg_C p s m args meth c D tys A tb b0 6 xs) (hend : ∀ (ls : List mv_V) (n : Nat) (w : mv_T 10) (cells slots : Nat), cells ≤ R.cells → slots ≤ R.slots → lg_G p l e R s m args below meth c D tys A tb Q 957 ls [(0, 1, 0)] n w cells slots) (hR : 13 ≤ R.frames ∧ 560 ≤ R.locals) (hc1 : cells + 1800 ≤ R.cells) (hc2 : slots + 2000000 ≤ R.slots) (ha : z_c = some a) (hb : z_m a = some b) (hn1 : a.2.1 < 1000)  : lg_G p l e R s m args below meth c D tys A tb Q 683 [(6, 7, 0), (2, 0, 0), (2, a.2.1, 0), (0, 0, 0)] [] b.2.1 b.2.2.1 cells slots := by
  have l1 := Int32.le_toInt (xs 1)
  have m1 := Int32.toInt_lt (xs 1)
  have l2 := Int32.le_toInt (xs 2)
  have m2 := Int32.toInt_lt (xs 2)
  exact lw_coin C hend hR hc1 hc2 (lwp_i (by omega) (by omega)) (lwp_i (by omega) (by omega)) (z_get zz_12 ha hb _ (List.mem_of_getElem? (i := 1) rfl) _ (List.mem_of_getElem? (i := 0) rfl)) hn1
theorem lwa_sum (C : lg_C p s m args meth c D tys A tb b0 6 xs) (hend : ∀ (ls : List mv_V) (n : Nat) (w : mv_T 10) (cells slots : Nat), cells ≤ R.cells → slots ≤ R.slots → lg_G p l e R s m args below meth c D tys A tb Q 957 ls [(0, 1, 0)] n w cells slots) (hR : 13 ≤ R.frames ∧ 560 ≤ R.locals) (hc1 : cells + 1800 ≤ R.cells) (hc2 : slots + 2000000 ≤ R.slots) (ha : z_c = some a) (hb : z_m a = some b) (hn1 : a.2.1 < 1000)  : lg_G p l e R s m args below meth c D tys A tb Q 716 [(6, 7, 0), (2, 0, 0), (2, a.2.1, 0), (0, 0, 0)] [] b.2.1 b.2.2.1 cells slots := by
  have l1 := Int32.le_toInt (xs 1)
  have m1 := Int32.toInt_lt (xs 1)
  exact lw_sum C hend hR hc1 hc2 (lwp_i (by omega) (by omega)) (z_get zz_12 ha hb _ (List.mem_of_getElem? (i := 2) rfl) _ (List.mem_of_getElem? (i := 0) rfl)) hn1
theorem lwa_pay (C : lg_C p s m args meth c D tys A tb b0 6 xs) (hend : ∀ (ls : List mv_V) (n : Nat) (w : mv_T 10) (cells slots : Nat), cells ≤ R.cells → slots ≤ R.slots → lg_G p l e R s m args below meth c D tys A tb Q 957 ls [(0, 1, 0)] n w cells slots) (hR : 13 ≤ R.frames ∧ 560 ≤ R.locals) (hc1 : cells + 1800 ≤ R.cells) (hc2 : slots + 2000000 ≤ R.slots) (ha : z_c = some a) (hb : z_m a = some b) (hn1 : a.2.1 < 1000)  : lg_G p l e R s m args below meth c D tys A tb Q 739 [(6, 7, 0), (2, 0, 0), (2, a.2.1, 0), (0, 0, 0)] [] b.2.1 b.2.2.1 cells slots := by
  have l1 := Int32.le_toInt (xs 1)
  have m1 := Int32.toInt_lt (xs 1)
  have l2 := Int32.le_toInt (xs 2)
  have m2 := Int32.toInt_lt (xs 2)
  exact lw_pay C hend hR hc1 hc2 (lwp_i (by omega) (by omega)) (lwp_i (by omega) (by omega)) (z_get zz_12 ha hb _ (List.mem_of_getElem? (i := 3) rfl) _ (List.mem_of_getElem? (i := 0) rfl)) hn1
theorem lwa_draft (C : lg_C p s m args meth c D tys A tb b0 6 xs) (hend : ∀ (ls : List mv_V) (n : Nat) (w : mv_T 10) (cells slots : Nat), cells ≤ R.cells → slots ≤ R.slots → lg_G p l e R s m args below meth c D tys A tb Q 957 ls [(0, 1, 0)] n w cells slots) (hR : 13 ≤ R.frames ∧ 560 ≤ R.locals) (hc1 : cells + 1800 ≤ R.cells) (hc2 : slots + 2000000 ≤ R.slots) (ha : z_c = some a) (hb : z_m a = some b) (hn1 : a.2.1 < 1000)  : lg_G p l e R s m args below meth c D tys A tb Q 772 [(6, 7, 0), (2, 0, 0), (2, a.2.1, 0), (0, 0, 0)] [] b.2.1 b.2.2.1 cells slots := by
  have l1 := Int32.le_toInt (xs 1)
  have m1 := Int32.toInt_lt (xs 1)
  have l2 := Int32.le_toInt (xs 2)
  have m2 := Int32.toInt_lt (xs 2)
  by_cases g1_0 : (xs 1).toInt ≤ -1
  · exact lw_draft C hend hR hc1 hc2 (lwp_i (by omega) (by omega)) (lwp_i (by omega) (by omega)) (z_get zz_12 ha hb _ (List.mem_of_getElem? (i := 4) rfl) _ (List.mem_of_getElem? (i := 0) rfl)) hn1
  exact lw_draft C hend hR hc1 hc2 (lwp_i (by omega) (by omega)) (lwp_i (by omega) (by omega)) (z_get zz_12 ha hb _ (List.mem_of_getElem? (i := 4) rfl) _ (List.mem_of_getElem? (i := 1) rfl)) hn1
theorem lwa_sign (C : lg_C p s m args meth c D tys A tb b0 6 xs) (hend : ∀ (ls : List mv_V) (n : Nat) (w : mv_T 10) (cells slots : Nat), cells ≤ R.cells → slots ≤ R.slots → lg_G p l e R s m args below meth c D tys A tb Q 957 ls [(0, 1, 0)] n w cells slots) (hR : 13 ≤ R.frames ∧ 560 ≤ R.locals) (hc1 : cells + 1800 ≤ R.cells) (hc2 : slots + 2000000 ≤ R.slots) (ha : z_c = some a) (hb : z_m a = some b) (hn1 : a.2.1 < 1000)  : lg_G p l e R s m args below meth c D tys A tb Q 805 [(6, 7, 0), (2, 0, 0), (2, a.2.1, 0), (0, 0, 0)] [] b.2.1 b.2.2.1 cells slots := by
  have l1 := Int32.le_toInt (xs 1)
  have m1 := Int32.toInt_lt (xs 1)
  by_cases g1_0 : (xs 1).toInt ≤ -1
  · exact lw_sign C hend hR hc1 hc2 (lwp_i (by omega) (by omega)) (z_get zz_12 ha hb _ (List.mem_of_getElem? (i := 5) rfl) _ (List.mem_of_getElem? (i := 0) rfl)) hn1
  exact lw_sign C hend hR hc1 hc2 (lwp_i (by omega) (by omega)) (z_get zz_12 ha hb _ (List.mem_of_getElem? (i := 5) rfl) _ (List.mem_of_getElem? (i := 1) rfl)) hn1
theorem lwa_draftByte (C : lg_C p s m args meth c D tys A tb b0 6 xs) (hend : ∀ (ls : List mv_V) (n : Nat) (w : mv_T 10) (cells slots : Nat), cells ≤ R.cells → slots ≤ R.slots → lg_G p l e R s m args below meth c D tys A tb Q 957 ls [(0, 1, 0)] n w cells slots) (hR : 13 ≤ R.frames ∧ 560 ≤ R.locals) (hc1 : cells + 1800 ≤ R.cells) (hc2 : slots + 2000000 ≤ R.slots) (ha : z_c = some a) (hb : z_m a = some b) (hn1 : a.2.1 < 1000)  : lg_G p l e R s m args below meth c D tys A tb Q 828 [(6, 7, 0), (2, 0, 0), (2, a.2.1, 0), (0, 0, 0)] [] b.2.1 b.2.2.1 cells slots := by
  have l1 := Int32.le_toInt (xs 1)
  have m1 := Int32.toInt_lt (xs 1)
  have l2 := Int32.le_toInt (xs 2)
  have m2 := Int32.toInt_lt (xs 2)
  by_cases g1_0 : (xs 1).toInt ≤ -1
  · exact lw_draftByte C hend hR hc1 hc2 (lwp_i (by omega) (by omega)) (lwp_i (by omega) (by omega)) (z_get zz_12 ha hb _ (List.mem_of_getElem? (i := 6) rfl) _ (List.mem_of_getElem? (i := 0) rfl)) hn1
  exact lw_draftByte C hend hR hc1 hc2 (lwp_i (by omega) (by omega)) (lwp_i (by omega) (by omega)) (z_get zz_12 ha hb _ (List.mem_of_getElem? (i := 6) rfl) _ (List.mem_of_getElem? (i := 1) rfl)) hn1
theorem lwa_send (C : lg_C p s m args meth c D tys A tb b0 6 xs) (hend : ∀ (ls : List mv_V) (n : Nat) (w : mv_T 10) (cells slots : Nat), cells ≤ R.cells → slots ≤ R.slots → lg_G p l e R s m args below meth c D tys A tb Q 957 ls [(0, 1, 0)] n w cells slots) (hR : 13 ≤ R.frames ∧ 560 ≤ R.locals) (hc1 : cells + 1800 ≤ R.cells) (hc2 : slots + 2000000 ≤ R.slots) (ha : z_c = some a) (hb : z_m a = some b) (hn1 : a.2.1 < 1000)  : lg_G p l e R s m args below meth c D tys A tb Q 861 [(6, 7, 0), (2, 0, 0), (2, a.2.1, 0), (0, 0, 0)] [] b.2.1 b.2.2.1 cells slots := by
  have l1 := Int32.le_toInt (xs 1)
  have m1 := Int32.toInt_lt (xs 1)
  have l2 := Int32.le_toInt (xs 2)
  have m2 := Int32.toInt_lt (xs 2)
  have l3 := Int32.le_toInt (xs 3)
  have m3 := Int32.toInt_lt (xs 3)
  by_cases g1_0 : (xs 1).toInt ≤ -1
  · exact lw_send C hend hR hc1 hc2 (lwp_i (by omega) (by omega)) (lwp_i (by omega) (by omega)) (lwp_i (by omega) (by omega)) (z_get zz_12 ha hb _ (List.mem_of_getElem? (i := 7) rfl) _ (List.mem_of_getElem? (i := 0) rfl)) hn1
  exact lw_send C hend hR hc1 hc2 (lwp_i (by omega) (by omega)) (lwp_i (by omega) (by omega)) (lwp_i (by omega) (by omega)) (z_get zz_12 ha hb _ (List.mem_of_getElem? (i := 7) rfl) _ (List.mem_of_getElem? (i := 1) rfl)) hn1
theorem lwa_drop (C : lg_C p s m args meth c D tys A tb b0 6 xs) (hend : ∀ (ls : List mv_V) (n : Nat) (w : mv_T 10) (cells slots : Nat), cells ≤ R.cells → slots ≤ R.slots → lg_G p l e R s m args below meth c D tys A tb Q 957 ls [(0, 1, 0)] n w cells slots) (hR : 13 ≤ R.frames ∧ 560 ≤ R.locals) (hc1 : cells + 1800 ≤ R.cells) (hc2 : slots + 2000000 ≤ R.slots) (ha : z_c = some a) (hb : z_m a = some b) (hn1 : a.2.1 < 1000)  : lg_G p l e R s m args below meth c D tys A tb Q 904 [(6, 7, 0), (2, 0, 0), (2, a.2.1, 0), (0, 0, 0)] [] b.2.1 b.2.2.1 cells slots := by
  have l1 := Int32.le_toInt (xs 1)
  have m1 := Int32.toInt_lt (xs 1)
  by_cases g1_0 : (xs 1).toInt ≤ -1
  · exact lw_drop C hend hR hc1 hc2 (lwp_i (by omega) (by omega)) (z_get zz_12 ha hb _ (List.mem_of_getElem? (i := 8) rfl) _ (List.mem_of_getElem? (i := 0) rfl)) hn1
  exact lw_drop C hend hR hc1 hc2 (lwp_i (by omega) (by omega)) (z_get zz_12 ha hb _ (List.mem_of_getElem? (i := 8) rfl) _ (List.mem_of_getElem? (i := 1) rfl)) hn1
theorem lwa_check (C : lg_C p s m args meth c D tys A tb b0 6 xs) (hend : ∀ (ls : List mv_V) (n : Nat) (w : mv_T 10) (cells slots : Nat), cells ≤ R.cells → slots ≤ R.slots → lg_G p l e R s m args below meth c D tys A tb Q 957 ls [(0, 1, 0)] n w cells slots) (hR : 13 ≤ R.frames ∧ 560 ≤ R.locals) (hc1 : cells + 1800 ≤ R.cells) (hc2 : slots + 2000000 ≤ R.slots) (ha : z_c = some a) (hb : z_m a = some b) (hn1 : a.2.1 < 1000)  : lg_G p l e R s m args below meth c D tys A tb Q 927 [(6, 7, 0), (2, 0, 0), (2, a.2.1, 0), (0, 0, 0)] [] b.2.1 b.2.2.1 cells slots := by
  have l1 := Int32.le_toInt (xs 1)
  have m1 := Int32.toInt_lt (xs 1)
  by_cases g1_0 : (xs 1).toInt ≤ -1
  · exact lw_check C hend hR hc1 hc2 (lwp_i (by omega) (by omega)) (z_get zz_12 ha hb _ (List.mem_of_getElem? (i := 9) rfl) _ (List.mem_of_getElem? (i := 0) rfl)) hn1
  exact lw_check C hend hR hc1 hc2 (lwp_i (by omega) (by omega)) (z_get zz_12 ha hb _ (List.mem_of_getElem? (i := 9) rfl) _ (List.mem_of_getElem? (i := 1) rfl)) hn1
end LZ
