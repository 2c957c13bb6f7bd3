/-! A SMALL MACHINE, XI: steps on cells; fl: an entry of the pool names (1 or 2 for a nest mate, class, field) -/
def mv_gf (f : Nat × Nat × Nat) (x : mv_C) : Option mv_V := bif Nat.beq x.1 0 && (Nat.beq x.2.1 f.2.1 && (Nat.blt f.2.2 x.2.2.1 && Nat.ble 1 f.1)) then some (mv_dec (mv_rd 136 x.2.2.2 f.2.2)) else none
def mv_pf (f : Nat × Nat × Nat) (ft : FieldType) (fin ini : Bool) (x : mv_C) (v : mv_V) : Option mv_C := bif (Nat.beq x.1 0 && (Nat.beq x.2.1 f.2.1 && (Nat.blt f.2.2 x.2.2.1 && Nat.ble 1 f.1))) && (mv_ok v && (mv_fit ft v && (!fin || (ini && Nat.beq f.1 1)))) then some (0, x.2.1, x.2.2.1, mv_wr 136 x.2.2.2 f.2.2 (mv_enc v)) else none
/-- a number for an array's type -/
def mv_tc : Option FieldType → Nat
  | some .int => 1
  | some .byte => 2
  | some .boolean => 3
  | some .long => 4
  | some (.object _) => 5
  | _ => 0
def mv_al (tl : List FieldType) (q : Nat) (x : mv_C) (i : mv_V) : Option mv_V := bif Nat.beq (mv_tc tl[x.2.1]?) q && mv_ix i x.2.2.1 then (bif Nat.ble q 3 then (bif Nat.beq x.1 1 then some (0, mv_rd 32 x.2.2.2 i.2.1, 0) else bif Nat.beq x.1 4 then some (4, 0, 4294967295) else bif Nat.beq x.1 5 && Nat.beq q 1 then some (mv_p5 (mv_rd 32 x.2.2.2 (2 * i.2.1)) (mv_rd 32 x.2.2.2 (2 * i.2.1 + 1))) else none) else bif Nat.beq q 4 then (bif Nat.beq x.1 2 then some (1, mv_rd 64 x.2.2.2 i.2.1, 0) else none) else bif Nat.beq x.1 3 then some (bif Nat.beq (mv_rd 32 x.2.2.2 i.2.1) 0 then (3, 0, 0) else (2, mv_rd 32 x.2.2.2 i.2.1 - 1, 0)) else none) else none
/-- fields and loads from arrays: the length, the stack, behind it -/
noncomputable def mv_hk (fl : Nat → Nat × Nat × Nat) (tl : List FieldType) (i : Instr) (S : List mv_V) (w : mv_T 10) : Option (Nat × List mv_V) := match i, S with
  | .getfield j, x :: S => bif Nat.beq x.1 2 then (mv_gf (fl j) (mv_get 10 w x.2.1)).map (fun v => (3, v :: S)) else none
  | .iaload, i :: x :: S => bif Nat.beq x.1 2 then (mv_al tl 1 (mv_get 10 w x.2.1) i).map (fun v => (1, v :: S)) else none
  | .baload, i :: x :: S => bif Nat.beq x.1 2 then (bif Nat.beq (mv_tc tl[(mv_get 10 w x.2.1).2.1]?) 2 then (mv_al tl 2 (mv_get 10 w x.2.1) i).map (fun v => (1, v :: S)) else (mv_al tl 3 (mv_get 10 w x.2.1) i).map (fun v => (1, v :: S))) else none
  | .laload, i :: x :: S => bif Nat.beq x.1 2 then (mv_al tl 4 (mv_get 10 w x.2.1) i).map (fun v => (1, v :: S)) else none
  | .aaload, i :: x :: S => bif Nat.beq x.1 2 then (mv_al tl 5 (mv_get 10 w x.2.1) i).map (fun v => (1, v :: S)) else none
  | .arraylength, x :: S => bif Nat.beq x.1 2 && (Nat.blt 0 (mv_get 10 w x.2.1).1 && Nat.ble (mv_get 10 w x.2.1).1 5) then some (1, (0, (mv_get 10 w x.2.1).2.2.1, 0) :: S) else none
  | _, _ => none
/-- what an entry of the pool means, for class 'own' -/
def mv_flok (s : State) (args : Array Value) (cl : List vw_C) (Ts : List Cond) (own : String) (fty : Nat → Nat → FieldType) (ffin : Nat → Nat → Bool) (f : Nat × Nat × Nat) (idx : Nat) : Prop := ∃ (C : String) (T : u_T) (N : Nat), cl[f.2.1]? = some (C, T, N) ∧ f.2.2 < N ∧ (∀ x ∈ u_ws C T N, x ∈ Ts) ∧ (∀ k, k < N → parseFieldDescriptor (T k).2.2.1 = some (fty f.2.1 k)) ∧ (∀ a, a < N → ∀ b, b < N → a ≠ b → (T a).2.1 ≠ (T b).2.1) ∧ (T f.2.2).2.2.2 = ffin f.2.1 f.2.2 ∧
  ((f.1 = 1 ∧ (Cond.fieldLink own idx (T f.2.2).1 (T f.2.2).2.1 (T f.2.2).2.2.1).before args s = true ∧ (ffin f.2.1 f.2.2 = true → (T f.2.2).1 = own)) ∨ (f.1 = 2 ∧ ∃ host, (Cond.fieldLinkNest own idx (T f.2.2).1 (T f.2.2).2.1 (T f.2.2).2.2.1 host).before args s = true))
theorem mv_ref {x : mv_V} (h : Nat.beq x.1 2 = true) : x = (2, x.2.1, x.2.2) := by
  obtain ⟨k, a, b⟩ := x
  simp only [Nat.beq_eq] at h
  subst h
  rfl
theorem mv_tc_spec {tl : List FieldType} {tys : List (ClassId × FieldType)} (htl : tys.map Prod.snd = tl) (t : Nat) : (tys[t]?).map Prod.snd = tl[t]? := by rw [← htl, List.getElem?_map]
theorem mv_tc1 {o : Option FieldType} (h : mv_tc o = 1) : o = some .int := by unfold mv_tc at h; split at h <;> first | rfl | (simp at h; done)
theorem mv_tc2 {o : Option FieldType} (h : mv_tc o = 2) : o = some .byte := by unfold mv_tc at h; split at h <;> first | rfl | (simp at h; done)
theorem mv_tc3 {o : Option FieldType} (h : mv_tc o = 3) : o = some .boolean := by unfold mv_tc at h; split at h <;> first | rfl | (simp at h; done)
theorem mv_tc4 {o : Option FieldType} (h : mv_tc o = 4) : o = some .long := by unfold mv_tc at h; split at h <;> first | rfl | (simp at h; done)
theorem mv_tc5 {o : Option FieldType} (h : mv_tc o = 5) : ∃ C, o = some (.object C) := by unfold mv_tc at h; split at h <;> first | exact ⟨_, rfl⟩ | (simp at h; done)
section MG
variable {p : Program} {l : Launch} {e : Env} {R : Room} {s : State} {m : MethodId} {args : Array Value} {below : List Frame} {meth : Method} {c : Code} {D : va_G} {cl : List vw_C} {tys : List (ClassId × FieldType)} {A : Nat → Prop} {tb : Nat → Nat} {nL : Nat} {Q : State → Prop} {n0 : Nat} {ad0 : Nat → Nat} {cc : ByteArray} {pc L : Nat} {S S' : List mv_V} {n : Nat} {w : mv_T 10} {cells slots : Nat}
variable {tl : List FieldType} {Ts : List Cond} {own : String} {fty : Nat → Nat → FieldType} {ffin : Nat → Nat → Bool} {fl : Nat → Nat × Nat × Nat}
theorem mg_gf (hx : p.tables.exec = Jvm.exec) (hb : c.code = cc) (hts : ∀ w ∈ Ts, w.before args s = true) (hown : s.vm.findClass own = some m.cls) (hK : va_K D cl tys s) {idx : Nat} {f : Nat × Nat × Nat} (hf : 1 ≤ f.1 → mv_flok s args cl Ts own fty ffin f idx) (hdg : decode cc pc = .ok (.getfield idx, 3)) {a b : Nat} {v : mv_V} (h : mv_gf f (mv_get 10 w a) = some v) (k : mv_G p l e R s m args below meth c D cl tys A tb nL Q n0 ad0 (pc + 3) L (v :: S) n w cells slots) : mv_G p l e R s m args below meth c D cl tys A tb nL Q n0 ad0 pc L ((2, a, b) :: S) n w cells slots := by
  unfold mv_gf at h
  obtain ⟨h1, h2⟩ := mv_bif h
  subst h2
  simp only [Bool.and_eq_true, Nat.beq_eq, Nat.blt_eq, Nat.ble_eq] at h1
  obtain ⟨C, T, N, g1, g2, g3, g4, g5, g6, g7⟩ := hf h1.2.2.2
  have hc : mv_get 10 w a = (0, f.2.1, (mv_get 10 w a).2.2.1, (mv_get 10 w a).2.2.2) := by rw [← h1.1, ← h1.2.1]
  rcases g7 with ⟨-, g8, -⟩ | ⟨-, host, g8⟩
  · exact mg_get hx hb hts g3 hown hK g1 f.2.2 g2 g8 hdg hc h1.2.2.1 k
  · exact mg_getN hx hb hts g3 hown hK g1 f.2.2 g2 g8 hdg hc h1.2.2.1 k
theorem mg_pf (hx : p.tables.exec = Jvm.exec) (hb : c.code = cc) (hts : ∀ w ∈ Ts, w.before args s = true) (hown : s.vm.findClass own = some m.cls) (hK : va_K D cl tys s) {idx : Nat} {f : Nat × Nat × Nat} {ini : Bool} (hini : ini = true → meth.name = "<init>") (hf : 1 ≤ f.1 → mv_flok s args cl Ts own fty ffin f idx) (hdg : decode cc pc = .ok (.putfield idx, 3)) {a b : Nat} {v : mv_V} {x : mv_C} (h : mv_pf f (fty f.2.1 f.2.2) (ffin f.2.1 f.2.2) ini (mv_get 10 w a) v = some x) (k : mv_G p l e R s m args below meth c D cl tys A tb nL Q n0 ad0 (pc + 3) L S n (mv_set 10 w a x) cells slots) : mv_G p l e R s m args below meth c D cl tys A tb nL Q n0 ad0 pc L (v :: (2, a, b) :: S) n w cells slots := by
  unfold mv_pf at h
  obtain ⟨h1, h2⟩ := mv_bif h
  subst h2
  simp only [Bool.and_eq_true, Nat.beq_eq, Nat.blt_eq, Nat.ble_eq, Bool.or_eq_true, Bool.not_eq_true'] at h1
  obtain ⟨⟨e1, e2, e3, e4⟩, e5, e6, e7⟩ := h1
  obtain ⟨C, T, N, g1, g2, g3, g4, g5, g6, g7⟩ := hf e4
  have hc : mv_get 10 w a = (0, f.2.1, (mv_get 10 w a).2.2.1, (mv_get 10 w a).2.2.2) := by rw [← e1, ← e2]
  have k1 : mv_G p l e R s m args below meth c D cl tys A tb nL Q n0 ad0 (pc + 3) L S n (mv_set 10 w a (0, f.2.1, (mv_get 10 w a).2.2.1, mv_wr 136 (mv_get 10 w a).2.2.2 f.2.2 (mv_enc v))) cells slots := by rw [← e2]; exact k
  rcases g7 with ⟨q1, g8, g9⟩ | ⟨q1, host, g8⟩
  · rcases e7 with e7 | ⟨e7, e8⟩
    · exact mg_put hx hb hts g3 hown hK g1 f.2.2 g2 (fty f.2.1) g4 g5 g8 (by rw [g6]; exact e7) hdg e5 e6 hc e3 k1
    · cases hfin : ffin f.2.1 f.2.2 with
      | false => exact mg_put hx hb hts g3 hown hK g1 f.2.2 g2 (fty f.2.1) g4 g5 g8 (by rw [g6]; exact hfin) hdg e5 e6 hc e3 k1
      | true => exact mg_putF hx hb hts g3 hown hK g1 f.2.2 g2 (fty f.2.1) g4 g5 g8 (by rw [g6]; exact hfin) (hini e7) (g9 hfin) hdg e5 e6 hc e3 k1
  · rcases e7 with e7 | ⟨e7, e8⟩
    · exact mg_putN hx hb hts g3 hown hK g1 f.2.2 g2 (fty f.2.1) g4 g5 g8 (by rw [g6]; exact e7) hdg e5 e6 hc e3 k1
    · omega
theorem mg_al (hx : p.tables.exec = Jvm.exec) (hb : c.code = cc) (hK : va_K D cl tys s) (htl : tys.map Prod.snd = tl) {a b q : Nat} {i v : mv_V} {ins : Instr} (hq : (q = 1 ∧ ins = .iaload) ∨ (q = 2 ∧ ins = .baload) ∨ (q = 3 ∧ ins = .baload) ∨ (q = 4 ∧ ins = .laload) ∨ (q = 5 ∧ ins = .aaload)) (hdg : decode cc pc = .ok (ins, 1)) (h : mv_al tl q (mv_get 10 w a) i = some v) (k : mv_G p l e R s m args below meth c D cl tys A tb nL Q n0 ad0 (pc + 1) L (v :: S) n w cells slots) : mv_G p l e R s m args below meth c D cl tys A tb nL Q n0 ad0 pc L (i :: (2, a, b) :: S) n w cells slots := by
  unfold mv_al at h
  obtain ⟨h1, h2⟩ := mv_bif2 h
  simp only [Bool.and_eq_true, Nat.beq_eq] at h1
  have ht := mv_tc_spec htl (mv_get 10 w a).2.1
  have hc : mv_get 10 w a = ((mv_get 10 w a).1, (mv_get 10 w a).2.1, (mv_get 10 w a).2.2.1, (mv_get 10 w a).2.2.2) := rfl
  rcases hq with ⟨rfl, rfl⟩ | ⟨rfl, rfl⟩ | ⟨rfl, rfl⟩ | ⟨rfl, rfl⟩ | ⟨rfl, rfl⟩
  · simp only [show Nat.ble 1 3 = true from rfl, cond_true] at h2
    cases h3 : Nat.beq (mv_get 10 w a).1 1 with
    | true =>
      rw [h3] at h2
      simp only [cond_true, Option.some.injEq] at h2
      simp only [Nat.beq_eq] at h3
      subst h2
      exact mg_iald hx hb hK hdg (by rw [← h3]) (by rw [ht]; exact mv_tc1 h1.1) h1.2 k
    | false =>
      rw [h3] at h2
      simp only [cond_false] at h2
      cases h4 : Nat.beq (mv_get 10 w a).1 4 with
      | true =>
        rw [h4] at h2
        simp only [cond_true, Option.some.injEq] at h2
        simp only [Nat.beq_eq] at h4
        subst h2
        exact mg_iald4 hx hb hK hdg (by rw [← h4]) (by rw [ht]; exact mv_tc1 h1.1) h1.2 k
      | false =>
        rw [h4] at h2
        simp only [cond_false] at h2
        obtain ⟨h5, h6⟩ := mv_bif h2
        simp only [Bool.and_eq_true] at h5
        subst h6
        exact mg_iald5 hx hb hK hdg (by rw [← Nat.eq_of_beq_eq_true h5.1]) (by rw [ht]; exact mv_tc1 h1.1) h1.2 k
  · simp only [show Nat.ble 2 3 = true from rfl, cond_true] at h2
    cases h3 : Nat.beq (mv_get 10 w a).1 1 with
    | true =>
      rw [h3] at h2
      simp only [cond_true, Option.some.injEq] at h2
      simp only [Nat.beq_eq] at h3
      subst h2
      exact mg_bald hx hb hK hdg (by rw [← h3]) (by rw [ht]; exact mv_tc2 h1.1) h1.2 k
    | false =>
      rw [h3] at h2
      simp only [cond_false] at h2
      cases h4 : Nat.beq (mv_get 10 w a).1 4 with
      | true =>
        rw [h4] at h2
        simp only [cond_true, Option.some.injEq] at h2
        simp only [Nat.beq_eq] at h4
        subst h2
        exact mg_bald4 hx hb hK hdg (by rw [← h4]) (by rw [ht]; exact mv_tc2 h1.1) h1.2 k
      | false =>
        rw [h4] at h2
        simp only [cond_false] at h2
        obtain ⟨h5, h6⟩ := mv_bif h2
        simp only [Bool.and_eq_true] at h5
        exact absurd h5.2 (by decide)
  · simp only [show Nat.ble 3 3 = true from rfl, cond_true] at h2
    cases h3 : Nat.beq (mv_get 10 w a).1 1 with
    | true =>
      rw [h3] at h2
      simp only [cond_true, Option.some.injEq] at h2
      simp only [Nat.beq_eq] at h3
      subst h2
      exact mg_zald hx hb hK hdg (by rw [← h3]) (by rw [ht]; exact mv_tc3 h1.1) h1.2 k
    | false =>
      rw [h3] at h2
      simp only [cond_false] at h2
      cases h4 : Nat.beq (mv_get 10 w a).1 4 with
      | true =>
        rw [h4] at h2
        simp only [cond_true, Option.some.injEq] at h2
        simp only [Nat.beq_eq] at h4
        subst h2
        exact mg_zald4 hx hb hK hdg (by rw [← h4]) (by rw [ht]; exact mv_tc3 h1.1) h1.2 k
      | false =>
        rw [h4] at h2
        simp only [cond_false] at h2
        obtain ⟨h5, h6⟩ := mv_bif h2
        simp only [Bool.and_eq_true] at h5
        exact absurd h5.2 (by decide)
  · simp only [show Nat.ble 4 3 = false from rfl, show Nat.beq 4 4 = true from rfl, cond_true, cond_false] at h2
    obtain ⟨h4, h5⟩ := mv_bif h2
    simp only [Nat.beq_eq] at h4
    subst h5
    exact mg_lald hx hb hK hdg (by rw [← h4]) (by rw [ht]; exact mv_tc4 h1.1) h1.2 k
  · simp only [show Nat.ble 5 3 = false from rfl, show Nat.beq 5 4 = false from rfl, cond_false] at h2
    obtain ⟨h4, h5⟩ := mv_bif h2
    simp only [Nat.beq_eq] at h4
    subst h5
    obtain ⟨C, hC⟩ := mv_tc5 h1.1
    exact mg_aald hx hb hK hdg (by rw [← h4]) (by rw [ht]; exact hC) h1.2 k
theorem mg_hk (hx : p.tables.exec = Jvm.exec) (hb : c.code = cc) (hts : ∀ w ∈ Ts, w.before args s = true) (hown : s.vm.findClass own = some m.cls) (hK : va_K D cl tys s) (htl : tys.map Prod.snd = tl) (hf : ∀ j, 1 ≤ (fl j).1 → mv_flok s args cl Ts own fty ffin (fl j) j) {i : Instr} {len : Nat} (hdg : decode cc pc = .ok (i, len)) (h : mv_hk fl tl i S w = some (len, S')) (k : mv_G p l e R s m args below meth c D cl tys A tb nL Q n0 ad0 (pc + len) L S' n w cells slots) : mv_G p l e R s m args below meth c D cl tys A tb nL Q n0 ad0 pc L S n w cells slots := by
  unfold mv_hk at h
  split at h
  · obtain ⟨h1, h2⟩ := mv_bif2 h
    obtain ⟨v, h3, h4⟩ := mv_mp h2
    cases h4
    rw [mv_ref h1]
    exact mg_gf hx hb hts hown hK (hf _) hdg h3 k
  · obtain ⟨h1, h2⟩ := mv_bif2 h
    obtain ⟨v, h3, h4⟩ := mv_mp h2
    cases h4
    rw [mv_ref h1]
    exact mg_al hx hb hK htl (Or.inl ⟨rfl, rfl⟩) hdg h3 k
  · rename_i i0 x S0
    obtain ⟨h1, h2⟩ := mv_bif2 h
    cases h5 : Nat.beq (mv_tc tl[(mv_get 10 w x.2.1).2.1]?) 2 with
    | true =>
      rw [h5] at h2
      simp only [cond_true] at h2
      obtain ⟨v, h3, h4⟩ := mv_mp h2
      cases h4
      rw [mv_ref h1]
      exact mg_al hx hb hK htl (Or.inr (Or.inl ⟨rfl, rfl⟩)) hdg h3 k
    | false =>
      rw [h5] at h2
      simp only [cond_false] at h2
      obtain ⟨v, h3, h4⟩ := mv_mp h2
      cases h4
      rw [mv_ref h1]
      exact mg_al hx hb hK htl (Or.inr (Or.inr (Or.inl ⟨rfl, rfl⟩))) hdg h3 k
  · obtain ⟨h1, h2⟩ := mv_bif2 h
    obtain ⟨v, h3, h4⟩ := mv_mp h2
    cases h4
    rw [mv_ref h1]
    exact mg_al hx hb hK htl (Or.inr (Or.inr (Or.inr (Or.inl ⟨rfl, rfl⟩)))) hdg h3 k
  · obtain ⟨h1, h2⟩ := mv_bif2 h
    obtain ⟨v, h3, h4⟩ := mv_mp h2
    cases h4
    rw [mv_ref h1]
    exact mg_al hx hb hK htl (Or.inr (Or.inr (Or.inr (Or.inr ⟨rfl, rfl⟩)))) hdg h3 k
  · rename_i x S0
    obtain ⟨h1, h2⟩ := mv_bif h
    cases h2
    simp only [Bool.and_eq_true, Nat.blt_eq, Nat.ble_eq] at h1
    rw [mv_ref h1.1]
    exact mg_alen hx hb hK hdg (a := x.2.1) (t := (mv_get 10 w x.2.1).2.1) (pk := (mv_get 10 w x.2.1).2.2.2) (kd := (mv_get 10 w x.2.1).1) rfl (by omega) k
  · cases h
end MG
