/-! A SMALL MACHINE, XII: steps that write cells, and that make them -/
/-- a store into an array x of ints, bytes, longs (q: 1, 2, 4) at i of v: the new cell -/
def mv_as (tl : List FieldType) (q : Nat) (x : mv_C) (i v : mv_V) : Option mv_C := bif Nat.beq (mv_tc tl[x.2.1]?) q && mv_ix i x.2.2.1 then
  (bif Nat.beq q 1 then (bif Nat.beq x.1 1 && Nat.beq v.1 0 then some (1, x.2.1, x.2.2.1, mv_wr 32 x.2.2.2 i.2.1 v.2.1) else none)
   else bif Nat.beq q 2 then (bif Nat.beq x.1 1 && Nat.beq v.1 0 then some (1, x.2.1, x.2.2.1, mv_wr 32 x.2.2.2 i.2.1 (mn_b v.2.1)) else bif (Nat.beq x.1 1 || Nat.beq x.1 4) && mv_isI v then some (4, x.2.1, x.2.2.1, 0) else none)
   else bif Nat.beq q 3 then (bif Nat.beq x.1 1 && (Nat.beq v.1 0 && Nat.blt v.2.1 2) then some (1, x.2.1, x.2.2.1, mv_wr 32 x.2.2.2 i.2.1 v.2.1) else none)
   else bif Nat.beq x.1 2 && mv_isN v then some (2, x.2.1, x.2.2.1, mv_wr 64 x.2.2.2 i.2.1 v.2.1) else none) else none
/-- an object v into an array x of its class; cn: the names of the classes -/
def mv_aq (tl : List FieldType) (cn : List String) (x y : mv_C) (i : mv_V) (d : Nat) : Option mv_C := bif Nat.beq x.1 3 && (Nat.beq y.1 0 && mv_ix i x.2.2.1) then (match tl[x.2.1]?, cn[y.2.1]? with
  | some (.object C), some C' => bif decide (C = C') then some (3, x.2.1, x.2.2.1, mv_wr 32 x.2.2.2 i.2.1 (d + 1)) else none
  | _, _ => none) else none
noncomputable def mv_wk (fl : Nat → Nat × Nat × Nat) (fty : Nat → Nat → FieldType) (ffin : Nat → Nat → Bool) (ini : Bool) (tl : List FieldType) (cn : List String) (i : Instr) (S : List mv_V) (w : mv_T 10) : Option (Nat × List mv_V × mv_T 10) := match i, S with
  | .putfield j, v :: x :: S => bif Nat.beq x.1 2 then (mv_pf (fl j) (fty (fl j).2.1 (fl j).2.2) (ffin (fl j).2.1 (fl j).2.2) ini (mv_get 10 w x.2.1) v).map (fun y => (3, S, mv_set 10 w x.2.1 y)) else none
  | .iastore, v :: i :: x :: S => bif Nat.beq x.1 2 then (mv_as tl 1 (mv_get 10 w x.2.1) i v).map (fun y => (1, S, mv_set 10 w x.2.1 y)) else none
  | .bastore, v :: i :: x :: S => bif Nat.beq x.1 2 then (bif Nat.beq (mv_tc tl[(mv_get 10 w x.2.1).2.1]?) 3 then (mv_as tl 3 (mv_get 10 w x.2.1) i v).map (fun y => (1, S, mv_set 10 w x.2.1 y)) else (mv_as tl 2 (mv_get 10 w x.2.1) i v).map (fun y => (1, S, mv_set 10 w x.2.1 y))) else none
  | .lastore, v :: i :: x :: S => bif Nat.beq x.1 2 then (mv_as tl 4 (mv_get 10 w x.2.1) i v).map (fun y => (1, S, mv_set 10 w x.2.1 y)) else none
  | .aastore, v :: i :: x :: S => bif Nat.beq x.1 2 && Nat.beq v.1 2 then (mv_aq tl cn (mv_get 10 w x.2.1) (mv_get 10 w v.2.1) i v.2.1).map (fun y => (1, S, mv_set 10 w x.2.1 y)) else none
  | _, _ => none
section MG
variable {p : Program} {l : Launch} {e : Env} {R : Room} {s : State} {m : MethodId} {args : Array Value} {below : List Frame} {meth : Method} {c : Code} {D : va_G} {cl : List vw_C} {tys : List (ClassId × FieldType)} {A : Nat → Prop} {tb : Nat → Nat} {nL : Nat} {Q : State → Prop} {n0 : Nat} {ad0 : Nat → Nat} {cc : ByteArray} {pc L : Nat} {S S' : List mv_V} {n : Nat} {w : mv_T 10} {cells slots : Nat}
variable {tl : List FieldType} {cn : List String} {Ts : List Cond} {own : String} {fty : Nat → Nat → FieldType} {ffin : Nat → Nat → Bool} {fl : Nat → Nat × Nat × Nat}
theorem mg_as (hx : p.tables.exec = Jvm.exec) (hb : c.code = cc) (hK : va_K D cl tys s) (htl : tys.map Prod.snd = tl) {a b q : Nat} {i v : mv_V} {y : mv_C} {ins : Instr} (hq : (q = 1 ∧ ins = .iastore) ∨ (q = 2 ∧ ins = .bastore) ∨ (q = 3 ∧ ins = .bastore) ∨ (q = 4 ∧ ins = .lastore)) (hdg : decode cc pc = .ok (ins, 1)) (h : mv_as tl q (mv_get 10 w a) i v = some y) (k : mv_G p l e R s m args below meth c D cl tys A tb nL Q n0 ad0 (pc + 1) L S n (mv_set 10 w a y) cells slots) : mv_G p l e R s m args below meth c D cl tys A tb nL Q n0 ad0 pc L (v :: i :: (2, a, b) :: S) n w cells slots := by
  unfold mv_as at h
  obtain ⟨h1, h2⟩ := mv_bif2 h
  simp only [Bool.and_eq_true, Nat.beq_eq] at h1
  have ht := mv_tc_spec htl (mv_get 10 w a).2.1
  rcases hq with ⟨rfl, rfl⟩ | ⟨rfl, rfl⟩ | ⟨rfl, rfl⟩ | ⟨rfl, rfl⟩
  · simp only [show Nat.beq 1 1 = true from rfl, cond_true] at h2
    obtain ⟨h3, h4⟩ := mv_bif h2
    simp only [Bool.and_eq_true] at h3
    subst h4
    exact mg_iast hx hb hK hdg (by rw [← Nat.eq_of_beq_eq_true h3.1]) (by rw [ht]; exact mv_tc1 h1.1) h1.2 h3.2 k
  · simp only [show Nat.beq 2 1 = false from rfl, show Nat.beq 2 2 = true from rfl, cond_true, cond_false] at h2
    cases h3 : (Nat.beq (mv_get 10 w a).1 1 && Nat.beq v.1 0) with
    | true =>
      rw [h3] at h2
      simp only [cond_true, Option.some.injEq] at h2
      simp only [Bool.and_eq_true] at h3
      subst h2
      exact mg_bast hx hb hK hdg (by rw [← Nat.eq_of_beq_eq_true h3.1]) (by rw [ht]; exact mv_tc2 h1.1) h1.2 h3.2 k
    | false =>
      rw [h3] at h2
      simp only [cond_false] at h2
      obtain ⟨h4, h5⟩ := mv_bif h2
      simp only [Bool.and_eq_true, Bool.or_eq_true, Nat.beq_eq] at h4
      subst h5
      exact mg_bast4 hx hb hK hdg (t := (mv_get 10 w a).2.1) (q := (mv_get 10 w a).2.2.1) (pk := (mv_get 10 w a).2.2.2) (kd := (mv_get 10 w a).1) rfl h4.1 (by rw [ht]; exact mv_tc2 h1.1) h1.2 h4.2 k
  · simp only [show Nat.beq 3 1 = false from rfl, show Nat.beq 3 2 = false from rfl, show Nat.beq 3 3 = true from rfl, cond_false, cond_true] at h2
    obtain ⟨h3, h4⟩ := mv_bif h2
    simp only [Bool.and_eq_true, Nat.blt_eq] at h3
    subst h4
    exact mg_zast hx hb hK hdg (by rw [← Nat.eq_of_beq_eq_true h3.1]) (by rw [ht]; exact mv_tc3 h1.1) h1.2 h3.2.1 h3.2.2 k
  · simp only [show Nat.beq 4 1 = false from rfl, show Nat.beq 4 2 = false from rfl, show Nat.beq 4 3 = false from rfl, cond_false] at h2
    obtain ⟨h3, h4⟩ := mv_bif h2
    simp only [Bool.and_eq_true] at h3
    subst h4
    exact mg_last hx hb hK hdg (by rw [← Nat.eq_of_beq_eq_true h3.1]) (by rw [ht]; exact mv_tc4 h1.1) h1.2 h3.2 k
theorem mg_aq (hx : p.tables.exec = Jvm.exec) (hb : c.code = cc) (hK : va_K D cl tys s) (htl : tys.map Prod.snd = tl) (hcn : cl.map (fun q => q.1) = cn) {a b d b2 : Nat} {i : mv_V} {y : mv_C} (hdg : decode cc pc = .ok (.aastore, 1)) (h : mv_aq tl cn (mv_get 10 w a) (mv_get 10 w d) i d = some y) (k : mv_G p l e R s m args below meth c D cl tys A tb nL Q n0 ad0 (pc + 1) L S n (mv_set 10 w a y) cells slots) : mv_G p l e R s m args below meth c D cl tys A tb nL Q n0 ad0 pc L ((2, d, b2) :: i :: (2, a, b) :: S) n w cells slots := by
  unfold mv_aq at h
  obtain ⟨h1, h2⟩ := mv_bif2 h
  simp only [Bool.and_eq_true] at h1
  have ht := mv_tc_spec htl (mv_get 10 w a).2.1
  split at h2
  · rename_i C C' e1 e2
    obtain ⟨h3, h4⟩ := mv_bif h2
    simp only [decide_eq_true_eq] at h3
    subst h3
    subst h4
    rw [← hcn, List.getElem?_map] at e2
    obtain ⟨r, hr, hrC⟩ := mv_mp e2
    exact mg_aast hx hb hK hdg (by rw [← Nat.eq_of_beq_eq_true h1.1]) (by rw [ht, e1, ← hrC]) hr (ci := (mv_get 10 w d).2.1) (nf := (mv_get 10 w d).2.2.1) (pf := (mv_get 10 w d).2.2.2) (by rw [← Nat.eq_of_beq_eq_true h1.2.1]) h1.2.2 k
  · cases h2
theorem mg_wk (hx : p.tables.exec = Jvm.exec) (hb : c.code = cc) (hts : ∀ w ∈ Ts, w.before args s = true) (hown : s.vm.findClass own = some m.cls) (hK : va_K D cl tys s) (htl : tys.map Prod.snd = tl) (hcn : cl.map (fun q => q.1) = cn) {ini : Bool} (hini : ini = true → meth.name = "<init>") (hf : ∀ j, 1 ≤ (fl j).1 → mv_flok s args cl Ts own fty ffin (fl j) j) {w' : mv_T 10} {i : Instr} {len : Nat} (hdg : decode cc pc = .ok (i, len)) (h : mv_wk fl fty ffin ini tl cn i S w = some (len, S', w')) (k : mv_G p l e R s m args below meth c D cl tys A tb nL Q n0 ad0 (pc + len) L S' n w' cells slots) : mv_G p l e R s m args below meth c D cl tys A tb nL Q n0 ad0 pc L S n w cells slots := by
  unfold mv_wk at h
  split at h
  · obtain ⟨h1, h2⟩ := mv_bif2 h
    obtain ⟨y, h3, h4⟩ := mv_mp h2
    cases h4
    rw [mv_ref h1]
    exact mg_pf hx hb hts hown hK hini (hf _) hdg h3 k
  · obtain ⟨h1, h2⟩ := mv_bif2 h
    obtain ⟨y, h3, h4⟩ := mv_mp h2
    cases h4
    rw [mv_ref h1]
    exact mg_as hx hb hK htl (Or.inl ⟨rfl, rfl⟩) hdg h3 k
  · rename_i v0 i0 x0 S0
    obtain ⟨h1, h2⟩ := mv_bif2 h
    cases h5 : Nat.beq (mv_tc tl[(mv_get 10 w x0.2.1).2.1]?) 3 with
    | true =>
      rw [h5] at h2
      simp only [cond_true] at h2
      obtain ⟨y, h3, h4⟩ := mv_mp h2
      cases h4
      rw [mv_ref h1]
      exact mg_as hx hb hK htl (Or.inr (Or.inr (Or.inl ⟨rfl, rfl⟩))) hdg h3 k
    | false =>
      rw [h5] at h2
      simp only [cond_false] at h2
      obtain ⟨y, h3, h4⟩ := mv_mp h2
      cases h4
      rw [mv_ref h1]
      exact mg_as hx hb hK htl (Or.inr (Or.inl ⟨rfl, rfl⟩)) hdg h3 k
  · obtain ⟨h1, h2⟩ := mv_bif2 h
    obtain ⟨y, h3, h4⟩ := mv_mp h2
    cases h4
    rw [mv_ref h1]
    exact mg_as hx hb hK htl (Or.inr (Or.inr (Or.inr ⟨rfl, rfl⟩))) hdg h3 k
  · obtain ⟨h1, h2⟩ := mv_bif2 h
    obtain ⟨y, h3, h4⟩ := mv_mp h2
    cases h4
    simp only [Bool.and_eq_true] at h1
    rw [mv_ref h1.1, mv_ref h1.2]
    exact mg_aq hx hb hK htl hcn hdg h3 k
  · cases h
end MG
/-- new cells: nl tells of an entry (class + 1, fields), dpk a class's first fields, al (type + 1), sl (table + 1); answers the length, the stack, the new cell or none, slots -/
def mv_ak (nl : Nat → Nat × Nat) (dpk : Nat → Nat) (al sl : Nat → Nat) (i : Instr) (S : List mv_V) (n : Nat) : Option (Nat × List mv_V × Option mv_C × Nat) := match i, S with
  | .new j, S => bif Nat.blt 0 (nl j).1 && Nat.blt n 1024 then some (3, (2, n, 0) :: S, some (0, (nl j).1 - 1, (nl j).2, dpk ((nl j).1 - 1)), (nl j).2) else none
  | .newarray .int, x :: S => bif mv_ln x && Nat.blt n 1024 then some (2, (2, n, 0) :: S, some (1, 0, x.2.1, 0), x.2.1) else none
  | .newarray .byte, x :: S => bif mv_ln x && Nat.blt n 1024 then some (2, (2, n, 0) :: S, some (1, 1, x.2.1, 0), x.2.1) else none
  | .newarray .boolean, x :: S => bif mv_ln x && Nat.blt n 1024 then some (2, (2, n, 0) :: S, some (1, 2, x.2.1, 0), x.2.1) else none
  | .newarray .long, x :: S => bif mv_ln x && Nat.blt n 1024 then some (2, (2, n, 0) :: S, some (2, 3, x.2.1, 0), x.2.1) else none
  | .anewarray j, x :: S => bif (mv_ln x && Nat.blt n 1024) && Nat.blt 0 (al j) then some (3, (2, n, 0) :: S, some (3, al j - 1, x.2.1, 0), x.2.1) else none
  | .getstatic j, S => bif Nat.blt 0 (sl j) then some (3, (6, sl j - 1, 0) :: S, none, 0) else none
  | _, _ => none
def mv_n1 (n : Nat) : Option mv_C → Nat
  | some _ => n + 1
  | none => n
noncomputable def mv_w1 (n : Nat) (w : mv_T 10) : Option mv_C → mv_T 10
  | some x => mv_set 10 w n x
  | none => w
def mv_k1 : Option mv_C → Nat
  | some _ => 1
  | none => 0
section MG
variable {p : Program} {l : Launch} {e : Env} {R : Room} {s : State} {m : MethodId} {args : Array Value} {below : List Frame} {meth : Method} {c : Code} {D : va_G} {cl : List vw_C} {tys : List (ClassId × FieldType)} {A : Nat → Prop} {tb : Nat → Nat} {nL : Nat} {Q : State → Prop} {n0 : Nat} {ad0 : Nat → Nat} {cc : ByteArray} {pc L : Nat} {S S' : List mv_V} {n : Nat} {w : mv_T 10} {cells slots : Nat}
variable {Ts : List Cond} {own : String} {fty : Nat → Nat → FieldType} {tl : List FieldType} {nl : Nat → Nat × Nat} {dpk al sl : Nat → Nat} {zs : List (String × String × String)}
/-- what the entries for new cells mean -/
def mv_nlok (s : State) (args : Array Value) (cl : List vw_C) (Ts : List Cond) (own : String) (fty : Nat → Nat → FieldType) (dpk : Nat → Nat) (q : Nat × Nat) (idx : Nat) : Prop := ∃ (C : String) (T : u_T), cl[q.1 - 1]? = some (C, T, q.2) ∧ (∀ x ∈ u_ws C T q.2, x ∈ Ts) ∧ (∀ k, k < q.2 → parseFieldDescriptor (T k).2.2.1 = some (fty (q.1 - 1) k)) ∧ (Cond.classLink own idx C).before args s = true ∧ (Cond.instantiable C q.2).before args s = true ∧ (Cond.initialized C).before args s = true ∧ ∀ j, j < q.2 → mv_dec (mv_rd 136 (dpk (q.1 - 1)) j) = mv_df (fty (q.1 - 1) j) ∧ mv_dfok (fty (q.1 - 1) j) = true
set_option maxHeartbeats 4000000 in
theorem mg_ak (hx : p.tables.exec = Jvm.exec) (hb : c.code = cc) (hts : ∀ w ∈ Ts, w.before args s = true) (hown : s.vm.findClass own = some m.cls) (hK : va_K D cl tys s) (hA : ∀ q, s.heap.size ≤ q → A q) (htl : tys.map Prod.snd = tl) (ht4 : tl[0]? = some .int ∧ tl[1]? = some .byte ∧ tl[2]? = some .boolean ∧ tl[3]? = some .long) (harr : ∀ ty : FieldType, ty = .int ∨ ty = .byte ∨ ty = .boolean ∨ ty = .long → (Cond.arrayClass ty).before args s = true)
    (hnl : ∀ j, 0 < (nl j).1 → mv_nlok s args cl Ts own fty dpk (nl j) j) (hal : ∀ j, 0 < al j → ∃ C, tl[al j - 1]? = some (.object C) ∧ (Cond.classLink own j C).before args s = true ∧ va_AO C s) (hsl : ∀ j, 0 < sl j → ∃ C fn fd, va_Z C fn fd (.ref (tb (sl j - 1))) A s s.heap ∧ ((Cond.fieldLink own j C fn fd).before args s = true ∨ ∃ host, (Cond.fieldLinkNest own j C fn fd host).before args s = true))
    {i : Instr} {len d : Nat} {x : Option mv_C} (hdg : decode cc pc = .ok (i, len)) (h : mv_ak nl dpk al sl i S n = some (len, S', x, d)) (hcells : cells + mv_k1 x ≤ R.cells) (hslots : slots + d ≤ R.slots) (k : mv_G p l e R s m args below meth c D cl tys A tb nL Q n0 ad0 (pc + len) L S' (mv_n1 n x) (mv_w1 n w x) (cells + mv_k1 x) (slots + d)) : mv_G p l e R s m args below meth c D cl tys A tb nL Q n0 ad0 pc L S n w cells slots := by
  have ht := fun t => mv_tc_spec htl t
  unfold mv_ak at h
  split at h
  · obtain ⟨h1, h2⟩ := mv_bif h
    cases h2
    simp only [Bool.and_eq_true, Nat.blt_eq] at h1
    obtain ⟨C, T, g1, g2, g3, g4, g5, g6, g7⟩ := hnl _ h1.1
    exact mg_new hx hb hts g2 (fty _) g3 hown g4 g5 g6 hK hA g1 g7 hdg h1.2 hcells hslots k
  · obtain ⟨h1, h2⟩ := mv_bif h
    cases h2
    simp only [Bool.and_eq_true, Nat.blt_eq] at h1
    exact mg_newi hx hb hK hA (harr _ (Or.inl rfl)) hdg (by rw [ht 0]; exact ht4.1) h1.1 h1.2 hcells hslots k
  · obtain ⟨h1, h2⟩ := mv_bif h
    cases h2
    simp only [Bool.and_eq_true, Nat.blt_eq] at h1
    exact mg_newb hx hb hK hA (harr _ (Or.inr (Or.inl rfl))) hdg (by rw [ht 1]; exact ht4.2.1) h1.1 h1.2 hcells hslots k
  · obtain ⟨h1, h2⟩ := mv_bif h
    cases h2
    simp only [Bool.and_eq_true, Nat.blt_eq] at h1
    exact mg_newz hx hb hK hA (harr _ (Or.inr (Or.inr (Or.inl rfl)))) hdg (by rw [ht 2]; exact ht4.2.2.1) h1.1 h1.2 hcells hslots k
  · obtain ⟨h1, h2⟩ := mv_bif h
    cases h2
    simp only [Bool.and_eq_true, Nat.blt_eq] at h1
    exact mg_newl hx hb hK hA (harr _ (Or.inr (Or.inr (Or.inr rfl)))) hdg (by rw [ht 3]; exact ht4.2.2.2) h1.1 h1.2 hcells hslots k
  · obtain ⟨h1, h2⟩ := mv_bif h
    cases h2
    simp only [Bool.and_eq_true, Nat.blt_eq] at h1
    obtain ⟨C, g1, g2, g3⟩ := hal _ h1.2
    exact mg_newq hx hb hown g2 g3 hK hA hdg (by rw [ht]; exact g1) h1.1.1 h1.1.2 hcells hslots k
  · obtain ⟨h1, h2⟩ := mv_bif h
    cases h2
    simp only [Nat.blt_eq] at h1
    obtain ⟨C, fn, fd, g1, g2⟩ := hsl _ h1
    rcases g2 with g2 | ⟨host, g2⟩
    · exact mg_gets (ref := "") hx hb hown g1 g2 hdg k
    · exact mg_getsN hx hb hown g1 g2 hdg k
  · cases h
end MG
