/-! A SMALL MACHINE, VIII: new cells -/
theorem mv_tyK {s : State} {D : va_G} {cl : List vw_C} {tys : List (ClassId × FieldType)} {cA cB : ClassId} {ty : FieldType} (h : va_K D cl (tys ++ [(cB, ty)]) s) {t : Nat} (ht : tys[t]? = some (cA, ty)) : cB = cA := by
  have hl : t < tys.length := (List.getElem?_eq_some_iff.mp ht).1
  have h1 := (h.2 t (cA, ty) (by rw [List.getElem?_append_left hl]; exact ht)).2
  have h2 := (h.2 tys.length (cB, ty) (by rw [List.getElem?_append_right (Nat.le_refl _), Nat.sub_self]; rfl)).2
  cases ty with
  | object C =>
    obtain ⟨_, _, _, _, _, e1⟩ := h1
    obtain ⟨_, _, _, _, _, e2⟩ := h2
    exact Option.some.inj (e2.symm.trans e1)
  | _ => exact Option.some.inj (h2.symm.trans h1)
theorem mv_nIz (j : Nat) : nI (mv_rd 32 0 j) = 0 := by rw [mv_rd_zero]; exact nI_0
theorem mv_lNz (j : Nat) : lN (mv_rd 64 0 j) = 0 := by rw [mv_rd_zero]; rfl
/-- a length -/
def mv_ln (x : mv_V) : Bool := Nat.beq x.1 0 && Nat.ble x.2.1 1000000
theorem mv_ln_ok {n : Nat} {ad tb : Nat → Nat} {x : mv_V} {v : Value} (h : mv_r n ad tb x v) (hl : mv_ln x = true) : v = .int (nI x.2.1) ∧ ¬ nI x.2.1 < 0 ∧ (nI x.2.1).toNatClampNeg = x.2.1 ∧ x.2.1 ≤ 1000000 := by
  unfold mv_ln at hl
  simp only [Bool.and_eq_true, Nat.ble_eq] at hl
  exact ⟨mv_k0 h hl.1, nI_pos (by omega), nI_clamp (by omega), hl.2⟩
/-- what a field of this type holds at first -/
def mv_df (ty : FieldType) : mv_V := match ty with
  | .long => (1, 0, 0)
  | .object _ => (3, 0, 0)
  | .array _ => (3, 0, 0)
  | _ => (0, 0, 0)
def mv_dfok (ty : FieldType) : Bool := match ty with
  | .float => false
  | .double => false
  | _ => true
theorem mv_df_ok {n : Nat} {ad tb : Nat → Nat} {ty : FieldType} (h : mv_dfok ty = true) : mv_r n ad tb (mv_df ty) (defaultValue ty) := by
  cases ty <;> first | exact rfl | cases h
section MG
variable {p : Program} {l : Launch} {e : Env} {R : Room} {s : State} {m : MethodId} {args : Array Value} {below : List Frame} {meth : Method} {c : Code} {D : va_G} {cl : List vw_C} {tys : List (ClassId × FieldType)} {A : Nat → Prop} {tb : Nat → Nat} {nL : Nat} {Q : State → Prop} {n0 : Nat} {ad0 : Nat → Nat} {cc : ByteArray} {pc L : Nat} {S S' : List mv_V} {n : Nat} {w : mv_T 10} {cells slots : Nat}
theorem mg_newi (hx : p.tables.exec = Jvm.exec) (hb : c.code = cc) (hK : va_K D cl tys s) (hA : ∀ q, s.heap.size ≤ q → A q) (harr : (Cond.arrayClass .int).before args s = true) (hdg : decode cc pc = .ok (.newarray .int, 2)) {t : Nat} {x : mv_V} (hty : (tys[t]?).map Prod.snd = some .int) (hl : mv_ln x = true) (hnn : n < 1024) (hcells : cells + 1 ≤ R.cells) (hslots : slots + x.2.1 ≤ R.slots) (k : mv_G p l e R s m args below meth c D cl tys A tb nL Q n0 ad0 (pc + 2) L ((2, n, 0) :: S) (n + 1) (mv_set 10 w n (1, t, x.2.1, 0)) (cells + 1) (slots + x.2.1)) : mv_G p l e R s m args below meth c D cl tys A tb nL Q n0 ad0 pc L (x :: S) n w cells slots := by
  intro ad ws H locs ls vs hn h0 hW hP hD hS hL hV
  obtain ⟨vx, vs1, rfl, hxx, hV1⟩ := hV.cons
  obtain ⟨rfl, g1, g2, g3⟩ := mv_ln_ok hxx hl
  cases ht : tys[t]? with
  | none => rw [ht] at hty; cases hty
  | some ct =>
    obtain ⟨cA, ty⟩ := ct
    rw [ht] at hty
    cases hty
    refine va_newa (atype := .int) (ty := .int) (a0 := (x.2.1, .inl (fun j => nI (mv_rd 32 0 j)))) hx hb harr rfl hK hP hD hS hA (fun cB => ?_) g1 g2 ?_ hcells hslots hdg (fun q cB H1 hK1 hP1 hD1 hS1 => ?_)
    · show arrV cB x.2.1 (fun j => Value.int (nI (mv_rd 32 0 j))) = arrV cB x.2.1 (fun _ => defaultValue .int)
      refine congrArg (arrV cB x.2.1) (funext fun j => ?_)
      rw [mv_nIz]
      rfl
    · show x.2.1 * 4 ≤ 536870912
      omega
    · have e1 := mv_tyK hK1 ht
      subst e1
      refine k (mv_ad ad n q) _ H1 locs ls _ (by omega) (fun j hj => by rw [mv_ad_old (by omega)]; exact h0 j hj) (hW.push hnn ⟨_, _, ht, rfl⟩) hP1 hD1 hS1 (hL.mono (Nat.le_succ n) (fun j hj => mv_ad_old hj)) ⟨⟨Nat.lt_succ_self n, ?_⟩, hV1.mono (Nat.le_succ n) (fun j hj => mv_ad_old hj)⟩
      show Value.ref q = Value.ref (mv_ad ad n q n)
      unfold mv_ad
      rw [if_pos rfl]
theorem mg_newb (hx : p.tables.exec = Jvm.exec) (hb : c.code = cc) (hK : va_K D cl tys s) (hA : ∀ q, s.heap.size ≤ q → A q) (harr : (Cond.arrayClass .byte).before args s = true) (hdg : decode cc pc = .ok (.newarray .byte, 2)) {t : Nat} {x : mv_V} (hty : (tys[t]?).map Prod.snd = some .byte) (hl : mv_ln x = true) (hnn : n < 1024) (hcells : cells + 1 ≤ R.cells) (hslots : slots + x.2.1 ≤ R.slots) (k : mv_G p l e R s m args below meth c D cl tys A tb nL Q n0 ad0 (pc + 2) L ((2, n, 0) :: S) (n + 1) (mv_set 10 w n (1, t, x.2.1, 0)) (cells + 1) (slots + x.2.1)) : mv_G p l e R s m args below meth c D cl tys A tb nL Q n0 ad0 pc L (x :: S) n w cells slots := by
  intro ad ws H locs ls vs hn h0 hW hP hD hS hL hV
  obtain ⟨vx, vs1, rfl, hxx, hV1⟩ := hV.cons
  obtain ⟨rfl, g1, g2, g3⟩ := mv_ln_ok hxx hl
  cases ht : tys[t]? with
  | none => rw [ht] at hty; cases hty
  | some ct =>
    obtain ⟨cA, ty⟩ := ct
    rw [ht] at hty
    cases hty
    refine va_newa (atype := .byte) (ty := .byte) (a0 := (x.2.1, .inl (fun j => nI (mv_rd 32 0 j)))) hx hb harr rfl hK hP hD hS hA (fun cB => ?_) g1 g2 ?_ hcells hslots hdg (fun q cB H1 hK1 hP1 hD1 hS1 => ?_)
    · show arrV cB x.2.1 (fun j => Value.int (nI (mv_rd 32 0 j))) = arrV cB x.2.1 (fun _ => defaultValue .byte)
      refine congrArg (arrV cB x.2.1) (funext fun j => ?_)
      rw [mv_nIz]
      rfl
    · show x.2.1 * 1 ≤ 536870912
      omega
    · have e1 := mv_tyK hK1 ht
      subst e1
      refine k (mv_ad ad n q) _ H1 locs ls _ (by omega) (fun j hj => by rw [mv_ad_old (by omega)]; exact h0 j hj) (hW.push hnn ⟨_, _, ht, rfl⟩) hP1 hD1 hS1 (hL.mono (Nat.le_succ n) (fun j hj => mv_ad_old hj)) ⟨⟨Nat.lt_succ_self n, ?_⟩, hV1.mono (Nat.le_succ n) (fun j hj => mv_ad_old hj)⟩
      show Value.ref q = Value.ref (mv_ad ad n q n)
      unfold mv_ad
      rw [if_pos rfl]
theorem mg_newz (hx : p.tables.exec = Jvm.exec) (hb : c.code = cc) (hK : va_K D cl tys s) (hA : ∀ q, s.heap.size ≤ q → A q) (harr : (Cond.arrayClass .boolean).before args s = true) (hdg : decode cc pc = .ok (.newarray .boolean, 2)) {t : Nat} {x : mv_V} (hty : (tys[t]?).map Prod.snd = some .boolean) (hl : mv_ln x = true) (hnn : n < 1024) (hcells : cells + 1 ≤ R.cells) (hslots : slots + x.2.1 ≤ R.slots) (k : mv_G p l e R s m args below meth c D cl tys A tb nL Q n0 ad0 (pc + 2) L ((2, n, 0) :: S) (n + 1) (mv_set 10 w n (1, t, x.2.1, 0)) (cells + 1) (slots + x.2.1)) : mv_G p l e R s m args below meth c D cl tys A tb nL Q n0 ad0 pc L (x :: S) n w cells slots := by
  intro ad ws H locs ls vs hn h0 hW hP hD hS hL hV
  obtain ⟨vx, vs1, rfl, hxx, hV1⟩ := hV.cons
  obtain ⟨rfl, g1, g2, g3⟩ := mv_ln_ok hxx hl
  cases ht : tys[t]? with
  | none => rw [ht] at hty; cases hty
  | some ct =>
    obtain ⟨cA, ty⟩ := ct
    rw [ht] at hty
    cases hty
    refine va_newa (atype := .boolean) (ty := .boolean) (a0 := (x.2.1, .inl (fun j => nI (mv_rd 32 0 j)))) hx hb harr rfl hK hP hD hS hA (fun cB => ?_) g1 g2 ?_ hcells hslots hdg (fun q cB H1 hK1 hP1 hD1 hS1 => ?_)
    · show arrV cB x.2.1 (fun j => Value.int (nI (mv_rd 32 0 j))) = arrV cB x.2.1 (fun _ => defaultValue .boolean)
      refine congrArg (arrV cB x.2.1) (funext fun j => ?_)
      rw [mv_nIz]
      rfl
    · show x.2.1 * 1 ≤ 536870912
      omega
    · have e1 := mv_tyK hK1 ht
      subst e1
      refine k (mv_ad ad n q) _ H1 locs ls _ (by omega) (fun j hj => by rw [mv_ad_old (by omega)]; exact h0 j hj) (hW.push hnn ⟨_, _, ht, rfl⟩) hP1 hD1 hS1 (hL.mono (Nat.le_succ n) (fun j hj => mv_ad_old hj)) ⟨⟨Nat.lt_succ_self n, ?_⟩, hV1.mono (Nat.le_succ n) (fun j hj => mv_ad_old hj)⟩
      show Value.ref q = Value.ref (mv_ad ad n q n)
      unfold mv_ad
      rw [if_pos rfl]
theorem mg_newl (hx : p.tables.exec = Jvm.exec) (hb : c.code = cc) (hK : va_K D cl tys s) (hA : ∀ q, s.heap.size ≤ q → A q) (harr : (Cond.arrayClass .long).before args s = true) (hdg : decode cc pc = .ok (.newarray .long, 2)) {t : Nat} {x : mv_V} (hty : (tys[t]?).map Prod.snd = some .long) (hl : mv_ln x = true) (hnn : n < 1024) (hcells : cells + 1 ≤ R.cells) (hslots : slots + x.2.1 ≤ R.slots) (k : mv_G p l e R s m args below meth c D cl tys A tb nL Q n0 ad0 (pc + 2) L ((2, n, 0) :: S) (n + 1) (mv_set 10 w n (2, t, x.2.1, 0)) (cells + 1) (slots + x.2.1)) : mv_G p l e R s m args below meth c D cl tys A tb nL Q n0 ad0 pc L (x :: S) n w cells slots := by
  intro ad ws H locs ls vs hn h0 hW hP hD hS hL hV
  obtain ⟨vx, vs1, rfl, hxx, hV1⟩ := hV.cons
  obtain ⟨rfl, g1, g2, g3⟩ := mv_ln_ok hxx hl
  cases ht : tys[t]? with
  | none => rw [ht] at hty; cases hty
  | some ct =>
    obtain ⟨cA, ty⟩ := ct
    rw [ht] at hty
    cases hty
    refine va_newa (atype := .long) (ty := .long) (a0 := (x.2.1, .inr (.inl (fun j => lN (mv_rd 64 0 j))))) hx hb harr rfl hK hP hD hS hA (fun cB => ?_) g1 g2 ?_ hcells hslots hdg (fun q cB H1 hK1 hP1 hD1 hS1 => ?_)
    · show arrV cB x.2.1 (fun j => Value.long (lN (mv_rd 64 0 j))) = arrV cB x.2.1 (fun _ => defaultValue .long)
      refine congrArg (arrV cB x.2.1) (funext fun j => ?_)
      rw [mv_lNz]
      rfl
    · show x.2.1 * 8 ≤ 536870912
      omega
    · have e1 := mv_tyK hK1 ht
      subst e1
      refine k (mv_ad ad n q) _ H1 locs ls _ (by omega) (fun j hj => by rw [mv_ad_old (by omega)]; exact h0 j hj) (hW.push hnn ⟨_, _, ht, rfl⟩) hP1 hD1 hS1 (hL.mono (Nat.le_succ n) (fun j hj => mv_ad_old hj)) ⟨⟨Nat.lt_succ_self n, ?_⟩, hV1.mono (Nat.le_succ n) (fun j hj => mv_ad_old hj)⟩
      show Value.ref q = Value.ref (mv_ad ad n q n)
      unfold mv_ad
      rw [if_pos rfl]
theorem mg_new (hx : p.tables.exec = Jvm.exec) (hb : c.code = cc) {own C : String} {T : u_T} {N ci idx pk : Nat} {Ts : List Cond} (hts : ∀ w ∈ Ts, w.before args s = true) (hin : ∀ w ∈ u_ws C T N, w ∈ Ts) (ty0 : Nat → FieldType) (hty : ∀ k, k < N → parseFieldDescriptor (T k).2.2.1 = some (ty0 k)) (hown : s.vm.findClass own = some m.cls) (hcl : (Cond.classLink own idx C).before args s = true) (hinst : (Cond.instantiable C N).before args s = true) (hini : (Cond.initialized C).before args s = true) (hK : va_K D cl tys s) (hA : ∀ q, s.heap.size ≤ q → A q) (hc : cl[ci]? = some (C, T, N)) (hpk : ∀ j, j < N → mv_dec (mv_rd 136 pk j) = mv_df (ty0 j) ∧ mv_dfok (ty0 j) = true) (hdg : decode cc pc = .ok (.new idx, 3)) (hnn : n < 1024) (hcells : cells + 1 ≤ R.cells) (hslots : slots + N ≤ R.slots) (k : mv_G p l e R s m args below meth c D cl tys A tb nL Q n0 ad0 (pc + 3) L ((2, n, 0) :: S) (n + 1) (mv_set 10 w n (0, ci, N, pk)) (cells + 1) (slots + N)) : mv_G p l e R s m args below meth c D cl tys A tb nL Q n0 ad0 pc L S n w cells slots := by
  intro ad ws H locs ls vs hn h0 hW hP hD hS hL hV
  refine va_new (fs := (List.range N).map (fun j => defaultValue (ty0 j))) hx hb hts hin ty0 hty hown hcl hinst hini hK hP hD hS hA hc ?_ hcells hslots hdg (fun q H1 hP1 hD1 hS1 => ?_)
  · intro j hj
    unfold vp_V
    simp [hj]
  · refine k (mv_ad ad n q) _ H1 locs ls _ (by omega) (fun j hj => by rw [mv_ad_old (by omega)]; exact h0 j hj) (hW.push hnn ⟨_, rfl, by simp, ?_⟩) hP1 hD1 hS1 (hL.mono (Nat.le_succ n) (fun j hj => mv_ad_old hj)) ⟨⟨Nat.lt_succ_self n, ?_⟩, hV.mono (Nat.le_succ n) (fun j hj => mv_ad_old hj)⟩
    · intro j v hv
      have hj : j < N := by
        have := (List.getElem?_eq_some_iff.mp hv).1
        simpa using this
      simp only [List.getElem?_map, List.getElem?_range hj, Option.map_some, Option.some.injEq] at hv
      subst hv
      dsimp only
      rw [(hpk j hj).1]
      exact mv_df_ok (hpk j hj).2
    · show Value.ref q = Value.ref (mv_ad ad n q n)
      unfold mv_ad
      rw [if_pos rfl]
theorem mg_newq (hx : p.tables.exec = Jvm.exec) (hb : c.code = cc) {own C : String} {idx : Nat} (hown : s.vm.findClass own = some m.cls) (hcl : (Cond.classLink own idx C).before args s = true) (hover : va_AO C s) (hK : va_K D cl tys s) (hA : ∀ q, s.heap.size ≤ q → A q) (hdg : decode cc pc = .ok (.anewarray idx, 3)) {t : Nat} {x : mv_V} (hty : (tys[t]?).map Prod.snd = some (.object C)) (hl : mv_ln x = true) (hnn : n < 1024) (hcells : cells + 1 ≤ R.cells) (hslots : slots + x.2.1 ≤ R.slots) (k : mv_G p l e R s m args below meth c D cl tys A tb nL Q n0 ad0 (pc + 3) L ((2, n, 0) :: S) (n + 1) (mv_set 10 w n (3, t, x.2.1, 0)) (cells + 1) (slots + x.2.1)) : mv_G p l e R s m args below meth c D cl tys A tb nL Q n0 ad0 pc L (x :: S) n w cells slots := by
  intro ad ws H locs ls vs hn h0 hW hP hD hS hL hV
  obtain ⟨vx, vs1, rfl, hxx, hV1⟩ := hV.cons
  obtain ⟨rfl, g1, g2, g3⟩ := mv_ln_ok hxx hl
  cases ht : tys[t]? with
  | none => rw [ht] at hty; cases hty
  | some ct =>
    obtain ⟨cA, ty⟩ := ct
    rw [ht] at hty
    cases hty
    refine va_newq hx hb hown hcl hover hK hP hD hS hA g1 g2 (by omega) hcells hslots hdg (fun q cB H1 hK1 hP1 hD1 hS1 => ?_)
    have e1 := mv_tyK hK1 ht
    subst e1
    refine k (mv_ad ad n q) _ H1 locs ls _ (by omega) (fun j hj => by rw [mv_ad_old (by omega)]; exact h0 j hj) (hW.push hnn ⟨⟨_, _, ht, ?_⟩, fun j => ?_⟩) hP1 hD1 hS1 (hL.mono (Nat.le_succ n) (fun j hj => mv_ad_old hj)) ⟨⟨Nat.lt_succ_self n, ?_⟩, hV1.mono (Nat.le_succ n) (fun j hj => mv_ad_old hj)⟩
    · refine congrArg (fun f => Sum.inl (cB, x.2.1, Sum.inr (Sum.inr (Sum.inr (Sum.inr f))))) (funext fun j => ?_)
      rw [mv_rd_zero, if_pos rfl]
    · show mv_rd 32 0 j ≤ n + 1
      rw [mv_rd_zero]
      omega
    · show Value.ref q = Value.ref (mv_ad ad n q n)
      unfold mv_ad
      rw [if_pos rfl]
theorem mg_objInit (hx : p.tables.exec = Jvm.exec) (hb : c.code = cc) {own : String} {idx : Nat} (hown : s.vm.findClass own = some m.cls) (hml : c.maxLocals = nL) (hlink : (Cond.methodLink own idx Lib.objectInit).before args s = true) (hinst : (Cond.instanceMethod Lib.objectInit).before args s = true) (hcode : (Cond.code Lib.objectInit ⟨#[0xb1]⟩ 1 none).before args s = true) (hdg : decode cc pc = .ok (.invokespecial idx, 3)) {a b : Nat} (hS0 : S = []) (hframes : 1 ≤ R.frames) (hlocals : 12 ≤ R.locals) (k : mv_G p l e R s m args below meth c D cl tys A tb nL Q n0 ad0 (pc + 3) L S n w cells slots) : mv_G p l e R s m args below meth c D cl tys A tb nL Q n0 ad0 pc L ((2, a, b) :: S) n w cells slots := by
  intro ad ws H locs ls vs hn h0 hW hP hD hS hL hV
  obtain ⟨vx, vs1, rfl, hxx, hV1⟩ := hV.cons
  obtain ⟨ha, rfl⟩ := hxx
  subst hS0
  have e1 := hV1.nil
  subst e1
  exact W.objInit hx hb hown hlink hinst hcode rfl (by rw [hml]; exact hL.1) rfl hdg hframes (by show 2 * 0 + 0 + 12 ≤ _; omega) (k ad ws H locs ls _ hn h0 hW hP hD hS hL hV1)
theorem mg_gets (hx : p.tables.exec = Jvm.exec) (hb : c.code = cc) {own C fn fd ref : String} {idx j : Nat} (hown : s.vm.findClass own = some m.cls) (hZ : va_Z C fn fd (.ref (tb j)) A s s.heap) (hlink : (Cond.fieldLink own idx C fn fd).before args s = true) (hdg : decode cc pc = .ok (.getstatic idx, 3)) (k : mv_G p l e R s m args below meth c D cl tys A tb nL Q n0 ad0 (pc + 3) L ((6, j, 0) :: S) n w cells slots) : mv_G p l e R s m args below meth c D cl tys A tb nL Q n0 ad0 pc L S n w cells slots := by
  intro ad ws H locs ls vs hn h0 hW hP hD hS hL hV
  exact va_gets hx hb hZ hS hown hlink (fun _ h9 => h9) hdg (k ad ws H locs ls _ hn h0 hW hP hD hS hL ⟨rfl, hV⟩)
theorem mg_getsN (hx : p.tables.exec = Jvm.exec) (hb : c.code = cc) {own C fn fd host : String} {idx j : Nat} (hown : s.vm.findClass own = some m.cls) (hZ : va_Z C fn fd (.ref (tb j)) A s s.heap) (hlink : (Cond.fieldLinkNest own idx C fn fd host).before args s = true) (hdg : decode cc pc = .ok (.getstatic idx, 3)) (k : mv_G p l e R s m args below meth c D cl tys A tb nL Q n0 ad0 (pc + 3) L ((6, j, 0) :: S) n w cells slots) : mv_G p l e R s m args below meth c D cl tys A tb nL Q n0 ad0 pc L S n w cells slots := by
  intro ad ws H locs ls vs hn h0 hW hP hD hS hL hV
  exact va_getsN hx hb hZ hS hown hlink (fun _ h9 => h9) hdg (k ad ws H locs ls _ hn h0 hW hP hD hS hL ⟨rfl, hV⟩)
end MG
