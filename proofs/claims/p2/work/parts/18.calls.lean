/-! A SMALL MACHINE, IX: contracts of methods in its words; calls -/
theorem mv_S.app {n : Nat} {ad tb : Nat → Nat} : ∀ {xs ys : List mv_V} {vs us : List Value}, mv_S n ad tb xs vs → mv_S n ad tb ys us → mv_S n ad tb (xs ++ ys) (vs ++ us)
  | [], _, [], _, _, h => h
  | _ :: _, _, _ :: _, _, h1, h2 => ⟨h1.1, mv_S.app h1.2 h2⟩
  | [], _, _ :: _, _, h, _ => h.elim
  | _ :: _, _, [], _, h, _ => h.elim
theorem mv_S.rev {n : Nat} {ad tb : Nat → Nat} : ∀ {xs : List mv_V} {vs : List Value}, mv_S n ad tb xs vs → mv_S n ad tb xs.reverse vs.reverse
  | [], [], _ => trivial
  | x :: xs, v :: vs, h => by
    rw [List.reverse_cons, List.reverse_cons]
    exact mv_S.app (mv_S.rev h.2) ⟨h.1, trivial⟩
  | [], _ :: _, h => h.elim
  | _ :: _, [], h => h.elim
theorem mv_S.split {n : Nat} {ad tb : Nat → Nat} : ∀ {xs ys : List mv_V} {vs : List Value}, mv_S n ad tb (xs ++ ys) vs → ∃ vs1 vs2, vs = vs1 ++ vs2 ∧ mv_S n ad tb xs vs1 ∧ mv_S n ad tb ys vs2
  | [], ys, vs, h => ⟨[], vs, rfl, trivial, h⟩
  | x :: xs, ys, vs, h => by
    obtain ⟨v, vs', rfl, h1, h2⟩ := mv_S.cons h
    obtain ⟨a, b, rfl, h3, h4⟩ := mv_S.split h2
    exact ⟨v :: a, b, rfl, ⟨h1, h3⟩, h4⟩
theorem mv_S.len {n : Nat} {ad tb : Nat → Nat} : ∀ {xs : List mv_V} {vs : List Value}, mv_S n ad tb xs vs → vs.length = xs.length
  | [], [], _ => rfl
  | _ :: _, _ :: _, h => by simp [mv_S.len h.2]
  | [], _ :: _, h => h.elim
  | _ :: _, [], h => h.elim
/-- words of a stack -/
def mv_cs : List mv_V → Nat
  | [] => 0
  | x :: xs => (bif mv_isL x then 2 else 1) + mv_cs xs
theorem mv_S.cats {n : Nat} {ad tb : Nat → Nat} : ∀ {xs : List mv_V} {vs : List Value}, mv_S n ad tb xs vs → (vs.map fun v => v.category).sum = mv_cs xs
  | [], [], _ => rfl
  | x :: xs, v :: vs, h => by
    have ih := mv_S.cats h.2
    rw [List.map_cons, List.sum_cons, ih]
    show _ = (bif mv_isL x then 2 else 1) + mv_cs xs
    cases hb : mv_isL x with
    | true => rw [h.1.cat.mpr hb]; rfl
    | false =>
      rcases lv_cat v with e | e
      · rw [e]; rfl
      · rw [h.1.cat.mp e] at hb; cases hb
  | [], _ :: _, h => h.elim
  | _ :: _, [], h => h.elim
/-- what comes out of a run: the answer (one value, or none), cells, the tree, then what it costs: new cells, new slots, frames, words of locals -/
abbrev mv_R : Type := List mv_V × Nat × mv_T 10 × Nat × Nat × Nat × Nat
/-- an array class over arrays -/
def mv_AOA (ty : FieldType) (U : State) : Prop := (Cond.arrayOver (.array ty)).before #[] U = true
theorem mv_AOA.use {ty : FieldType} {A : Array Value} {U : State} (h : mv_AOA ty U) : (Cond.arrayOver (.array ty)).before A U = true := h
theorem mv_AOA.moved {ty : FieldType} {u U : State} (hvm : u.vm.Alike U.vm) (h : mv_AOA ty u) : mv_AOA ty U := Jvm.Stand.arrayOver_alikeB hvm h
/-- what is carried from the start: words on nest mates, arrays of objects, static fields with tables -/
def mv_E (nst : List Cond) (aos : List String) (zs : List (String × String × String)) (zt : List (FieldType × Nat × (Nat → Value))) (tb : Nat → Nat) (A : Nat → Prop) (U : State) : Prop :=
  (∀ x ∈ nst, va_Nw x U) ∧ ((∀ C ∈ aos, va_AO C U) ∧ mv_AOA .byte U ∧ mv_AOA .long U) ∧ (∀ (j : Nat) (q : String × String × String), zs[j]? = some q → va_Z q.1 q.2.1 q.2.2 (.ref (tb j)) A U U.heap) ∧ ∀ (j : Nat) (q : FieldType × Nat × (Nat → Value)), zt[j]? = some q → va_T q.1 (tb j) q.2.1 q.2.2 A U U.heap
def mv_isNest : Cond → Bool
  | .fieldLinkNest .. => true
  | .methodLinkNest .. => true
  | _ => false
theorem mv_Nw_warm {x : Cond} (hx : mv_isNest x = true) {s U : State} (hW : s.WarmedH U.vm) (h : va_Nw x s) : va_Nw x U := by
  cases x <;> first | exact va_Nw.warmF hW h | exact va_Nw.warmM hW h | cases hx
theorem mv_Nw_same {x : Cond} (hx : mv_isNest x = true) {s U : State} (hW : s.vm = U.vm) (h : va_Nw x s) : va_Nw x U := by
  cases x <;> first | exact va_Nw.same rfl hW h | cases hx
theorem mv_E.step {nst : List Cond} {aos : List String} {zs : List (String × String × String)} {zt : List (FieldType × Nat × (Nat → Value))} {tb : Nat → Nat} {A B : Nat → Prop} {s U : State} (hn : ∀ x ∈ nst, mv_isNest x = true) (h : mv_E nst aos zs zt tb A s) (hW : s.WarmedH U.vm) (hq : ∀ a : Nat, a < s.heap.size → ¬ A a → U.heap[a]? = s.heap[a]?) (hAB : ∀ q, B q → A q) : mv_E nst aos zs zt tb B U :=
  ⟨fun x hx => mv_Nw_warm (hn x hx) hW (h.1 x hx), ⟨fun C hC => va_AO.moved hW.alike (h.2.1.1 C hC), mv_AOA.moved hW.alike h.2.1.2.1, mv_AOA.moved hW.alike h.2.1.2.2⟩, fun j q hj => ((va_Z.moved hW.alike (h.2.2.1 j q hj)).kept hq).narrow hAB, fun j q hj => ((va_T.moved hW.alike (h.2.2.2 j q hj)).kept hq).narrow hAB⟩
theorem mv_E.calling {nst : List Cond} {aos : List String} {zs : List (String × String × String)} {zt : List (FieldType × Nat × (Nat → Value))} {tb : Nat → Nat} {A : Nat → Prop} {U : State} (hn : ∀ x ∈ nst, mv_isNest x = true) (h : mv_E nst aos zs zt tb A U) (g : JFrame) (mk : MethodId) (a : Array Value) : mv_E nst aos zs zt tb A (U.calling g mk a) :=
  ⟨fun x hx => mv_Nw_same (s := U) (U := U.calling g mk a) (hn x hx) rfl (h.1 x hx), ⟨fun C hC => va_AO.moved (U := U.calling g mk a) (Vm.Alike.refl U.vm) (h.2.1.1 C hC), mv_AOA.moved (U := U.calling g mk a) (Vm.Alike.refl U.vm) h.2.1.2.1, mv_AOA.moved (U := U.calling g mk a) (Vm.Alike.refl U.vm) h.2.1.2.2⟩, fun j q hj => va_Z.moved (U := U.calling g mk a) (Vm.Alike.refl U.vm) (h.2.2.1 j q hj), fun j q hj => va_T.moved (U := U.calling g mk a) (Vm.Alike.refl U.vm) (h.2.2.2 j q hj)⟩
def mv_Q (D : va_G) (cl : List vw_C) (tys : List (ClassId × FieldType)) (tb : Nat → Nat) (A : Nat → Prop) (n0 : Nat) (ad0 : Nat → Nat) (res : mv_R) : Array Value → State → Outcome → State → Prop := fun _ st oc t =>
  (∃ (v : Option Value) (ad : Nat → Nat) (ws : va_W), oc = .returned v ∧ n0 ≤ res.2.1 ∧ (∀ k : Nat, k < n0 → ad k = ad0 k) ∧ mv_W res.2.1 ad tb tys res.2.2.1 ws ∧ va_P D cl ws t.heap ∧ va_K D cl tys t ∧ va_D A ws ∧ mv_S res.2.1 ad tb res.1 v.toList) ∧ va_F A st t
def mv_Pre (D : va_G) (cl : List vw_C) (tys : List (ClassId × FieldType)) (E : (Nat → Prop) → State → Prop) (ws : va_W) (sz : Nat) (vs : List Value) : Array Value → State → Prop := va_Pc vs (fun U => U.heap.size = sz ∧ va_P D cl ws U.heap ∧ va_K D cl tys U ∧ va_D (fun _ => True) ws ∧ E (va_A ws sz) U)
def mv_Met (l : Launch) (D : va_G) (cl : List vw_C) (tys : List (ClassId × FieldType)) (tb : Nat → Nat) (E : (Nat → Prop) → State → Prop) (y : MethodName) (wy : List Cond) (as : List mv_V) (n : Nat) (w : mv_T 10) (res : mv_R) : Prop :=
  ∀ (ad : Nat → Nat) (ws : va_W) (vs : List Value) (sz : Nat), mv_W n ad tb tys w ws → mv_S n ad tb as vs →
    Met l y wy { frames := res.2.2.2.2.2.1, cells := res.2.2.2.1, slots := res.2.2.2.2.1, locals := res.2.2.2.2.2.2 } (mv_Pre D cl tys E ws sz vs) (mv_Q D cl tys tb (va_A ws sz) n ad res) res.2.2.2.1 res.2.2.2.2.1 (va_A ws sz)
section MG
variable {p : Program} {l : Launch} {e : Env} {R : Room} {s : State} {m : MethodId} {args : Array Value} {below : List Frame} {meth : Method} {c : Code} {D : va_G} {cl : List vw_C} {tys : List (ClassId × FieldType)} {A : Nat → Prop} {tb : Nat → Nat} {nL : Nat} {Q : State → Prop} {n0 : Nat} {ad0 : Nat → Nat} {cc : ByteArray} {pc L : Nat} {S S' : List mv_V} {n : Nat} {w : mv_T 10} {cells slots : Nat}
theorem mg_after {res : mv_R} {ad : Nat → Nat} {ws : va_W} {H : Heap} {locs : List Loc} {ls : Array Slot} {st0 rest : List Value} {a : Array Value} (hA : ∀ q, s.heap.size ≤ q → A q) (hn : n0 ≤ n) (h0 : ∀ k : Nat, k < n0 → ad k = ad0 k) (hD : va_D A ws) (hS : va_S A s.heap H locs) (hL : mv_L n ad tb nL L ls) (hV : mv_S n ad tb S rest)
    (hr : va_Run p l e R s m args below meth c H locs cells slots res.2.2.2.1 res.2.2.2.2.1 (F0 m pc ls st0) rest (mv_Q D cl tys tb (va_A ws H.size) n ad res a) (va_A ws H.size))
    (k : mv_G p l e R s m args below meth c D cl tys A tb nL Q n0 ad0 (pc + 3) L (res.1 ++ S) res.2.1 res.2.2.1 (cells + res.2.2.2.1) (slots + res.2.2.2.2.1)) : W p l e R s m args below meth c H locs cells slots Q (F0 m pc ls st0) := by
  have hF : ∀ q, va_A ws H.size q → A q := by
    intro q h
    rcases h with ⟨k, e, h⟩ | h
    · exact hD.2 k _ h
    · exact hA q (Nat.le_trans hS.1 h)
  intro T hT X
  obtain ⟨v, st₀, t, T', Lc, g0, X', hLc, e1, e2, ⟨⟨v', ad', ws', hv, hn', had, hW', hP', hK', hD', hV'⟩, hz, hk⟩, st⟩ := hr T hT X
  cases hv
  rw [g0] at hz hk
  have hS1 : va_S A s.heap T'.heap (locs ++ Lc) := ⟨Nat.le_trans hS.1 (by rw [e1]; exact hz), fun q h1 h2 => by rw [e1, hk q (Nat.lt_of_lt_of_le h1 hS.1) (fun z => h2 (hF q z))]; exact hS.2.1 q h1 h2, fun q hq => by
      rcases List.mem_append.mp hq with h | h
      · exact hS.2.2 q h
      · exact hF _ (hLc q h)⟩
  obtain ⟨t2, a1, b1⟩ := k ad' ws' T'.heap (locs ++ Lc) ls (v.toList ++ rest) (Nat.le_trans hn hn') (fun j hj => by rw [had j (Nat.lt_of_lt_of_le hj hn)]; exact h0 j hj) hW' (by rw [e1]; exact hP') (hD'.weaken (fun _ _ _ h => hF _ h)) hS1 (hL.mono hn' had) (hV'.app (hV.mono hn' had)) T' rfl X'
  exact ⟨t2, st t2 a1, b1⟩
variable {nst : List Cond} {aos : List String} {zs : List (String × String × String)} {zt : List (FieldType × Nat × (Nat → Value))}
theorem mv_pre_blind (hn : ∀ x ∈ nst, mv_isNest x = true) {ws : va_W} {sz : Nat} {vs : List Value} : FrameBlind (mv_Pre D cl tys (mv_E nst aos zs zt tb) ws sz vs) := fun a U g mk q => by
  obtain ⟨q0, q1, qP, qK, qD, qE⟩ := q
  exact ⟨q0, q1, qP, va_K.moved (u := U) (U := U.calling g mk a) (Vm.Alike.refl U.vm) qK, qD, qE.calling hn g mk a⟩
theorem mv_pre_at (hn : ∀ x ∈ nst, mv_isNest x = true) {ws : va_W} {H : Heap} {locs : List Loc} {vs : List Value} (hA : ∀ q, s.heap.size ≤ q → A q) (hK : va_K D cl tys s) (hE : mv_E nst aos zs zt tb A s) (hP : va_P D cl ws H) (hD : va_D A ws) (hS : va_S A s.heap H locs) {U : State} (hU : U.heap = H) (hW : s.WarmedH U.vm) : mv_Pre D cl tys (mv_E nst aos zs zt tb) ws H.size vs vs.toArray U := by
  refine ⟨rfl, by rw [hU], by rw [hU]; exact hP, va_K.moved hW.alike hK, hD.weaken (fun _ _ _ _ => trivial), hE.step hn hW (fun a h1 h2 => by rw [hU]; exact hS.2.1 a h1 h2) ?_⟩
  intro q h
  rcases h with ⟨k, e, h⟩ | h
  · exact hD.2 k _ h
  · exact hA q (Nat.le_trans hS.1 h)
theorem mv_args {ad : Nat → Nat} {as : List mv_V} {vs : List Value} (hV : mv_S n ad tb (as.reverse ++ S) vs) : ∃ us rest, vs = us.reverse ++ rest ∧ mv_S n ad tb as us ∧ mv_S n ad tb S rest := by
  obtain ⟨v1, v2, rfl, h1, h2⟩ := hV.split
  refine ⟨v1.reverse, v2, by rw [List.reverse_reverse], ?_, h2⟩
  have := h1.rev
  rwa [List.reverse_reverse] at this
theorem mg_callS (hx : p.tables.exec = Jvm.exec) (hb : c.code = cc) (hml : c.maxLocals = nL) (hnst : ∀ x ∈ nst, mv_isNest x = true) {own : String} {idx np : Nat} {Ts : List Cond} (hts : ∀ w ∈ Ts, w.before args s = true) (hown : s.vm.findClass own = some m.cls) (hA : ∀ q, s.heap.size ≤ q → A q) (hK : va_K D cl tys s) (hE : mv_E nst aos zs zt tb A s) {y : MethodName} {cy : ByteArray} {my : Nat} {ry : Option FieldType} {wy wy' : List Cond} (hwy : wy = Cond.code y cy my ry :: wy') (hG : GoodIn Ts (va_wsS own idx y wy)) (hd : y.cls ≠ "java/lang/invoke/MethodHandle" ∧ y.cls ≠ "java/lang/invoke/VarHandle" ∧ (parseMethodDescriptor y.desc).map (fun d => d.parameters.length) = some np) {as : List mv_V} {res : mv_R} (hM : mv_Met l D cl tys tb (mv_E nst aos zs zt tb) y wy as n w res) (hlen : as.length = np) (hdg : decode cc pc = .ok (.invokestatic idx, 3)) (hR : res.2.2.2.2.2.1 + 1 ≤ R.frames ∧ 8 + (my + 11) + res.2.2.2.2.2.2 ≤ R.locals) (hf : cells + res.2.2.2.1 ≤ R.cells ∧ slots + res.2.2.2.2.1 ≤ R.slots) (hcs : mv_cs S ≤ 8) (k : mv_G p l e R s m args below meth c D cl tys A tb nL Q n0 ad0 (pc + 3) L (res.1 ++ S) res.2.1 res.2.2.1 (cells + res.2.2.2.1) (slots + res.2.2.2.2.1)) : mv_G p l e R s m args below meth c D cl tys A tb nL Q n0 ad0 pc L (as.reverse ++ S) n w cells slots := by
  intro ad ws H locs ls vs hn h0 hW hP hD hS hL hV
  obtain ⟨us, rest, rfl, hU, hV1⟩ := mv_args hV
  have hl2 : us.length = np := by rw [hU.len]; exact hlen
  exact mg_after hA hn h0 hD hS hL hV1 (va_runS (As := us) (rest := rest) ⟨hx, hb, hml, hown, hts⟩ (hM ad ws us H.size hW hU) (va_cwS np hts hG hwy rfl rfl hd hR) ⟨mv_pre_blind hnst, fun U hU hWU => mv_pre_at hnst hA hK hE hP hD hS hU hWU⟩ rfl hl2 hL.1 rfl (lv_room (by rw [hV1.cats]; exact hcs)) hdg hf) k
theorem mg_callSN (hx : p.tables.exec = Jvm.exec) (hb : c.code = cc) (hml : c.maxLocals = nL) (hnst : ∀ x ∈ nst, mv_isNest x = true) {own : String} {idx np : Nat} {Ts : List Cond} (hts : ∀ w ∈ Ts, w.before args s = true) (hown : s.vm.findClass own = some m.cls) (hA : ∀ q, s.heap.size ≤ q → A q) (hK : va_K D cl tys s) (hE : mv_E nst aos zs zt tb A s) {y : MethodName} {cy : ByteArray} {my : Nat} {ry : Option FieldType} {wy wy' : List Cond} (hwy : wy = Cond.code y cy my ry :: wy') {host : String} (hG : GoodIn Ts wy) (hl : va_Nw (.methodLinkNest own idx y host) s) (hini : (Cond.initialized y.cls).before args s = true) (hst0 : (Cond.static y).before args s = true) (hd : y.cls ≠ "java/lang/invoke/MethodHandle" ∧ y.cls ≠ "java/lang/invoke/VarHandle" ∧ (parseMethodDescriptor y.desc).map (fun d => d.parameters.length) = some np) {as : List mv_V} {res : mv_R} (hM : mv_Met l D cl tys tb (mv_E nst aos zs zt tb) y wy as n w res) (hlen : as.length = np) (hdg : decode cc pc = .ok (.invokestatic idx, 3)) (hR : res.2.2.2.2.2.1 + 1 ≤ R.frames ∧ 8 + (my + 11) + res.2.2.2.2.2.2 ≤ R.locals) (hf : cells + res.2.2.2.1 ≤ R.cells ∧ slots + res.2.2.2.2.1 ≤ R.slots) (hcs : mv_cs S ≤ 8) (k : mv_G p l e R s m args below meth c D cl tys A tb nL Q n0 ad0 (pc + 3) L (res.1 ++ S) res.2.1 res.2.2.1 (cells + res.2.2.2.1) (slots + res.2.2.2.2.1)) : mv_G p l e R s m args below meth c D cl tys A tb nL Q n0 ad0 pc L (as.reverse ++ S) n w cells slots := by
  intro ad ws H locs ls vs hn h0 hW hP hD hS hL hV
  obtain ⟨us, rest, rfl, hU, hV1⟩ := mv_args hV
  have hl2 : us.length = np := by rw [hU.len]; exact hlen
  exact mg_after hA hn h0 hD hS hL hV1 (va_runSN (As := us) (rest := rest) ⟨hx, hb, hml, hown, hts⟩ (hM ad ws us H.size hW hU) ⟨va_cnB np hts hG hwy rfl rfl hl hini hd hR, hst0, trivial⟩ ⟨mv_pre_blind hnst, fun U hU hWU => mv_pre_at hnst hA hK hE hP hD hS hU hWU⟩ rfl hl2 hL.1 rfl (lv_room (by rw [hV1.cats]; exact hcs)) hdg hf) k
theorem mg_callV (hx : p.tables.exec = Jvm.exec) (hb : c.code = cc) (hml : c.maxLocals = nL) (hnst : ∀ x ∈ nst, mv_isNest x = true) {own : String} {idx np : Nat} {Ts : List Cond} (hts : ∀ w ∈ Ts, w.before args s = true) (hown : s.vm.findClass own = some m.cls) (hA : ∀ q, s.heap.size ≤ q → A q) (hK : va_K D cl tys s) (hE : mv_E nst aos zs zt tb A s) {y : MethodName} {cy : ByteArray} {my : Nat} {ry : Option FieldType} {wy wy' : List Cond} (hwy : wy = Cond.code y cy my ry :: wy') (hG : GoodIn Ts (wsV own idx y.cls y wy)) (hd : y.cls ≠ "java/lang/invoke/MethodHandle" ∧ y.cls ≠ "java/lang/invoke/VarHandle" ∧ (parseMethodDescriptor y.desc).map (fun d => d.parameters.length) = some np) {a b : Nat} {as : List mv_V} {res : mv_R} {cq : vw_C} (hM : mv_Met l D cl tys tb (mv_E nst aos zs zt tb) y wy ((2, a, b) :: as) n w res) (hlen : as.length = np) (hdg : decode cc pc = .ok (.invokevirtual idx, 3)) (hR : res.2.2.2.2.2.1 + 1 ≤ R.frames ∧ 8 + (my + 11) + res.2.2.2.2.2.2 ≤ R.locals) (hf : cells + res.2.2.2.1 ≤ R.cells ∧ slots + res.2.2.2.2.1 ≤ R.slots) (hcs : mv_cs S ≤ 8) (hobj : (mv_get 10 w a).1 = 0) (hcl : cl[(mv_get 10 w a).2.1]? = some cq) (hcq : cq.1 = y.cls) (k : mv_G p l e R s m args below meth c D cl tys A tb nL Q n0 ad0 (pc + 3) L (res.1 ++ S) res.2.1 res.2.2.1 (cells + res.2.2.2.1) (slots + res.2.2.2.2.1)) : mv_G p l e R s m args below meth c D cl tys A tb nL Q n0 ad0 pc L (((2, a, b) :: as).reverse ++ S) n w cells slots := by
  intro ad ws H locs ls vs hn h0 hW hP hD hS hL hV
  obtain ⟨us, rest, rfl, hU, hV1⟩ := mv_args hV
  obtain ⟨v0, us1, rfl, hr0, hU1⟩ := hU.cons
  obtain ⟨ha, rfl⟩ := hr0
  dsimp only at ha
  have hl2 : us1.length = np := by rw [hU1.len]; exact hlen
  have hst : (Value.ref (ad a) :: us1).reverse ++ rest = us1.reverse ++ Value.ref (ad a) :: rest := by simp
  have hrec : ∃ cell : Cell, H[ad a]? = some cell ∧ cell.vm.isStatics = false ∧ s.vm.findClass y.cls = some cell.cls := by
    obtain ⟨fs, g1, -, -⟩ := hW.obj (ci := (mv_get 10 w a).2.1) (nf := (mv_get 10 w a).2.2.1) (pk := (mv_get 10 w a).2.2.2) ha (by rw [← hobj])
    have := va_recv hK hP hcl g1
    rwa [hcq] at this
  exact mg_after hA hn h0 hD hS hL hV1 (va_runV (As := us1) (rest := rest) ⟨hx, hb, hml, hown, hts⟩ (hM ad ws (Value.ref (ad a) :: us1) H.size hW ⟨⟨ha, rfl⟩, hU1⟩) (cwV np hts hG hwy rfl rfl ⟨rfl, hd⟩ hR) ⟨mv_pre_blind hnst, hrec, fun U hU hWU => mv_pre_at hnst hA hK hE hP hD hS hU hWU⟩ rfl hl2 hL.1 hst (lv_room (by rw [hV1.cats]; exact hcs)) hdg hf) k
theorem mg_callVN (hx : p.tables.exec = Jvm.exec) (hb : c.code = cc) (hml : c.maxLocals = nL) (hnst : ∀ x ∈ nst, mv_isNest x = true) {own : String} {idx np : Nat} {Ts : List Cond} (hts : ∀ w ∈ Ts, w.before args s = true) (hown : s.vm.findClass own = some m.cls) (hA : ∀ q, s.heap.size ≤ q → A q) (hK : va_K D cl tys s) (hE : mv_E nst aos zs zt tb A s) {y : MethodName} {cy : ByteArray} {my : Nat} {ry : Option FieldType} {wy wy' : List Cond} (hwy : wy = Cond.code y cy my ry :: wy') {host : String} (hG : GoodIn Ts wy) (hl : va_Nw (.methodLinkNest own idx y host) s) (hini : (Cond.initialized y.cls).before args s = true) (hin0 : (Cond.instanceMethod y).before args s = true) (hsel : (Cond.selects y.cls y y).before args s = true) (hd : y.cls ≠ "java/lang/invoke/MethodHandle" ∧ y.cls ≠ "java/lang/invoke/VarHandle" ∧ (parseMethodDescriptor y.desc).map (fun d => d.parameters.length) = some np) {a b : Nat} {as : List mv_V} {res : mv_R} {cq : vw_C} (hM : mv_Met l D cl tys tb (mv_E nst aos zs zt tb) y wy ((2, a, b) :: as) n w res) (hlen : as.length = np) (hdg : decode cc pc = .ok (.invokevirtual idx, 3)) (hR : res.2.2.2.2.2.1 + 1 ≤ R.frames ∧ 8 + (my + 11) + res.2.2.2.2.2.2 ≤ R.locals) (hf : cells + res.2.2.2.1 ≤ R.cells ∧ slots + res.2.2.2.2.1 ≤ R.slots) (hcs : mv_cs S ≤ 8) (hobj : (mv_get 10 w a).1 = 0) (hcl : cl[(mv_get 10 w a).2.1]? = some cq) (hcq : cq.1 = y.cls) (k : mv_G p l e R s m args below meth c D cl tys A tb nL Q n0 ad0 (pc + 3) L (res.1 ++ S) res.2.1 res.2.2.1 (cells + res.2.2.2.1) (slots + res.2.2.2.2.1)) : mv_G p l e R s m args below meth c D cl tys A tb nL Q n0 ad0 pc L (((2, a, b) :: as).reverse ++ S) n w cells slots := by
  intro ad ws H locs ls vs hn h0 hW hP hD hS hL hV
  obtain ⟨us, rest, rfl, hU, hV1⟩ := mv_args hV
  obtain ⟨v0, us1, rfl, hr0, hU1⟩ := hU.cons
  obtain ⟨ha, rfl⟩ := hr0
  dsimp only at ha
  have hl2 : us1.length = np := by rw [hU1.len]; exact hlen
  have hst : (Value.ref (ad a) :: us1).reverse ++ rest = us1.reverse ++ Value.ref (ad a) :: rest := by simp
  have hrec : ∃ cell : Cell, H[ad a]? = some cell ∧ cell.vm.isStatics = false ∧ s.vm.findClass y.cls = some cell.cls := by
    obtain ⟨fs, g1, -, -⟩ := hW.obj (ci := (mv_get 10 w a).2.1) (nf := (mv_get 10 w a).2.2.1) (pk := (mv_get 10 w a).2.2.2) ha (by rw [← hobj])
    have := va_recv hK hP hcl g1
    rwa [hcq] at this
  exact mg_after hA hn h0 hD hS hL hV1 (va_runVN (As := us1) (rest := rest) ⟨hx, hb, hml, hown, hts⟩ (hM ad ws (Value.ref (ad a) :: us1) H.size hW ⟨⟨ha, rfl⟩, hU1⟩) ⟨va_cnB np hts hG hwy rfl rfl hl hini hd hR, hin0, hsel⟩ ⟨mv_pre_blind hnst, hrec, fun U hU hWU => mv_pre_at hnst hA hK hE hP hD hS hU hWU⟩ rfl hl2 hL.1 hst (lv_room (by rw [hV1.cats]; exact hcs)) hdg hf) k
theorem mg_callI (hx : p.tables.exec = Jvm.exec) (hb : c.code = cc) (hml : c.maxLocals = nL) (hnst : ∀ x ∈ nst, mv_isNest x = true) {own : String} {idx np : Nat} {Ts : List Cond} (hts : ∀ w ∈ Ts, w.before args s = true) (hown : s.vm.findClass own = some m.cls) (hA : ∀ q, s.heap.size ≤ q → A q) (hK : va_K D cl tys s) (hE : mv_E nst aos zs zt tb A s) {y : MethodName} {cy : ByteArray} {my : Nat} {wy wy' : List Cond} (hwy : wy = Cond.code y cy my none :: wy') (hG : GoodIn Ts wy) (hini : (Cond.initialized y.cls).before args s = true) (hl : (Cond.methodLink own idx y).before args s = true) (hin0 : (Cond.instanceMethod y).before args s = true) (hy1 : y.name = "<init>") (hd : y.cls ≠ "java/lang/invoke/MethodHandle" ∧ y.cls ≠ "java/lang/invoke/VarHandle" ∧ (parseMethodDescriptor y.desc).map (fun d => d.parameters.length) = some np) {a b : Nat} {as : List mv_V} {res : mv_R} (hM : mv_Met l D cl tys tb (mv_E nst aos zs zt tb) y wy ((2, a, b) :: as) n w res) (hlen : as.length = np) (hdg : decode cc pc = .ok (.invokespecial idx, 3)) (hR : res.2.2.2.2.2.1 + 1 ≤ R.frames ∧ 8 + (my + 11) + res.2.2.2.2.2.2 ≤ R.locals) (hf : cells + res.2.2.2.1 ≤ R.cells ∧ slots + res.2.2.2.2.1 ≤ R.slots) (hcs : mv_cs S ≤ 8) (k : mv_G p l e R s m args below meth c D cl tys A tb nL Q n0 ad0 (pc + 3) L (res.1 ++ S) res.2.1 res.2.2.1 (cells + res.2.2.2.1) (slots + res.2.2.2.2.1)) : mv_G p l e R s m args below meth c D cl tys A tb nL Q n0 ad0 pc L (((2, a, b) :: as).reverse ++ S) n w cells slots := by
  intro ad ws H locs ls vs hn h0 hW hP hD hS hL hV
  obtain ⟨us, rest, rfl, hU, hV1⟩ := mv_args hV
  obtain ⟨v0, us1, rfl, hr0, hU1⟩ := hU.cons
  obtain ⟨ha, rfl⟩ := hr0
  dsimp only at ha
  have hl2 : us1.length = np := by rw [hU1.len]; exact hlen
  have hst : (Value.ref (ad a) :: us1).reverse ++ rest = us1.reverse ++ Value.ref (ad a) :: rest := by simp
  exact mg_after hA hn h0 hD hS hL hV1 (va_runI (As := us1) (rest := rest) ⟨hx, hb, hml, hown, hts⟩ (hM ad ws (Value.ref (ad a) :: us1) H.size hW ⟨⟨ha, rfl⟩, hU1⟩) (cwI np hts hG hwy rfl rfl hini hl hin0 hy1 hd hR) ⟨mv_pre_blind hnst, fun U hU hWU => mv_pre_at hnst hA hK hE hP hD hS hU hWU⟩ rfl hl2 hL.1 hst (lv_room (by rw [hV1.cats]; exact hcs)) hdg hf) k
theorem mg_callIN (hx : p.tables.exec = Jvm.exec) (hb : c.code = cc) (hml : c.maxLocals = nL) (hnst : ∀ x ∈ nst, mv_isNest x = true) {own : String} {idx np : Nat} {Ts : List Cond} (hts : ∀ w ∈ Ts, w.before args s = true) (hown : s.vm.findClass own = some m.cls) (hA : ∀ q, s.heap.size ≤ q → A q) (hK : va_K D cl tys s) (hE : mv_E nst aos zs zt tb A s) {y : MethodName} {cy : ByteArray} {my : Nat} {wy wy' : List Cond} (hwy : wy = Cond.code y cy my none :: wy') {host : String} (hG : GoodIn Ts wy) (hini : (Cond.initialized y.cls).before args s = true) (hl : va_Nw (.methodLinkNest own idx y host) s) (hin0 : (Cond.instanceMethod y).before args s = true) (hy1 : y.name = "<init>") (hd : y.cls ≠ "java/lang/invoke/MethodHandle" ∧ y.cls ≠ "java/lang/invoke/VarHandle" ∧ (parseMethodDescriptor y.desc).map (fun d => d.parameters.length) = some np) {a b : Nat} {as : List mv_V} {res : mv_R} (hM : mv_Met l D cl tys tb (mv_E nst aos zs zt tb) y wy ((2, a, b) :: as) n w res) (hlen : as.length = np) (hdg : decode cc pc = .ok (.invokespecial idx, 3)) (hR : res.2.2.2.2.2.1 + 1 ≤ R.frames ∧ 8 + (my + 11) + res.2.2.2.2.2.2 ≤ R.locals) (hf : cells + res.2.2.2.1 ≤ R.cells ∧ slots + res.2.2.2.2.1 ≤ R.slots) (hcs : mv_cs S ≤ 8) (k : mv_G p l e R s m args below meth c D cl tys A tb nL Q n0 ad0 (pc + 3) L (res.1 ++ S) res.2.1 res.2.2.1 (cells + res.2.2.2.1) (slots + res.2.2.2.2.1)) : mv_G p l e R s m args below meth c D cl tys A tb nL Q n0 ad0 pc L (((2, a, b) :: as).reverse ++ S) n w cells slots := by
  intro ad ws H locs ls vs hn h0 hW hP hD hS hL hV
  obtain ⟨us, rest, rfl, hU, hV1⟩ := mv_args hV
  obtain ⟨v0, us1, rfl, hr0, hU1⟩ := hU.cons
  obtain ⟨ha, rfl⟩ := hr0
  dsimp only at ha
  have hl2 : us1.length = np := by rw [hU1.len]; exact hlen
  have hst : (Value.ref (ad a) :: us1).reverse ++ rest = us1.reverse ++ Value.ref (ad a) :: rest := by simp
  exact mg_after hA hn h0 hD hS hL hV1 (va_runIN (As := us1) (rest := rest) ⟨hx, hb, hml, hown, hts⟩ (hM ad ws (Value.ref (ad a) :: us1) H.size hW ⟨⟨ha, rfl⟩, hU1⟩) ⟨va_cnB np hts hG hwy rfl rfl hl hini hd hR, hy1, hin0⟩ ⟨mv_pre_blind hnst, fun U hU hWU => mv_pre_at hnst hA hK hE hP hD hS hU hWU⟩ rfl hl2 hL.1 hst (lv_room (by rw [hV1.cats]; exact hcs)) hdg hf) k
end MG
