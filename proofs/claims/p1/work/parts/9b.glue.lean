/-! THE LAW'S ENTRY: what the Statement gives -/
/-! THE CLAIM OUT OF ONE WALK OF THE LAW'S BODY. Your part is whole_start (and what it stands on); all else here is the same for every law, but numbers. -/
def R_law : String := "PurseHouseLaw"
def lw_P (b : Addr) (xs : List Int32) (args : Array Value) (s : State) : Prop := args = #[.ref b] ∧ s.IntsAt b xs ∧ xs.length ≤ 6 ∧ (Jvm.Cond.and given_1 narrow_1).before args s = true
def lw_Q (_ : Array Value) (s : State) (o : Outcome) (t : State) : Prop := o = .returned (some (.int 1)) ∧ Framed s o t [] 600000 7302250
def lw_Z (below : List Frame) (a : Array Value) (s : State) : State → Prop := fun t => ∃ o, t.status = .running ∧ Ended t below o ∧ lw_Q a s o t
/-- the law's own end, with 1 on the stack, nothing written that was there before, its room as the claim has it -/
theorem lw_ret {p : Program} {l : Launch} {e : Env} {s : State} {m : MethodId} {below : List Frame} {meth : Method} {c : Code} {b : Nat} (hx : p.tables.exec = Jvm.exec) (hb : c.code = code) (hr : meth.sig.returnType = ret) (hlocks : meth.locks = false) {pc : Nat} {H : Heap} {ls : Array Slot} (hdg : decode code pc = .ok (.ireturn, 1)) : W p l e room_1 s m #[Value.ref b] below meth c H [] 600000 7302250 (lw_Z below #[Value.ref b] s) (F0 m pc ls [.int 1]) := by
  intro T hT X
  obtain ⟨fs, hret, hrun, hended, hW, hframe⟩ := X.leave (v := some (.int 1)) (hlocks := hlocks) (fun h => by rw [hr] at h; cases h)
  have hmeth' : T.vm.method? m = some meth := X.method'
  refine ⟨T.setFrames fs, ?_, .returned (some (.int 1)), hrun, hended, rfl, ⟨_, rfl⟩, hW, hframe⟩
  jvm_step X.here [X.here.top, hx, hb, hdg, hmeth', hr, ret, narrow_b1]
  (try refine ⟨rfl, ?_⟩); (try refine ⟨rfl, ?_⟩)
  first | (intro acts; rw [hret _ acts rfl rfl rfl]) | rw [hret _ _ rfl rfl rfl]
  exact Steps.refl _
/-- what holds at the law's entry: the machine, the code, the tables' words (any of lw_tbl by 'hts w (by decide +kernel)'), the script of L ints xs at the cell b, what the Statement gives of the start (any of its parts by flat_of_before) -/
def lw_At (p : Program) (s : State) (m : MethodId) (meth : Method) (c : Code) (b L : Nat) (xs : Nat → Int32) : Prop :=
  p.tables.exec = Jvm.exec ∧ c.code = code ∧ meth.sig.returnType = ret ∧ c.maxLocals = 4 ∧ s.vm.findClass R_law = some m.cls ∧ (∀ w ∈ lw_tbl, w.before #[Value.ref b] s = true) ∧ va_X b L xs s s.heap ∧ b < s.heap.size ∧ meth.locks = false ∧ (Jvm.Cond.and given_1 narrow_1).before #[Value.ref b] s = true ∧ meth.name = (tt_my 164).name

section GL
variable {args : Array Value} {s : State}
theorem gl_len {tm : Term} {N : Int32} (h : (Cond.eq (Term.length tm) (.int N)).before args s = true) : ∃ t : Nat, tm.eval args s none [] s = some (.ref t) := by
  obtain ⟨t, cell, ht, -, -⟩ := Term.length_spec (va_eqt h)
  exact ⟨t, ht⟩
theorem gl_arr {ty : FieldType} (h : (Cond.arrayClass ty).before args s = true) (hp : ty = .int ∨ ty = .byte ∨ ty = .boolean ∨ ty = .long) : ∃ cA : ClassId, ArrOfT s cA ty ∧ va_RA s cA ty := by
  obtain ⟨cA, kA, comp, h1, h2, h3⟩ := Cond.arrayClass_spec h
  refine ⟨cA, fun n z => ⟨fun k h => (by cases h), kA, h2, comp, h3⟩, ?_⟩
  rcases hp with rfl | rfl | rfl | rfl <;> exact h1
theorem gl_arq {C : String} (h : (Cond.arrayOver (.object C)).before args s = true) : ∃ cA : ClassId, ArrOfT s cA (.object C) ∧ va_RA s cA (.object C) := by
  obtain ⟨comp, cA, kA, h1, h2, h3, h4, h5⟩ := Cond.arrayOver_spec h
  exact ⟨cA, fun n z => ⟨fun k h => (by cases h), kA, h3, comp, h4⟩, kA, comp, h3, h4, h1, h5⟩
theorem gl_cls (hts : ∀ x ∈ tt_mw, x.before args s = true) : ∃ D : va_G, ∀ (c : Nat) (q : vw_C), tt_cl[c]? = some q → u_Kn s q.1 q.2.1 q.2.2 (D.1 c) (D.2 c) := by
  have h : ∀ c : Nat, ∃ d : ClassId × (Nat → Nat), ∀ q : vw_C, tt_cl[c]? = some q → u_Kn s q.1 q.2.1 q.2.2 d.1 d.2 := by
    intro c
    have one : tt_CW c → ∃ d : ClassId × (Nat → Nat), ∀ q : vw_C, tt_cl[c]? = some q → u_Kn s q.1 q.2.1 q.2.2 d.1 d.2 := by
      rintro ⟨C, T, h1, -, -, h2, -, -, h3, -, -⟩
      obtain ⟨cC, iS, hK⟩ := u_known hts h2 (hts _ h3)
      refine ⟨(cC, iS), fun q hq => ?_⟩
      rw [h1] at hq
      cases hq
      exact hK
    match c with
    | 0 => exact one tt_cw0
    | 1 => exact one tt_cw1
    | 2 => exact one tt_cw2
    | 3 => exact one tt_cw3
    | 4 => exact one tt_cw4
    | 5 => exact one tt_cw5
    | 6 => exact one tt_cw6
    | 7 => exact one tt_cw7
    | 8 => exact one tt_cw8
    | 9 => exact one tt_cw9
    | 10 => exact one tt_cw10
    | 11 => exact one tt_cw11
    | c + 12 => exact ⟨(0, fun _ => 0), fun q hq => absurd hq (by simp [tt_cl])⟩
  obtain ⟨f, hf⟩ := Classical.axiomOfChoice h
  exact ⟨(fun c => (f c).1, fun c => (f c).2), hf⟩
theorem gl_K (hts : ∀ x ∈ tt_mw, x.before args s = true) (hao : ∀ C ∈ tt_aos, (Cond.arrayOver (.object C)).before args s = true) : ∃ (D : va_G) (tys : List (ClassId × FieldType)), va_K D tt_cl tys s ∧ tys.map Prod.snd = tt_tl := by
  obtain ⟨D, hD⟩ := gl_cls hts
  obtain ⟨c0, a0⟩ := gl_arr (hts _ (tt_f11 .int (by simp))) (by simp)
  obtain ⟨c1, a1⟩ := gl_arr (hts _ (tt_f11 .byte (by simp))) (by simp)
  obtain ⟨c2, a2⟩ := gl_arr (hts _ (tt_f11 .boolean (by simp))) (by simp)
  obtain ⟨c3, a3⟩ := gl_arr (hts _ (tt_f11 .long (by simp))) (by simp)
  obtain ⟨c4, a4⟩ := gl_arq (hao "PurseHouse$Draft" (by decide))
  obtain ⟨c5, a5⟩ := gl_arq (hao "PurseHouse$Point" (by decide))
  obtain ⟨c6, a6⟩ := gl_arq (hao "PurseHouse$Block" (by decide))
  obtain ⟨c7, a7⟩ := gl_arq (hao "PurseHouse$Payment" (by decide))
  refine ⟨D, [(c0, .int), (c1, .byte), (c2, .boolean), (c3, .long), (c4, .object "PurseHouse$Draft"), (c5, .object "PurseHouse$Point"), (c6, .object "PurseHouse$Block"), (c7, .object "PurseHouse$Payment")], ⟨hD, fun k q hq => ?_⟩, rfl⟩
  match k, hq with
  | 0, hq => cases hq; exact a0
  | 1, hq => cases hq; exact a1
  | 2, hq => cases hq; exact a2
  | 3, hq => cases hq; exact a3
  | 4, hq => cases hq; exact a4
  | 5, hq => cases hq; exact a5
  | 6, hq => cases hq; exact a6
  | 7, hq => cases hq; exact a7
  | k + 8, hq => exact absurd hq (by simp)
end GL
def gl_fl : List Cond := flatC (Jvm.Cond.and given_1 narrow_1)
theorem gl_l0 : Cond.eq (Term.length (Term.static "PurseHouse$Makers" "NOBODY" "[B")) (.int (20 : Int32)) ∈ gl_fl := by decide +kernel
theorem gl_s0 : Cond.laysStatic "PurseHouse$Makers" "NOBODY" "[B" ∈ lw_tbl ∧ Cond.initialized "PurseHouse$Makers" ∈ lw_tbl := by decide +kernel
theorem gl_l1 : Cond.eq (Term.length (Term.static "PurseHouse$Sha" "START" "[I")) (.int (8 : Int32)) ∈ gl_fl := by decide +kernel
theorem gl_s1 : Cond.laysStatic "PurseHouse$Sha" "START" "[I" ∈ lw_tbl ∧ Cond.initialized "PurseHouse$Sha" ∈ lw_tbl := by decide +kernel
theorem gl_l2 : Cond.eq (Term.length (Term.static "PurseHouse$Sha" "ROUND" "[I")) (.int (64 : Int32)) ∈ gl_fl := by decide +kernel
theorem gl_s2 : Cond.laysStatic "PurseHouse$Sha" "ROUND" "[I" ∈ lw_tbl ∧ Cond.initialized "PurseHouse$Sha" ∈ lw_tbl := by decide +kernel
theorem gl_l3 : Cond.eq (Term.length (Term.static "PurseHouse$Modulus" "PRIME" "[J")) (.int (9 : Int32)) ∈ gl_fl := by decide +kernel
theorem gl_s3 : Cond.laysStatic "PurseHouse$Modulus" "PRIME" "[J" ∈ lw_tbl ∧ Cond.initialized "PurseHouse$Modulus" ∈ lw_tbl := by decide +kernel
theorem gl_l4 : Cond.eq (Term.length (Term.static "PurseHouse$Modulus" "PRIME_OVER" "[J")) (.int (2 : Int32)) ∈ gl_fl := by decide +kernel
theorem gl_s4 : Cond.laysStatic "PurseHouse$Modulus" "PRIME_OVER" "[J" ∈ lw_tbl ∧ Cond.initialized "PurseHouse$Modulus" ∈ lw_tbl := by decide +kernel
theorem gl_l5 : Cond.eq (Term.length (Term.static "PurseHouse$Modulus" "ORDER" "[J")) (.int (9 : Int32)) ∈ gl_fl := by decide +kernel
theorem gl_s5 : Cond.laysStatic "PurseHouse$Modulus" "ORDER" "[J" ∈ lw_tbl ∧ Cond.initialized "PurseHouse$Modulus" ∈ lw_tbl := by decide +kernel
theorem gl_l6 : Cond.eq (Term.length (Term.static "PurseHouse$Modulus" "ORDER_OVER" "[J")) (.int (5 : Int32)) ∈ gl_fl := by decide +kernel
theorem gl_s6 : Cond.laysStatic "PurseHouse$Modulus" "ORDER_OVER" "[J" ∈ lw_tbl ∧ Cond.initialized "PurseHouse$Modulus" ∈ lw_tbl := by decide +kernel
theorem gl_a0 : Cond.arrayOf (Term.static "PurseHouse$Makers" "NOBODY" "[B") .byte ∈ gl_fl := by decide +kernel
theorem gl_n0 : (tt_stt 0).2.1 = 20 := by decide +kernel
theorem gl_e0 : ∀ j, j < 20 → Cond.eq (Term.elem (Term.static "PurseHouse$Makers" "NOBODY" "[B") (.int (Int32.ofNat j))) (.int (nI (mv_rd 32 (tt_stt 0).2.2 j))) ∈ gl_fl := by decide +kernel
theorem gl_a1 : Cond.arrayOf (Term.static "PurseHouse$Sha" "START" "[I") .int ∈ gl_fl := by decide +kernel
theorem gl_n1 : (tt_stt 1).2.1 = 8 := by decide +kernel
theorem gl_e1 : ∀ j, j < 8 → Cond.eq (Term.elem (Term.static "PurseHouse$Sha" "START" "[I") (.int (Int32.ofNat j))) (.int (nI (mv_rd 32 (tt_stt 1).2.2 j))) ∈ gl_fl := by decide +kernel
theorem gl_a2 : Cond.arrayOf (Term.static "PurseHouse$Sha" "ROUND" "[I") .int ∈ gl_fl := by decide +kernel
theorem gl_n2 : (tt_stt 2).2.1 = 64 := by decide +kernel
theorem gl_e2 : ∀ j, j < 64 → Cond.eq (Term.elem (Term.static "PurseHouse$Sha" "ROUND" "[I") (.int (Int32.ofNat j))) (.int (nI (mv_rd 32 (tt_stt 2).2.2 j))) ∈ gl_fl := by decide +kernel
theorem gl_o : (∀ C ∈ tt_aos, Cond.arrayOver (.object C) ∈ lw_tbl) ∧ Cond.arrayOver (.array .byte) ∈ lw_tbl ∧ Cond.arrayOver (.array .long) ∈ lw_tbl := by decide +kernel
theorem gl_C {p : Program} {s : State} {m : MethodId} {meth : Method} {c : Code} {b L : Nat} {xs : Nat → Int32} (hL : L ≤ 6) (C0 : lw_At p s m meth c b L xs) : ∃ (D : va_G) (tys : List (ClassId × FieldType)) (tb : Nat → Nat), lg_C p s m #[Value.ref b] meth c D tys (fun q => s.heap.size ≤ q) tb b L xs := by
  obtain ⟨hx, hb, hr, hml, hown, hts, hX, hbl, hlk, hgv, hname⟩ := C0
  have hfl : ∀ c ∈ gl_fl, c.before #[Value.ref b] s = true := flat_of_before _ hgv
  have hmw : ∀ x ∈ tt_mw, x.before #[Value.ref b] s = true := fun x h => hts x (List.mem_filter.mp h).1
  have hao : ∀ C ∈ tt_aos, (Cond.arrayOver (.object C)).before #[Value.ref b] s = true := fun C h => hts _ (gl_o.1 C h)
  obtain ⟨D, tys, hK, htl⟩ := gl_K hmw hao
  have hA : ∀ a : Nat, a < s.heap.size → ¬ (fun q => s.heap.size ≤ q) a := fun a h => by show ¬ s.heap.size ≤ a; omega
  obtain ⟨t0, e0, v0⟩ := va_Tof (N := 20) (f := fun i => .int (nI (mv_rd 32 (tt_stt 0).2.2 i))) (by decide) (hfl _ gl_a0) (va_eqt (hfl _ gl_l0)) (fun j hj => va_eqt (hfl _ (gl_e0 j hj))) hA
  obtain ⟨t1, e1, v1⟩ := va_Tof (N := 8) (f := fun i => .int (nI (mv_rd 32 (tt_stt 1).2.2 i))) (by decide) (hfl _ gl_a1) (va_eqt (hfl _ gl_l1)) (fun j hj => va_eqt (hfl _ (gl_e1 j hj))) hA
  obtain ⟨t2, e2, v2⟩ := va_Tof (N := 64) (f := fun i => .int (nI (mv_rd 32 (tt_stt 2).2.2 i))) (by decide) (hfl _ gl_a2) (va_eqt (hfl _ gl_l2)) (fun j hj => va_eqt (hfl _ (gl_e2 j hj))) hA
  obtain ⟨t3, e3⟩ := gl_len (hfl _ gl_l3)
  obtain ⟨t4, e4⟩ := gl_len (hfl _ gl_l4)
  obtain ⟨t5, e5⟩ := gl_len (hfl _ gl_l5)
  obtain ⟨t6, e6⟩ := gl_len (hfl _ gl_l6)
  refine ⟨D, tys, fun j => match j with
    | 0 => t0
    | 1 => t1
    | 2 => t2
    | 3 => t3
    | 4 => t4
    | 5 => t5
    | 6 => t6
    | _ => b, ⟨hx, hb.trans (by rfl), hml.trans (by decide +kernel), hown, hname, hmw, hK, fun q h => h, ⟨fun x h => ?_, ⟨fun C h => hao C h, hts _ gl_o.2.1, hts _ gl_o.2.2⟩, fun j q hq => ?_, fun j q hq => ?_⟩, htl⟩, hX, hbl, hA b hbl, rfl, by omega⟩
  · have h2 := List.mem_filter.mp h
    refine va_Nw.of ?_ (hts x h2.1)
    cases x <;> first | rfl | (exact absurd h2.2 Bool.false_ne_true)
  · match j, hq with
    | 0, hq => cases hq; exact va_Zof (hts _ gl_s0.1) (hts _ gl_s0.2) e0 hA
    | 1, hq => cases hq; exact va_Zof (hts _ gl_s1.1) (hts _ gl_s1.2) e1 hA
    | 2, hq => cases hq; exact va_Zof (hts _ gl_s2.1) (hts _ gl_s2.2) e2 hA
    | 3, hq => cases hq; exact va_Zof (hts _ gl_s3.1) (hts _ gl_s3.2) e3 hA
    | 4, hq => cases hq; exact va_Zof (hts _ gl_s4.1) (hts _ gl_s4.2) e4 hA
    | 5, hq => cases hq; exact va_Zof (hts _ gl_s5.1) (hts _ gl_s5.2) e5 hA
    | 6, hq => cases hq; exact va_Zof (hts _ gl_s6.1) (hts _ gl_s6.2) e6 hA
    | j + 7, hq => exact absurd hq (by simp [tt_zs])
  · match j, hq with
    | 0, hq => cases hq; show va_T _ t0 (tt_stt 0).2.1 _ _ _ _; rw [gl_n0]; exact v0
    | 1, hq => cases hq; show va_T _ t1 (tt_stt 1).2.1 _ _ _ _; rw [gl_n1]; exact v1
    | 2, hq => cases hq; show va_T _ t2 (tt_stt 2).2.1 _ _ _ _; rw [gl_n2]; exact v2
    | j + 3, hq => exact absurd hq (by simp [tt_zt])
