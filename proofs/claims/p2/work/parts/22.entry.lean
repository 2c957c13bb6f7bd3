/-! A SMALL MACHINE, XIII: it runs methods; what it finds is a contract -/
def mv_rk : Option FieldType → Nat
  | none => 0
  | some .int => 1
  | some .long => 2
  | some (.object _) => 3
  | some (.array _) => 3
  | some .boolean => 4
  | _ => 9
def mv_rt (q : Nat) (i : Instr) (S : List mv_V) : Option (List mv_V) := match i, S with
  | .return_, [] => bif Nat.beq q 0 then some [] else none
  | .ireturn, [x] => bif (Nat.beq q 1 && mv_isI x) || (Nat.beq q 4 && (Nat.beq x.1 0 && Nat.blt x.2.1 2)) then some [x] else none
  | .lreturn, [x] => bif Nat.beq q 2 && mv_isL x then some [x] else none
  | .areturn, [x] => bif Nat.beq q 3 && mv_isA x then some [x] else none
  | _, _ => none
section MG
variable {p : Program} {l : Launch} {e : Env} {R : Room} {s : State} {m : MethodId} {args : Array Value} {below : List Frame} {meth : Method} {c : Code} {D : va_G} {cl : List vw_C} {tys : List (ClassId × FieldType)} {A : Nat → Prop} {tb : Nat → Nat} {nL : Nat} {Q : State → Prop} {n0 : Nat} {ad0 : Nat → Nat} {cc : ByteArray} {pc L : Nat} {S S' : List mv_V} {n : Nat} {w : mv_T 10} {cells slots : Nat}
theorem mg_ret (hx : p.tables.exec = Jvm.exec) (hb : c.code = cc) {rt : Option FieldType} (hr : meth.sig.returnType = rt) (hlocks : meth.locks = false) (hK : va_K D cl tys s) {i : Instr} {ret : List mv_V} {fr lo : Nat} (hdg : decode cc pc = .ok (i, 1)) (h : mv_rt (mv_rk rt) i S = some ret) : mv_G p l e R s m args below meth c D cl tys A tb nL (MQ below (mv_Q D cl tys tb A n0 ad0 (ret, n, w, cells, slots, fr, lo)) args s cells slots A) n0 ad0 pc L S n w cells slots := by
  intro ad ws H locs ls vs hn h0 hW hP hD hS hL hV
  unfold mv_rt at h
  split at h
  · obtain ⟨h1, h2⟩ := mv_bif h
    subst h2
    have e1 := hV.nil
    subst e1
    have hr0 : meth.sig.returnType = none := by
      rw [hr]
      unfold mv_rk at h1
      split at h1 <;> first | rfl | (simp at h1; done)
    exact W.vret hx hb hr0 (fun t ht hWt => ⟨⟨none, ad, ws, rfl, hn, h0, hW, by rw [ht]; exact hP, va_K.moved hWt.alike hK, hD, trivial⟩, hS.F ht⟩) hS.2.2 hdg
  · rename_i xv
    obtain ⟨h1, h2⟩ := mv_bif h
    subst h2
    obtain ⟨v, vs1, rfl, hv, hV1⟩ := hV.cons
    have e1 := hV1.nil
    subst e1
    simp only [Bool.or_eq_true, Bool.and_eq_true] at h1
    rcases h1 with ⟨h1, h2⟩ | ⟨h1, h2, h3⟩
    · obtain ⟨y, rfl, -⟩ := hv.int h2
      have hr0 : meth.sig.returnType = some .int := by
        rw [hr]
        unfold mv_rk at h1
        split at h1 <;> first | rfl | (simp at h1; done)
      exact W.iret hx hb hr0 (fun t ht hWt => ⟨⟨some (.int y), ad, ws, rfl, hn, h0, hW, by rw [ht]; exact hP, va_K.moved hWt.alike hK, hD, ⟨hv, trivial⟩⟩, hS.F ht⟩) hS.2.2 hdg
    · have e2 := mv_k0 hv h2
      subst e2
      have hr0 : meth.sig.returnType = some .boolean := by
        rw [hr]
        unfold mv_rk at h1
        split at h1 <;> first | rfl | (simp at h1; done)
      have hnr : narrow .boolean (.int (nI (xv.2.1))) = .int (nI (xv.2.1)) := by
        simp only [Nat.blt_eq] at h3
        have : xv.2.1 = 0 ∨ xv.2.1 = 1 := by omega
        rcases this with z | z <;> rw [z] <;> decide
      exact W.zret hx hb hr0 hnr (fun t ht hWt => ⟨⟨some _, ad, ws, rfl, hn, h0, hW, by rw [ht]; exact hP, va_K.moved hWt.alike hK, hD, ⟨hv, trivial⟩⟩, hS.F ht⟩) hS.2.2 hdg
  · obtain ⟨h1, h2⟩ := mv_bif h
    subst h2
    obtain ⟨v, vs1, rfl, hv, hV1⟩ := hV.cons
    have e1 := hV1.nil
    subst e1
    simp only [Bool.and_eq_true] at h1
    obtain ⟨y, rfl, -⟩ := hv.long h1.2
    have hr0 : meth.sig.returnType = some .long := by
      rw [hr]
      have h2 := h1.1
      unfold mv_rk at h2
      split at h2 <;> first | rfl | (simp at h2; done)
    exact W.lret hx hb hr0 (fun t ht hWt => ⟨⟨some (.long y), ad, ws, rfl, hn, h0, hW, by rw [ht]; exact hP, va_K.moved hWt.alike hK, hD, ⟨hv, trivial⟩⟩, hS.F ht⟩) hS.2.2 hdg
  · obtain ⟨h1, h2⟩ := mv_bif h
    subst h2
    obtain ⟨v, vs1, rfl, hv, hV1⟩ := hV.cons
    have e1 := hV1.nil
    subst e1
    simp only [Bool.and_eq_true] at h1
    obtain ⟨ty, hr0, hty⟩ : ∃ ty, meth.sig.returnType = some ty ∧ ((∃ n, ty = .object n) ∨ ∃ t, ty = .array t) := by
      rw [hr]
      have h2 := h1.1
      unfold mv_rk at h2
      split at h2
      · simp at h2
      · simp at h2
      · simp at h2
      · exact ⟨_, rfl, Or.inl ⟨_, rfl⟩⟩
      · exact ⟨_, rfl, Or.inr ⟨_, rfl⟩⟩
      · simp at h2
      · simp at h2
    exact W.aret hx hb hr0 hty (mv_isA_spec hv h1.2) (fun t ht hWt => ⟨⟨some v, ad, ws, rfl, hn, h0, hW, by rw [ht]; exact hP, va_K.moved hWt.alike hK, hD, ⟨hv, trivial⟩⟩, hS.F ht⟩) hS.2.2 hdg
  · cases h
end MG
/-- the locals at a method's entry -/
def mv_l0 : Nat → List mv_V → Nat → Nat
  | _, [], L => L
  | i, x :: xs, L => mv_l0 (bif mv_isL x then i + 2 else i + 1) xs (mv_wr 136 L i (mv_enc x))
def mv_oks : List mv_V → Bool
  | [] => true
  | x :: xs => mv_ok x && mv_oks xs
theorem mv_l0_get : ∀ (xs : List mv_V) (i L j : Nat), mv_oks xs = true → (∀ q, i ≤ q → (mv_lg L q).1 = 255) → ∀ (n : Nat) (ad tb : Nat → Nat) (vs : List Value), mv_S n ad tb xs vs → (mv_lg (mv_l0 i xs L) j).1 ≠ 255 → (∃ v, (j, v) ∈ lv_args i vs ∧ mv_r n ad tb (mv_lg (mv_l0 i xs L) j) v) ∨ (j < i ∧ mv_lg (mv_l0 i xs L) j = mv_lg L j)
  | [], i, L, j, _, hL, n, ad, tb, vs, _, hj => by
    refine Or.inr ⟨?_, rfl⟩
    rcases Nat.lt_or_ge j i with h | h
    · exact h
    · exact absurd (hL j h) hj
  | x :: xs, i, L, j, hok, hL, n, ad, tb, vs, hV, hj => by
    obtain ⟨v, vs', rfl, h1, h2⟩ := mv_S.cons hV
    have ho : mv_ok x = true ∧ mv_oks xs = true := by
      have : (mv_ok x && mv_oks xs) = true := hok
      simpa using this
    have hcat : (if v.category = 2 then i + 2 else i + 1) = (bif mv_isL x then i + 2 else i + 1) := by
      cases hb : mv_isL x with
      | true => rw [if_pos (h1.cat.mpr hb)]; rfl
      | false => rw [if_neg (fun z => by rw [h1.cat.mp z] at hb; cases hb)]; rfl
    have hi : i + 1 ≤ (bif mv_isL x then i + 2 else i + 1) := by cases mv_isL x <;> simp
    have key := mv_l0_get xs (bif mv_isL x then i + 2 else i + 1) (mv_wr 136 L i (mv_enc x)) j ho.2 (fun q hq => by
      rw [mv_lg_wr, if_neg (by omega)]
      exact hL q (by omega)) n ad tb vs' h2 hj
    show (∃ u, (j, u) ∈ (i, v) :: lv_args (if v.category = 2 then i + 2 else i + 1) vs' ∧ mv_r n ad tb (mv_lg (mv_l0 (bif mv_isL x then i + 2 else i + 1) xs (mv_wr 136 L i (mv_enc x))) j) u) ∨ (j < i ∧ mv_lg (mv_l0 (bif mv_isL x then i + 2 else i + 1) xs (mv_wr 136 L i (mv_enc x))) j = mv_lg L j)
    rcases key with ⟨u, g1, g2⟩ | ⟨g1, g2⟩
    · exact Or.inl ⟨u, List.mem_cons_of_mem _ (by rw [hcat]; exact g1), g2⟩
    · rw [mv_lg_wr] at g2
      by_cases e : j = i
      · rw [if_pos e, mv_dec_enc ho.1] at g2
        refine Or.inl ⟨v, by rw [e]; exact List.mem_cons_self, ?_⟩
        rw [g2]; exact h1
      · rw [if_neg e] at g2
        have : j < i := by
          rcases Nat.lt_or_ge j i with h | h
          · exact h
          · exfalso
            apply hj
            show (mv_lg (mv_l0 (bif mv_isL x then i + 2 else i + 1) xs (mv_wr 136 L i (mv_enc x))) j).1 = 255
            rw [g2]; exact hL j h
        exact Or.inr ⟨this, g2⟩
theorem mv_l0_ok {n : Nat} {ad tb : Nat → Nat} {nL : Nat} {ls : Array Slot} {xs : List mv_V} {vs : List Value} (hok : mv_oks xs = true) (hV : mv_S n ad tb xs vs) (h : lv_has ls nL (lv_args 0 vs)) : mv_L n ad tb nL (mv_l0 0 xs 0) ls := by
  refine ⟨h.1, h.2.1, fun j hj => ?_⟩
  have hz : ∀ q, 0 ≤ q → (mv_lg 0 q).1 = 255 := fun q _ => by unfold mv_lg; rw [mv_rd_zero]; decide
  rcases mv_l0_get xs 0 0 j hok hz n ad tb vs hV hj with ⟨v, g1, g2⟩ | ⟨g1, -⟩
  · exact ⟨v, h.2.2 _ g1, g2⟩
  · omega
/-- words of the arguments -/
theorem mv_sl_len {n : Nat} {ad tb : Nat → Nat} : ∀ {xs : List mv_V} {vs : List Value}, mv_S n ad tb xs vs → (lg_sl vs).length = mv_cs xs
  | [], [], _ => rfl
  | x :: xs, v :: vs, h => by
    have ih := mv_sl_len h.2
    have e : lg_sl (v :: vs) = (if v.category = 2 then [Slot.val v, Slot.second] else [Slot.val v]) ++ lg_sl vs := rfl
    rw [e, List.length_append, ih]
    show _ = (bif mv_isL x then 2 else 1) + mv_cs xs
    cases hb : mv_isL x with
    | true => rw [if_pos (h.1.cat.mpr hb)]; rfl
    | false => rw [if_neg (fun z => by rw [h.1.cat.mp z] at hb; cases hb)]; rfl
  | [], _ :: _, h => h.elim
  | _ :: _, [], h => h.elim
/-- a method's contract, out of a walk of its body -/
theorem mv_Met.of {l : Launch} {D : va_G} {cl : List vw_C} {tys : List (ClassId × FieldType)} {tb : Nat → Nat} {E : (Nat → Prop) → State → Prop} {y : MethodName} {cy : ByteArray} {my : Nat} {ry : Option FieldType} {wy : List Cond} {as : List mv_V} {n : Nat} {w : mv_T 10} {res : mv_R} (hy : plainName y.cls = true) (hok : mv_oks as = true) (hcs : mv_cs as ≤ my)
    (h : ∀ (p : Program) (e : Env) (s : State) (m : MethodId) (args : Array Value) (below : List Frame) (meth : Method) (c : Code) (A : Nat → Prop) (ad0 : Nat → Nat), p.tables.exec = Jvm.exec → c.code = cy → c.maxLocals = my → meth.sig.returnType = ry → meth.locks = false → s.vm.findClass y.cls = some m.cls → meth.name = y.name → (∀ x ∈ Cond.code y cy my ry :: wy, x.before args s = true) → va_K D cl tys s → (∀ q, s.heap.size ≤ q → A q) → E A s →
      mv_G p l e { frames := res.2.2.2.2.2.1, cells := res.2.2.2.1, slots := res.2.2.2.2.1, locals := res.2.2.2.2.2.2 } s m args below meth c D cl tys A tb my (MQ below (mv_Q D cl tys tb A n ad0 res) args s res.2.2.2.1 res.2.2.2.2.1 A) n ad0 0 (mv_l0 0 as 0) [] n w 0 0) : mv_Met l D cl tys tb E y (Cond.code y cy my ry :: wy) as n w res := by
  intro ad ws vs sz hW hV
  refine Met.ofW (cc := cy) (maxL := my) (ret := ry) hy rfl ?_
  intro p e s m args below meth c s₁ B hml hv
  obtain ⟨rfl, hsz, hP, hK, hD0, hE⟩ := hv
  subst hsz
  have hD := hD0.self (sz := s.heap.size)
  have hown : s.vm.findClass y.cls = some m.cls := findClass_of_methodNamed B.named
  have hl := lv_entry vs (n := my) (by rw [mv_sl_len hV]; exact hcs)
  rw [lg_entry_eq]
  exact h p e s m vs.toArray below meth c (va_A ws s.heap.size) ad B.exec B.bytes hml B.returns B.notSynchronized hown (name_of_methodNamed B.named B.method).1 (atoms_spec (ws := Cond.code y cy my ry :: wy) B.pre) hK (fun q h => Or.inr h) hE ad ws s.heap [] _ [] (Nat.le_refl n) (fun _ _ => rfl) hW hP hD va_S.rf (mv_l0_ok hok hV hl) trivial
