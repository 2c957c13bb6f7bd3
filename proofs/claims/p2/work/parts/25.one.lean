/-! A SMALL MACHINE, XVI: what it finds is so -/
/-- what an entry of the pool means, in words of the tables -/
def mv_FL (cl : List vw_C) (mw nst : List Cond) (own : String) (fty : Nat → Nat → FieldType) (ffin : Nat → Nat → Bool) (f : Nat × Nat × Nat) (idx : Nat) : Prop := ∃ (C : String) (T : u_T) (N : Nat), cl[f.2.1]? = some (C, T, N) ∧ f.2.2 < N ∧ (∀ x ∈ u_ws C T N, x ∈ mw) ∧ (∀ k, k < N → parseFieldDescriptor (T k).2.2.1 = some (fty f.2.1 k)) ∧ (∀ a, a < N → ∀ b, b < N → a ≠ b → (T a).2.1 ≠ (T b).2.1) ∧ (T f.2.2).2.2.2 = ffin f.2.1 f.2.2 ∧
  ((f.1 = 1 ∧ Cond.fieldLink own idx (T f.2.2).1 (T f.2.2).2.1 (T f.2.2).2.2.1 ∈ mw ∧ (ffin f.2.1 f.2.2 = true → (T f.2.2).1 = own)) ∨ (f.1 = 2 ∧ ∃ host, Cond.fieldLinkNest own idx (T f.2.2).1 (T f.2.2).2.1 (T f.2.2).2.2.1 host ∈ nst))
def mv_NL (cl : List vw_C) (mw : List Cond) (own : String) (fty : Nat → Nat → FieldType) (dpk : Nat → Nat) (q : Nat × Nat) (idx : Nat) : Prop := ∃ (C : String) (T : u_T), cl[q.1 - 1]? = some (C, T, q.2) ∧ (∀ x ∈ u_ws C T q.2, x ∈ mw) ∧ (∀ k, k < q.2 → parseFieldDescriptor (T k).2.2.1 = some (fty (q.1 - 1) k)) ∧ Cond.classLink own idx C ∈ mw ∧ Cond.instantiable C q.2 ∈ mw ∧ Cond.initialized C ∈ mw ∧ ∀ j, j < q.2 → mv_dec (mv_rd 136 (dpk (q.1 - 1)) j) = mv_df (fty (q.1 - 1) j) ∧ mv_dfok (fty (q.1 - 1) j) = true
/-- a method that is called -/
def mv_MB (mw : List Cond) (y : MethodName) (cy : ByteArray) (my : Nat) (ry : Option FieldType) (np : Nat) : Prop := plainName y.cls = true ∧ Cond.code y cy my ry ∈ mw ∧ Cond.initialized y.cls ∈ mw ∧ y.cls ≠ "java/lang/invoke/MethodHandle" ∧ y.cls ≠ "java/lang/invoke/VarHandle" ∧ (parseMethodDescriptor y.desc).map (fun d => d.parameters.length) = some np
def mv_ML (cl : List vw_C) (mw nst : List Cond) (my : Nat → MethodName) (mcc : Nat → ByteArray) (mL : Nat → Nat) (mret : Nat → Option FieldType) (mci : Nat → Nat) (own : String) (q : Nat × Nat × Nat) (idx : Nat) : Prop :=
  (q.1 = 1 → mv_MB mw (my q.2.1) (mcc q.2.1) (mL q.2.1) (mret q.2.1) q.2.2 ∧ Cond.methodLink own idx (my q.2.1) ∈ mw ∧ Cond.static (my q.2.1) ∈ mw) ∧
  (q.1 = 2 → mv_MB mw (my q.2.1) (mcc q.2.1) (mL q.2.1) (mret q.2.1) q.2.2 ∧ (∃ host, Cond.methodLinkNest own idx (my q.2.1) host ∈ nst) ∧ Cond.static (my q.2.1) ∈ mw) ∧
  (q.1 = 3 → mv_MB mw (my q.2.1) (mcc q.2.1) (mL q.2.1) (mret q.2.1) q.2.2 ∧ Cond.methodLink own idx (my q.2.1) ∈ mw ∧ Cond.instanceMethod (my q.2.1) ∈ mw ∧ Cond.selects (my q.2.1).cls (my q.2.1) (my q.2.1) ∈ mw ∧ ∃ r, cl[mci q.2.1]? = some r ∧ r.1 = (my q.2.1).cls) ∧
  (q.1 = 4 → mv_MB mw (my q.2.1) (mcc q.2.1) (mL q.2.1) (mret q.2.1) q.2.2 ∧ (∃ host, Cond.methodLinkNest own idx (my q.2.1) host ∈ nst) ∧ Cond.instanceMethod (my q.2.1) ∈ mw ∧ Cond.selects (my q.2.1).cls (my q.2.1) (my q.2.1) ∈ mw ∧ ∃ r, cl[mci q.2.1]? = some r ∧ r.1 = (my q.2.1).cls) ∧
  (q.1 = 5 → mv_MB mw (my q.2.1) (mcc q.2.1) (mL q.2.1) (mret q.2.1) q.2.2 ∧ mret q.2.1 = none ∧ Cond.methodLink own idx (my q.2.1) ∈ mw ∧ Cond.instanceMethod (my q.2.1) ∈ mw ∧ (my q.2.1).name = "<init>") ∧
  (q.1 = 6 → mv_MB mw (my q.2.1) (mcc q.2.1) (mL q.2.1) (mret q.2.1) q.2.2 ∧ mret q.2.1 = none ∧ (∃ host, Cond.methodLinkNest own idx (my q.2.1) host ∈ nst) ∧ Cond.instanceMethod (my q.2.1) ∈ mw ∧ (my q.2.1).name = "<init>") ∧
  (q.1 = 7 → Cond.methodLink own idx Lib.objectInit ∈ mw ∧ Cond.instanceMethod Lib.objectInit ∈ mw ∧ Cond.code Lib.objectInit ⟨#[0xb1]⟩ 1 none ∈ mw) ∧
  (q.1 = 8 → (q.2.1 = 0 → Cond.methodLink own idx arraycopyName ∈ mw ∧ Cond.native arraycopyName ∈ mw ∧ Cond.static arraycopyName ∈ mw ∧ Cond.initialized "java/lang/System" ∈ mw) ∧ (q.2.1 = 1 → Cond.methodLink own idx Lib.Math.min.name ∈ mw ∧ Cond.static Lib.Math.min.name ∈ mw ∧ Cond.initialized "java/lang/Math" ∈ mw ∧ Cond.code Lib.Math.min.name Lib.Math.min.code 2 (some .int) ∈ mw))
section MS
variable {cd : Nat → Nat → Nat × Instr × Nat} {kc : Nat → Nat → Nat × Nat} {fl : Nat → Nat → Nat × Nat × Nat} {nl : Nat → Nat → Nat × Nat} {al sl : Nat → Nat → Nat} {ml : Nat → Nat → Nat × Nat × Nat} {mL mr : Nat → Nat} {ini : Nat → Bool} {mci : Nat → Nat} {fty : Nat → Nat → FieldType} {ffin : Nat → Nat → Bool} {tl : List FieldType} {cn : List String} {dpk : Nat → Nat} {stt : Nat → Nat × Nat × Nat} {prim : Nat → List mv_V → Nat → mv_T 10 → Option mv_R}
variable {my : Nat → MethodName} {mcc : Nat → ByteArray} {mret : Nat → Option FieldType} {mw nst : List Cond} {aos : List String} {zs : List (String × String × String)} {zt : List (FieldType × Nat × (Nat → Value))}
variable {l : Launch} {D : va_G} {cl : List vw_C} {tys : List (ClassId × FieldType)} {tb : Nat → Nat}
/-- all that the tables of a program have to keep -/
def mv_FX (cd : Nat → Nat → Nat × Instr × Nat) (kc : Nat → Nat → Nat × Nat) (fl : Nat → Nat → Nat × Nat × Nat) (nl : Nat → Nat → Nat × Nat) (al sl : Nat → Nat → Nat) (ml : Nat → Nat → Nat × Nat × Nat) (mL mr : Nat → Nat) (ini : Nat → Bool) (mci : Nat → Nat) (fty : Nat → Nat → FieldType) (ffin : Nat → Nat → Bool) (tl : List FieldType) (cn : List String) (dpk : Nat → Nat) (stt : Nat → Nat × Nat × Nat) (my : Nat → MethodName) (mcc : Nat → ByteArray) (mret : Nat → Option FieldType) (mw nst : List Cond) (aos : List String) (zs : List (String × String × String)) (zt : List (FieldType × Nat × (Nat → Value))) (cl : List vw_C) : Prop :=
  (∀ k pc, 0 < (cd k pc).2.2 → decode (mcc k) pc = .ok (cd k pc).2) ∧ (∀ k, mr k = mv_rk (mret k)) ∧
  (∀ k j a, kc k j = (1, a) → Cond.constant (my k).cls j (nI a) ∈ mw) ∧ (∀ k j a, kc k j = (2, a) → Cond.constantLong (my k).cls j (lN a) ∈ mw) ∧
  (∀ k j, 1 ≤ (fl k j).1 → mv_FL cl mw nst (my k).cls fty ffin (fl k j) j) ∧ (∀ k j, 0 < (nl k j).1 → mv_NL cl mw (my k).cls fty dpk (nl k j) j) ∧
  (∀ k j, 0 < al k j → ∃ C, tl[al k j - 1]? = some (.object C) ∧ Cond.classLink (my k).cls j C ∈ mw ∧ C ∈ aos) ∧
  (∀ k j, 0 < sl k j → ∃ q, zs[sl k j - 1]? = some q ∧ (Cond.fieldLink (my k).cls j q.1 q.2.1 q.2.2 ∈ mw ∨ ∃ host, Cond.fieldLinkNest (my k).cls j q.1 q.2.1 q.2.2 host ∈ nst)) ∧
  (∀ k j, mv_ML cl mw nst my mcc mL mret mci (my k).cls (ml k j) j) ∧ (∀ k, ini k = true → (my k).name = "<init>") ∧
  (∀ ty : FieldType, ty = .int ∨ ty = .byte ∨ ty = .boolean ∨ ty = .long → Cond.arrayClass ty ∈ mw) ∧ (∀ x ∈ mw, goodWord x = true) ∧ (∀ x ∈ nst, mv_isNest x = true) ∧
  (tl[0]? = some .int ∧ tl[1]? = some .byte ∧ tl[2]? = some .boolean ∧ tl[3]? = some .long) ∧ cl.map (fun q => q.1) = cn ∧
  (∀ j, tl[(stt j).1]? = none ∨ ∃ ty, tl[(stt j).1]? = some ty ∧ zt[j]? = some (ty, (stt j).2.1, fun i => .int (nI (mv_rd 32 (stt j).2.2 i)))) ∧
  (∀ k j, (nl k j).1 = 0 → ((nl k j).2 = 101 → Cond.classLink (my k).cls j "[[B" ∈ mw) ∧ ((nl k j).2 = 102 → Cond.classLink (my k).cls j "[[J" ∈ mw))
variable {p : Program} {e : Env} {R : Room} {s : State} {m : MethodId} {args : Array Value} {below : List Frame} {meth : Method} {c : Code} {A : Nat → Prop} {Q : State → Prop} {n0 : Nat} {ad0 : Nat → Nat} {cells slots : Nat} {w : mv_T 10} {n : Nat}
theorem mv_nestb {x : Cond} (hx : mv_isNest x = true) (h : va_Nw x s) : x.before args s = true := by
  cases x <;> first | exact va_Nw.use rfl h | cases hx
theorem mg_one (hF : mv_FX cd kc fl nl al sl ml mL mr ini mci fty ffin tl cn dpk stt my mcc mret mw nst aos zs zt cl) (htl : tys.map Prod.snd = tl) {g len k pc L n' L' pc' dc ds : Nat} {i : Instr} {w' : mv_T 10} {S S' : List mv_V} (hx : p.tables.exec = Jvm.exec) (hb : c.code = mcc k) (hown : s.vm.findClass (my k).cls = some m.cls) (hname : meth.name = (my k).name) (hts : ∀ x ∈ mw, x.before args s = true) (hK : va_K D cl tys s) (hA : ∀ q, s.heap.size ≤ q → A q) (hE : mv_E nst aos zs zt tb A s)
    (hdg : decode (mcc k) pc = .ok (i, len)) (h : mv_one g (mL k) (kc k) (fl k) (nl k) (al k) (sl k) (ini k) fty ffin tl cn dpk i len pc L S n w = some (pc', L', S', n', w', dc, ds)) (hc1 : cells + dc ≤ R.cells) (hc2 : slots + ds ≤ R.slots)
    (kk : mv_G p l e R s m args below meth c D cl tys A tb (mL k) Q n0 ad0 pc' L' S' n' w' (cells + dc) (slots + ds)) : mv_G p l e R s m args below meth c D cl tys A tb (mL k) Q n0 ad0 pc L S n w cells slots := by
  obtain ⟨f1, f2, f3, f4, f5, f6, f7, f8, f9, f10, f11, f12, f13, f14, f15, f16, f17⟩ := hF
  have hfl : ∀ j, 1 ≤ (fl k j).1 → mv_flok s args cl mw (my k).cls fty ffin (fl k j) j := by
    intro j hj
    obtain ⟨C, T, N, g1, g2, g3, g4, g5, g6, g7⟩ := f5 k j hj
    refine ⟨C, T, N, g1, g2, g3, g4, g5, g6, ?_⟩
    rcases g7 with ⟨q1, q2, q3⟩ | ⟨q1, host, q2⟩
    · exact Or.inl ⟨q1, hts _ q2, q3⟩
    · exact Or.inr ⟨q1, host, mv_nestb (f13 _ q2) (hE.1 _ q2)⟩
  unfold mv_one at h
  cases hg1 : Nat.beq g 1 with
  | true =>
    rw [hg1] at h
    simp only [cond_true] at h
    split at h
    · rename_i q L1 S1 h1
      obtain ⟨h2, h3⟩ := mv_bif h
      cases h3
      have e1 := Nat.eq_of_beq_eq_true h2
      subst e1
      exact mg_lk hx hb hdg h1 kk
    · cases h
  | false =>
    rw [hg1] at h
    simp only [cond_false] at h
    cases hg2 : Nat.beq g 2 with
    | true =>
      rw [hg2] at h
      simp only [cond_true] at h
      split at h
      · rename_i q S1 h1
        obtain ⟨h2, h3⟩ := mv_bif h
        cases h3
        have e1 := Nat.eq_of_beq_eq_true h2
        subst e1
        exact mg_sk hx hb hdg h1 kk
      · cases h
    | false =>
      rw [hg2] at h
      simp only [cond_false] at h
      cases hg3 : Nat.beq g 3 with
      | true =>
        rw [hg3] at h
        simp only [cond_true] at h
        split at h
        · rename_i q S1 h1
          obtain ⟨h2, h3⟩ := mv_bif h
          cases h3
          have e1 := Nat.eq_of_beq_eq_true h2
          subst e1
          exact mg_hk hx hb hts hown hK htl hfl hdg h1 kk
        · cases h
      | false =>
        rw [hg3] at h
        simp only [cond_false] at h
        cases hg4 : Nat.beq g 4 with
        | true =>
          rw [hg4] at h
          simp only [cond_true] at h
          split at h
          · rename_i q S1 h1
            obtain ⟨h2, h3⟩ := mv_bif h
            cases h3
            have e1 := Nat.eq_of_beq_eq_true h2
            subst e1
            exact mg_ck hx hb hown (fun j a hj => hts _ (f3 k j a hj)) (fun j a hj => hts _ (f4 k j a hj)) hdg h1 kk
          · cases h
        | false =>
          rw [hg4] at h
          simp only [cond_false] at h
          cases hg5 : Nat.beq g 5 with
          | true =>
            rw [hg5] at h
            simp only [cond_true] at h
            split at h
            · rename_i q S1 h1
              obtain ⟨h2, h3⟩ := mv_bif h
              cases h3
              exact mg_bk hx hb hdg h2 h1 kk
            · cases h
          | false =>
            rw [hg5] at h
            simp only [cond_false] at h
            cases hg6 : Nat.beq g 6 with
            | true =>
              rw [hg6] at h
              simp only [cond_true] at h
              split at h
              · rename_i q S1 w1 h1
                obtain ⟨h2, h3⟩ := mv_bif h
                cases h3
                have e1 := Nat.eq_of_beq_eq_true h2
                subst e1
                exact mg_wk hx hb hts hown hK htl f15 (fun hi => by rw [hname]; exact f10 k hi) hfl hdg h1 kk
              · cases h
            | false =>
              rw [hg6] at h
              simp only [cond_false] at h
              cases hg7 : Nat.beq g 7 with
              | true =>
                rw [hg7] at h
                simp only [cond_true] at h
                split at h
                · rename_i q S1 x1 d1 h1
                  obtain ⟨h2, h3⟩ := mv_bif h
                  cases h3
                  have e1 := Nat.eq_of_beq_eq_true h2
                  subst e1
                  refine mg_ak (fty := fty) hx hb hts hown hK hA htl f14 (fun ty hty => hts _ (f11 ty hty)) (fun j hj => ?_) (fun j hj => ?_) (fun j hj => ?_) hdg h1 hc1 hc2 kk
                  · obtain ⟨C, T, g1, g2, g3, g4, g5, g6, g7⟩ := f6 k j hj
                    exact ⟨C, T, g1, g2, g3, hts _ g4, hts _ g5, hts _ g6, g7⟩
                  · obtain ⟨C, g1, g2, g3⟩ := f7 k j hj
                    exact ⟨C, g1, hts _ g2, hE.2.1.1 C g3⟩
                  · obtain ⟨q, g1, g2⟩ := f8 k j hj
                    refine ⟨q.1, q.2.1, q.2.2, hE.2.2.1 _ q g1, ?_⟩
                    rcases g2 with g2 | ⟨host, g2⟩
                    · exact Or.inl (hts _ g2)
                    · exact Or.inr ⟨host, mv_nestb (f13 _ g2) (hE.1 _ g2)⟩
                · cases h
              | false =>
                rw [hg7] at h
                simp only [cond_false] at h
                split at h
                · rename_i q S1 h1
                  cases h
                  exact mg_tk hx hb hdg h1 kk
                · cases h
end MS
