/-! A SMALL MACHINE, XVIII: the theorem -/
section MS
variable {cd : Nat → Nat → Nat × Instr × Nat} {kc : Nat → Nat → Nat × Nat} {fl : Nat → Nat → Nat × Nat × Nat} {nl : Nat → Nat → Nat × Nat} {al sl : Nat → Nat → Nat} {ml : Nat → Nat → Nat × Nat × Nat} {mL mr : Nat → Nat} {ini : Nat → Bool} {mci : Nat → Nat} {fty : Nat → Nat → FieldType} {ffin : Nat → Nat → Bool} {tl : List FieldType} {cn : List String} {dpk : Nat → Nat} {stt : Nat → Nat × Nat × Nat} {prim : Nat → List mv_V → Nat → mv_T 10 → Option mv_R}
variable {my : Nat → MethodName} {mcc : Nat → ByteArray} {mret : Nat → Option FieldType} {mw nst : List Cond} {aos : List String} {zs : List (String × String × String)} {zt : List (FieldType × Nat × (Nat → Value))}
variable {l : Launch} {D : va_G} {cl : List vw_C} {tys : List (ClassId × FieldType)} {tb : Nat → Nat}
theorem mv_plain (hF : mv_FX cd kc fl nl al sl ml mL mr ini mci fty ffin tl cn dpk stt my mcc mret mw nst aos zs zt cl) {k kd q : Nat} {i : Instr} {as S S0 : List mv_V} (h : mv_cal (ml k) i S = some (kd, q, as, S0)) (h7 : kd ≠ 7) (h8 : kd ≠ 8) : plainName (my q).cls = true := by
  obtain ⟨f1, f2, f3, f4, f5, f6, f7, f8, f9, f10, f11, f12, f13, f14, f15, f16, f17⟩ := hF
  unfold mv_cal at h
  split at h
  · rename_i j
    obtain ⟨h1, h2⟩ := mv_bif2 h
    obtain ⟨e1, e2, e3, e4⟩ := mv_cl_spec h2
    obtain ⟨m1, m2, m3, m4, m5, m6, m7, m8⟩ := f9 k j
    subst e1; subst e2
    simp only [Bool.or_eq_true, Nat.beq_eq] at h1
    rcases h1 with h1 | h1 | h1
    · exact (m1 h1).1.1
    · exact (m2 h1).1.1
    · exact absurd h1 h8
  · rename_i j
    obtain ⟨h1, h2⟩ := mv_bif2 h
    obtain ⟨e1, e2, e3, e4⟩ := mv_cl_spec h2
    obtain ⟨m1, m2, m3, m4, m5, m6, m7, m8⟩ := f9 k j
    subst e1; subst e2
    simp only [Bool.or_eq_true, Nat.beq_eq] at h1
    rcases h1 with h1 | h1
    · exact (m3 h1).1.1
    · exact (m4 h1).1.1
  · rename_i j
    obtain ⟨h1, h2⟩ := mv_bif2 h
    obtain ⟨e1, e2, e3, e4⟩ := mv_cl_spec h2
    obtain ⟨m1, m2, m3, m4, m5, m6, m7, m8⟩ := f9 k j
    subst e1; subst e2
    simp only [Bool.or_eq_true, Nat.beq_eq] at h1
    rcases h1 with h1 | h1 | h1
    · exact (m5 h1).1.1
    · exact (m6 h1).1.1
    · exact absurd h1 h7
  · cases h
/-- what a run of the small machine from (pc, L, S, n, w) says of the JVM -/
def mv_Says (l : Launch) (D : va_G) (cl : List vw_C) (tys : List (ClassId × FieldType)) (tb : Nat → Nat) (mL : Nat → Nat) (my : Nat → MethodName) (mcc : Nat → ByteArray) (mret : Nat → Option FieldType) (mw nst : List Cond) (aos : List String) (zs : List (String × String × String)) (zt : List (FieldType × Nat × (Nat → Value))) (k pc L : Nat) (S : List mv_V) (n : Nat) (w : mv_T 10) (cells slots : Nat) (res : mv_R) : Prop :=
  ∀ (p : Program) (e : Env) (R : Room) (s : State) (m : MethodId) (args : Array Value) (below : List Frame) (meth : Method) (c : Code) (A : Nat → Prop) (n0 : Nat) (ad0 : Nat → Nat), p.tables.exec = Jvm.exec → c.code = mcc k → c.maxLocals = mL k → meth.sig.returnType = mret k → meth.locks = false → s.vm.findClass (my k).cls = some m.cls → meth.name = (my k).name → (∀ x ∈ mw, x.before args s = true) → va_K D cl tys s → (∀ q, s.heap.size ≤ q → A q) → mv_E nst aos zs zt tb A s → res.2.2.2.2.2.1 ≤ R.frames → res.2.2.2.2.2.2 ≤ R.locals → res.2.2.2.1 ≤ R.cells → res.2.2.2.2.1 ≤ R.slots →
    mv_G p l e R s m args below meth c D cl tys A tb (mL k) (MQ below (mv_Q D cl tys tb A n0 ad0 res) args s res.2.2.2.1 res.2.2.2.2.1 A) n0 ad0 pc L S n w cells slots
set_option maxHeartbeats 4000000 in
theorem mv_sound (hF : mv_FX cd kc fl nl al sl ml mL mr ini mci fty ffin tl cn dpk stt my mcc mret mw nst aos zs zt cl) (htl : tys.map Prod.snd = tl) (hprim : ∀ (q : Nat) (as : List mv_V) (n : Nat) (w : mv_T 10) (r : mv_R), prim q as n w = some r → mv_Met l D cl tys tb (mv_E nst aos zs zt tb) (my q) (Cond.code (my q) (mcc q) (mL q) (mret q) :: mw) as n w r) :
    ∀ (f k pc L : Nat) (S : List mv_V) (n : Nat) (w : mv_T 10) (cells slots fr lo : Nat) (res : mv_R), mv_run cd kc fl nl al sl ml mL mr ini mci fty ffin tl cn dpk stt prim f k pc L S n w cells slots fr lo = some res →
      (fr ≤ res.2.2.2.2.2.1 ∧ lo ≤ res.2.2.2.2.2.2 ∧ cells ≤ res.2.2.2.1 ∧ slots ≤ res.2.2.2.2.1) ∧ mv_Says l D cl tys tb mL my mcc mret mw nst aos zs zt k pc L S n w cells slots res := by
  intro f
  induction f with
  | zero => intro k pc L S n w cells slots fr lo res h; cases h
  | succ f ih =>
    intro k pc L S n w cells slots fr lo res h
    have h' : mv_stepf cd kc fl nl al sl ml mL mr ini mci fty ffin tl cn dpk stt prim (mv_run cd kc fl nl al sl ml mL mr ini mci fty ffin tl cn dpk stt prim f) k pc L S n w cells slots fr lo = some res := h
    clear h
    unfold mv_stepf at h'
    split at h'
    rename_i g i len hcd
    obtain ⟨hpos, h⟩ := mv_bif2 h'
    clear h'
    simp only [Nat.blt_eq] at hpos
    have hdg0 : decode (mcc k) pc = .ok (i, len) := by
      have := hF.1 k pc (by rw [hcd]; exact hpos)
      rw [hcd] at this
      exact this
    cases hg9 : Nat.beq g 9 with
    | true =>
      rw [hg9] at h
      simp only [cond_true] at h
      split at h
      · rename_i ret hret
        obtain ⟨h1, h2⟩ := mv_bif h
        subst h2
        refine ⟨⟨Nat.le_refl _, Nat.le_refl _, Nat.le_refl _, Nat.le_refl _⟩, ?_⟩
        intro p e R s m args below meth c A n0 ad0 hx hb hml hr hlocks hown hname hts hK hA hE r1 r2 r3 r4
        have hdg : decode (mcc k) pc = .ok (i, 1) := by rw [← Nat.eq_of_beq_eq_true h1]; exact hdg0
        rw [hF.2.1 k] at hret
        exact mg_ret hx hb hr hlocks hK hdg hret
      · cases h
    | false =>
      rw [hg9] at h
      simp only [cond_false] at h
      cases hg10 : Nat.beq g 10 with
      | true =>
        rw [hg10] at h
        simp only [cond_true] at h
        split at h
        · rename_i kd q as S0 hcal
          obtain ⟨h1, h2⟩ := mv_bif2 h
          have hlen : len = 3 := Nat.eq_of_beq_eq_true h1
          cases h7 : Nat.beq kd 7 with
          | true =>
            rw [h7] at h2
            simp only [cond_true] at h2
            split at h2
            · rename_i x0
              obtain ⟨h3, h4⟩ := mv_bif2 h2
              obtain ⟨⟨i1, i2, i3, i4⟩, ihS⟩ := ih k (pc + 3) L [] n w cells slots (mv_mx fr 1) (mv_mx lo 12) res h4
              refine ⟨⟨Nat.le_trans (mv_mx_l _ _) i1, Nat.le_trans (mv_mx_l _ _) i2, i3, i4⟩, ?_⟩
              intro p e R s m args below meth c A n0 ad0 hx hb hml hr hlocks hown hname hts hK hA hE r1 r2 r3 r4
              have kk := ihS p e R s m args below meth c A n0 ad0 hx hb hml hr hlocks hown hname hts hK hA hE r1 r2 r3 r4
              unfold mv_cal at hcal
              split at hcal
              · rename_i j
                obtain ⟨g1, g2⟩ := mv_bif2 hcal
                obtain ⟨e1, e2, e3, e4⟩ := mv_cl_spec g2
                have e5 := Nat.eq_of_beq_eq_true h7
                rw [← e1, e5] at g1
                cases g1
              · rename_i j
                obtain ⟨g1, g2⟩ := mv_bif2 hcal
                obtain ⟨e1, e2, e3, e4⟩ := mv_cl_spec g2
                have e5 := Nat.eq_of_beq_eq_true h7
                rw [← e1, e5] at g1
                cases g1
              · rename_i j
                obtain ⟨g1, g2⟩ := mv_bif2 hcal
                obtain ⟨e1, e2, e3, e4⟩ := mv_cl_spec g2
                have e5 := Nat.eq_of_beq_eq_true h7
                obtain ⟨w1, w2, w3⟩ := (hF.2.2.2.2.2.2.2.2.1 k j).2.2.2.2.2.2.1 (e1.symm.trans e5)
                subst hlen
                rw [← e3, mv_ref h3]
                exact mg_objInit hx hb hown hml (hts _ w1) (hts _ w2) (hts _ w3) hdg0 rfl (Nat.le_trans (Nat.le_trans (mv_mx_r _ _) i1) r1) (Nat.le_trans (Nat.le_trans (mv_mx_r _ _) i2) r2) kk
              · cases hcal
            · cases h2
          | false =>
            rw [h7] at h2
            simp only [cond_false] at h2
            have n7 : kd ≠ 7 := fun z => by rw [z] at h7; cases h7
            cases h8 : Nat.beq kd 8 with
            | true =>
              rw [h8] at h2
              simp only [cond_true] at h2
              split at h2
              · rename_i S' w' hw'
                obtain ⟨⟨i1, i2, i3, i4⟩, ihS⟩ := ih k (pc + 3) L S' n w' cells slots (mv_mx fr 1) (mv_mx lo (mv_cs S0 + 18)) res h2
                refine ⟨⟨Nat.le_trans (mv_mx_l _ _) i1, Nat.le_trans (mv_mx_l _ _) i2, i3, i4⟩, ?_⟩
                intro p e R s m args below meth c A n0 ad0 hx hb hml hr hlocks hown hname hts hK hA hE r1 r2 r3 r4
                have kk := ihS p e R s m args below meth c A n0 ad0 hx hb hml hr hlocks hown hname hts hK hA hE r1 r2 r3 r4
                unfold mv_cal at hcal
                split at hcal
                · rename_i j
                  obtain ⟨g1, g2⟩ := mv_bif2 hcal
                  obtain ⟨e1, e2, e3, e4⟩ := mv_cl_spec g2
                  have e5 := Nat.eq_of_beq_eq_true h8
                  have hw := (hF.2.2.2.2.2.2.2.2.1 k j).2.2.2.2.2.2.2 (e1.symm.trans e5)
                  subst hlen
                  rw [← e3]
                  unfold mv_c8 at hw'
                  cases hq0 : Nat.beq q 0 with
                  | true =>
                    rw [hq0] at hw'
                    simp only [cond_true] at hw'
                    obtain ⟨w1, g3, g4⟩ := mv_mp hw'
                    cases g4
                    exact mv_cpa_ok hF htl hx hb hml hown hts hK hA hE hdg0 (hw.1 (e2.symm.trans (Nat.eq_of_beq_eq_true hq0))) g3 (Nat.le_trans (Nat.le_trans (mv_mx_r _ _) i1) r1) (Nat.le_trans (Nat.le_trans (mv_mx_r _ _) i2) r2) kk
                  | false =>
                    rw [hq0] at hw'
                    simp only [cond_false] at hw'
                    obtain ⟨hq1, g2'⟩ := mv_bif2 hw'
                    obtain ⟨v1, g3, g4⟩ := mv_mp g2'
                    cases g4
                    exact mv_min_ok hx hb hml hown hts hK hA hE hdg0 (hw.2 (e2.symm.trans (Nat.eq_of_beq_eq_true hq1))) g3 (Nat.le_trans (Nat.le_trans (mv_mx_r _ _) i1) r1) (Nat.le_trans (Nat.le_trans (mv_mx_r _ _) i2) r2) (Nat.le_trans i3 r3) (Nat.le_trans i4 r4) kk
                · rename_i j
                  obtain ⟨g1, g2⟩ := mv_bif2 hcal
                  obtain ⟨e1, e2, e3, e4⟩ := mv_cl_spec g2
                  have e5 := Nat.eq_of_beq_eq_true h8
                  rw [← e1, e5] at g1
                  cases g1
                · rename_i j
                  obtain ⟨g1, g2⟩ := mv_bif2 hcal
                  obtain ⟨e1, e2, e3, e4⟩ := mv_cl_spec g2
                  have e5 := Nat.eq_of_beq_eq_true h8
                  rw [← e1, e5] at g1
                  cases g1
                · cases hcal
              · cases h2
            | false =>
              rw [h8] at h2
              simp only [cond_false] at h2
              have n8 : kd ≠ 8 := fun z => by rw [z] at h8; cases h8
              obtain ⟨h3, h4⟩ := mv_bif2 h2
              simp only [Bool.and_eq_true, Nat.ble_eq] at h3
              split at h4
              · rename_i r hr0
                obtain ⟨⟨i1, i2, i3, i4⟩, ihS⟩ := ih k (pc + 3) L (r.1 ++ S0) r.2.1 r.2.2.1 (cells + r.2.2.2.1) (slots + r.2.2.2.2.1) (mv_mx fr (r.2.2.2.2.2.1 + 1)) (mv_mx lo (8 + (mL q + 11) + r.2.2.2.2.2.2)) res h4
                have hM : mv_Met l D cl tys tb (mv_E nst aos zs zt tb) (my q) (Cond.code (my q) (mcc q) (mL q) (mret q) :: mw) as n w r := by
                  split at hr0
                  · rename_i r' hp
                    cases hr0
                    exact hprim q as n w r hp
                  · obtain ⟨g1, g2⟩ := mv_bif2 hr0
                    simp only [Bool.and_eq_true, Nat.ble_eq] at g1
                    have hcallee := (ih q 0 (mv_l0 0 as 0) [] n w 0 0 0 0 r g2).2
                    refine mv_Met.of (mv_plain hF hcal n7 n8) g1.1 g1.2 ?_
                    intro p e s m args below meth c A ad0 hx hb hml hr hlocks hown hname hts hK hA hE
                    exact hcallee p e _ s m args below meth c A n ad0 hx hb hml hr hlocks hown hname (fun x hx => hts x (List.mem_cons_of_mem _ hx)) hK hA hE (Nat.le_refl _) (Nat.le_refl _) (Nat.le_refl _) (Nat.le_refl _)
                refine ⟨⟨Nat.le_trans (mv_mx_l _ _) i1, Nat.le_trans (mv_mx_l _ _) i2, by omega, by omega⟩, ?_⟩
                intro p e R s m args below meth c A n0 ad0 hx hb hml hr hlocks hown hname hts hK hA hE r1 r2 r3 r4
                have kk := ihS p e R s m args below meth c A n0 ad0 hx hb hml hr hlocks hown hname hts hK hA hE r1 r2 r3 r4
                exact mv_call_ok hF hx hb hml hown hts hK hA hE hdg0 hlen hcal n7 n8 h3.1 h3.2 hM ⟨Nat.le_trans (Nat.le_trans (mv_mx_r _ _) i1) r1, Nat.le_trans (Nat.le_trans (mv_mx_r _ _) i2) r2⟩ ⟨by omega, by omega⟩ kk
              · cases h4
        · cases h
      | false =>
        rw [hg10] at h
        simp only [cond_false] at h
        cases hg11 : Nat.beq g 11 with
        | true =>
          rw [hg11] at h
          simp only [cond_true] at h
          split at h
          · rename_i S' htld
            obtain ⟨h1, h2⟩ := mv_bif2 h
            obtain ⟨⟨i1, i2, i3, i4⟩, ihS⟩ := ih k (pc + 1) L S' n w cells slots fr lo res h2
            refine ⟨⟨i1, i2, i3, i4⟩, ?_⟩
            intro p e R s m args below meth c A n0 ad0 hx hb hml hr hlocks hown hname hts hK hA hE r1 r2 r3 r4
            have kk := ihS p e R s m args below meth c A n0 ad0 hx hb hml hr hlocks hown hname hts hK hA hE r1 r2 r3 r4
            have hdg1 : decode (mcc k) pc = .ok (i, 1) := by rw [← Nat.eq_of_beq_eq_true h1]; exact hdg0
            exact mv_tld_ok hF hx hb hE hdg1 htld kk
          · cases h
        | false =>
          rw [hg11] at h
          simp only [cond_false] at h
          cases hg12 : Nat.beq g 12 with
          | true =>
            rw [hg12] at h
            simp only [cond_true] at h
            split at h
            · rename_i S' n' dc ds hmu
              obtain ⟨h1, h2⟩ := mv_bif2 h
              obtain ⟨⟨i1, i2, i3, i4⟩, ihS⟩ := ih k (pc + 4) L S' n' w (cells + dc) (slots + ds) fr lo res h2
              refine ⟨⟨i1, i2, by omega, by omega⟩, ?_⟩
              intro p e R s m args below meth c A n0 ad0 hx hb hml hr hlocks hown hname hts hK hA hE r1 r2 r3 r4
              have kk := ihS p e R s m args below meth c A n0 ad0 hx hb hml hr hlocks hown hname hts hK hA hE r1 r2 r3 r4
              have hdg1 : decode (mcc k) pc = .ok (i, 4) := by rw [← Nat.eq_of_beq_eq_true h1]; exact hdg0
              exact mv_mu_ok hF hx hb hown hts hK hA hE hdg1 hmu (by omega) (by omega) kk
            · cases h
          | false =>
            rw [hg12] at h
            simp only [cond_false] at h
            split at h
            · rename_i pc' L' S' n' w' dc ds hone
              obtain ⟨⟨i1, i2, i3, i4⟩, ihS⟩ := ih k pc' L' S' n' w' (cells + dc) (slots + ds) fr lo res h
              refine ⟨⟨i1, i2, by omega, by omega⟩, ?_⟩
              intro p e R s m args below meth c A n0 ad0 hx hb hml hr hlocks hown hname hts hK hA hE r1 r2 r3 r4
              have kk := ihS p e R s m args below meth c A n0 ad0 hx hb hml hr hlocks hown hname hts hK hA hE r1 r2 r3 r4
              exact mg_one hF htl hx hb hown hname hts hK hA hE hdg0 hone (by omega) (by omega) kk
            · cases h
end MS
