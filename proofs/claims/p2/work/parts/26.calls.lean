/-! A SMALL MACHINE, XVII: every run of it is a contract -/
section MS
variable {cd : Nat → Nat → Nat × Instr × Nat} {kc : Nat → Nat → Nat × Nat} {fl : Nat → Nat → Nat × Nat × Nat} {nl : Nat → Nat → Nat × Nat} {al sl : Nat → Nat → Nat} {ml : Nat → Nat → Nat × Nat × Nat} {mL mr : Nat → Nat} {ini : Nat → Bool} {mci : Nat → Nat} {fty : Nat → Nat → FieldType} {ffin : Nat → Nat → Bool} {tl : List FieldType} {cn : List String} {dpk : Nat → Nat} {stt : Nat → Nat × Nat × Nat} {prim : Nat → List mv_V → Nat → mv_T 10 → Option mv_R}
variable {my : Nat → MethodName} {mcc : Nat → ByteArray} {mret : Nat → Option FieldType} {mw nst : List Cond} {aos : List String} {zs : List (String × String × String)} {zt : List (FieldType × Nat × (Nat → Value))}
variable {l : Launch} {D : va_G} {cl : List vw_C} {tys : List (ClassId × FieldType)} {tb : Nat → Nat}
variable {p : Program} {e : Env} {R : Room} {s : State} {m : MethodId} {args : Array Value} {below : List Frame} {meth : Method} {c : Code} {A : Nat → Prop} {Q : State → Prop} {n0 : Nat} {ad0 : Nat → Nat} {cells slots : Nat} {w : mv_T 10} {n : Nat}
theorem mv_wy {k : Nat} (hgood : ∀ x ∈ mw, goodWord x = true) {y : MethodName} {cy : ByteArray} {my0 : Nat} {ry : Option FieldType} (hc : Cond.code y cy my0 ry ∈ mw) : GoodIn mw (Cond.code y cy my0 ry :: mw) := by
  intro x hx
  rcases List.mem_cons.mp hx with rfl | hx
  · exact ⟨hc, good_of_word (hgood _ hc)⟩
  · exact ⟨hx, good_of_word (hgood _ hx)⟩
theorem mv_cl_spec {q : Nat × Nat × Nat} {t : Nat} {S : List mv_V} {kd q1 : Nat} {as S0 : List mv_V} (h : mv_cl q t S = some (kd, q1, as, S0)) : kd = q.1 ∧ q1 = q.2.1 ∧ as.reverse ++ S0 = S ∧ as.length = t := by
  unfold mv_cl at h
  obtain ⟨h1, h2⟩ := mv_bif h
  cases h2
  refine ⟨rfl, rfl, ?_, ?_⟩
  · rw [List.reverse_reverse, List.take_append_drop]
  · rw [List.length_reverse]; exact Nat.eq_of_beq_eq_true h1
theorem mv_cpa_ok (hF : mv_FX cd kc fl nl al sl ml mL mr ini mci fty ffin tl cn dpk stt my mcc mret mw nst aos zs zt cl) (htl : tys.map Prod.snd = tl) {k pc L idx : Nat} {w' : mv_T 10} {as S0 : List mv_V} (hx : p.tables.exec = Jvm.exec) (hb : c.code = mcc k) (hml : c.maxLocals = mL k) (hown : s.vm.findClass (my k).cls = some m.cls) (hts : ∀ x ∈ mw, x.before args s = true) (hK : va_K D cl tys s) (hA : ∀ q, s.heap.size ≤ q → A q) (hE : mv_E nst aos zs zt tb A s) (hdg : decode (mcc k) pc = .ok (.invokestatic idx, 3)) (hw : Cond.methodLink (my k).cls idx arraycopyName ∈ mw ∧ Cond.native arraycopyName ∈ mw ∧ Cond.static arraycopyName ∈ mw ∧ Cond.initialized "java/lang/System" ∈ mw) (h : mv_cpa tl stt as w = some w') (hf : 1 ≤ R.frames) (hl : mv_cs S0 + 18 ≤ R.locals) (kk : mv_G p l e R s m args below meth c D cl tys A tb (mL k) Q n0 ad0 (pc + 3) L S0 n w' cells slots) : mv_G p l e R s m args below meth c D cl tys A tb (mL k) Q n0 ad0 pc L (as.reverse ++ S0) n w cells slots := by
  obtain ⟨f1, f2, f3, f4, f5, f6, f7, f8, f9, f10, f11, f12, f13, f14, f15, f16, f17⟩ := hF
  unfold mv_cpa at h
  split at h
  · rename_i x sp y dp q
    obtain ⟨h1, h2⟩ := mv_bif2 h
    show mv_G p l e R s m args below meth c D cl tys A tb (mL k) Q n0 ad0 pc L (q :: dp :: y :: sp :: x :: S0) n w cells slots
    rw [mv_ref h1]
    cases h3 : Nat.beq x.1 2 with
    | true =>
      rw [h3] at h2
      simp only [cond_true] at h2
      obtain ⟨z, h4, h5⟩ := mv_mp h2
      subst h5
      rw [mv_ref h3]
      exact mg_cp hx hb hml hown (hts _ hw.1) (hts _ hw.2.1) (hts _ hw.2.2.1) (hts _ hw.2.2.2) hK htl hdg h4 hf hl kk
    | false =>
      rw [h3] at h2
      simp only [cond_false] at h2
      obtain ⟨h6, h7⟩ := mv_bif2 h2
      obtain ⟨z, h4, h5⟩ := mv_mp h7
      subst h5
      have e1 : x = (6, x.2.1, x.2.2) := by
        obtain ⟨kx, ax, bx⟩ := x
        simp only [Nat.beq_eq] at h6
        subst h6
        rfl
      rw [e1]
      rcases f16 x.2.1 with g1 | ⟨ty, g1, g2⟩
      · exfalso
        unfold mv_cp at h4
        obtain ⟨h8, -⟩ := mv_bif h4
        simp only [Bool.and_eq_true, Bool.or_eq_true] at h8
        have e2 : (stt x.2.1).1 = (mv_get 10 w y.2.1).2.1 := Nat.eq_of_beq_eq_true h8.1.2.2.1
        rw [← e2, g1] at h8
        rcases h8.2.2 with z1 | ⟨z1, -⟩ <;> cases z1
      · exact mg_cpS hx hb hml hown (hts _ hw.1) (hts _ hw.2.1) (hts _ hw.2.2.1) (hts _ hw.2.2.2) hK htl hdg g1 (hE.2.2.2 _ _ g2) h4 hf hl kk
  · cases h
theorem mv_min_ok {k pc L idx : Nat} {as S0 : List mv_V} {v : mv_V} (hx : p.tables.exec = Jvm.exec) (hb : c.code = mcc k) (hml : c.maxLocals = mL k) (hown : s.vm.findClass (my k).cls = some m.cls) (hts : ∀ x ∈ mw, x.before args s = true) (hK : va_K D cl tys s) (hA : ∀ q, s.heap.size ≤ q → A q) (hE : mv_E nst aos zs zt tb A s) (hdg : decode (mcc k) pc = .ok (.invokestatic idx, 3)) (hw : Cond.methodLink (my k).cls idx Lib.Math.min.name ∈ mw ∧ Cond.static Lib.Math.min.name ∈ mw ∧ Cond.initialized "java/lang/Math" ∈ mw ∧ Cond.code Lib.Math.min.name Lib.Math.min.code 2 (some .int) ∈ mw) (h : mv_mn as = some v) (hf : 1 ≤ R.frames) (hl : mv_cs S0 + 18 ≤ R.locals) (hc1 : cells ≤ R.cells) (hc2 : slots ≤ R.slots) (kk : mv_G p l e R s m args below meth c D cl tys A tb (mL k) Q n0 ad0 (pc + 3) L (v :: S0) n w cells slots) : mv_G p l e R s m args below meth c D cl tys A tb (mL k) Q n0 ad0 pc L (as.reverse ++ S0) n w cells slots := by
  unfold mv_mn at h
  split at h
  · rename_i x y
    obtain ⟨h1, h2⟩ := mv_bif2 h
    simp only [Bool.and_eq_true] at h1
    obtain ⟨b, h3, h4⟩ := mv_mp h2
    intro ad ws H locs ls vs hn h0 hW hP hD hS hL hV
    obtain ⟨vy, vs0, rfl, hvy, hV0⟩ := mv_S.cons (show mv_S n ad tb (y :: x :: S0) vs from hV)
    obtain ⟨vx, vs1, rfl, hvx, hV1⟩ := hV0.cons
    obtain ⟨a1, a2, e1, e2, hlt⟩ := mv_lt_ok h3 hvy hvx
    subst e1; subst e2
    refine va_mmin hx hb (by rw [hml, hL.1]) hown (hts _ hw.1) (hts _ hw.2.1) (hts _ hw.2.2.1) (hts _ hw.2.2.2) hf (by rw [hV1.cats]; omega) hc1 hc2 hdg ?_
    refine kk ad ws H locs ls _ hn h0 hW hP hD hS hL ⟨?_, hV1⟩
    rw [← h4]
    cases b with
    | true => rw [if_pos (hlt.mpr rfl)]; exact hvy
    | false =>
      rw [if_neg (fun z => by have := hlt.mp z; cases this)]
      exact hvx
  · cases h
theorem mv_tld_ok (hF : mv_FX cd kc fl nl al sl ml mL mr ini mci fty ffin tl cn dpk stt my mcc mret mw nst aos zs zt cl) {k pc L : Nat} {i : Instr} {S S' : List mv_V} (hx : p.tables.exec = Jvm.exec) (hb : c.code = mcc k) (hE : mv_E nst aos zs zt tb A s) (hdg : decode (mcc k) pc = .ok (i, 1)) (h : mv_tld tl stt i S = some S') (kk : mv_G p l e R s m args below meth c D cl tys A tb (mL k) Q n0 ad0 (pc + 1) L S' n w cells slots) : mv_G p l e R s m args below meth c D cl tys A tb (mL k) Q n0 ad0 pc L S n w cells slots := by
  obtain ⟨f1, f2, f3, f4, f5, f6, f7, f8, f9, f10, f11, f12, f13, f14, f15, f16, f17⟩ := hF
  unfold mv_tld at h
  split at h
  · rename_i y x S0
    obtain ⟨h1, h2⟩ := mv_bif h
    subst h2
    simp only [Bool.and_eq_true, Nat.beq_eq] at h1
    obtain ⟨a1, a2, a3⟩ := h1
    rcases f16 x.2.1 with g1 | ⟨ty, g1, g2⟩
    · rw [g1] at a2; cases a2
    · rw [g1] at a2
      have e1 := mv_tc1 a2
      cases e1
      intro ad ws H locs ls vs hn h0 hW hP hD hS hL hV
      obtain ⟨vi, vs0, rfl, hvi, hV0⟩ := hV.cons
      obtain ⟨vx, vs1, rfl, hxx, hV1⟩ := hV0.cons
      have e2 : vx = .ref (tb x.2.1) := by
        unfold mv_r at hxx
        rw [a1] at hxx
        exact hxx
      subst e2
      obtain ⟨rfl, g3, g4⟩ := mv_ix_ok hvi a3
      refine va_ti hx hb (hE.2.2.2 _ _ g2) hS g3 rfl hdg ?_
      rw [g4]
      exact kk ad ws H locs ls _ hn h0 hW hP hD hS hL ⟨rfl, hV1⟩
  · cases h
theorem mv_mu_ok (hF : mv_FX cd kc fl nl al sl ml mL mr ini mci fty ffin tl cn dpk stt my mcc mret mw nst aos zs zt cl) {k pc L n' dc ds : Nat} {i : Instr} {S S' : List mv_V} (hx : p.tables.exec = Jvm.exec) (hb : c.code = mcc k) (hown : s.vm.findClass (my k).cls = some m.cls) (hts : ∀ x ∈ mw, x.before args s = true) (hK : va_K D cl tys s) (hA : ∀ q, s.heap.size ≤ q → A q) (hE : mv_E nst aos zs zt tb A s) (hdg : decode (mcc k) pc = .ok (i, 4)) (h : mv_mu (nl k) i S n w = some (S', n', dc, ds)) (hc1 : cells + dc ≤ R.cells) (hc2 : slots + ds ≤ R.slots) (kk : mv_G p l e R s m args below meth c D cl tys A tb (mL k) Q n0 ad0 (pc + 4) L S' n' w (cells + dc) (slots + ds)) : mv_G p l e R s m args below meth c D cl tys A tb (mL k) Q n0 ad0 pc L S n w cells slots := by
  obtain ⟨f1, f2, f3, f4, f5, f6, f7, f8, f9, f10, f11, f12, f13, f14, f15, f16, f17⟩ := hF
  unfold mv_mu at h
  split at h
  · rename_i j x y S0
    obtain ⟨h1, h2⟩ := mv_bif h
    cases h2
    simp only [Bool.and_eq_true, Bool.or_eq_true, Nat.beq_eq, Nat.ble_eq] at h1
    obtain ⟨⟨a1, a2⟩, a3, a4, a5, a6⟩ := h1
    have a7 : ∀ q, q < 1 + y.2.1 → (mv_get 10 w (n + q)).1 = 9 := fun q hq => Nat.eq_of_beq_eq_true (List.all_eq_true.mp a6 q (List.mem_range.mpr hq))
    rcases a3 with a3 | a3
    · exact mg_mna (ty := .byte) (z := fun K => (K, .inl (fun _ => 0))) hx hb hown (hts _ ((f17 k j a4).1 a3)) hE.2.1.2.1 (hts _ (f11 _ (Or.inr (Or.inl rfl)))) hK hA (by decide) (by decide) (fun K q => mv_mnb K q) (by decide) hdg a1 a2 a5 a7 hc1 hc2 kk
    · exact mg_mna (ty := .long) (z := fun K => (K, .inr (.inl (fun _ => 0)))) hx hb hown (hts _ ((f17 k j a4).2 a3)) hE.2.1.2.2 (hts _ (f11 _ (Or.inr (Or.inr (Or.inr rfl))))) hK hA (by decide) (by decide) (fun K q => mv_mnl K q) (by decide) hdg a1 a2 a5 a7 hc1 hc2 kk
  · cases h
theorem mv_call_ok (hF : mv_FX cd kc fl nl al sl ml mL mr ini mci fty ffin tl cn dpk stt my mcc mret mw nst aos zs zt cl) {k pc L kd q len : Nat} {i : Instr} {as S S0 : List mv_V} {r : mv_R} (hx : p.tables.exec = Jvm.exec) (hb : c.code = mcc k) (hml : c.maxLocals = mL k) (hown : s.vm.findClass (my k).cls = some m.cls) (hts : ∀ x ∈ mw, x.before args s = true) (hK : va_K D cl tys s) (hA : ∀ q, s.heap.size ≤ q → A q) (hE : mv_E nst aos zs zt tb A s) (hdg : decode (mcc k) pc = .ok (i, len)) (hlen : len = 3) (h : mv_cal (ml k) i S = some (kd, q, as, S0)) (h7 : kd ≠ 7) (h8 : kd ≠ 8) (hrc : mv_rcv kd (mci q) as w = true) (hcs : mv_cs S0 ≤ 8)
    (hM : mv_Met l D cl tys tb (mv_E nst aos zs zt tb) (my q) (Cond.code (my q) (mcc q) (mL q) (mret q) :: mw) as n w r) (hR : r.2.2.2.2.2.1 + 1 ≤ R.frames ∧ 8 + (mL q + 11) + r.2.2.2.2.2.2 ≤ R.locals) (hf : cells + r.2.2.2.1 ≤ R.cells ∧ slots + r.2.2.2.2.1 ≤ R.slots) (kk : mv_G p l e R s m args below meth c D cl tys A tb (mL k) Q n0 ad0 (pc + 3) L (r.1 ++ S0) r.2.1 r.2.2.1 (cells + r.2.2.2.1) (slots + r.2.2.2.2.1)) : mv_G p l e R s m args below meth c D cl tys A tb (mL k) Q n0 ad0 pc L S n w cells slots := by
  obtain ⟨f1, f2, f3, f4, f5, f6, f7, f8, f9, f10, f11, f12, f13, f14, f15, f16, f17⟩ := hF
  subst hlen
  unfold mv_cal at h
  split at h
  · rename_i j
    obtain ⟨h1, h2⟩ := mv_bif2 h
    obtain ⟨e1, e2, e3, e4⟩ := mv_cl_spec h2
    obtain ⟨m1, m2, m3, m4, m5, m6, m7, m8⟩ := f9 k j
    subst e1; subst e2; subst e3
    simp only [Bool.or_eq_true, Nat.beq_eq] at h1
    rcases h1 with h1 | h1 | h1
    · obtain ⟨⟨b1, b2, b3, b4, b5, b6⟩, g1, g2⟩ := m1 h1
      refine mg_callS hx hb hml f13 hts hown hA hK hE rfl ?_ ⟨b4, b5, b6⟩ hM e4 hdg hR hf hcs kk
      intro x hx
      rcases List.mem_append.mp hx with hx | hx
      · simp only [List.mem_cons, List.not_mem_nil, or_false] at hx
        rcases hx with rfl | rfl | rfl
        · exact ⟨g1, good_of_word (f12 _ g1)⟩
        · exact ⟨g2, good_of_word (f12 _ g2)⟩
        · exact ⟨b3, good_of_word (f12 _ b3)⟩
      · exact mv_wy (k := k) f12 b2 x hx
    · obtain ⟨⟨b1, b2, b3, b4, b5, b6⟩, ⟨host, g1⟩, g2⟩ := m2 h1
      exact mg_callSN hx hb hml f13 hts hown hA hK hE rfl (mv_wy (k := k) f12 b2) (hE.1 _ g1) (hts _ b3) (hts _ g2) ⟨b4, b5, b6⟩ hM e4 hdg hR hf hcs kk
    · exact absurd h1 h8
  · rename_i j
    obtain ⟨h1, h2⟩ := mv_bif2 h
    obtain ⟨e1, e2, e3, e4⟩ := mv_cl_spec h2
    obtain ⟨m1, m2, m3, m4, m5, m6, m7, m8⟩ := f9 k j
    subst e1; subst e2; subst e3
    simp only [Bool.or_eq_true, Nat.beq_eq] at h1
    cases as with
    | nil => simp at e4
    | cons x as =>
      have e5 : as.length = (ml k j).2.2 := by simpa using e4
      have hk2 : Nat.ble (ml k j).1 2 = false := by rcases h1 with h1 | h1 <;> rw [h1] <;> rfl
      have hk5 : Nat.ble 5 (ml k j).1 = false := by rcases h1 with h1 | h1 <;> rw [h1] <;> rfl
      unfold mv_rcv at hrc
      simp only [hk2, hk5, Bool.false_or, Bool.and_eq_true] at hrc
      have ex := mv_ref hrc.1
      rw [ex] at hM ⊢
      have c1 : (mv_get 10 w x.2.1).1 = 0 := Nat.eq_of_beq_eq_true hrc.2.1
      have c2 : (mv_get 10 w x.2.1).2.1 = mci (ml k j).2.1 := Nat.eq_of_beq_eq_true hrc.2.2
      rcases h1 with h1 | h1
      · obtain ⟨⟨b1, b2, b3, b4, b5, b6⟩, g1, g2, g3, rr, g4, g5⟩ := m3 h1
        refine mg_callV hx hb hml f13 hts hown hA hK hE rfl ?_ ⟨b4, b5, b6⟩ hM e5 hdg hR hf hcs c1 (by rw [c2]; exact g4) g5 kk
        intro z hz
        rcases List.mem_append.mp hz with hz | hz
        · simp only [List.mem_cons, List.not_mem_nil, or_false] at hz
          rcases hz with rfl | rfl | rfl | rfl
          · exact ⟨g1, good_of_word (f12 _ g1)⟩
          · exact ⟨g2, good_of_word (f12 _ g2)⟩
          · exact ⟨g3, good_of_word (f12 _ g3)⟩
          · exact ⟨b3, good_of_word (f12 _ b3)⟩
        · exact mv_wy (k := k) f12 b2 z hz
      · obtain ⟨⟨b1, b2, b3, b4, b5, b6⟩, ⟨host, g1⟩, g2, g3, rr, g4, g5⟩ := m4 h1
        exact mg_callVN hx hb hml f13 hts hown hA hK hE rfl (mv_wy (k := k) f12 b2) (hE.1 _ g1) (hts _ b3) (hts _ g2) (hts _ g3) ⟨b4, b5, b6⟩ hM e5 hdg hR hf hcs c1 (by rw [c2]; exact g4) g5 kk
  · rename_i j
    obtain ⟨h1, h2⟩ := mv_bif2 h
    obtain ⟨e1, e2, e3, e4⟩ := mv_cl_spec h2
    obtain ⟨m1, m2, m3, m4, m5, m6, m7, m8⟩ := f9 k j
    subst e1; subst e2; subst e3
    simp only [Bool.or_eq_true, Nat.beq_eq] at h1
    cases as with
    | nil => simp at e4
    | cons x as =>
      have e5 : as.length = (ml k j).2.2 := by simpa using e4
      have h1' : (ml k j).1 = 5 ∨ (ml k j).1 = 6 := by
        rcases h1 with h1 | h1 | h1
        · exact Or.inl h1
        · exact Or.inr h1
        · exact absurd h1 h7
      have hk2 : Nat.ble (ml k j).1 2 = false := by rcases h1' with h1 | h1 <;> rw [h1] <;> rfl
      unfold mv_rcv at hrc
      simp only [hk2, Bool.false_or, Bool.and_eq_true] at hrc
      have ex := mv_ref hrc.1
      rw [ex] at hM ⊢
      rcases h1' with h1 | h1
      · obtain ⟨⟨b1, b2, b3, b4, b5, b6⟩, g0, g1, g2, g3⟩ := m5 h1
        rw [g0] at b2 hM
        exact mg_callI hx hb hml f13 hts hown hA hK hE rfl (mv_wy (k := k) f12 b2) (hts _ b3) (hts _ g1) (hts _ g2) g3 ⟨b4, b5, b6⟩ hM e5 hdg hR hf hcs kk
      · obtain ⟨⟨b1, b2, b3, b4, b5, b6⟩, g0, ⟨host, g1⟩, g2, g3⟩ := m6 h1
        rw [g0] at b2 hM
        exact mg_callIN hx hb hml f13 hts hown hA hK hE rfl (mv_wy (k := k) f12 b2) (hts _ b3) (hE.1 _ g1) (hts _ g2) g3 ⟨b4, b5, b6⟩ hM e5 hdg hR hf hcs kk
  · cases h
end MS
