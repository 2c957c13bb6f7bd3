/-! A SMALL MACHINE, XIV: System.arraycopy -/
/-- places dp .. dp + k of p become sp .. of q -/
def mv_cw (w p q sp dp k : Nat) : Nat := p ^^^ ((((p >>> (w * dp)) ^^^ (q >>> (w * sp))) % 2 ^ (w * k)) <<< (w * dp))
theorem mv_cw_bit (w p q sp dp k t : Nat) : (mv_cw w p q sp dp k).testBit t = if w * dp ≤ t ∧ t < w * dp + w * k then q.testBit (w * sp + (t - w * dp)) else p.testBit t := by
  unfold mv_cw
  rw [Nat.testBit_xor, Nat.testBit_shiftLeft, Nat.testBit_mod_two_pow, Nat.testBit_xor, Nat.testBit_shiftRight, Nat.testBit_shiftRight]
  by_cases h1 : w * dp ≤ t
  · by_cases h2 : t < w * dp + w * k
    · have h3 : t - w * dp < w * k := by omega
      have e : w * dp + (t - w * dp) = t := by omega
      simp [h1, h2, h3, e]
    · have h3 : ¬ t - w * dp < w * k := by omega
      simp [h1, h2, h3]
  · simp [h1]
theorem mv_cw_rd (w p q sp dp k j : Nat) : mv_rd w (mv_cw w p q sp dp k) j = if dp ≤ j ∧ j < dp + k then mv_rd w q (sp + (j - dp)) else mv_rd w p j := by
  apply Nat.eq_of_testBit_eq
  intro t
  rw [mv_rd_bit, mv_cw_bit]
  by_cases ht : t < w
  · by_cases h : dp ≤ j ∧ j < dp + k
    · rw [if_pos h, mv_rd_bit]
      have h1 : w * dp ≤ w * j := Nat.mul_le_mul_left w h.1
      have h2 : w * (j + 1) ≤ w * (dp + k) := Nat.mul_le_mul_left w h.2
      rw [Nat.mul_add, Nat.mul_one, Nat.mul_add] at h2
      rw [if_pos (by omega)]
      have h3 : w * (sp + (j - dp)) = w * sp + (w * j - w * dp) := by rw [Nat.mul_add, Nat.mul_sub]
      rw [h3]
      congr 2
      omega
    · rw [if_neg h, mv_rd_bit]
      rw [if_neg]
      rintro ⟨a, b⟩
      apply h
      constructor
      · rcases Nat.lt_or_ge j dp with z | z
        · have : w * (j + 1) ≤ w * dp := Nat.mul_le_mul_left w z
          rw [Nat.mul_add, Nat.mul_one] at this
          omega
        · exact z
      · rcases Nat.lt_or_ge j (dp + k) with z | z
        · exact z
        · have : w * (dp + k) ≤ w * j := Nat.mul_le_mul_left w z
          rw [Nat.mul_add] at this
          omega
  · by_cases h : dp ≤ j ∧ j < dp + k
    · rw [if_pos h, mv_rd_bit]; simp [ht]
    · rw [if_neg h, mv_rd_bit]; simp [ht]
theorem mv_cw_fun (p q sp dp k : Nat) : (fun j => nI (mv_rd 32 (mv_cw 32 p q sp dp k) j)) = va_cpy (fun j => nI (mv_rd 32 q j)) (fun j => nI (mv_rd 32 p j)) sp dp k := by
  funext j
  rw [mv_cw_rd]
  by_cases h : dp ≤ j ∧ j < dp + k
  · rw [if_pos h, pk_cpy_in h.1 h.2]
  · rw [if_neg h, pk_cpy_out (by omega)]
/-- are places sp .. sp + k bytes -/
def mv_ab (q sp : Nat) : Nat → Bool
  | 0 => true
  | k + 1 => (Nat.blt (mv_rd 32 q (sp + k)) 128 || Nat.ble 4294967168 (mv_rd 32 q (sp + k))) && mv_ab q sp k
theorem mv_ab_ok {q sp : Nat} : ∀ {k : Nat}, mv_ab q sp k = true → ∀ i, i < k → fits .byte (.int (nI (mv_rd 32 q (sp + i)))) = true
  | 0, _, i, hi => absurd hi (Nat.not_lt_zero i)
  | k + 1, h, i, hi => by
    have h' : ((Nat.blt (mv_rd 32 q (sp + k)) 128 || Nat.ble 4294967168 (mv_rd 32 q (sp + k))) && mv_ab q sp k) = true := h
    simp only [Bool.and_eq_true, Bool.or_eq_true, Nat.blt_eq, Nat.ble_eq] at h'
    by_cases e : i = k
    · subst e
      have h1 := mn_toInt (mv_rd 32 q (sp + i))
      have h2 := mv_rd_lt 32 q (sp + i)
      generalize mv_rd 32 q (sp + i) = v at *
      unfold mn_up at h1
      unfold fits
      have e1 : (-128 : Int32).toInt = -128 := by decide
      have e2 : (127 : Int32).toInt = 127 := by decide
      simp only [Bool.and_eq_true, decide_eq_true_eq, Int32.le_iff_toInt_le, e1, e2]
      omega
    · exact mv_ab_ok h'.2 i (by omega)
def mv_cp (tl : List FieldType) (x y : mv_C) (sp dp k : mv_V) : Option mv_C := bif (Nat.beq x.1 1 && (Nat.beq y.1 1 && (Nat.beq x.2.1 y.2.1 && (Nat.beq sp.1 0 && (Nat.beq dp.1 0 && Nat.beq k.1 0))))) && ((Nat.ble (sp.2.1 + k.2.1) x.2.2.1 && (Nat.ble (dp.2.1 + k.2.1) y.2.2.1 && (Nat.blt (sp.2.1 + k.2.1) 2147483648 && Nat.blt (dp.2.1 + k.2.1) 2147483648))) && (Nat.beq (mv_tc tl[y.2.1]?) 1 || (Nat.beq (mv_tc tl[y.2.1]?) 2 && mv_ab x.2.2.2 sp.2.1 k.2.1))) then some (1, y.2.1, y.2.2.1, mv_cw 32 y.2.2.2 x.2.2.2 sp.2.1 dp.2.1 k.2.1) else none
section MG
variable {p : Program} {l : Launch} {e : Env} {R : Room} {s : State} {m : MethodId} {args : Array Value} {below : List Frame} {meth : Method} {c : Code} {D : va_G} {cl : List vw_C} {tys : List (ClassId × FieldType)} {A : Nat → Prop} {tb : Nat → Nat} {nL : Nat} {Q : State → Prop} {n0 : Nat} {ad0 : Nat → Nat} {cc : ByteArray} {pc L : Nat} {S S' : List mv_V} {n : Nat} {w : mv_T 10} {cells slots : Nat}
theorem mg_cp (hx : p.tables.exec = Jvm.exec) (hb : c.code = cc) (hml : c.maxLocals = nL) {own : String} {idx : Nat} (hown : s.vm.findClass own = some m.cls) (hlink : (Cond.methodLink own idx arraycopyName).before args s = true) (hnat : (Cond.native arraycopyName).before args s = true) (hstat : (Cond.static arraycopyName).before args s = true) (hini : (Cond.initialized "java/lang/System").before args s = true) (hK : va_K D cl tys s) {tl : List FieldType} (htl : tys.map Prod.snd = tl) (hdg : decode cc pc = .ok (.invokestatic idx, 3)) {a b a2 b2 : Nat} {sp dp k : mv_V} {y : mv_C} (h : mv_cp tl (mv_get 10 w a2) (mv_get 10 w a) sp dp k = some y) (hframes : 1 ≤ R.frames) (hlocals : mv_cs S + 18 ≤ R.locals) (kk : mv_G p l e R s m args below meth c D cl tys A tb nL Q n0 ad0 (pc + 3) L S n (mv_set 10 w a y) cells slots) : mv_G p l e R s m args below meth c D cl tys A tb nL Q n0 ad0 pc L (k :: dp :: (2, a, b) :: sp :: (2, a2, b2) :: S) n w cells slots := by
  unfold mv_cp at h
  obtain ⟨h1, h2⟩ := mv_bif h
  subst h2
  simp only [Bool.and_eq_true, Bool.or_eq_true, Nat.blt_eq, Nat.ble_eq] at h1
  obtain ⟨⟨f1, f2, f3, f4, f5, f6⟩, ⟨f7, f8, f9, f10⟩, f11⟩ := h1
  intro ad ws H locs ls vs hn h0 hW hP hD hS hL hV
  obtain ⟨vk, vs1, rfl, hvk, hV1⟩ := hV.cons
  obtain ⟨vd, vs2, rfl, hvd, hV2⟩ := hV1.cons
  obtain ⟨va, vs3, rfl, hva, hV3⟩ := hV2.cons
  obtain ⟨vp, vs4, rfl, hvp, hV4⟩ := hV3.cons
  obtain ⟨vb, vs5, rfl, hvb, hV5⟩ := hV4.cons
  obtain ⟨ha, rfl⟩ := hva
  obtain ⟨ha2, rfl⟩ := hvb
  have e1 := mv_k0 hvk f6
  have e2 := mv_k0 hvd f5
  have e3 := mv_k0 hvp f4
  subst e1; subst e2; subst e3
  obtain ⟨cA, ty, g1, g2⟩ := hW.ints (t := (mv_get 10 w a).2.1) (k := (mv_get 10 w a).2.2.1) (pk := (mv_get 10 w a).2.2.2) ha (by rw [← Nat.eq_of_beq_eq_true f2])
  obtain ⟨cA2, ty2, g3, g4⟩ := hW.ints (t := (mv_get 10 w a).2.1) (k := (mv_get 10 w a2).2.2.1) (pk := (mv_get 10 w a2).2.2.2) ha2 (by rw [← Nat.eq_of_beq_eq_true f1, ← Nat.eq_of_beq_eq_true f3])
  rw [g1] at g3
  cases g3
  have ht := mv_tc_spec htl (mv_get 10 w a).2.1
  rw [g1] at ht
  have c1 : (nI sp.2.1).toNatClampNeg = sp.2.1 := nI_clamp (by omega)
  have c2 : (nI dp.2.1).toNatClampNeg = dp.2.1 := nI_clamp (by omega)
  have c3 : (nI k.2.1).toNatClampNeg = k.2.1 := nI_clamp (by omega)
  have hprim : refKind ty = false ∧ ∀ i, i < k.2.1 → fits ty (.int (nI (mv_rd 32 (mv_get 10 w a2).2.2.2 (sp.2.1 + i)))) = true := by
    rcases f11 with f11 | ⟨f11, f12⟩
    · have := mv_tc1 (Nat.eq_of_beq_eq_true f11)
      rw [this] at ht
      cases ht
      exact ⟨rfl, fun _ _ => rfl⟩
    · have := mv_tc2 (Nat.eq_of_beq_eq_true f11)
      rw [this] at ht
      cases ht
      exact ⟨rfl, mv_ab_ok f12⟩
  refine va_copyi hx hb (by rw [hml]; exact hL.1.symm) hown hlink hnat hstat hini hK hP hD hS a2 a _ _ g4 g2 g1 g1 hprim.1 (nI_pos (by omega)) (nI_pos (by omega)) (nI_pos (by omega)) (by rw [c1, c3]; exact f7) (by rw [c2, c3]; exact f8) (by rw [c1, c3]; exact hprim.2) hframes (by rw [hV5.cats]; exact hlocals) hdg (fun H1 locs1 hP1 hD1 hS1 => kk ad _ H1 locs1 ls _ hn h0 (hW.set ha ⟨cA, ty, g1, ?_⟩) hP1 hD1 hS1 hL hV5)
  rw [mv_cw_fun, c1, c2, c3]
/-- out of a static table -/
theorem mg_cpS (hx : p.tables.exec = Jvm.exec) (hb : c.code = cc) (hml : c.maxLocals = nL) {own : String} {idx : Nat} (hown : s.vm.findClass own = some m.cls) (hlink : (Cond.methodLink own idx arraycopyName).before args s = true) (hnat : (Cond.native arraycopyName).before args s = true) (hstat : (Cond.static arraycopyName).before args s = true) (hini : (Cond.initialized "java/lang/System").before args s = true) (hK : va_K D cl tys s) {tl : List FieldType} (htl : tys.map Prod.snd = tl) (hdg : decode cc pc = .ok (.invokestatic idx, 3)) {a b j b2 : Nat} {sp dp k : mv_V} {y : mv_C} {t0 N0 q0 : Nat} {ty0 : FieldType} (ht0 : tl[t0]? = some ty0) (hT : va_T ty0 (tb j) N0 (fun i => .int (nI (mv_rd 32 q0 i))) A s s.heap) (h : mv_cp tl (1, t0, N0, q0) (mv_get 10 w a) sp dp k = some y) (hframes : 1 ≤ R.frames) (hlocals : mv_cs S + 18 ≤ R.locals) (kk : mv_G p l e R s m args below meth c D cl tys A tb nL Q n0 ad0 (pc + 3) L S n (mv_set 10 w a y) cells slots) : mv_G p l e R s m args below meth c D cl tys A tb nL Q n0 ad0 pc L (k :: dp :: (2, a, b) :: sp :: (6, j, b2) :: S) n w cells slots := by
  unfold mv_cp at h
  obtain ⟨h1, h2⟩ := mv_bif h
  subst h2
  simp only [Bool.and_eq_true, Bool.or_eq_true, Nat.blt_eq, Nat.ble_eq] at h1
  obtain ⟨⟨f1, f2, f3, f4, f5, f6⟩, ⟨f7, f8, f9, f10⟩, f11⟩ := h1
  intro ad ws H locs ls vs hn h0 hW hP hD hS hL hV
  obtain ⟨vk, vs1, rfl, hvk, hV1⟩ := hV.cons
  obtain ⟨vd, vs2, rfl, hvd, hV2⟩ := hV1.cons
  obtain ⟨va, vs3, rfl, hva, hV3⟩ := hV2.cons
  obtain ⟨vp, vs4, rfl, hvp, hV4⟩ := hV3.cons
  obtain ⟨vb, vs5, rfl, hvb, hV5⟩ := hV4.cons
  obtain ⟨ha, rfl⟩ := hva
  have e0 : vb = .ref (tb j) := hvb
  subst e0
  have e1 := mv_k0 hvk f6
  have e2 := mv_k0 hvd f5
  have e3 := mv_k0 hvp f4
  subst e1; subst e2; subst e3
  obtain ⟨cA, ty, g1, g2⟩ := hW.ints (t := (mv_get 10 w a).2.1) (k := (mv_get 10 w a).2.2.1) (pk := (mv_get 10 w a).2.2.2) ha (by rw [← Nat.eq_of_beq_eq_true f2])
  have ht := mv_tc_spec htl (mv_get 10 w a).2.1
  rw [g1] at ht
  have et : t0 = (mv_get 10 w a).2.1 := Nat.eq_of_beq_eq_true f3
  rw [et, ← ht] at ht0
  cases ht0
  have c1 : (nI sp.2.1).toNatClampNeg = sp.2.1 := nI_clamp (by omega)
  have c2 : (nI dp.2.1).toNatClampNeg = dp.2.1 := nI_clamp (by omega)
  have c3 : (nI k.2.1).toNatClampNeg = k.2.1 := nI_clamp (by omega)
  have d1 : (nI sp.2.1).toInt = (sp.2.1 : Int) := nI_toInt (by omega)
  have d2 : (nI dp.2.1).toInt = (dp.2.1 : Int) := nI_toInt (by omega)
  have d3 : (nI k.2.1).toInt = (k.2.1 : Int) := nI_toInt (by omega)
  have hprim : refKind ty = false ∧ ∀ i, i < k.2.1 → fits ty (.int (nI (mv_rd 32 q0 (sp.2.1 + i)))) = true := by
    rcases f11 with f11 | ⟨f11, f12⟩
    · have := mv_tc1 (Nat.eq_of_beq_eq_true f11)
      rw [this] at ht
      cases ht
      exact ⟨rfl, fun _ _ => rfl⟩
    · have := mv_tc2 (Nat.eq_of_beq_eq_true f11)
      rw [this] at ht
      cases ht
      exact ⟨rfl, mv_ab_ok f12⟩
  intro T hTT X
  obtain ⟨scr, hs1, hs2, hs3, hs4, hs5, hs6, hs7⟩ := hT
  have hc0 : H[tb j]? = some scr := by rw [hS.2.1 _ (Array.getElem?_eq_some_iff.mp hs1).1 hs7]; exact hs1
  have hc1 : H[ad a]? = some (vp_cell cA ((mv_get 10 w a).2.2.1, .inl (fun i => nI (mv_rd 32 (mv_get 10 w a).2.2.2 i)))) := hP a _ g2
  obtain ⟨hs8, k0, hk0, cm0, hkk0⟩ := hs2
  obtain ⟨-, k1, hk1, cm1, hkk1⟩ := (hK.2 _ _ g1).1 (mv_get 10 w a).2.2.1 (fun i => .int (nI (mv_rd 32 (mv_get 10 w a).2.2.2 i)))
  obtain ⟨vm', X', step⟩ := X.arraycopy hx hown hlink hnat hstat hini (src := tb j) (dst := ad a) (cs := scr) (cd := vp_cell cA ((mv_get 10 w a).2.2.1, .inl (fun i => nI (mv_rd 32 (mv_get 10 w a).2.2.2 i)))) (srcPos := nI sp.2.1) (destPos := nI dp.2.1) (n := nI k.2.1) (by rw [hTT]; exact hc0) (by rw [hTT]; exact hc1)
    hs8 (fun _ h => by cases h) hs3 (fun h => by cases h) hk0 hk1 hkk0 hkk1 (by simp [hprim.1]) (nI_pos (by omega)) (nI_pos (by omega)) (nI_pos (by omega))
    (by rw [d1, d3]; omega)
    (by rw [d2, d3]; show ¬ _ > ((arrV cA _ (fun i => .int (nI (mv_rd 32 (mv_get 10 w a).2.2.2 i)))).slots.size : Int); rw [arrV_size]; omega)
    (fun vm₁ _ i hi => by
      rw [c3] at hi
      have e : scr.slots.getD ((nI sp.2.1).toNatClampNeg + i) .null = .int (nI (mv_rd 32 q0 (sp.2.1 + i))) := by
        rw [Array.getD_eq_getD_getElem?, c1, hs6 _ (by omega)]
        rfl
      refine ⟨?_, ?_⟩
      · rw [e]
        exact hprim.2 i hi
      · rw [e]
        exact trivial)
    (g := F0 m pc ls (.int (nI k.2.1) :: .int (nI dp.2.1) :: .ref (ad a) :: .int (nI sp.2.1) :: .ref (tb j) :: vs5)) rfl (by rw [hml]; exact hL.1) (rest := vs5) rfl (by rw [hb]; exact hdg) hframes (by have := hV5.cats; show 2 * 0 + (vs5.map fun v => v.category).sum + 18 ≤ _; omega)
  have e1 : copied scr (vp_cell cA ((mv_get 10 w a).2.2.1, .inl (fun i => nI (mv_rd 32 (mv_get 10 w a).2.2.2 i)))) (nI sp.2.1) (nI dp.2.1) (nI k.2.1) = vp_cell cA ((mv_get 10 w a).2.2.1, .inl (va_cpy (fun i => nI (mv_rd 32 q0 i)) (fun i => nI (mv_rd 32 (mv_get 10 w a).2.2.2 i)) (nI sp.2.1).toNatClampNeg (nI dp.2.1).toNatClampNeg (nI k.2.1).toNatClampNeg)) := va_copiedX (fun z => .int z) scr cA (fun i => nI (mv_rd 32 q0 i)) (fun i => nI (mv_rd 32 (mv_get 10 w a).2.2.2 i)) hs6 (by rw [c1, c3]; exact f7)
  rw [e1] at X' step
  rw [c1, c2, c3, ← mv_cw_fun] at X' step
  have hl : ad a < H.size := (Array.getElem?_eq_some_iff.mp hc1).1
  generalize hce : vp_cell cA ((mv_get 10 w a).2.2.1, .inl (fun i => nI (mv_rd 32 (mv_cw 32 (mv_get 10 w a).2.2.2 q0 sp.2.1 dp.2.1 k.2.1) i))) = ce at X' step
  have hheap : ((T.setVm vm').setCell (ad a) ce).heap = H.setIfInBounds (ad a) ce := by rw [← hTT]; rfl
  have oq : ∀ q : Nat, q ≠ ad a → (H.setIfInBounds (ad a) ce)[q]? = H[q]? := fun q hq => by simp [Array.getElem?_setIfInBounds, Ne.symm hq]
  obtain ⟨t, a1, b1⟩ := kk ad (ws.set a (ad a, .inl (cA, (mv_get 10 w a).2.2.1, .inl (fun i => nI (mv_rd 32 (mv_cw 32 (mv_get 10 w a).2.2.2 q0 sp.2.1 dp.2.1 k.2.1) i))))) _ _ ls _ hn h0 (hW.set ha ⟨cA, ty, g1, rfl⟩) (hP.set hD g2 (show (H.setIfInBounds (ad a) ce)[ad a]? = some (vp_cell _ _) by rw [hce]; simp [Array.getElem?_setIfInBounds, hl]) oq) (hD.set g2) ⟨by simp; exact hS.1, fun q z1 z2 => by
      rw [oq q (fun e => z2 (by rw [e]; exact hD.2 a _ g2))]
      exact hS.2.1 q z1 z2, fun q hq => by
      rcases List.mem_append.mp hq with h | h
      · exact hS.2.2 q h
      · obtain ⟨z, -, hz⟩ := List.mem_map.mp h
        rw [← hz]
        exact hD.2 a _ g2⟩ hL hV5 _ hheap X'
  exact ⟨t, step t a1, b1⟩
end MG
