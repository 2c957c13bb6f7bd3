/-! FACTS: calls -/
theorem tt_mbone {i : Nat} (h : tt_MB i) : ∀ k, i ≤ k → k < i + 1 → tt_MB k := fun k h1 h2 => by have e : k = i := by omega
                                                                                                 rw [e]; exact h
theorem tt_mbtwo {a b c : Nat} (h1 : ∀ k, a ≤ k → k < b → tt_MB k) (h2 : ∀ k, b ≤ k → k < c → tt_MB k) : ∀ k, a ≤ k → k < c → tt_MB k := fun k g1 g2 => by
  rcases Nat.lt_or_ge k b with z | z
  · exact h1 k g1 z
  · exact h2 k z g2
set_option maxRecDepth 100000 in
theorem tt_mb : ∀ k, k < 164 → tt_MB k := fun k h => (tt_mbtwo (tt_mbtwo (tt_mbtwo (tt_mbtwo (tt_mbtwo (tt_mbtwo (tt_mbtwo (tt_mbone tt_mb0) (tt_mbone tt_mb1)) (tt_mbtwo (tt_mbone tt_mb2) (tt_mbtwo (tt_mbone tt_mb3) (tt_mbone tt_mb4)))) (tt_mbtwo (tt_mbtwo (tt_mbone tt_mb5) (tt_mbone tt_mb6)) (tt_mbtwo (tt_mbone tt_mb7) (tt_mbtwo (tt_mbone tt_mb8) (tt_mbone tt_mb9))))) (tt_mbtwo (tt_mbtwo (tt_mbtwo (tt_mbone tt_mb10) (tt_mbone tt_mb11)) (tt_mbtwo (tt_mbone tt_mb12) (tt_mbtwo (tt_mbone tt_mb13) (tt_mbone tt_mb14)))) (tt_mbtwo (tt_mbtwo (tt_mbone tt_mb15) (tt_mbone tt_mb16)) (tt_mbtwo (tt_mbone tt_mb17) (tt_mbtwo (tt_mbone tt_mb18) (tt_mbone tt_mb19)))))) (tt_mbtwo (tt_mbtwo (tt_mbtwo (tt_mbtwo (tt_mbone tt_mb20) (tt_mbone tt_mb21)) (tt_mbtwo (tt_mbone tt_mb22) (tt_mbtwo (tt_mbone tt_mb23) (tt_mbone tt_mb24)))) (tt_mbtwo (tt_mbtwo (tt_mbone tt_mb25) (tt_mbone tt_mb26)) (tt_mbtwo (tt_mbone tt_mb27) (tt_mbtwo (tt_mbone tt_mb28) (tt_mbone tt_mb29))))) (tt_mbtwo (tt_mbtwo (tt_mbtwo (tt_mbone tt_mb30) (tt_mbone tt_mb31)) (tt_mbtwo (tt_mbone tt_mb32) (tt_mbtwo (tt_mbone tt_mb33) (tt_mbone tt_mb34)))) (tt_mbtwo (tt_mbtwo (tt_mbone tt_mb35) (tt_mbtwo (tt_mbone tt_mb36) (tt_mbone tt_mb37))) (tt_mbtwo (tt_mbone tt_mb38) (tt_mbtwo (tt_mbone tt_mb39) (tt_mbone tt_mb40))))))) (tt_mbtwo (tt_mbtwo (tt_mbtwo (tt_mbtwo (tt_mbtwo (tt_mbone tt_mb41) (tt_mbone tt_mb42)) (tt_mbtwo (tt_mbone tt_mb43) (tt_mbtwo (tt_mbone tt_mb44) (tt_mbone tt_mb45)))) (tt_mbtwo (tt_mbtwo (tt_mbone tt_mb46) (tt_mbone tt_mb47)) (tt_mbtwo (tt_mbone tt_mb48) (tt_mbtwo (tt_mbone tt_mb49) (tt_mbone tt_mb50))))) (tt_mbtwo (tt_mbtwo (tt_mbtwo (tt_mbone tt_mb51) (tt_mbone tt_mb52)) (tt_mbtwo (tt_mbone tt_mb53) (tt_mbtwo (tt_mbone tt_mb54) (tt_mbone tt_mb55)))) (tt_mbtwo (tt_mbtwo (tt_mbone tt_mb56) (tt_mbone tt_mb57)) (tt_mbtwo (tt_mbone tt_mb58) (tt_mbtwo (tt_mbone tt_mb59) (tt_mbone tt_mb60)))))) (tt_mbtwo (tt_mbtwo (tt_mbtwo (tt_mbtwo (tt_mbone tt_mb61) (tt_mbone tt_mb62)) (tt_mbtwo (tt_mbone tt_mb63) (tt_mbtwo (tt_mbone tt_mb64) (tt_mbone tt_mb65)))) (tt_mbtwo (tt_mbtwo (tt_mbone tt_mb66) (tt_mbone tt_mb67)) (tt_mbtwo (tt_mbone tt_mb68) (tt_mbtwo (tt_mbone tt_mb69) (tt_mbone tt_mb70))))) (tt_mbtwo (tt_mbtwo (tt_mbtwo (tt_mbone tt_mb71) (tt_mbone tt_mb72)) (tt_mbtwo (tt_mbone tt_mb73) (tt_mbtwo (tt_mbone tt_mb74) (tt_mbone tt_mb75)))) (tt_mbtwo (tt_mbtwo (tt_mbone tt_mb76) (tt_mbtwo (tt_mbone tt_mb77) (tt_mbone tt_mb78))) (tt_mbtwo (tt_mbone tt_mb79) (tt_mbtwo (tt_mbone tt_mb80) (tt_mbone tt_mb81)))))))) (tt_mbtwo (tt_mbtwo (tt_mbtwo (tt_mbtwo (tt_mbtwo (tt_mbtwo (tt_mbone tt_mb82) (tt_mbone tt_mb83)) (tt_mbtwo (tt_mbone tt_mb84) (tt_mbtwo (tt_mbone tt_mb85) (tt_mbone tt_mb86)))) (tt_mbtwo (tt_mbtwo (tt_mbone tt_mb87) (tt_mbone tt_mb88)) (tt_mbtwo (tt_mbone tt_mb89) (tt_mbtwo (tt_mbone tt_mb90) (tt_mbone tt_mb91))))) (tt_mbtwo (tt_mbtwo (tt_mbtwo (tt_mbone tt_mb92) (tt_mbone tt_mb93)) (tt_mbtwo (tt_mbone tt_mb94) (tt_mbtwo (tt_mbone tt_mb95) (tt_mbone tt_mb96)))) (tt_mbtwo (tt_mbtwo (tt_mbone tt_mb97) (tt_mbone tt_mb98)) (tt_mbtwo (tt_mbone tt_mb99) (tt_mbtwo (tt_mbone tt_mb100) (tt_mbone tt_mb101)))))) (tt_mbtwo (tt_mbtwo (tt_mbtwo (tt_mbtwo (tt_mbone tt_mb102) (tt_mbone tt_mb103)) (tt_mbtwo (tt_mbone tt_mb104) (tt_mbtwo (tt_mbone tt_mb105) (tt_mbone tt_mb106)))) (tt_mbtwo (tt_mbtwo (tt_mbone tt_mb107) (tt_mbone tt_mb108)) (tt_mbtwo (tt_mbone tt_mb109) (tt_mbtwo (tt_mbone tt_mb110) (tt_mbone tt_mb111))))) (tt_mbtwo (tt_mbtwo (tt_mbtwo (tt_mbone tt_mb112) (tt_mbone tt_mb113)) (tt_mbtwo (tt_mbone tt_mb114) (tt_mbtwo (tt_mbone tt_mb115) (tt_mbone tt_mb116)))) (tt_mbtwo (tt_mbtwo (tt_mbone tt_mb117) (tt_mbtwo (tt_mbone tt_mb118) (tt_mbone tt_mb119))) (tt_mbtwo (tt_mbone tt_mb120) (tt_mbtwo (tt_mbone tt_mb121) (tt_mbone tt_mb122))))))) (tt_mbtwo (tt_mbtwo (tt_mbtwo (tt_mbtwo (tt_mbtwo (tt_mbone tt_mb123) (tt_mbone tt_mb124)) (tt_mbtwo (tt_mbone tt_mb125) (tt_mbtwo (tt_mbone tt_mb126) (tt_mbone tt_mb127)))) (tt_mbtwo (tt_mbtwo (tt_mbone tt_mb128) (tt_mbone tt_mb129)) (tt_mbtwo (tt_mbone tt_mb130) (tt_mbtwo (tt_mbone tt_mb131) (tt_mbone tt_mb132))))) (tt_mbtwo (tt_mbtwo (tt_mbtwo (tt_mbone tt_mb133) (tt_mbone tt_mb134)) (tt_mbtwo (tt_mbone tt_mb135) (tt_mbtwo (tt_mbone tt_mb136) (tt_mbone tt_mb137)))) (tt_mbtwo (tt_mbtwo (tt_mbone tt_mb138) (tt_mbone tt_mb139)) (tt_mbtwo (tt_mbone tt_mb140) (tt_mbtwo (tt_mbone tt_mb141) (tt_mbone tt_mb142)))))) (tt_mbtwo (tt_mbtwo (tt_mbtwo (tt_mbtwo (tt_mbone tt_mb143) (tt_mbone tt_mb144)) (tt_mbtwo (tt_mbone tt_mb145) (tt_mbtwo (tt_mbone tt_mb146) (tt_mbone tt_mb147)))) (tt_mbtwo (tt_mbtwo (tt_mbone tt_mb148) (tt_mbone tt_mb149)) (tt_mbtwo (tt_mbone tt_mb150) (tt_mbtwo (tt_mbone tt_mb151) (tt_mbone tt_mb152))))) (tt_mbtwo (tt_mbtwo (tt_mbtwo (tt_mbone tt_mb153) (tt_mbone tt_mb154)) (tt_mbtwo (tt_mbone tt_mb155) (tt_mbtwo (tt_mbone tt_mb156) (tt_mbone tt_mb157)))) (tt_mbtwo (tt_mbtwo (tt_mbone tt_mb158) (tt_mbtwo (tt_mbone tt_mb159) (tt_mbone tt_mb160))) (tt_mbtwo (tt_mbone tt_mb161) (tt_mbtwo (tt_mbone tt_mb162) (tt_mbone tt_mb163))))))))) k (Nat.zero_le k) h
noncomputable def tt_okc (own : String) (j : Nat) (q : Nat × Nat × Nat) : Bool := 
  bif Nat.beq q.1 7 then tt_is (tt_qs own j).1 (Cond.methodLink own j Lib.objectInit) else bif Nat.beq q.1 8 then (bif Nat.beq q.2.1 0 then tt_is (tt_qs own j).1 (Cond.methodLink own j arraycopyName) else tt_is (tt_qs own j).1 (Cond.methodLink own j Lib.Math.min.name)) else
  (Nat.blt q.2.1 164 && Nat.beq q.2.2 (tt_np q.2.1)) && (
  bif Nat.beq q.1 1 then tt_is (tt_qs own j).1 (Cond.methodLink own j (tt_my q.2.1)) && tt_is (tt_qs own j).2.1 (Cond.static (tt_my q.2.1)) else
  bif Nat.beq q.1 2 then tt_isN (tt_qs own j).1 (Cond.methodLinkNest own j (tt_my q.2.1) "PurseHouse") && tt_is (tt_qs own j).2.1 (Cond.static (tt_my q.2.1)) else
  tt_is (tt_qs own j).2.1 (Cond.instanceMethod (tt_my q.2.1)) && (
  bif Nat.beq q.1 3 then (tt_is (tt_qs own j).1 (Cond.methodLink own j (tt_my q.2.1)) && tt_is (tt_qs own j).2.2 (Cond.selects (tt_my q.2.1).cls (tt_my q.2.1) (tt_my q.2.1))) && decide (tt_cn[tt_mci q.2.1]? = some (tt_my q.2.1).cls) else
  bif Nat.beq q.1 4 then (tt_isN (tt_qs own j).1 (Cond.methodLinkNest own j (tt_my q.2.1) "PurseHouse") && tt_is (tt_qs own j).2.2 (Cond.selects (tt_my q.2.1).cls (tt_my q.2.1) (tt_my q.2.1))) && decide (tt_cn[tt_mci q.2.1]? = some (tt_my q.2.1).cls) else
  bif Nat.beq q.1 5 then (tt_is (tt_qs own j).1 (Cond.methodLink own j (tt_my q.2.1)) && decide (tt_mret q.2.1 = none)) && decide ((tt_my q.2.1).name = "<init>") else
  bif Nat.beq q.1 6 then (tt_isN (tt_qs own j).1 (Cond.methodLinkNest own j (tt_my q.2.1) "PurseHouse") && decide (tt_mret q.2.1 = none)) && decide ((tt_my q.2.1).name = "<init>") else false))
noncomputable def tt_okM (own : String) (j : Nat) (e : Nat × Nat × Nat × Nat) : Bool := bif Nat.beq e.1 2 then tt_okc own j e.2 else true
theorem tt_mm0 : (List.range 1024).all (fun j => tt_okM (mt_get 4 tt_pn0 0) j (mt_get 10 (mt_get 4 tt_ent0 0) j)) = true := by decide +kernel
theorem tt_mm1 : (List.range 1024).all (fun j => tt_okM (mt_get 4 tt_pn0 1) j (mt_get 10 (mt_get 4 tt_ent0 1) j)) = true := by decide +kernel
theorem tt_mm2 : (List.range 1024).all (fun j => tt_okM (mt_get 4 tt_pn0 2) j (mt_get 10 (mt_get 4 tt_ent0 2) j)) = true := by decide +kernel
theorem tt_mm3 : (List.range 1024).all (fun j => tt_okM (mt_get 4 tt_pn0 3) j (mt_get 10 (mt_get 4 tt_ent0 3) j)) = true := by decide +kernel
theorem tt_mm4 : (List.range 1024).all (fun j => tt_okM (mt_get 4 tt_pn0 4) j (mt_get 10 (mt_get 4 tt_ent0 4) j)) = true := by decide +kernel
theorem tt_mm5 : (List.range 1024).all (fun j => tt_okM (mt_get 4 tt_pn0 5) j (mt_get 10 (mt_get 4 tt_ent0 5) j)) = true := by decide +kernel
theorem tt_mm6 : (List.range 1024).all (fun j => tt_okM (mt_get 4 tt_pn0 6) j (mt_get 10 (mt_get 4 tt_ent0 6) j)) = true := by decide +kernel
theorem tt_mm7 : (List.range 1024).all (fun j => tt_okM (mt_get 4 tt_pn0 7) j (mt_get 10 (mt_get 4 tt_ent0 7) j)) = true := by decide +kernel
theorem tt_mm8 : (List.range 1024).all (fun j => tt_okM (mt_get 4 tt_pn0 8) j (mt_get 10 (mt_get 4 tt_ent0 8) j)) = true := by decide +kernel
theorem tt_mm9 : (List.range 1024).all (fun j => tt_okM (mt_get 4 tt_pn0 9) j (mt_get 10 (mt_get 4 tt_ent0 9) j)) = true := by decide +kernel
theorem tt_mm10 : (List.range 1024).all (fun j => tt_okM (mt_get 4 tt_pn0 10) j (mt_get 10 (mt_get 4 tt_ent0 10) j)) = true := by decide +kernel
theorem tt_mm11 : (List.range 1024).all (fun j => tt_okM (mt_get 4 tt_pn0 11) j (mt_get 10 (mt_get 4 tt_ent0 11) j)) = true := by decide +kernel
theorem tt_mm12 : (List.range 1024).all (fun j => tt_okM (mt_get 4 tt_pn0 12) j (mt_get 10 (mt_get 4 tt_ent0 12) j)) = true := by decide +kernel
theorem tt_mm13 : (List.range 1024).all (fun j => tt_okM (mt_get 4 tt_pn0 13) j (mt_get 10 (mt_get 4 tt_ent0 13) j)) = true := by decide +kernel
theorem tt_mm14 : (List.range 1024).all (fun j => tt_okM (mt_get 4 tt_pn0 14) j (mt_get 10 (mt_get 4 tt_ent0 14) j)) = true := by decide +kernel
theorem tt_mm15 : (List.range 1024).all (fun j => tt_okM (mt_get 4 tt_pn0 15) j (mt_get 10 (mt_get 4 tt_ent0 15) j)) = true := by decide +kernel
theorem tt_mm : ∀ c, c < 16 → (List.range 1024).all (fun j => tt_okM (mt_get 4 tt_pn0 c) j (mt_get 10 (mt_get 4 tt_ent0 c) j)) = true := by
  intro c hc
  match c, hc with
  | 0, _ => exact tt_mm0
  | 1, _ => exact tt_mm1
  | 2, _ => exact tt_mm2
  | 3, _ => exact tt_mm3
  | 4, _ => exact tt_mm4
  | 5, _ => exact tt_mm5
  | 6, _ => exact tt_mm6
  | 7, _ => exact tt_mm7
  | 8, _ => exact tt_mm8
  | 9, _ => exact tt_mm9
  | 10, _ => exact tt_mm10
  | 11, _ => exact tt_mm11
  | 12, _ => exact tt_mm12
  | 13, _ => exact tt_mm13
  | 14, _ => exact tt_mm14
  | 15, _ => exact tt_mm15
  | c + 16, h => exact absurd h (by omega)
theorem tt_clcn {i : Nat} {C : String} (h : tt_cn[i]? = some C) : ∃ r, tt_cl[i]? = some r ∧ r.1 = C := by
  rw [← tt_f15, List.getElem?_map] at h
  cases hc : tt_cl[i]? with
  | none => rw [hc] at h; cases h
  | some r => rw [hc] at h; exact ⟨r, rfl, Option.some.inj h⟩
theorem tt_ocp : Cond.native arraycopyName ∈ tt_mw ∧ Cond.static arraycopyName ∈ tt_mw ∧ Cond.initialized "java/lang/System" ∈ tt_mw := ⟨tt_is_ok (q := 662) (by decide +kernel), tt_is_ok (q := 661) (by decide +kernel), tt_is_ok (q := 266) (by decide +kernel)⟩
theorem tt_omn : Cond.static Lib.Math.min.name ∈ tt_mw ∧ Cond.initialized "java/lang/Math" ∈ tt_mw ∧ Cond.code Lib.Math.min.name Lib.Math.min.code 2 (some .int) ∈ tt_mw := ⟨tt_is_ok (q := 789) (by decide +kernel), tt_is_ok (q := 269) (by decide +kernel), tt_is_ok (q := 790) (by decide +kernel)⟩
theorem tt_oob : Cond.instanceMethod Lib.objectInit ∈ tt_mw ∧ Cond.code Lib.objectInit ⟨#[0xb1]⟩ 1 none ∈ tt_mw := ⟨tt_is_ok (q := 279) (by decide +kernel), tt_is_ok (q := 280) (by decide +kernel)⟩
theorem tt_okc_ok {own : String} {j : Nat} {q : Nat × Nat × Nat} (h : tt_okc own j q = true) : mv_ML tt_cl tt_mw tt_nst tt_my tt_mcc tt_mL tt_mret tt_mci own q j := by
  obtain ⟨kd, y, np⟩ := q
  refine ⟨?_, ?_, ?_, ?_, ?_, ?_, ?_, ?_⟩
  · intro e; dsimp only at e; subst e
    obtain ⟨h1, h2⟩ := (Bool.and_eq_true _ _).mp (show ((Nat.blt y 164 && Nat.beq np (tt_np y)) && (tt_is (tt_qs own j).1 (Cond.methodLink own j (tt_my y)) && tt_is (tt_qs own j).2.1 (Cond.static (tt_my y)))) = true from h)
    simp only [Bool.and_eq_true, decide_eq_true_eq, Nat.blt_eq, Nat.beq_eq] at h1 h2
    have hb := tt_mb y h1.1
    unfold tt_MB at hb
    rw [← h1.2] at hb
    exact ⟨hb, tt_is_ok h2.1, tt_is_ok h2.2⟩
  · intro e; dsimp only at e; subst e
    obtain ⟨h1, h2⟩ := (Bool.and_eq_true _ _).mp (show ((Nat.blt y 164 && Nat.beq np (tt_np y)) && (tt_isN (tt_qs own j).1 (Cond.methodLinkNest own j (tt_my y) "PurseHouse") && tt_is (tt_qs own j).2.1 (Cond.static (tt_my y)))) = true from h)
    simp only [Bool.and_eq_true, decide_eq_true_eq, Nat.blt_eq, Nat.beq_eq] at h1 h2
    have hb := tt_mb y h1.1
    unfold tt_MB at hb
    rw [← h1.2] at hb
    exact ⟨hb, ⟨_, tt_isN_ok h2.1⟩, tt_is_ok h2.2⟩
  · intro e; dsimp only at e; subst e
    obtain ⟨h1, h2⟩ := (Bool.and_eq_true _ _).mp (show ((Nat.blt y 164 && Nat.beq np (tt_np y)) && (tt_is (tt_qs own j).2.1 (Cond.instanceMethod (tt_my y)) && ((tt_is (tt_qs own j).1 (Cond.methodLink own j (tt_my y)) && tt_is (tt_qs own j).2.2 (Cond.selects (tt_my y).cls (tt_my y) (tt_my y))) && decide (tt_cn[tt_mci y]? = some (tt_my y).cls)))) = true from h)
    simp only [Bool.and_eq_true, decide_eq_true_eq, Nat.blt_eq, Nat.beq_eq] at h1 h2
    have hb := tt_mb y h1.1
    unfold tt_MB at hb
    rw [← h1.2] at hb
    exact ⟨hb, tt_is_ok h2.2.1.1, tt_is_ok h2.1, tt_is_ok h2.2.1.2, tt_clcn h2.2.2⟩
  · intro e; dsimp only at e; subst e
    obtain ⟨h1, h2⟩ := (Bool.and_eq_true _ _).mp (show ((Nat.blt y 164 && Nat.beq np (tt_np y)) && (tt_is (tt_qs own j).2.1 (Cond.instanceMethod (tt_my y)) && ((tt_isN (tt_qs own j).1 (Cond.methodLinkNest own j (tt_my y) "PurseHouse") && tt_is (tt_qs own j).2.2 (Cond.selects (tt_my y).cls (tt_my y) (tt_my y))) && decide (tt_cn[tt_mci y]? = some (tt_my y).cls)))) = true from h)
    simp only [Bool.and_eq_true, decide_eq_true_eq, Nat.blt_eq, Nat.beq_eq] at h1 h2
    have hb := tt_mb y h1.1
    unfold tt_MB at hb
    rw [← h1.2] at hb
    exact ⟨hb, ⟨_, tt_isN_ok h2.2.1.1⟩, tt_is_ok h2.1, tt_is_ok h2.2.1.2, tt_clcn h2.2.2⟩
  · intro e; dsimp only at e; subst e
    obtain ⟨h1, h2⟩ := (Bool.and_eq_true _ _).mp (show ((Nat.blt y 164 && Nat.beq np (tt_np y)) && (tt_is (tt_qs own j).2.1 (Cond.instanceMethod (tt_my y)) && ((tt_is (tt_qs own j).1 (Cond.methodLink own j (tt_my y)) && decide (tt_mret y = none)) && decide ((tt_my y).name = "<init>")))) = true from h)
    simp only [Bool.and_eq_true, decide_eq_true_eq, Nat.blt_eq, Nat.beq_eq] at h1 h2
    have hb := tt_mb y h1.1
    unfold tt_MB at hb
    rw [← h1.2] at hb
    exact ⟨hb, h2.2.1.2, tt_is_ok h2.2.1.1, tt_is_ok h2.1, h2.2.2⟩
  · intro e; dsimp only at e; subst e
    obtain ⟨h1, h2⟩ := (Bool.and_eq_true _ _).mp (show ((Nat.blt y 164 && Nat.beq np (tt_np y)) && (tt_is (tt_qs own j).2.1 (Cond.instanceMethod (tt_my y)) && ((tt_isN (tt_qs own j).1 (Cond.methodLinkNest own j (tt_my y) "PurseHouse") && decide (tt_mret y = none)) && decide ((tt_my y).name = "<init>")))) = true from h)
    simp only [Bool.and_eq_true, decide_eq_true_eq, Nat.blt_eq, Nat.beq_eq] at h1 h2
    have hb := tt_mb y h1.1
    unfold tt_MB at hb
    rw [← h1.2] at hb
    exact ⟨hb, h2.2.1.2, ⟨_, tt_isN_ok h2.2.1.1⟩, tt_is_ok h2.1, h2.2.2⟩
  · intro e; dsimp only at e; subst e
    exact ⟨tt_is_ok (q := (tt_qs own j).1) h, tt_oob⟩
  · intro e; dsimp only at e; subst e
    refine ⟨fun z => ?_, fun z => ?_⟩
    · dsimp only at z; subst z
      exact ⟨tt_is_ok (q := (tt_qs own j).1) h, tt_ocp⟩
    · dsimp only at z; subst z
      exact ⟨tt_is_ok (q := (tt_qs own j).1) h, tt_omn⟩
theorem tt_f9 : ∀ k j, mv_ML tt_cl tt_mw tt_nst tt_my tt_mcc tt_mL tt_mret tt_mci (tt_my k).cls (tt_ml k j) j := by
  intro k j
  have hP := tt_entP (P := tt_okM) tt_mm (fun _ _ => rfl) tt_ent15 k j
  unfold tt_ml
  unfold tt_okM at hP
  cases h1 : Nat.beq (tt_ent k j).1 2 with
  | true => rw [h1] at hP; exact tt_okc_ok hP
  | false =>
    simp only [cond_false]
    refine ⟨?_, ?_, ?_, ?_, ?_, ?_, ?_, ?_⟩ <;> intro z <;> exact absurd z (by decide)
theorem tt_FX : mv_FX tt_cd tt_kc tt_fl tt_nl tt_al tt_sl tt_ml tt_mL tt_mr tt_ini tt_mci tt_fty tt_ffin tt_tl tt_cn tt_dpk tt_stt tt_my tt_mcc tt_mret tt_mw tt_nst tt_aos tt_zs tt_zt tt_cl := ⟨tt_f1, tt_f2, tt_f3, tt_f4, tt_f5, tt_f6, tt_f7, tt_f8, tt_f9, tt_f10, tt_f11, tt_f12, tt_f13, tt_f14, tt_f15, tt_f16, tt_f17⟩
