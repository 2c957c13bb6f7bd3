/-! SYMBOLIC RUNS, III -/
theorem mv_mx_mono {a b x : Nat} (h : a ≤ b) : mv_mx a x ≤ mv_mx b x := by
  unfold mv_mx
  cases h1 : Nat.ble a x with
  | true =>
    cases h2 : Nat.ble b x with
    | true => exact Nat.le_refl _
    | false =>
      simp only [cond_true, cond_false]
      rcases Nat.lt_or_ge x b with z | z
      · omega
      · rw [Nat.ble_eq_true_of_le z] at h2; cases h2
  | false =>
    cases h2 : Nat.ble b x with
    | true =>
      simp only [cond_true, cond_false]
      exact Nat.le_trans h (Nat.le_of_ble_eq_true h2)
    | false => exact h
section SM
variable {cd : Nat → Nat → Nat × Instr × Nat} {kc : Nat → Nat → Nat × Nat} {fl : Nat → Nat → Nat × Nat × Nat} {nl : Nat → Nat → Nat × Nat} {al sl : Nat → Nat → Nat} {ml : Nat → Nat → Nat × Nat × Nat} {mL mr : Nat → Nat} {ini : Nat → Bool} {mci : Nat → Nat} {fty : Nat → Nat → FieldType} {ffin : Nat → Nat → Bool} {tl : List FieldType} {cn : List String} {dpk : Nat → Nat} {stt : Nat → Nat × Nat × Nat} {prim : Nat → List mv_V → Nat → mv_T 10 → Option mv_R}
/-- a run from smaller costs costs no more -/
theorem mv_run_less : ∀ (f k pc L : Nat) (S : List mv_V) (n : Nat) (w : mv_T 10) (c s fr lo a b : Nat) (res : mv_R), mv_run cd kc fl nl al sl ml mL mr ini mci fty ffin tl cn dpk stt prim f k pc L S n w c s fr lo = some res → a ≤ fr → b ≤ lo → ∃ a' b', a' ≤ res.2.2.2.2.2.1 ∧ b' ≤ res.2.2.2.2.2.2 ∧ mv_run cd kc fl nl al sl ml mL mr ini mci fty ffin tl cn dpk stt prim f k pc L S n w c s a b = some (res.1, res.2.1, res.2.2.1, res.2.2.2.1, res.2.2.2.2.1, a', b') := by
  intro f
  induction f with
  | zero => intro k pc L S n w c s fr lo a b res h; cases h
  | succ f ih =>
    intro k pc L S n w c s fr lo a b res h ha hb
    have h' : mv_stepf cd kc fl nl al sl ml mL mr ini mci fty ffin tl cn dpk stt prim (mv_run cd kc fl nl al sl ml mL mr ini mci fty ffin tl cn dpk stt prim f) k pc L S n w c s fr lo = some res := h
    clear h
    have hgoal : ∀ x, mv_run cd kc fl nl al sl ml mL mr ini mci fty ffin tl cn dpk stt prim (f + 1) k pc L S n w c s a b = x ↔ mv_stepf cd kc fl nl al sl ml mL mr ini mci fty ffin tl cn dpk stt prim (mv_run cd kc fl nl al sl ml mL mr ini mci fty ffin tl cn dpk stt prim f) k pc L S n w c s a b = x := fun x => Iff.rfl
    simp only [hgoal]
    clear hgoal
    unfold mv_stepf at h' ⊢
    rcases hcd : cd k pc with ⟨g, i, len⟩
    rw [hcd] at h'
    dsimp only at h' ⊢
    obtain ⟨h0, h⟩ := mv_bif2 h'
    clear h'
    rw [h0]
    simp only [cond_true]
    cases hg9 : Nat.beq g 9 with
    | true =>
      rw [hg9] at h
      simp only [cond_true] at h ⊢
      split at h
      · rename_i ret hret
        obtain ⟨h1, h2⟩ := mv_bif h
        subst h2
        refine ⟨a, b, ha, hb, ?_⟩
        rw [h1]
        rfl
      · cases h
    | false =>
      rw [hg9] at h
      simp only [cond_false] at h ⊢
      cases hg10 : Nat.beq g 10 with
      | true =>
        rw [hg10] at h
        simp only [cond_true] at h ⊢
        cases hcal : mv_cal (ml k) i S with
        | none => rw [hcal] at h; cases h
        | some q4 =>
          obtain ⟨kd, q, as, S0⟩ := q4
          rw [hcal] at h
          dsimp only at h ⊢
          obtain ⟨h1, h⟩ := mv_bif2 h
          rw [h1]
          simp only [cond_true]
          cases h7 : Nat.beq kd 7 with
          | true =>
            rw [h7] at h
            simp only [cond_true] at h ⊢
            split at h
            · obtain ⟨h2, h⟩ := mv_bif2 h
              rw [h2]
              exact ih _ _ _ _ _ _ _ _ _ _ _ _ _ h (mv_mx_mono ha) (mv_mx_mono hb)
            · cases h
          | false =>
            rw [h7] at h
            simp only [cond_false] at h ⊢
            cases h8 : Nat.beq kd 8 with
            | true =>
              rw [h8] at h
              simp only [cond_true] at h ⊢
              cases hw : mv_c8 tl stt q as S0 w with
              | none => rw [hw] at h; cases h
              | some sw =>
                obtain ⟨S', w'⟩ := sw
                rw [hw] at h
                exact ih _ _ _ _ _ _ _ _ _ _ _ _ _ h (mv_mx_mono ha) (mv_mx_mono hb)
            | false =>
              rw [h8] at h
              simp only [cond_false] at h ⊢
              obtain ⟨h3, h⟩ := mv_bif2 h
              rw [h3]
              simp only [cond_true]
              cases hp : prim q as n w with
              | some r =>
                rw [hp] at h
                exact ih _ _ _ _ _ _ _ _ _ _ _ _ _ h (mv_mx_mono ha) (mv_mx_mono hb)
              | none =>
                rw [hp] at h
                dsimp only at h ⊢
                cases hbb : (mv_oks as && Nat.ble (mv_cs as) (mL q)) with
                | false => rw [hbb] at h; cases h
                | true =>
                  rw [hbb] at h
                  simp only [cond_true] at h ⊢
                  cases hr : mv_run cd kc fl nl al sl ml mL mr ini mci fty ffin tl cn dpk stt prim f q 0 (mv_l0 0 as 0) [] n w 0 0 0 0 with
                  | none => rw [hr] at h; cases h
                  | some r =>
                    rw [hr] at h
                    exact ih _ _ _ _ _ _ _ _ _ _ _ _ _ h (mv_mx_mono ha) (mv_mx_mono hb)
      | false =>
        rw [hg10] at h
        simp only [cond_false] at h ⊢
        cases hg11 : Nat.beq g 11 with
        | true =>
          rw [hg11] at h
          simp only [cond_true] at h ⊢
          cases ht : mv_tld tl stt i S with
          | none => rw [ht] at h; cases h
          | some S' =>
            rw [ht] at h
            dsimp only at h ⊢
            obtain ⟨h1, h⟩ := mv_bif2 h
            rw [h1]
            exact ih _ _ _ _ _ _ _ _ _ _ _ _ _ h ha hb
        | false =>
          rw [hg11] at h
          simp only [cond_false] at h ⊢
          cases hg12 : Nat.beq g 12 with
          | true =>
            rw [hg12] at h
            simp only [cond_true] at h ⊢
            cases ht : mv_mu (nl k) i S n w with
            | none => rw [ht] at h; cases h
            | some q4 =>
              obtain ⟨S', n', dc, ds⟩ := q4
              rw [ht] at h
              dsimp only at h ⊢
              obtain ⟨h1, h⟩ := mv_bif2 h
              rw [h1]
              exact ih _ _ _ _ _ _ _ _ _ _ _ _ _ h ha hb
          | false =>
            rw [hg12] at h
            simp only [cond_false] at h ⊢
            cases ht : mv_one g (mL k) (kc k) (fl k) (nl k) (al k) (sl k) (ini k) fty ffin tl cn dpk i len pc L S n w with
            | none => rw [ht] at h; cases h
            | some q7 =>
              obtain ⟨pc', L', S', n', w', dc, ds⟩ := q7
              rw [ht] at h
              exact ih _ _ _ _ _ _ _ _ _ _ _ _ _ h ha hb
end SM
/-- a contract of the small machine: no new cells, frames F, locals Lo at most -/
def sy_C (q n F Lo : Nat) (as : List mv_V) (w : mv_T 10) (ret : List mv_V) (w' : mv_T 10) : Prop := ∃ f0, sy_run f0 q 0 (mv_l0 0 as 0) [] n w F Lo = some (ret, n, w', 0, 0, F, Lo)
section SY
variable {k n fr lo pc pc' pc2 : Nat} {ls ls' ls2 S S' S2 : List mv_V} {w w' w2 : mv_T 10}
theorem sy_Cof {as us ls' ret : List mv_V} {pe : Nat} (ho : mv_oks as = true) (hl : as.all (fun v => !(mv_isL v)) = true) (hu : us.all (fun v => Nat.beq v.1 255) = true) (h : sy_R k n fr lo 0 (as ++ us) [] w pe ls' ret w') (he : ∀ L f, sy_run (f + 1) k pe L ret n w' fr lo = some (ret, n, w', 0, 0, fr, lo)) : sy_C k n fr lo as w ret w' := sy_whole ho hl hu h he
theorem sy_callG {i : Instr} {kd q F Lo : Nat} {as S0 ret : List mv_V} (hc : tt_cd k pc = (10, i, 3)) (hcal : mv_cal (tt_ml k) i S = some (kd, q, as, S0)) (h7 : Nat.beq kd 7 = false) (h8 : Nat.beq kd 8 = false) (hrcv : mv_rcv kd (tt_mci q) as w = true) (hcs : Nat.ble (mv_cs S0) 8 = true) (hok : (mv_oks as && Nat.ble (mv_cs as) (tt_mL q)) = true) (hrun : sy_C q n F Lo as w ret w') (hfr : F + 1 ≤ fr) (hlo : 8 + (tt_mL q + 11) + Lo ≤ lo) (kk : sy_R k n fr lo (pc + 3) ls (ret ++ S0) w' pc2 ls2 S2 w2) : sy_R k n fr lo pc ls S w pc2 ls2 S2 w2 := by
  intro L hL
  obtain ⟨f0, hrun0⟩ := hrun
  obtain ⟨fr0, lo0, hF, hLo, hrun⟩ := mv_run_less _ _ _ _ _ _ _ _ _ _ _ 0 0 _ hrun0 (Nat.zero_le _) (Nat.zero_le _)
  dsimp only at hF hLo hrun
  obtain ⟨c, L2, h3, h4⟩ := kk L hL
  refine ⟨c + f0 + 1, L2, h3, fun f res hr => ?_⟩
  have h5 := sy_more (h4 f res hr) f0
  have h6 := sy_more hrun (f + c)
  rw [Nat.add_comm f0] at h6
  rw [show f + (c + f0 + 1) = f + c + f0 + 1 by omega]
  show mv_stepf tt_cd tt_kc tt_fl tt_nl tt_al tt_sl tt_ml tt_mL tt_mr tt_ini tt_mci tt_fty tt_ffin tt_tl tt_cn tt_dpk tt_stt tt_none (mv_run tt_cd tt_kc tt_fl tt_nl tt_al tt_sl tt_ml tt_mL tt_mr tt_ini tt_mci tt_fty tt_ffin tt_tl tt_cn tt_dpk tt_stt tt_none (f + c + f0)) k pc L S n w 0 0 fr lo = some res
  unfold mv_stepf
  rw [hc]
  show (match mv_cal (tt_ml k) i S with
      | some (kd, q, as, S0) => bif Nat.beq 3 3 then
          (bif Nat.beq kd 7 then (match as, S0 with
            | [x], [] => bif Nat.beq x.1 2 then mv_run tt_cd tt_kc tt_fl tt_nl tt_al tt_sl tt_ml tt_mL tt_mr tt_ini tt_mci tt_fty tt_ffin tt_tl tt_cn tt_dpk tt_stt tt_none (f + c + f0) k (Nat.add pc 3) L [] n w 0 0 (mv_mx fr 1) (mv_mx lo 12) else none
            | _, _ => none)
          else bif Nat.beq kd 8 then (match mv_c8 tt_tl tt_stt q as S0 w with
            | some (S', w') => mv_run tt_cd tt_kc tt_fl tt_nl tt_al tt_sl tt_ml tt_mL tt_mr tt_ini tt_mci tt_fty tt_ffin tt_tl tt_cn tt_dpk tt_stt tt_none (f + c + f0) k (Nat.add pc 3) L S' n w' 0 0 (mv_mx fr 1) (mv_mx lo (mv_cs S0 + 18))
            | none => none)
          else bif mv_rcv kd (tt_mci q) as w && Nat.ble (mv_cs S0) 8 then (match (match tt_none q as n w with
              | some r => some r
              | none => bif mv_oks as && Nat.ble (mv_cs as) (tt_mL q) then mv_run tt_cd tt_kc tt_fl tt_nl tt_al tt_sl tt_ml tt_mL tt_mr tt_ini tt_mci tt_fty tt_ffin tt_tl tt_cn tt_dpk tt_stt tt_none (f + c + f0) q 0 (mv_l0 0 as 0) [] n w 0 0 0 0 else none) with
            | some r => mv_run tt_cd tt_kc tt_fl tt_nl tt_al tt_sl tt_ml tt_mL tt_mr tt_ini tt_mci tt_fty tt_ffin tt_tl tt_cn tt_dpk tt_stt tt_none (f + c + f0) k (Nat.add pc 3) L (r.1 ++ S0) r.2.1 r.2.2.1 (Nat.add 0 r.2.2.2.1) (Nat.add 0 r.2.2.2.2.1) (mv_mx fr (r.2.2.2.2.2.1 + 1)) (mv_mx lo (8 + (tt_mL q + 11) + r.2.2.2.2.2.2))
            | none => none) else none) else none
      | none => none) = some res
  rw [hcal]
  dsimp only
  rw [h7, h8, hrcv, hcs, hok, show mv_run tt_cd tt_kc tt_fl tt_nl tt_al tt_sl tt_ml tt_mL tt_mr tt_ini tt_mci tt_fty tt_ffin tt_tl tt_cn tt_dpk tt_stt tt_none (f + c + f0) q 0 (mv_l0 0 as 0) [] n w 0 0 0 0 = some (ret, n, w', 0, 0, fr0, lo0) from h6]
  show mv_run tt_cd tt_kc tt_fl tt_nl tt_al tt_sl tt_ml tt_mL tt_mr tt_ini tt_mci tt_fty tt_ffin tt_tl tt_cn tt_dpk tt_stt tt_none (f + c + f0) k (pc + 3) L (ret ++ S0) n w' 0 0 (mv_mx fr (fr0 + 1)) (mv_mx lo (8 + (tt_mL q + 11) + lo0)) = some res
  rw [sy_mx (by omega), sy_mx (by omega)]
  exact h5
/-- the library's own -/
theorem sy_call8 {i : Instr} {q : Nat} {as S0 : List mv_V} (hc : tt_cd k pc = (10, i, 3)) (hcal : mv_cal (tt_ml k) i S = some (8, q, as, S0)) (h8 : mv_c8 tt_tl tt_stt q as S0 w = some (S', w')) (hfr : 1 ≤ fr) (hlo : mv_cs S0 + 18 ≤ lo) (kk : sy_R k n fr lo (pc + 3) ls S' w' pc2 ls2 S2 w2) : sy_R k n fr lo pc ls S w pc2 ls2 S2 w2 := by
  intro L hL
  obtain ⟨c, L2, h3, h4⟩ := kk L hL
  refine ⟨c + 1, L2, h3, fun f res hr => ?_⟩
  have h5 := h4 f res hr
  rw [← Nat.add_assoc]
  show mv_stepf tt_cd tt_kc tt_fl tt_nl tt_al tt_sl tt_ml tt_mL tt_mr tt_ini tt_mci tt_fty tt_ffin tt_tl tt_cn tt_dpk tt_stt tt_none (mv_run tt_cd tt_kc tt_fl tt_nl tt_al tt_sl tt_ml tt_mL tt_mr tt_ini tt_mci tt_fty tt_ffin tt_tl tt_cn tt_dpk tt_stt tt_none (f + c)) k pc L S n w 0 0 fr lo = some res
  unfold mv_stepf
  rw [hc]
  show (match mv_cal (tt_ml k) i S with
      | some (kd, q, as, S0) => bif Nat.beq 3 3 then
          (bif Nat.beq kd 7 then (match as, S0 with
            | [x], [] => bif Nat.beq x.1 2 then mv_run tt_cd tt_kc tt_fl tt_nl tt_al tt_sl tt_ml tt_mL tt_mr tt_ini tt_mci tt_fty tt_ffin tt_tl tt_cn tt_dpk tt_stt tt_none (f + c) k (Nat.add pc 3) L [] n w 0 0 (mv_mx fr 1) (mv_mx lo 12) else none
            | _, _ => none)
          else bif Nat.beq kd 8 then (match mv_c8 tt_tl tt_stt q as S0 w with
            | some (S', w') => mv_run tt_cd tt_kc tt_fl tt_nl tt_al tt_sl tt_ml tt_mL tt_mr tt_ini tt_mci tt_fty tt_ffin tt_tl tt_cn tt_dpk tt_stt tt_none (f + c) k (Nat.add pc 3) L S' n w' 0 0 (mv_mx fr 1) (mv_mx lo (mv_cs S0 + 18))
            | none => none)
          else bif mv_rcv kd (tt_mci q) as w && Nat.ble (mv_cs S0) 8 then (match (match tt_none q as n w with
              | some r => some r
              | none => bif mv_oks as && Nat.ble (mv_cs as) (tt_mL q) then mv_run tt_cd tt_kc tt_fl tt_nl tt_al tt_sl tt_ml tt_mL tt_mr tt_ini tt_mci tt_fty tt_ffin tt_tl tt_cn tt_dpk tt_stt tt_none (f + c) q 0 (mv_l0 0 as 0) [] n w 0 0 0 0 else none) with
            | some r => mv_run tt_cd tt_kc tt_fl tt_nl tt_al tt_sl tt_ml tt_mL tt_mr tt_ini tt_mci tt_fty tt_ffin tt_tl tt_cn tt_dpk tt_stt tt_none (f + c) k (Nat.add pc 3) L (r.1 ++ S0) r.2.1 r.2.2.1 (Nat.add 0 r.2.2.2.1) (Nat.add 0 r.2.2.2.2.1) (mv_mx fr (r.2.2.2.2.2.1 + 1)) (mv_mx lo (8 + (tt_mL q + 11) + r.2.2.2.2.2.2))
            | none => none) else none) else none
      | none => none) = some res
  rw [hcal]
  dsimp only
  rw [h8]
  show mv_run tt_cd tt_kc tt_fl tt_nl tt_al tt_sl tt_ml tt_mL tt_mr tt_ini tt_mci tt_fty tt_ffin tt_tl tt_cn tt_dpk tt_stt tt_none (f + c) k (pc + 3) L S' n w' 0 0 (mv_mx fr 1) (mv_mx lo (mv_cs S0 + 18)) = some res
  rw [sy_mx hfr, sy_mx hlo]
  exact h5
/-- what a call takes off the stack -/
theorem sy_calS {j kd q np : Nat} {as S0 : List mv_V} (hm : tt_ml k j = (kd, q, np)) (hkd : (Nat.beq kd 1 || (Nat.beq kd 2 || Nat.beq kd 8)) = true) (hl : as.length = np) : mv_cal (tt_ml k) (.invokestatic j) (as.reverse ++ S0) = some (kd, q, as, S0) := by
  show (bif Nat.beq (tt_ml k j).1 1 || (Nat.beq (tt_ml k j).1 2 || Nat.beq (tt_ml k j).1 8) then mv_cl (tt_ml k j) (tt_ml k j).2.2 (as.reverse ++ S0) else none) = _
  rw [hm]
  dsimp only
  rw [hkd]
  unfold mv_cl
  have e1 : (as.reverse ++ S0).take np = as.reverse := by rw [← hl, ← List.length_reverse (as := as)]; exact List.take_left
  have e2 : (as.reverse ++ S0).drop np = S0 := by rw [← hl, ← List.length_reverse (as := as)]; exact List.drop_left
  rw [e1, e2]
  simp only [cond_true, List.length_reverse, hl, List.reverse_reverse]
  rw [Nat.beq_refl]
  rfl
theorem sy_calV {j kd q np : Nat} {as S0 : List mv_V} (hm : tt_ml k j = (kd, q, np)) (hkd : (Nat.beq kd 3 || Nat.beq kd 4) = true) (hl : as.length = np + 1) : mv_cal (tt_ml k) (.invokevirtual j) (as.reverse ++ S0) = some (kd, q, as, S0) := by
  show (bif Nat.beq (tt_ml k j).1 3 || Nat.beq (tt_ml k j).1 4 then mv_cl (tt_ml k j) ((tt_ml k j).2.2 + 1) (as.reverse ++ S0) else none) = _
  rw [hm]
  dsimp only
  rw [hkd]
  unfold mv_cl
  have e1 : (as.reverse ++ S0).take (np + 1) = as.reverse := by rw [← hl, ← List.length_reverse (as := as)]; exact List.take_left
  have e2 : (as.reverse ++ S0).drop (np + 1) = S0 := by rw [← hl, ← List.length_reverse (as := as)]; exact List.drop_left
  rw [e1, e2]
  simp only [cond_true, List.length_reverse, hl, List.reverse_reverse]
  rw [Nat.beq_refl]
  rfl
theorem sy_rcv {kd ci a nf X : Nat} {as : List mv_V} (h : mv_get 10 w a = (0, ci, nf, X)) : mv_rcv kd ci ((2, a, 0) :: as) w = true := by
  show (Nat.ble kd 2 || (Nat.beq 2 2 && (Nat.ble 5 kd || (Nat.beq (mv_get 10 w a).1 0 && Nat.beq (mv_get 10 w a).2.1 ci)))) = true
  rw [h]
  dsimp only
  rw [Nat.beq_refl ci]
  cases Nat.ble kd 2 <;> cases Nat.ble 5 kd <;> rfl
/-- more rows -/
theorem sy_dup {x : mv_V} (hc : tt_cd k pc = (2, .dup, 1)) (h : mv_c1 x = true) (kk : sy_R k n fr lo (pc + 1) ls (x :: x :: S) w pc2 ls2 S2 w2) : sy_R k n fr lo pc ls (x :: S) w pc2 ls2 S2 w2 := by
  refine sy_sk hc rfl ?_ kk
  show (bif mv_c1 x then some (1, x :: x :: S) else none) = _
  rw [h]
  rfl
theorem sy_i2b {x : Nat} (hc : tt_cd k pc = (2, .i2b, 1)) (kk : sy_R k n fr lo (pc + 1) ls ((0, mn_b x, 0) :: S) w pc2 ls2 S2 w2) : sy_R k n fr lo pc ls ((0, x, 0) :: S) w pc2 ls2 S2 w2 := sy_sk hc rfl rfl kk
def mo_shr (a b : Nat) : Nat := (mn_up a / 2 ^ (b % 32) + (4294967296 - 2147483648 / 2 ^ (b % 32))) % 4294967296
theorem mo_shr_lt (a b : Nat) : mo_shr a b < 4294967296 := Nat.mod_lt _ (by decide)
theorem sy_ishr {x y : Nat} (hc : tt_cd k pc = (2, .ishr, 1)) (kk : sy_R k n fr lo (pc + 1) ls ((0, mo_shr x y, 0) :: S) w pc2 ls2 S2 w2) : sy_R k n fr lo pc ls ((0, y, 0) :: (0, x, 0) :: S) w pc2 ls2 S2 w2 := sy_sk hc rfl rfl kk
theorem sy_idiv {x y : Nat} (hc : tt_cd k pc = (2, .idiv, 1)) (h : (Nat.blt x 2147483648 && (Nat.blt y 2147483648 && Nat.blt 0 y)) = true) (kk : sy_R k n fr lo (pc + 1) ls ((0, x / y, 0) :: S) w pc2 ls2 S2 w2) : sy_R k n fr lo pc ls ((0, y, 0) :: (0, x, 0) :: S) w pc2 ls2 S2 w2 := by
  refine sy_sk hc rfl ?_ kk
  show (bif Nat.beq 0 0 && (Nat.beq 0 0 && (Nat.blt x 2147483648 && (Nat.blt y 2147483648 && Nat.blt 0 y))) then some (1, (0, x / y, 0) :: S) else none) = _
  rw [h]
  rfl
theorem sy_irem {x y : Nat} (hc : tt_cd k pc = (2, .irem, 1)) (h : (Nat.blt x 2147483648 && (Nat.blt y 2147483648 && Nat.blt 0 y)) = true) (kk : sy_R k n fr lo (pc + 1) ls ((0, x % y, 0) :: S) w pc2 ls2 S2 w2) : sy_R k n fr lo pc ls ((0, y, 0) :: (0, x, 0) :: S) w pc2 ls2 S2 w2 := by
  refine sy_sk hc rfl ?_ kk
  show (bif Nat.beq 0 0 && (Nat.beq 0 0 && (Nat.blt x 2147483648 && (Nat.blt y 2147483648 && Nat.blt 0 y))) then some (1, (0, x % y, 0) :: S) else none) = _
  rw [h]
  rfl
theorem sy_alen {a b kd ty q c : Nat} (hc : tt_cd k pc = (3, .arraylength, 1)) (hw : mv_get 10 w a = (kd, ty, q, c)) (hkd : (Nat.blt 0 kd && Nat.ble kd 5) = true) (kk : sy_R k n fr lo (pc + 1) ls ((0, q, 0) :: S) w pc2 ls2 S2 w2) : sy_R k n fr lo pc ls ((2, a, b) :: S) w pc2 ls2 S2 w2 := by
  refine sy_hk hc rfl ?_ kk
  show (bif Nat.beq 2 2 && (Nat.blt 0 (mv_get 10 w a).1 && Nat.ble (mv_get 10 w a).1 5) then some (1, (0, (mv_get 10 w a).2.2.1, 0) :: S) else none) = _
  rw [hw]
  dsimp only
  rw [hkd]
  rfl
theorem sy_upn {x : Nat} (h : 2147483648 ≤ x) (hx : x < 4294967296) : mn_up x < mn_up 0 := by
  have e : mn_up x = x - 2147483648 := by
    show (x + 2147483648) % 4294967296 = x - 2147483648
    omega
  have e0 : mn_up 0 = 2147483648 := rfl
  rw [e, e0]
  omega
theorem sy_neg_t {x : Nat} (h : 2147483648 ≤ x) (hx : x < 4294967296) : mv_lt (0, x, 0) (0, 0, 0) = some true := mv_lt_of rfl rfl (by rw [sy_iv0, sy_iv0]; exact sy_upn h hx)
theorem mn_up_inj {x y : Nat} (hx : x < 4294967296) (hy : y < 4294967296) (h : mn_up x = mn_up y) : x = y := by
  have h' : (x + 2147483648) % 4294967296 = (y + 2147483648) % 4294967296 := h
  omega
theorem mv_eq_of {x y : mv_V} (hx : mv_isI x = true) (hy : mv_isI y = true) (h1 : (mv_iv x).1 = (mv_iv x).2) (h2 : (mv_iv y).1 = (mv_iv y).2) (h3 : (mv_iv x).1 = (mv_iv y).1) : mv_eq x y = some true := by
  unfold mv_eq
  have e1 : Nat.blt (mv_iv x).2 (mv_iv y).1 = false := by
    cases hb : Nat.blt (mv_iv x).2 (mv_iv y).1 with
    | false => rfl
    | true => simp only [Nat.blt_eq] at hb; omega
  have e2 : Nat.blt (mv_iv y).2 (mv_iv x).1 = false := by
    cases hb : Nat.blt (mv_iv y).2 (mv_iv x).1 with
    | false => rfl
    | true => simp only [Nat.blt_eq] at hb; omega
  rw [hx, hy, e1, e2, show Nat.beq (mv_iv x).1 (mv_iv x).2 = true by simpa using h1, show Nat.beq (mv_iv y).1 (mv_iv y).2 = true by simpa using h2, show Nat.beq (mv_iv x).1 (mv_iv y).1 = true by simpa using h3]
  rfl
theorem mv_eq_no {x y : mv_V} (hx : mv_isI x = true) (hy : mv_isI y = true) (h : (mv_iv x).2 < (mv_iv y).1 ∨ (mv_iv y).2 < (mv_iv x).1) : mv_eq x y = some false := by
  unfold mv_eq
  cases hb : Nat.blt (mv_iv x).2 (mv_iv y).1 with
  | true => rw [hx, hy]; rfl
  | false =>
    have e2 : Nat.blt (mv_iv y).2 (mv_iv x).1 = true := by
      rcases h with h | h
      · have : Nat.blt (mv_iv x).2 (mv_iv y).1 = true := by simpa using h
        rw [hb] at this; cases this
      · simpa using h
    rw [hx, hy, e2]
    rfl
theorem sy_eq_y {x y : Nat} (h : x = y) : mv_eq (0, x, 0) (0, y, 0) = some true := by
  subst h
  exact mv_eq_of rfl rfl (by rw [sy_iv0]) (by rw [sy_iv0]) rfl
theorem sy_eq_n {x y : Nat} (h : x ≠ y) (hx : x < 4294967296) (hy : y < 4294967296) : mv_eq (0, x, 0) (0, y, 0) = some false := by
  refine mv_eq_no rfl rfl ?_
  rw [sy_iv0, sy_iv0]
  rcases Nat.lt_trichotomy (mn_up x) (mn_up y) with z | z | z
  · exact Or.inl z
  · exact absurd (mn_up_inj hx hy z) h
  · exact Or.inr z
theorem sy_iflt_t {off : Int} {x : Nat} (hc : tt_cd k pc = (5, .ifCond .lt off, 3)) (ht : mv_tgok pc off = true) (h : 2147483648 ≤ x) (hx : x < 4294967296) (hp : mv_tg pc off = pc') (kk : sy_R k n fr lo pc' ls S w pc2 ls2 S2 w2) : sy_R k n fr lo pc ls ((0, x, 0) :: S) w pc2 ls2 S2 w2 := by
  refine sy_bk hc rfl rfl ?_ kk
  show (bif mv_tgok pc off then (mv_lt (0, x, 0) (0, 0, 0)).map (fun b => (bif b then mv_tg pc off else pc + 3, S)) else none) = _
  rw [ht, sy_neg_t h hx, hp]
  rfl
theorem sy_iflt_f {off : Int} {x : Nat} (hc : tt_cd k pc = (5, .ifCond .lt off, 3)) (ht : mv_tgok pc off = true) (hx : x < 2147483648) (kk : sy_R k n fr lo (pc + 3) ls S w pc2 ls2 S2 w2) : sy_R k n fr lo pc ls ((0, x, 0) :: S) w pc2 ls2 S2 w2 := by
  refine sy_bk hc rfl rfl ?_ kk
  show (bif mv_tgok pc off then (mv_lt (0, x, 0) (0, 0, 0)).map (fun b => (bif b then mv_tg pc off else pc + 3, S)) else none) = _
  rw [ht, sy_lt_f (Nat.zero_le x) hx]
  rfl
theorem sy_ifge_t {off : Int} {x : Nat} (hc : tt_cd k pc = (5, .ifCond .ge off, 3)) (ht : mv_tgok pc off = true) (hx : x < 2147483648) (hp : mv_tg pc off = pc') (kk : sy_R k n fr lo pc' ls S w pc2 ls2 S2 w2) : sy_R k n fr lo pc ls ((0, x, 0) :: S) w pc2 ls2 S2 w2 := by
  refine sy_bk hc rfl rfl ?_ kk
  show (bif mv_tgok pc off then ((mv_lt (0, x, 0) (0, 0, 0)).map (fun b => !b)).map (fun b => (bif b then mv_tg pc off else pc + 3, S)) else none) = _
  rw [ht, sy_lt_f (Nat.zero_le x) hx, hp]
  rfl
theorem sy_ifge_f {off : Int} {x : Nat} (hc : tt_cd k pc = (5, .ifCond .ge off, 3)) (ht : mv_tgok pc off = true) (h : 2147483648 ≤ x) (hx : x < 4294967296) (kk : sy_R k n fr lo (pc + 3) ls S w pc2 ls2 S2 w2) : sy_R k n fr lo pc ls ((0, x, 0) :: S) w pc2 ls2 S2 w2 := by
  refine sy_bk hc rfl rfl ?_ kk
  show (bif mv_tgok pc off then ((mv_lt (0, x, 0) (0, 0, 0)).map (fun b => !b)).map (fun b => (bif b then mv_tg pc off else pc + 3, S)) else none) = _
  rw [ht, sy_neg_t h hx]
  rfl
theorem sy_ifeq_t {off : Int} {x : Nat} (hc : tt_cd k pc = (5, .ifCond .eq off, 3)) (ht : mv_tgok pc off = true) (h : x = 0) (hp : mv_tg pc off = pc') (kk : sy_R k n fr lo pc' ls S w pc2 ls2 S2 w2) : sy_R k n fr lo pc ls ((0, x, 0) :: S) w pc2 ls2 S2 w2 := by
  refine sy_bk hc rfl rfl ?_ kk
  show (bif mv_tgok pc off then (mv_eq (0, x, 0) (0, 0, 0)).map (fun b => (bif b then mv_tg pc off else pc + 3, S)) else none) = _
  rw [ht, sy_eq_y h, hp]
  rfl
theorem sy_ifeq_f {off : Int} {x : Nat} (hc : tt_cd k pc = (5, .ifCond .eq off, 3)) (ht : mv_tgok pc off = true) (h : x ≠ 0) (hx : x < 4294967296) (kk : sy_R k n fr lo (pc + 3) ls S w pc2 ls2 S2 w2) : sy_R k n fr lo pc ls ((0, x, 0) :: S) w pc2 ls2 S2 w2 := by
  refine sy_bk hc rfl rfl ?_ kk
  show (bif mv_tgok pc off then (mv_eq (0, x, 0) (0, 0, 0)).map (fun b => (bif b then mv_tg pc off else pc + 3, S)) else none) = _
  rw [ht, sy_eq_n h hx (by decide)]
  rfl
theorem sy_ifne_t {off : Int} {x : Nat} (hc : tt_cd k pc = (5, .ifCond .ne off, 3)) (ht : mv_tgok pc off = true) (h : x ≠ 0) (hx : x < 4294967296) (hp : mv_tg pc off = pc') (kk : sy_R k n fr lo pc' ls S w pc2 ls2 S2 w2) : sy_R k n fr lo pc ls ((0, x, 0) :: S) w pc2 ls2 S2 w2 := by
  refine sy_bk hc rfl rfl ?_ kk
  show (bif mv_tgok pc off then ((mv_eq (0, x, 0) (0, 0, 0)).map (fun b => !b)).map (fun b => (bif b then mv_tg pc off else pc + 3, S)) else none) = _
  rw [ht, sy_eq_n h hx (by decide), hp]
  rfl
theorem sy_ifne_f {off : Int} {x : Nat} (hc : tt_cd k pc = (5, .ifCond .ne off, 3)) (ht : mv_tgok pc off = true) (h : x = 0) (kk : sy_R k n fr lo (pc + 3) ls S w pc2 ls2 S2 w2) : sy_R k n fr lo pc ls ((0, x, 0) :: S) w pc2 ls2 S2 w2 := by
  refine sy_bk hc rfl rfl ?_ kk
  show (bif mv_tgok pc off then ((mv_eq (0, x, 0) (0, 0, 0)).map (fun b => !b)).map (fun b => (bif b then mv_tg pc off else pc + 3, S)) else none) = _
  rw [ht, sy_eq_y h]
  rfl
theorem sy_icmple_t {off : Int} {x y : Nat} (hc : tt_cd k pc = (5, .if_icmp .le off, 3)) (ht : mv_tgok pc off = true) (h : x ≤ y) (hy : y < 2147483648) (hp : mv_tg pc off = pc') (kk : sy_R k n fr lo pc' ls S w pc2 ls2 S2 w2) : sy_R k n fr lo pc ls ((0, y, 0) :: (0, x, 0) :: S) w pc2 ls2 S2 w2 := by
  refine sy_bk hc rfl rfl ?_ kk
  show (bif mv_tgok pc off then ((mv_lt (0, y, 0) (0, x, 0)).map (fun b => !b)).map (fun b => (bif b then mv_tg pc off else pc + 3, S)) else none) = _
  rw [ht, sy_lt_f h hy, hp]
  rfl
theorem sy_icmple_f {off : Int} {x y : Nat} (hc : tt_cd k pc = (5, .if_icmp .le off, 3)) (ht : mv_tgok pc off = true) (h : y < x) (hx : x < 2147483648) (kk : sy_R k n fr lo (pc + 3) ls S w pc2 ls2 S2 w2) : sy_R k n fr lo pc ls ((0, y, 0) :: (0, x, 0) :: S) w pc2 ls2 S2 w2 := by
  refine sy_bk hc rfl rfl ?_ kk
  show (bif mv_tgok pc off then ((mv_lt (0, y, 0) (0, x, 0)).map (fun b => !b)).map (fun b => (bif b then mv_tg pc off else pc + 3, S)) else none) = _
  rw [ht, sy_lt_t h hx]
  rfl
theorem sy_icmpgt_t {off : Int} {x y : Nat} (hc : tt_cd k pc = (5, .if_icmp .gt off, 3)) (ht : mv_tgok pc off = true) (h : y < x) (hx : x < 2147483648) (hp : mv_tg pc off = pc') (kk : sy_R k n fr lo pc' ls S w pc2 ls2 S2 w2) : sy_R k n fr lo pc ls ((0, y, 0) :: (0, x, 0) :: S) w pc2 ls2 S2 w2 := by
  refine sy_bk hc rfl rfl ?_ kk
  show (bif mv_tgok pc off then (mv_lt (0, y, 0) (0, x, 0)).map (fun b => (bif b then mv_tg pc off else pc + 3, S)) else none) = _
  rw [ht, sy_lt_t h hx, hp]
  rfl
theorem sy_icmpgt_f {off : Int} {x y : Nat} (hc : tt_cd k pc = (5, .if_icmp .gt off, 3)) (ht : mv_tgok pc off = true) (h : x ≤ y) (hy : y < 2147483648) (kk : sy_R k n fr lo (pc + 3) ls S w pc2 ls2 S2 w2) : sy_R k n fr lo pc ls ((0, y, 0) :: (0, x, 0) :: S) w pc2 ls2 S2 w2 := by
  refine sy_bk hc rfl rfl ?_ kk
  show (bif mv_tgok pc off then (mv_lt (0, y, 0) (0, x, 0)).map (fun b => (bif b then mv_tg pc off else pc + 3, S)) else none) = _
  rw [ht, sy_lt_f h hy]
  rfl
theorem sy_icmplt_t {off : Int} {x y : Nat} (hc : tt_cd k pc = (5, .if_icmp .lt off, 3)) (ht : mv_tgok pc off = true) (h : x < y) (hy : y < 2147483648) (hp : mv_tg pc off = pc') (kk : sy_R k n fr lo pc' ls S w pc2 ls2 S2 w2) : sy_R k n fr lo pc ls ((0, y, 0) :: (0, x, 0) :: S) w pc2 ls2 S2 w2 := by
  refine sy_bk hc rfl rfl ?_ kk
  show (bif mv_tgok pc off then (mv_lt (0, x, 0) (0, y, 0)).map (fun b => (bif b then mv_tg pc off else pc + 3, S)) else none) = _
  rw [ht, sy_lt_t h hy, hp]
  rfl
theorem sy_icmplt_f {off : Int} {x y : Nat} (hc : tt_cd k pc = (5, .if_icmp .lt off, 3)) (ht : mv_tgok pc off = true) (h : y ≤ x) (hx : x < 2147483648) (kk : sy_R k n fr lo (pc + 3) ls S w pc2 ls2 S2 w2) : sy_R k n fr lo pc ls ((0, y, 0) :: (0, x, 0) :: S) w pc2 ls2 S2 w2 := by
  refine sy_bk hc rfl rfl ?_ kk
  show (bif mv_tgok pc off then (mv_lt (0, x, 0) (0, y, 0)).map (fun b => (bif b then mv_tg pc off else pc + 3, S)) else none) = _
  rw [ht, sy_lt_f h hx]
  rfl
theorem sy_icmpeq_t {off : Int} {x y : Nat} (hc : tt_cd k pc = (5, .if_icmp .eq off, 3)) (ht : mv_tgok pc off = true) (h : x = y) (hp : mv_tg pc off = pc') (kk : sy_R k n fr lo pc' ls S w pc2 ls2 S2 w2) : sy_R k n fr lo pc ls ((0, y, 0) :: (0, x, 0) :: S) w pc2 ls2 S2 w2 := by
  refine sy_bk hc rfl rfl ?_ kk
  show (bif mv_tgok pc off then (mv_eq (0, x, 0) (0, y, 0)).map (fun b => (bif b then mv_tg pc off else pc + 3, S)) else none) = _
  rw [ht, sy_eq_y h, hp]
  rfl
theorem sy_icmpeq_f {off : Int} {x y : Nat} (hc : tt_cd k pc = (5, .if_icmp .eq off, 3)) (ht : mv_tgok pc off = true) (h : x ≠ y) (hx : x < 4294967296) (hy : y < 4294967296) (kk : sy_R k n fr lo (pc + 3) ls S w pc2 ls2 S2 w2) : sy_R k n fr lo pc ls ((0, y, 0) :: (0, x, 0) :: S) w pc2 ls2 S2 w2 := by
  refine sy_bk hc rfl rfl ?_ kk
  show (bif mv_tgok pc off then (mv_eq (0, x, 0) (0, y, 0)).map (fun b => (bif b then mv_tg pc off else pc + 3, S)) else none) = _
  rw [ht, sy_eq_n h hx hy]
  rfl
theorem sy_icmpne_t {off : Int} {x y : Nat} (hc : tt_cd k pc = (5, .if_icmp .ne off, 3)) (ht : mv_tgok pc off = true) (h : x ≠ y) (hx : x < 4294967296) (hy : y < 4294967296) (hp : mv_tg pc off = pc') (kk : sy_R k n fr lo pc' ls S w pc2 ls2 S2 w2) : sy_R k n fr lo pc ls ((0, y, 0) :: (0, x, 0) :: S) w pc2 ls2 S2 w2 := by
  refine sy_bk hc rfl rfl ?_ kk
  show (bif mv_tgok pc off then ((mv_eq (0, x, 0) (0, y, 0)).map (fun b => !b)).map (fun b => (bif b then mv_tg pc off else pc + 3, S)) else none) = _
  rw [ht, sy_eq_n h hx hy, hp]
  rfl
theorem sy_icmpne_f {off : Int} {x y : Nat} (hc : tt_cd k pc = (5, .if_icmp .ne off, 3)) (ht : mv_tgok pc off = true) (h : x = y) (kk : sy_R k n fr lo (pc + 3) ls S w pc2 ls2 S2 w2) : sy_R k n fr lo pc ls ((0, y, 0) :: (0, x, 0) :: S) w pc2 ls2 S2 w2 := by
  refine sy_bk hc rfl rfl ?_ kk
  show (bif mv_tgok pc off then ((mv_eq (0, x, 0) (0, y, 0)).map (fun b => !b)).map (fun b => (bif b then mv_tg pc off else pc + 3, S)) else none) = _
  rw [ht, sy_eq_y h]
  rfl
theorem sy_retz {L f x : Nat} (hc : tt_cd k pc = (9, .ireturn, 1)) (hm : tt_mr k = 4) (hx : x < 2) : sy_run (f + 1) k pc L [(0, x, 0)] n w fr lo = some ([(0, x, 0)], n, w, 0, 0, fr, lo) := by
  show mv_stepf tt_cd tt_kc tt_fl tt_nl tt_al tt_sl tt_ml tt_mL tt_mr tt_ini tt_mci tt_fty tt_ffin tt_tl tt_cn tt_dpk tt_stt tt_none (mv_run tt_cd tt_kc tt_fl tt_nl tt_al tt_sl tt_ml tt_mL tt_mr tt_ini tt_mci tt_fty tt_ffin tt_tl tt_cn tt_dpk tt_stt tt_none f) k pc L [(0, x, 0)] n w 0 0 fr lo = _
  unfold mv_stepf
  rw [hc]
  show (match mv_rt (tt_mr k) .ireturn [(0, x, 0)] with
      | some ret => bif Nat.beq 1 1 then some (ret, n, w, 0, 0, fr, lo) else none
      | none => none) = _
  rw [hm]
  show (match (bif (Nat.beq 4 1 && mv_isI (0, x, 0)) || (Nat.beq 4 4 && (Nat.beq 0 0 && Nat.blt x 2)) then some [(0, x, 0)] else none) with
      | some ret => bif Nat.beq 1 1 then some (ret, n, w, 0, 0, fr, lo) else none
      | none => none) = _
  rw [show Nat.blt x 2 = true by simpa using hx]
  rfl
end SY
/-- packed numbers, written twice -/
theorem mv_wr_wr (w p i a b : Nat) : mv_wr w (mv_wr w p i a) i b = mv_wr w p i b := by
  apply Nat.eq_of_testBit_eq
  intro t
  rw [mv_wr_bit, mv_wr_bit, mv_wr_bit]
  by_cases h : w * i ≤ t ∧ t < w * i + w
  · rw [if_pos h, if_pos h]
  · rw [if_neg h, if_neg h, if_neg h]
theorem mv_wr_rd {w p i v : Nat} (h : mv_rd w p i = v % 2 ^ w) : mv_wr w p i v = p := by
  show p ^^^ ((mv_rd w p i ^^^ (v % 2 ^ w)) <<< (w * i)) = p
  rw [h, Nat.xor_self, Nat.zero_shiftLeft, Nat.xor_zero]
