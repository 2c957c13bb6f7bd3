/-! RUNS THAT MAKE CELLS -/
section SM
variable {cd : Nat → Nat → Nat × Instr × Nat} {kc : Nat → Nat → Nat × Nat} {fl : Nat → Nat → Nat × Nat × Nat} {nl : Nat → Nat → Nat × Nat} {al sl : Nat → Nat → Nat} {ml : Nat → Nat → Nat × Nat × Nat} {mL mr : Nat → Nat} {ini : Nat → Bool} {mci : Nat → Nat} {fty : Nat → Nat → FieldType} {ffin : Nat → Nat → Bool} {tl : List FieldType} {cn : List String} {dpk : Nat → Nat} {stt : Nat → Nat × Nat × Nat} {prim : Nat → List mv_V → Nat → mv_T 10 → Option mv_R}
/-- a run counts its cells from anywhere -/
theorem mv_run_shift : ∀ (f k pc L : Nat) (S : List mv_V) (n : Nat) (w : mv_T 10) (c s fr lo a b : Nat) (res : mv_R), mv_run cd kc fl nl al sl ml mL mr ini mci fty ffin tl cn dpk stt prim f k pc L S n w c s fr lo = some res → mv_run cd kc fl nl al sl ml mL mr ini mci fty ffin tl cn dpk stt prim f k pc L S n w (c + a) (s + b) fr lo = some (res.1, res.2.1, res.2.2.1, res.2.2.2.1 + a, res.2.2.2.2.1 + b, res.2.2.2.2.2.1, res.2.2.2.2.2.2) := by
  intro f
  induction f with
  | zero => intro k pc L S n w c s fr lo a b res h; cases h
  | succ f ih =>
    intro k pc L S n w c s fr lo a b res h
    have h' : mv_stepf cd kc fl nl al sl ml mL mr ini mci fty ffin tl cn dpk stt prim (mv_run cd kc fl nl al sl ml mL mr ini mci fty ffin tl cn dpk stt prim f) k pc L S n w c s fr lo = some res := h
    clear h
    show mv_stepf cd kc fl nl al sl ml mL mr ini mci fty ffin tl cn dpk stt prim (mv_run cd kc fl nl al sl ml mL mr ini mci fty ffin tl cn dpk stt prim f) k pc L S n w (c + a) (s + b) fr lo = _
    unfold mv_stepf at h' ⊢
    rcases hcd : cd k pc with ⟨g, i, len⟩
    rw [hcd] at h'
    dsimp only at h' ⊢
    obtain ⟨h0, h⟩ := mv_bif2 h'
    clear h'
    rw [h0]
    simp only [cond_true]
    cases hg9 : Nat.beq g 9 with
    | true =>
      rw [hg9] at h
      simp only [cond_true] at h ⊢
      split at h
      · rename_i ret hret
        obtain ⟨h1, h2⟩ := mv_bif h
        subst h2
        rw [h1]
        rfl
      · cases h
    | false =>
      rw [hg9] at h
      simp only [cond_false] at h ⊢
      cases hg10 : Nat.beq g 10 with
      | true =>
        rw [hg10] at h
        simp only [cond_true] at h ⊢
        cases hcal : mv_cal (ml k) i S with
        | none => rw [hcal] at h; cases h
        | some q4 =>
          obtain ⟨kd, q, as, S0⟩ := q4
          rw [hcal] at h
          dsimp only at h ⊢
          obtain ⟨h1, h⟩ := mv_bif2 h
          rw [h1]
          simp only [cond_true]
          cases h7 : Nat.beq kd 7 with
          | true =>
            rw [h7] at h
            simp only [cond_true] at h ⊢
            split at h
            · obtain ⟨h2, h⟩ := mv_bif2 h
              rw [h2]
              exact ih _ _ _ _ _ _ _ _ _ _ _ _ _ h
            · cases h
          | false =>
            rw [h7] at h
            simp only [cond_false] at h ⊢
            cases h8 : Nat.beq kd 8 with
            | true =>
              rw [h8] at h
              simp only [cond_true] at h ⊢
              cases hw : mv_c8 tl stt q as S0 w with
              | none => rw [hw] at h; cases h
              | some sw =>
                obtain ⟨S', w'⟩ := sw
                rw [hw] at h
                exact ih _ _ _ _ _ _ _ _ _ _ _ _ _ h
            | false =>
              rw [h8] at h
              simp only [cond_false] at h ⊢
              obtain ⟨h3, h⟩ := mv_bif2 h
              rw [h3]
              simp only [cond_true]
              cases hp : prim q as n w with
              | some r =>
                rw [hp] at h
                try dsimp only at h ⊢
                rw [show Nat.add (c + a) r.2.2.2.1 = Nat.add c r.2.2.2.1 + a from Nat.add_right_comm c a _, show Nat.add (s + b) r.2.2.2.2.1 = Nat.add s r.2.2.2.2.1 + b from Nat.add_right_comm s b _]
                exact ih _ _ _ _ _ _ _ _ _ _ _ _ _ h
              | none =>
                rw [hp] at h
                dsimp only at h ⊢
                cases hbb : (mv_oks as && Nat.ble (mv_cs as) (mL q)) with
                | false => rw [hbb] at h; cases h
                | true =>
                  rw [hbb] at h
                  simp only [cond_true] at h ⊢
                  cases hr : mv_run cd kc fl nl al sl ml mL mr ini mci fty ffin tl cn dpk stt prim f q 0 (mv_l0 0 as 0) [] n w 0 0 0 0 with
                  | none => rw [hr] at h; cases h
                  | some r =>
                    rw [hr] at h
                    try dsimp only at h ⊢
                    rw [show Nat.add (c + a) r.2.2.2.1 = Nat.add c r.2.2.2.1 + a from Nat.add_right_comm c a _, show Nat.add (s + b) r.2.2.2.2.1 = Nat.add s r.2.2.2.2.1 + b from Nat.add_right_comm s b _]
                    exact ih _ _ _ _ _ _ _ _ _ _ _ _ _ h
      | false =>
        rw [hg10] at h
        simp only [cond_false] at h ⊢
        cases hg11 : Nat.beq g 11 with
        | true =>
          rw [hg11] at h
          simp only [cond_true] at h ⊢
          cases ht : mv_tld tl stt i S with
          | none => rw [ht] at h; cases h
          | some S' =>
            rw [ht] at h
            dsimp only at h ⊢
            obtain ⟨h1, h⟩ := mv_bif2 h
            rw [h1]
            exact ih _ _ _ _ _ _ _ _ _ _ _ _ _ h
        | false =>
          rw [hg11] at h
          simp only [cond_false] at h ⊢
          cases hg12 : Nat.beq g 12 with
          | true =>
            rw [hg12] at h
            simp only [cond_true] at h ⊢
            cases ht : mv_mu (nl k) i S n w with
            | none => rw [ht] at h; cases h
            | some q4 =>
              obtain ⟨S', n', dc, ds⟩ := q4
              rw [ht] at h
              dsimp only at h ⊢
              obtain ⟨h1, h⟩ := mv_bif2 h
              rw [h1]
              try dsimp only at h ⊢
              rw [show Nat.add (c + a) dc = Nat.add c dc + a from Nat.add_right_comm c a _, show Nat.add (s + b) ds = Nat.add s ds + b from Nat.add_right_comm s b _]
              exact ih _ _ _ _ _ _ _ _ _ _ _ _ _ h
          | false =>
            rw [hg12] at h
            simp only [cond_false] at h ⊢
            cases ht : mv_one g (mL k) (kc k) (fl k) (nl k) (al k) (sl k) (ini k) fty ffin tl cn dpk i len pc L S n w with
            | none => rw [ht] at h; cases h
            | some q7 =>
              obtain ⟨pc', L', S', n', w', dc, ds⟩ := q7
              rw [ht] at h
              try dsimp only at h ⊢
              rw [show Nat.add (c + a) dc = Nat.add c dc + a from Nat.add_right_comm c a _, show Nat.add (s + b) ds = Nat.add s ds + b from Nat.add_right_comm s b _]
              exact ih _ _ _ _ _ _ _ _ _ _ _ _ _ h
end SM
section SA
variable {k n n1 fr lo pc pc' : Nat} {ls ls' S S' : List mv_V} {w w' : mv_T 10} {Q : List mv_V → Nat → mv_T 10 → Nat → Nat → Prop}
/-- a run to its end, which may make cells -/
def sy_A (k n fr lo pc : Nat) (ls S : List mv_V) (w : mv_T 10) (Q : List mv_V → Nat → mv_T 10 → Nat → Nat → Prop) : Prop := ∀ L, sy_L L ls → ∃ (f : Nat) (ret : List mv_V) (n' : Nat) (w' : mv_T 10) (dc ds : Nat), Q ret n' w' dc ds ∧ sy_run f k pc L S n w fr lo = some (ret, n', w', dc, ds, fr, lo)
/-- a contract -/
def sy_B (q n F Lo : Nat) (as : List mv_V) (w : mv_T 10) (ret : List mv_V) (n' : Nat) (w' : mv_T 10) (dc ds : Nat) : Prop := ∃ f0, sy_run f0 q 0 (mv_l0 0 as 0) [] n w F Lo = some (ret, n', w', dc, ds, F, Lo)
theorem sy_As (h : sy_R k n fr lo pc ls S w pc' ls' S' w') (g : sy_A k n fr lo pc' ls' S' w' Q) : sy_A k n fr lo pc ls S w Q := by
  intro L hL
  obtain ⟨c, L', h1, h2⟩ := h L hL
  obtain ⟨f, ret, n', w2, dc, ds, q, r⟩ := g L' h1
  exact ⟨f + c, ret, n', w2, dc, ds, q, h2 f _ r⟩
theorem sy_Aof {as us : List mv_V} (ho : mv_oks as = true) (hl : as.all (fun v => !(mv_isL v)) = true) (hu : us.all (fun v => Nat.beq v.1 255) = true) (h : sy_A k n fr lo 0 (as ++ us) [] w Q) : ∃ ret n' w' dc ds, Q ret n' w' dc ds ∧ sy_B k n fr lo as w ret n' w' dc ds := by
  obtain ⟨f, ret, n', w2, dc, ds, q, r⟩ := h _ (sy_l0L ho hl hu)
  exact ⟨ret, n', w2, dc, ds, q, f, r⟩
theorem sy_CB {as ret : List mv_V} (h : sy_C k n fr lo as w ret w') : sy_B k n fr lo as w ret n w' 0 0 := h
theorem sy_Ai {x : mv_V} (hc : tt_cd k pc = (9, .ireturn, 1)) (hm : tt_mr k = 1) (hx : mv_isI x = true) (q : Q [x] n w 0 0) : sy_A k n fr lo pc ls [x] w Q := fun _ _ => ⟨1, _, _, _, _, _, q, sy_reti hc hm hx⟩
theorem sy_Av (hc : tt_cd k pc = (9, .return_, 1)) (hm : tt_mr k = 0) (q : Q [] n w 0 0) : sy_A k n fr lo pc ls [] w Q := fun _ _ => ⟨1, _, _, _, _, _, q, sy_ret (f := 0) hc hm⟩
theorem sy_Aa {x : mv_V} (hc : tt_cd k pc = (9, .areturn, 1)) (hm : tt_mr k = 3) (hx : mv_isA x = true) (q : Q [x] n w 0 0) : sy_A k n fr lo pc ls [x] w Q := fun L hL => by
  obtain ⟨f, h⟩ := sy_Ea (n := n) (fr := fr) (lo := lo) (ls := ls) (w := w) hc hm hx L hL
  exact ⟨f, _, _, _, _, _, q, h⟩
/-- a new cell -/
theorem sy_Anew {i : Instr} {len d : Nat} {x : mv_C} (hc : tt_cd k pc = (7, i, len)) (hlen : Nat.blt 0 len = true) (h : mv_ak (tt_nl k) tt_dpk (tt_al k) (tt_sl k) i S n = some (len, S', some x, d)) (g : sy_A k (n + 1) fr lo (pc + len) ls S' (mv_set 10 w n x) (fun ret n' w' dc ds => Q ret n' w' (dc + 1) (ds + d))) : sy_A k n fr lo pc ls S w Q := by
  intro L hL
  obtain ⟨f, ret, n', w2, dc, ds, q, r⟩ := g L hL
  refine ⟨f + 1, ret, n', w2, dc + 1, ds + d, q, ?_⟩
  show mv_stepf tt_cd tt_kc tt_fl tt_nl tt_al tt_sl tt_ml tt_mL tt_mr tt_ini tt_mci tt_fty tt_ffin tt_tl tt_cn tt_dpk tt_stt tt_none (mv_run tt_cd tt_kc tt_fl tt_nl tt_al tt_sl tt_ml tt_mL tt_mr tt_ini tt_mci tt_fty tt_ffin tt_tl tt_cn tt_dpk tt_stt tt_none f) k pc L S n w 0 0 fr lo = _
  unfold mv_stepf
  rw [hc]
  show (bif Nat.blt 0 len then (match mv_one 7 (tt_mL k) (tt_kc k) (tt_fl k) (tt_nl k) (tt_al k) (tt_sl k) (tt_ini k) tt_fty tt_ffin tt_tl tt_cn tt_dpk i len pc L S n w with
      | some (pc', L', S', n', w', dc, ds) => mv_run tt_cd tt_kc tt_fl tt_nl tt_al tt_sl tt_ml tt_mL tt_mr tt_ini tt_mci tt_fty tt_ffin tt_tl tt_cn tt_dpk tt_stt tt_none f k pc' L' S' n' w' (Nat.add 0 dc) (Nat.add 0 ds) fr lo
      | none => none) else none) = _
  have e : mv_one 7 (tt_mL k) (tt_kc k) (tt_fl k) (tt_nl k) (tt_al k) (tt_sl k) (tt_ini k) tt_fty tt_ffin tt_tl tt_cn tt_dpk i len pc L S n w = some (Nat.add pc len, L, S', n + 1, mv_set 10 w n x, 1, d) := by
    show (match mv_ak (tt_nl k) tt_dpk (tt_al k) (tt_sl k) i S n with
    | some (q, S', x, d) => bif Nat.beq q len then some (Nat.add pc len, L, S', mv_n1 n x, mv_w1 n w x, mv_k1 x, d) else none
    | none => none) = _
    rw [h]
    dsimp only
    rw [Nat.beq_refl]
    rfl
  rw [hlen, e]
  have r2 := mv_run_shift f k (pc + len) L S' (n + 1) (mv_set 10 w n x) 0 0 fr lo 1 d _ r
  exact r2
/-- a call that may make cells -/
theorem sy_Acall {i : Instr} {kd q F Lo dc ds : Nat} {as S0 ret : List mv_V} (hc : tt_cd k pc = (10, i, 3)) (hcal : mv_cal (tt_ml k) i S = some (kd, q, as, S0)) (h7 : Nat.beq kd 7 = false) (h8 : Nat.beq kd 8 = false) (hrcv : mv_rcv kd (tt_mci q) as w = true) (hcs : Nat.ble (mv_cs S0) 8 = true) (hok : (mv_oks as && Nat.ble (mv_cs as) (tt_mL q)) = true) (hrun : sy_B q n F Lo as w ret n1 w' dc ds) (hfr : F + 1 ≤ fr) (hlo : 8 + (tt_mL q + 11) + Lo ≤ lo) (g : sy_A k n1 fr lo (pc + 3) ls (ret ++ S0) w' (fun ret n' w' dc' ds' => Q ret n' w' (dc' + dc) (ds' + ds))) : sy_A k n fr lo pc ls S w Q := by
  intro L hL
  obtain ⟨f0, hrun0⟩ := hrun
  obtain ⟨fr0, lo0, hF, hLo, hrun⟩ := mv_run_less _ _ _ _ _ _ _ _ _ _ _ 0 0 _ hrun0 (Nat.zero_le _) (Nat.zero_le _)
  dsimp only at hF hLo hrun
  obtain ⟨f, r2, n', w2, dc', ds', hq, r⟩ := g L hL
  refine ⟨f + f0 + 1, r2, n', w2, dc' + dc, ds' + ds, hq, ?_⟩
  have h5 := sy_more r f0
  have h6 := sy_more hrun f
  rw [Nat.add_comm f0] at h6
  show mv_stepf tt_cd tt_kc tt_fl tt_nl tt_al tt_sl tt_ml tt_mL tt_mr tt_ini tt_mci tt_fty tt_ffin tt_tl tt_cn tt_dpk tt_stt tt_none (mv_run tt_cd tt_kc tt_fl tt_nl tt_al tt_sl tt_ml tt_mL tt_mr tt_ini tt_mci tt_fty tt_ffin tt_tl tt_cn tt_dpk tt_stt tt_none (f + f0)) k pc L S n w 0 0 fr lo = _
  unfold mv_stepf
  rw [hc]
  show (match mv_cal (tt_ml k) i S with
      | some (kd, q, as, S0) => bif Nat.beq 3 3 then
          (bif Nat.beq kd 7 then (match as, S0 with
            | [x], [] => bif Nat.beq x.1 2 then mv_run tt_cd tt_kc tt_fl tt_nl tt_al tt_sl tt_ml tt_mL tt_mr tt_ini tt_mci tt_fty tt_ffin tt_tl tt_cn tt_dpk tt_stt tt_none (f + f0) k (Nat.add pc 3) L [] n w 0 0 (mv_mx fr 1) (mv_mx lo 12) else none
            | _, _ => none)
          else bif Nat.beq kd 8 then (match mv_c8 tt_tl tt_stt q as S0 w with
            | some (S', w') => mv_run tt_cd tt_kc tt_fl tt_nl tt_al tt_sl tt_ml tt_mL tt_mr tt_ini tt_mci tt_fty tt_ffin tt_tl tt_cn tt_dpk tt_stt tt_none (f + f0) k (Nat.add pc 3) L S' n w' 0 0 (mv_mx fr 1) (mv_mx lo (mv_cs S0 + 18))
            | none => none)
          else bif mv_rcv kd (tt_mci q) as w && Nat.ble (mv_cs S0) 8 then (match (match tt_none q as n w with
              | some r => some r
              | none => bif mv_oks as && Nat.ble (mv_cs as) (tt_mL q) then mv_run tt_cd tt_kc tt_fl tt_nl tt_al tt_sl tt_ml tt_mL tt_mr tt_ini tt_mci tt_fty tt_ffin tt_tl tt_cn tt_dpk tt_stt tt_none (f + f0) q 0 (mv_l0 0 as 0) [] n w 0 0 0 0 else none) with
            | some r => mv_run tt_cd tt_kc tt_fl tt_nl tt_al tt_sl tt_ml tt_mL tt_mr tt_ini tt_mci tt_fty tt_ffin tt_tl tt_cn tt_dpk tt_stt tt_none (f + f0) k (Nat.add pc 3) L (r.1 ++ S0) r.2.1 r.2.2.1 (Nat.add 0 r.2.2.2.1) (Nat.add 0 r.2.2.2.2.1) (mv_mx fr (r.2.2.2.2.2.1 + 1)) (mv_mx lo (8 + (tt_mL q + 11) + r.2.2.2.2.2.2))
            | none => none) else none) else none
      | none => none) = _
  rw [hcal]
  dsimp only
  rw [h7, h8, hrcv, hcs, hok, show mv_run tt_cd tt_kc tt_fl tt_nl tt_al tt_sl tt_ml tt_mL tt_mr tt_ini tt_mci tt_fty tt_ffin tt_tl tt_cn tt_dpk tt_stt tt_none (f + f0) q 0 (mv_l0 0 as 0) [] n w 0 0 0 0 = some (ret, n1, w', dc, ds, fr0, lo0) from h6]
  show mv_run tt_cd tt_kc tt_fl tt_nl tt_al tt_sl tt_ml tt_mL tt_mr tt_ini tt_mci tt_fty tt_ffin tt_tl tt_cn tt_dpk tt_stt tt_none (f + f0) k (pc + 3) L (ret ++ S0) n1 w' (0 + dc) (0 + ds) (mv_mx fr (fr0 + 1)) (mv_mx lo (8 + (tt_mL q + 11) + lo0)) = _
  rw [sy_mx (by omega), sy_mx (by omega)]
  have r3 := mv_run_shift _ _ _ _ _ _ _ _ _ _ _ dc ds _ h5
  exact r3
/-- Object's own constructor -/
theorem sy_objI {j q np p b : Nat} {pc2 : Nat} {ls2 S2 : List mv_V} {w2 : mv_T 10} (hc : tt_cd k pc = (10, .invokespecial j, 3)) (hm : tt_ml k j = (7, q, np)) (hnp : np = 0) (hfr : 1 ≤ fr) (hlo : 12 ≤ lo) (kk : sy_R k n fr lo (pc + 3) ls [] w pc2 ls2 S2 w2) : sy_R k n fr lo pc ls [(2, p, b)] w pc2 ls2 S2 w2 := by
  subst hnp
  intro L hL
  obtain ⟨c, L2, h3, h4⟩ := kk L hL
  refine ⟨c + 1, L2, h3, fun f res hr => ?_⟩
  have h5 := h4 f res hr
  show mv_stepf tt_cd tt_kc tt_fl tt_nl tt_al tt_sl tt_ml tt_mL tt_mr tt_ini tt_mci tt_fty tt_ffin tt_tl tt_cn tt_dpk tt_stt tt_none (mv_run tt_cd tt_kc tt_fl tt_nl tt_al tt_sl tt_ml tt_mL tt_mr tt_ini tt_mci tt_fty tt_ffin tt_tl tt_cn tt_dpk tt_stt tt_none (f + c)) k pc L [(2, p, b)] n w 0 0 fr lo = some res
  unfold mv_stepf
  rw [hc]
  have e : mv_cal (tt_ml k) (.invokespecial j) [(2, p, b)] = some (7, q, [(2, p, b)], []) := by
    show (bif Nat.beq (tt_ml k j).1 5 || (Nat.beq (tt_ml k j).1 6 || Nat.beq (tt_ml k j).1 7) then mv_cl (tt_ml k j) ((tt_ml k j).2.2 + 1) [(2, p, b)] else none) = _
    rw [hm]
    rfl
  show (match mv_cal (tt_ml k) (.invokespecial j) [(2, p, b)] with
      | some (kd, q, as, S0) => bif Nat.beq 3 3 then
          (bif Nat.beq kd 7 then (match as, S0 with
            | [x], [] => bif Nat.beq x.1 2 then mv_run tt_cd tt_kc tt_fl tt_nl tt_al tt_sl tt_ml tt_mL tt_mr tt_ini tt_mci tt_fty tt_ffin tt_tl tt_cn tt_dpk tt_stt tt_none (f + c) k (Nat.add pc 3) L [] n w 0 0 (mv_mx fr 1) (mv_mx lo 12) else none
            | _, _ => none)
          else bif Nat.beq kd 8 then (match mv_c8 tt_tl tt_stt q as S0 w with
            | some (S', w') => mv_run tt_cd tt_kc tt_fl tt_nl tt_al tt_sl tt_ml tt_mL tt_mr tt_ini tt_mci tt_fty tt_ffin tt_tl tt_cn tt_dpk tt_stt tt_none (f + c) k (Nat.add pc 3) L S' n w' 0 0 (mv_mx fr 1) (mv_mx lo (mv_cs S0 + 18))
            | none => none)
          else bif mv_rcv kd (tt_mci q) as w && Nat.ble (mv_cs S0) 8 then (match (match tt_none q as n w with
              | some r => some r
              | none => bif mv_oks as && Nat.ble (mv_cs as) (tt_mL q) then mv_run tt_cd tt_kc tt_fl tt_nl tt_al tt_sl tt_ml tt_mL tt_mr tt_ini tt_mci tt_fty tt_ffin tt_tl tt_cn tt_dpk tt_stt tt_none (f + c) q 0 (mv_l0 0 as 0) [] n w 0 0 0 0 else none) with
            | some r => mv_run tt_cd tt_kc tt_fl tt_nl tt_al tt_sl tt_ml tt_mL tt_mr tt_ini tt_mci tt_fty tt_ffin tt_tl tt_cn tt_dpk tt_stt tt_none (f + c) k (Nat.add pc 3) L (r.1 ++ S0) r.2.1 r.2.2.1 (Nat.add 0 r.2.2.2.1) (Nat.add 0 r.2.2.2.2.1) (mv_mx fr (r.2.2.2.2.2.1 + 1)) (mv_mx lo (8 + (tt_mL q + 11) + r.2.2.2.2.2.2))
            | none => none) else none) else none
      | none => none) = some res
  rw [e]
  show mv_run tt_cd tt_kc tt_fl tt_nl tt_al tt_sl tt_ml tt_mL tt_mr tt_ini tt_mci tt_fty tt_ffin tt_tl tt_cn tt_dpk tt_stt tt_none (f + c) k (pc + 3) L [] n w 0 0 (mv_mx fr 1) (mv_mx lo 12) = some res
  rw [sy_mx (by omega), sy_mx (by omega)]
  exact h5
/-- any field, also a final one in its constructor -/
theorem sx_pf {j kd ci fi nf pk a b : Nat} {v : mv_V} {pc2 : Nat} {ls2 S2 : List mv_V} {w2 : mv_T 10} (hc : tt_cd k pc = (6, .putfield j, 3)) (hf : tt_fl k j = (kd, ci, fi)) (hkd : Nat.ble 1 kd = true) (hfit : mv_fit (tt_fty ci fi) v = true) (hfin : (!(tt_ffin ci fi) || (tt_ini k && Nat.beq kd 1)) = true) (hw : mv_get 10 w a = (0, ci, nf, pk)) (hfi : Nat.blt fi nf = true) (hok : mv_ok v = true) (hw' : mv_set 10 w a (0, ci, nf, mv_wr 136 pk fi (mv_enc v)) = w') (kk : sy_R k n fr lo (pc + 3) ls S w' pc2 ls2 S2 w2) : sy_R k n fr lo pc ls (v :: (2, a, b) :: S) w pc2 ls2 S2 w2 := by
  subst hw'
  refine sy_wk hc rfl ?_ kk
  show (mv_pf (tt_fl k j) (tt_fty (tt_fl k j).2.1 (tt_fl k j).2.2) (tt_ffin (tt_fl k j).2.1 (tt_fl k j).2.2) (tt_ini k) (mv_get 10 w a) v).map (fun y => (3, S, mv_set 10 w a y)) = _
  rw [hf, hw]
  dsimp only
  unfold mv_pf
  dsimp only
  rw [Nat.beq_refl ci, hfi, hkd, hok, hfit, hfin]
  rfl
/-- one more cell is known -/
theorem wh_push {N : Nat} {pl : Nat → Nat} {w0 : mv_T 10} {cs : List mv_C} {x : mv_C} (h : wh N pl w0 w cs) (hi : cs.length < N) : wh N pl w0 (mv_set 10 w (pl cs.length) x) (cs ++ [x]) := by
  obtain ⟨h1, h2, h3, h4, h5⟩ := h
  refine ⟨fun j c hc => ?_, h2, h3, by rw [List.length_append]; exact hi, fun j hj hn => ?_⟩
  · by_cases e : j = cs.length
    · subst e
      rw [List.getElem?_append_right (Nat.le_refl _), Nat.sub_self] at hc
      cases hc
      exact mv_gs (h3 _ hi)
    · have hl : j < cs.length := by
        rcases Nat.lt_or_ge j cs.length with z | z
        · exact z
        · have := (List.getElem?_eq_some_iff.mp hc).1
          rw [List.length_append] at this
          simp at this
          omega
      rw [List.getElem?_append_left hl] at hc
      rw [mv_gn (h3 _ hi) (h3 j (by omega)) (h2 j _ (by omega) hi e)]
      exact h1 j c hc
  · rw [mv_gn (h3 _ hi) hj (Ne.symm (hn _ hi))]
    exact h5 j hj hn
end SA
