/-! SYMBOLIC RUNS, II: more steps do no harm; calls; contracts -/
section SM
variable {cd : Nat → Nat → Nat × Instr × Nat} {kc : Nat → Nat → Nat × Nat} {fl : Nat → Nat → Nat × Nat × Nat} {nl : Nat → Nat → Nat × Nat} {al sl : Nat → Nat → Nat} {ml : Nat → Nat → Nat × Nat × Nat} {mL mr : Nat → Nat} {ini : Nat → Bool} {mci : Nat → Nat} {fty : Nat → Nat → FieldType} {ffin : Nat → Nat → Bool} {tl : List FieldType} {cn : List String} {dpk : Nat → Nat} {stt : Nat → Nat × Nat × Nat} {prim : Nat → List mv_V → Nat → mv_T 10 → Option mv_R}
theorem mv_stepf_mono {ih ih' : Nat → Nat → Nat → List mv_V → Nat → mv_T 10 → Nat → Nat → Nat → Nat → Option mv_R} (hi : ∀ (k pc L : Nat) (S : List mv_V) (n : Nat) (w : mv_T 10) (c s fr lo : Nat) (res : mv_R), ih k pc L S n w c s fr lo = some res → ih' k pc L S n w c s fr lo = some res) {k pc L : Nat} {S : List mv_V} {n : Nat} {w : mv_T 10} {c s fr lo : Nat} {res : mv_R} (h : mv_stepf cd kc fl nl al sl ml mL mr ini mci fty ffin tl cn dpk stt prim ih k pc L S n w c s fr lo = some res) : mv_stepf cd kc fl nl al sl ml mL mr ini mci fty ffin tl cn dpk stt prim ih' k pc L S n w c s fr lo = some res := by
  unfold mv_stepf at h ⊢
  rcases hcd : cd k pc with ⟨g, i, len⟩
  rw [hcd] at h
  dsimp only at h ⊢
  obtain ⟨h0, h⟩ := mv_bif2 h
  rw [h0]
  simp only [cond_true]
  cases hg9 : Nat.beq g 9 with
  | true => rw [hg9] at h; exact h
  | false =>
    rw [hg9] at h
    simp only [cond_false] at h ⊢
    cases hg10 : Nat.beq g 10 with
    | true =>
      rw [hg10] at h
      simp only [cond_true] at h ⊢
      cases hcal : mv_cal (ml k) i S with
      | none => rw [hcal] at h; cases h
      | some q4 =>
        obtain ⟨kd, q, as, S0⟩ := q4
        rw [hcal] at h
        dsimp only at h ⊢
        obtain ⟨h1, h⟩ := mv_bif2 h
        rw [h1]
        simp only [cond_true]
        cases h7 : Nat.beq kd 7 with
        | true =>
          rw [h7] at h
          simp only [cond_true] at h ⊢
          split at h
          · obtain ⟨h2, h⟩ := mv_bif2 h
            rw [h2]
            exact hi _ _ _ _ _ _ _ _ _ _ _ h
          · cases h
        | false =>
          rw [h7] at h
          simp only [cond_false] at h ⊢
          cases h8 : Nat.beq kd 8 with
          | true =>
            rw [h8] at h
            simp only [cond_true] at h ⊢
            cases hw : mv_c8 tl stt q as S0 w with
            | none => rw [hw] at h; cases h
            | some sw =>
              obtain ⟨S', w'⟩ := sw
              rw [hw] at h
              exact hi _ _ _ _ _ _ _ _ _ _ _ h
          | false =>
            rw [h8] at h
            simp only [cond_false] at h ⊢
            obtain ⟨h3, h⟩ := mv_bif2 h
            rw [h3]
            simp only [cond_true]
            cases hp : prim q as n w with
            | some r =>
              rw [hp] at h
              exact hi _ _ _ _ _ _ _ _ _ _ _ h
            | none =>
              rw [hp] at h
              dsimp only at h ⊢
              cases hb : (mv_oks as && Nat.ble (mv_cs as) (mL q)) with
              | false => rw [hb] at h; cases h
              | true =>
                rw [hb] at h
                simp only [cond_true] at h ⊢
                cases hr : ih q 0 (mv_l0 0 as 0) [] n w 0 0 0 0 with
                | none => rw [hr] at h; cases h
                | some r =>
                  rw [hr] at h
                  rw [hi _ _ _ _ _ _ _ _ _ _ _ hr]
                  exact hi _ _ _ _ _ _ _ _ _ _ _ h
    | false =>
      rw [hg10] at h
      simp only [cond_false] at h ⊢
      cases hg11 : Nat.beq g 11 with
      | true =>
        rw [hg11] at h
        simp only [cond_true] at h ⊢
        cases ht : mv_tld tl stt i S with
        | none => rw [ht] at h; cases h
        | some S' =>
          rw [ht] at h
          dsimp only at h ⊢
          obtain ⟨h1, h⟩ := mv_bif2 h
          rw [h1]
          exact hi _ _ _ _ _ _ _ _ _ _ _ h
      | false =>
        rw [hg11] at h
        simp only [cond_false] at h ⊢
        cases hg12 : Nat.beq g 12 with
        | true =>
          rw [hg12] at h
          simp only [cond_true] at h ⊢
          cases ht : mv_mu (nl k) i S n w with
          | none => rw [ht] at h; cases h
          | some q4 =>
            obtain ⟨S', n', dc, ds⟩ := q4
            rw [ht] at h
            dsimp only at h ⊢
            obtain ⟨h1, h⟩ := mv_bif2 h
            rw [h1]
            exact hi _ _ _ _ _ _ _ _ _ _ _ h
        | false =>
          rw [hg12] at h
          simp only [cond_false] at h ⊢
          cases ht : mv_one g (mL k) (kc k) (fl k) (nl k) (al k) (sl k) (ini k) fty ffin tl cn dpk i len pc L S n w with
          | none => rw [ht] at h; cases h
          | some q7 =>
            obtain ⟨pc', L', S', n', w', dc, ds⟩ := q7
            rw [ht] at h
            exact hi _ _ _ _ _ _ _ _ _ _ _ h
theorem mv_run_succ : ∀ (f k pc L : Nat) (S : List mv_V) (n : Nat) (w : mv_T 10) (c s fr lo : Nat) (res : mv_R), mv_run cd kc fl nl al sl ml mL mr ini mci fty ffin tl cn dpk stt prim f k pc L S n w c s fr lo = some res → mv_run cd kc fl nl al sl ml mL mr ini mci fty ffin tl cn dpk stt prim (f + 1) k pc L S n w c s fr lo = some res
  | 0, _, _, _, _, _, _, _, _, _, _, _, h => by cases h
  | f + 1, k, pc, L, S, n, w, c, s, fr, lo, res, h => mv_stepf_mono (fun k pc L S n w c s fr lo res h => mv_run_succ f k pc L S n w c s fr lo res h) (show mv_stepf cd kc fl nl al sl ml mL mr ini mci fty ffin tl cn dpk stt prim (mv_run cd kc fl nl al sl ml mL mr ini mci fty ffin tl cn dpk stt prim f) k pc L S n w c s fr lo = some res from h)
theorem mv_run_more {f k pc L : Nat} {S : List mv_V} {n : Nat} {w : mv_T 10} {c s fr lo : Nat} {res : mv_R} (h : mv_run cd kc fl nl al sl ml mL mr ini mci fty ffin tl cn dpk stt prim f k pc L S n w c s fr lo = some res) : ∀ d, mv_run cd kc fl nl al sl ml mL mr ini mci fty ffin tl cn dpk stt prim (f + d) k pc L S n w c s fr lo = some res
  | 0 => h
  | d + 1 => mv_run_succ _ _ _ _ _ _ _ _ _ _ _ _ (mv_run_more h d)
end SM
section SY
variable {k n fr lo pc pc' pc2 : Nat} {ls ls' ls2 S S' S2 : List mv_V} {w w' w2 : mv_T 10}
theorem sy_more {f L : Nat} {res : mv_R} (h : sy_run f k pc L S n w fr lo = some res) (d : Nat) : sy_run (f + d) k pc L S n w fr lo = some res := mv_run_more h d
theorem sy_mx {a b : Nat} (h : b ≤ a) : mv_mx a b = a := by
  unfold mv_mx
  cases hb : Nat.ble a b with
  | false => rfl
  | true =>
    simp only [cond_true]
    have := Nat.le_of_ble_eq_true hb
    omega
/-- a call of a static method of one's own class, with two arguments -/
theorem sy_call2 {j q : Nat} {x y v : mv_V} {S0 : List mv_V} (hc : tt_cd k pc = (10, .invokestatic j, 3)) (hm : tt_ml k j = (1, q, 2)) (hcs : Nat.ble (mv_cs S0) 8 = true) (hok : (mv_oks [x, y] && Nat.ble (mv_cs [x, y]) (tt_mL q)) = true) (hrun : ∃ f0, sy_run f0 q 0 (mv_l0 0 [x, y] 0) [] n w 0 0 = some ([v], n, w', 0, 0, 0, 0)) (hfr : 0 + 1 ≤ fr) (hlo : 8 + (tt_mL q + 11) + 0 ≤ lo) (kk : sy_R k n fr lo (pc + 3) ls (v :: S0) w' pc2 ls2 S2 w2) : sy_R k n fr lo pc ls (y :: x :: S0) w pc2 ls2 S2 w2 := by
  intro L hL
  obtain ⟨f0, hrun⟩ := hrun
  obtain ⟨c, L2, h3, h4⟩ := kk L hL
  refine ⟨c + f0 + 1, L2, h3, fun f res hr => ?_⟩
  have h5 := sy_more (h4 f res hr) f0
  have h6 := sy_more hrun (f + c)
  rw [Nat.add_comm f0] at h6
  rw [show f + (c + f0 + 1) = f + c + f0 + 1 by omega]
  show mv_stepf tt_cd tt_kc tt_fl tt_nl tt_al tt_sl tt_ml tt_mL tt_mr tt_ini tt_mci tt_fty tt_ffin tt_tl tt_cn tt_dpk tt_stt tt_none (mv_run tt_cd tt_kc tt_fl tt_nl tt_al tt_sl tt_ml tt_mL tt_mr tt_ini tt_mci tt_fty tt_ffin tt_tl tt_cn tt_dpk tt_stt tt_none (f + c + f0)) k pc L (y :: x :: S0) n w 0 0 fr lo = some res
  unfold mv_stepf
  rw [hc]
  have e1 : mv_cal (tt_ml k) (.invokestatic j) (y :: x :: S0) = some (1, q, [x, y], S0) := by
    show (bif Nat.beq (tt_ml k j).1 1 || (Nat.beq (tt_ml k j).1 2 || Nat.beq (tt_ml k j).1 8) then mv_cl (tt_ml k j) (tt_ml k j).2.2 (y :: x :: S0) else none) = _
    rw [hm]
    rfl
  show (match mv_cal (tt_ml k) (.invokestatic j) (y :: x :: S0) with
      | some (kd, q, as, S0) => bif Nat.beq 3 3 then
          (bif Nat.beq kd 7 then (match as, S0 with
            | [x], [] => bif Nat.beq x.1 2 then mv_run tt_cd tt_kc tt_fl tt_nl tt_al tt_sl tt_ml tt_mL tt_mr tt_ini tt_mci tt_fty tt_ffin tt_tl tt_cn tt_dpk tt_stt tt_none (f + c + f0) k (Nat.add pc 3) L [] n w 0 0 (mv_mx fr 1) (mv_mx lo 12) else none
            | _, _ => none)
          else bif Nat.beq kd 8 then (match mv_c8 tt_tl tt_stt q as S0 w with
            | some (S', w') => mv_run tt_cd tt_kc tt_fl tt_nl tt_al tt_sl tt_ml tt_mL tt_mr tt_ini tt_mci tt_fty tt_ffin tt_tl tt_cn tt_dpk tt_stt tt_none (f + c + f0) k (Nat.add pc 3) L S' n w' 0 0 (mv_mx fr 1) (mv_mx lo (mv_cs S0 + 18))
            | none => none)
          else bif mv_rcv kd (tt_mci q) as w && Nat.ble (mv_cs S0) 8 then (match (match tt_none q as n w with
              | some r => some r
              | none => bif mv_oks as && Nat.ble (mv_cs as) (tt_mL q) then mv_run tt_cd tt_kc tt_fl tt_nl tt_al tt_sl tt_ml tt_mL tt_mr tt_ini tt_mci tt_fty tt_ffin tt_tl tt_cn tt_dpk tt_stt tt_none (f + c + f0) q 0 (mv_l0 0 as 0) [] n w 0 0 0 0 else none) with
            | some r => mv_run tt_cd tt_kc tt_fl tt_nl tt_al tt_sl tt_ml tt_mL tt_mr tt_ini tt_mci tt_fty tt_ffin tt_tl tt_cn tt_dpk tt_stt tt_none (f + c + f0) k (Nat.add pc 3) L (r.1 ++ S0) r.2.1 r.2.2.1 (Nat.add 0 r.2.2.2.1) (Nat.add 0 r.2.2.2.2.1) (mv_mx fr (r.2.2.2.2.2.1 + 1)) (mv_mx lo (8 + (tt_mL q + 11) + r.2.2.2.2.2.2))
            | none => none) else none) else none
      | none => none) = some res
  rw [e1]
  show (bif (mv_rcv 1 (tt_mci q) [x, y] w) && Nat.ble (mv_cs S0) 8 then (match (bif mv_oks [x, y] && Nat.ble (mv_cs [x, y]) (tt_mL q) then mv_run tt_cd tt_kc tt_fl tt_nl tt_al tt_sl tt_ml tt_mL tt_mr tt_ini tt_mci tt_fty tt_ffin tt_tl tt_cn tt_dpk tt_stt tt_none (f + c + f0) q 0 (mv_l0 0 [x, y] 0) [] n w 0 0 0 0 else none) with
            | some r => mv_run tt_cd tt_kc tt_fl tt_nl tt_al tt_sl tt_ml tt_mL tt_mr tt_ini tt_mci tt_fty tt_ffin tt_tl tt_cn tt_dpk tt_stt tt_none (f + c + f0) k (Nat.add pc 3) L (r.1 ++ S0) r.2.1 r.2.2.1 (Nat.add 0 r.2.2.2.1) (Nat.add 0 r.2.2.2.2.1) (mv_mx fr (r.2.2.2.2.2.1 + 1)) (mv_mx lo (8 + (tt_mL q + 11) + r.2.2.2.2.2.2))
            | none => none) else none) = some res
  rw [show mv_rcv 1 (tt_mci q) [x, y] w = true from rfl, hcs, hok, show mv_run tt_cd tt_kc tt_fl tt_nl tt_al tt_sl tt_ml tt_mL tt_mr tt_ini tt_mci tt_fty tt_ffin tt_tl tt_cn tt_dpk tt_stt tt_none (f + c + f0) q 0 (mv_l0 0 [x, y] 0) [] n w 0 0 0 0 = some ([v], n, w', 0, 0, 0, 0) from h6]
  show mv_run tt_cd tt_kc tt_fl tt_nl tt_al tt_sl tt_ml tt_mL tt_mr tt_ini tt_mci tt_fty tt_ffin tt_tl tt_cn tt_dpk tt_stt tt_none (f + c + f0) k (pc + 3) L (v :: S0) n w' 0 0 (mv_mx fr (0 + 1)) (mv_mx lo (8 + (tt_mL q + 11) + 0)) = some res
  rw [sy_mx hfr, sy_mx hlo]
  exact h5
theorem sy_reti {L f : Nat} {x : mv_V} (hc : tt_cd k pc = (9, .ireturn, 1)) (hm : tt_mr k = 1) (hx : mv_isI x = true) : sy_run (f + 1) k pc L [x] n w fr lo = some ([x], n, w, 0, 0, fr, lo) := by
  show mv_stepf tt_cd tt_kc tt_fl tt_nl tt_al tt_sl tt_ml tt_mL tt_mr tt_ini tt_mci tt_fty tt_ffin tt_tl tt_cn tt_dpk tt_stt tt_none (mv_run tt_cd tt_kc tt_fl tt_nl tt_al tt_sl tt_ml tt_mL tt_mr tt_ini tt_mci tt_fty tt_ffin tt_tl tt_cn tt_dpk tt_stt tt_none f) k pc L [x] n w 0 0 fr lo = _
  unfold mv_stepf
  rw [hc]
  show (match mv_rt (tt_mr k) .ireturn [x] with
      | some ret => bif Nat.beq 1 1 then some (ret, n, w, 0, 0, fr, lo) else none
      | none => none) = _
  rw [hm]
  show (match (bif (Nat.beq 1 1 && mv_isI x) || (Nat.beq 1 4 && (Nat.beq x.1 0 && Nat.blt x.2.1 2)) then some [x] else none) with
      | some ret => bif Nat.beq 1 1 then some (ret, n, w, 0, 0, fr, lo) else none
      | none => none) = _
  rw [hx]
  rfl
/-- the locals at the entry -/
theorem sy_l0 : ∀ (as : List mv_V) (i L : Nat), mv_oks as = true → as.all (fun v => !(mv_isL v)) = true → (∀ (j : Nat) (v : mv_V), as[j]? = some v → mv_lg (mv_l0 i as L) (i + j) = v) ∧ ∀ j, j < i → mv_lg (mv_l0 i as L) j = mv_lg L j
  | [], _, _, _, _ => ⟨fun j v h => by simp at h, fun _ _ => rfl⟩
  | x :: xs, i, L, ho, hl => by
    simp only [mv_oks, Bool.and_eq_true] at ho
    simp only [List.all_cons, Bool.and_eq_true, Bool.not_eq_true'] at hl
    have e : mv_l0 i (x :: xs) L = mv_l0 (i + 1) xs (mv_wr 136 L i (mv_enc x)) := by
      show mv_l0 (bif mv_isL x then i + 2 else i + 1) xs (mv_wr 136 L i (mv_enc x)) = _
      rw [hl.1]
      rfl
    obtain ⟨h1, h2⟩ := sy_l0 xs (i + 1) (mv_wr 136 L i (mv_enc x)) ho.2 hl.2
    rw [e]
    refine ⟨fun j v hv => ?_, fun j hj => ?_⟩
    · cases j with
      | zero =>
        simp only [List.getElem?_cons_zero, Option.some.injEq] at hv
        show mv_lg (mv_l0 (i + 1) xs (mv_wr 136 L i (mv_enc x))) i = v
        rw [h2 i (by omega), mv_lg_wr, if_pos rfl, mv_dec_enc ho.1]
        exact hv
      | succ j =>
        simp only [List.getElem?_cons_succ] at hv
        have := h1 j v hv
        rwa [show i + 1 + j = i + (j + 1) by omega] at this
    · rw [h2 j (by omega), mv_lg_wr, if_neg (by omega)]
theorem sy_l0L {as us : List mv_V} (ho : mv_oks as = true) (hl : as.all (fun v => !(mv_isL v)) = true) (hu : us.all (fun v => Nat.beq v.1 255) = true) : sy_L (mv_l0 0 as 0) (as ++ us) := by
  intro j v hv hn
  rcases Nat.lt_or_ge j as.length with z | z
  · rw [List.getElem?_append_left z] at hv
    have := (sy_l0 as 0 0 ho hl).1 j v hv
    rwa [Nat.zero_add] at this
  · rw [List.getElem?_append_right z] at hv
    have := List.all_eq_true.mp hu v (List.mem_of_getElem? hv)
    exact absurd (Nat.eq_of_beq_eq_true this) hn
/-- a run from the entry to its end -/
theorem sy_whole {as us ls' ret : List mv_V} {pe : Nat} (ho : mv_oks as = true) (hl : as.all (fun v => !(mv_isL v)) = true) (hu : us.all (fun v => Nat.beq v.1 255) = true) (h : sy_R k n fr lo 0 (as ++ us) [] w pe ls' ret w') (he : ∀ L f, sy_run (f + 1) k pe L ret n w' fr lo = some (ret, n, w', 0, 0, fr, lo)) : ∃ f, sy_run f k 0 (mv_l0 0 as 0) [] n w fr lo = some (ret, n, w', 0, 0, fr, lo) := by
  obtain ⟨c, L', -, h2⟩ := h _ (sy_l0L ho hl hu)
  exact ⟨_, h2 (0 + 1) _ (he L' 0)⟩
/-- a run is a contract -/
theorem sy_met {l : Launch} {D : va_G} {tys : List (ClassId × FieldType)} {tb : Nat → Nat} (htl : tys.map Prod.snd = tt_tl) {f : Nat} {as : List mv_V} {res : mv_R} (hy : plainName (tt_my k).cls = true) (ho : mv_oks as = true) (hcs : mv_cs as ≤ tt_mL k) (h : sy_run f k 0 (mv_l0 0 as 0) [] n w fr lo = some res) : mv_Met l D tt_cl tys tb (mv_E tt_nst tt_aos tt_zs tt_zt tb) (tt_my k) (Cond.code (tt_my k) (tt_mcc k) (tt_mL k) (tt_mret k) :: tt_mw) as n w res :=
  mv_Met.of hy ho hcs fun p e s m args below meth c A ad0 hx hb hml hr hlocks hown hname hts hK hA hE => (mv_sound (l := l) (D := D) (tb := tb) tt_FX htl (fun q as n w r h => by cases h) f k 0 (mv_l0 0 as 0) [] n w 0 0 fr lo res h).2 p e _ s m args below meth c A n ad0 hx hb hml hr hlocks hown hname (fun x hx => hts x (List.mem_cons_of_mem _ hx)) hK hA hE (Nat.le_refl _) (Nat.le_refl _) (Nat.le_refl _) (Nat.le_refl _)
end SY
