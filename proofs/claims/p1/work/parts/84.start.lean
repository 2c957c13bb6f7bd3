/-! THE LAW, from its entry: fresh objects, the switch -/
theorem cx164_0 : tt_cd 164 0 = (7, .new 7, 3) := by decide +kernel
theorem cx164_3 : tt_cd 164 3 = (2, .dup, 1) := by decide +kernel
theorem cx164_4 : tt_cd 164 4 = (10, .invokespecial 9, 3) := by decide +kernel
theorem cx164_7 : tt_cd 164 7 = (1, .astore_n 1, 1) := by decide +kernel
theorem cx164_8 : tt_cd 164 8 = (7, .new 10, 3) := by decide +kernel
theorem cx164_11 : tt_cd 164 11 = (2, .dup, 1) := by decide +kernel
theorem cx164_12 : tt_cd 164 12 = (10, .invokespecial 12, 3) := by decide +kernel
theorem cx164_15 : tt_cd 164 15 = (1, .astore_n 2, 1) := by decide +kernel
theorem cx164_16 : tt_cd 164 16 = (2, .iconst 0, 1) := by decide +kernel
theorem cx164_17 : tt_cd 164 17 = (1, .istore_n 3, 1) := by decide +kernel
theorem cx164_18 : tt_cd 164 18 = (1, .iload_n 3, 1) := by decide +kernel
theorem cx164_19 : tt_cd 164 19 = (1, .aload_n 0, 1) := by decide +kernel
theorem cx164_20 : tt_cd 164 20 = (3, .arraylength, 1) := by decide +kernel
theorem cx164_21 : tt_cd 164 21 = (4, .bipush 6, 2) := by decide +kernel
theorem cx164_23 : tt_cd 164 23 = (2, .isub, 1) := by decide +kernel
theorem cx164_24 : tt_cd 164 24 = (5, .if_icmp .gt 932, 3) := by decide +kernel
theorem cx164_27 : tt_cd 164 27 = (1, .aload_n 0, 1) := by decide +kernel
theorem cx164_28 : tt_cd 164 28 = (1, .iload_n 3, 1) := by decide +kernel
theorem cx164_29 : tt_cd 164 29 = (3, .iaload, 1) := by decide +kernel
theorem cx164_30 : tt_cd 164 30 = (4, .bipush 31, 2) := by decide +kernel
theorem cx164_32 : tt_cd 164 32 = (2, .iand, 1) := by decide +kernel
theorem cx164_33 : tt_cd 164 33 = (8, .tableswitch 917 0 25 #[119, 182, 205, 238, 251, 274, 317, 350, 383, 416, 459, 492, 505, 518, 571, 604, 627, 650, 683, 706, 739, 772, 795, 828, 871, 894], 119) := by decide +kernel
theorem cx164_956 : tt_cd 164 956 = (2, .iconst 1, 1) := by decide +kernel
section LZ
variable {p : Program} {l : Launch} {e : Env} {R : Room} {s : State} {m : MethodId} {args : Array Value} {below : List Frame} {meth : Method} {c : Code} {D : va_G} {tys : List (ClassId × FieldType)} {A : Nat → Prop} {tb : Nat → Nat} {Q : State → Prop} {b0 : Nat} {xs : Nat → Int32}
variable {cells slots : Nat} {a b : mv_R}

theorem lg_iand {Ls pc n : Nat} {ls S : List mv_V} {w : mv_T 10} (C : lg_C p s m args meth c D tys A tb b0 Ls xs) {x y : Nat} (hc : tt_cd 164 pc = (2, .iand, 1)) (h1 : cells ≤ R.cells) (h2 : slots ≤ R.slots) (kk : lg_G p l e R s m args below meth c D tys A tb Q (pc + 1) ls ((0, mo_and x y, 0) :: S) n w cells slots) : lg_G p l e R s m args below meth c D tys A tb Q pc ls ((0, y, 0) :: (0, x, 0) :: S) n w cells slots := lg_sk C hc rfl rfl h1 h2 kk
theorem sy_calI {k j kd q np : Nat} {as S0 : List mv_V} (hm : tt_ml k j = (kd, q, np)) (hkd : (Nat.beq kd 5 || (Nat.beq kd 6 || Nat.beq kd 7)) = true) (hl : as.length = np + 1) : mv_cal (tt_ml k) (.invokespecial j) (as.reverse ++ S0) = some (kd, q, as, S0) := by
  show (bif Nat.beq (tt_ml k j).1 5 || (Nat.beq (tt_ml k j).1 6 || Nat.beq (tt_ml k j).1 7) then mv_cl (tt_ml k j) ((tt_ml k j).2.2 + 1) (as.reverse ++ S0) else none) = _
  rw [hm]
  dsimp only
  rw [hkd]
  unfold mv_cl
  have e1 : (as.reverse ++ S0).take (np + 1) = as.reverse := by rw [← hl, ← List.length_reverse (as := as)]; exact List.take_left
  have e2 : (as.reverse ++ S0).drop (np + 1) = S0 := by rw [← hl, ← List.length_reverse (as := as)]; exact List.drop_left
  rw [e1, e2]
  simp only [cond_true, List.length_reverse, hl, List.reverse_reverse]
  rw [Nat.beq_refl]
  rfl
theorem lwa_switch (C : lg_C p s m args meth c D tys A tb b0 6 xs) (hend : ∀ (ls : List mv_V) (n : Nat) (w : mv_T 10) (cells slots : Nat), cells ≤ R.cells → slots ≤ R.slots → lg_G p l e R s m args below meth c D tys A tb Q 957 ls [(0, 1, 0)] n w cells slots) (hR : 13 ≤ R.frames ∧ 560 ≤ R.locals) (hc1 : cells + 1800 ≤ R.cells) (hc2 : slots + 2000000 ≤ R.slots) (ha : z_c = some a) (hb : z_m a = some b) (hn1 : a.2.1 < 1000) (hmine : (xs 1).toInt = 0 → 0 ≤ (xs 2).toInt → (xs 2).toInt ≤ 1000 → lg_G p l e R s m args below meth c D tys A tb Q 383 [(6, 7, 0), (2, 0, 0), (2, a.2.1, 0), (0, 0, 0)] [] b.2.1 b.2.2.1 cells slots) (hgive : (xs 1).toInt = 0 → ((xs 2).toInt = 0 ∧ (xs 3).toInt ≤ 104 ∨ (xs 2).toInt = 1 ∧ (xs 3).toInt ≤ 2 ∨ (xs 2).toInt = 2 ∧ (xs 3).toInt ≤ 27) → 0 ≤ (xs 3).toInt → 1 ≤ (xs 4).toInt → (xs 4).toInt ≤ 255 → lg_G p l e R s m args below meth c D tys A tb Q 551 [(6, 7, 0), (2, 0, 0), (2, a.2.1, 0), (0, 0, 0)] [] b.2.1 b.2.2.1 cells slots) : lg_G p l e R s m args below meth c D tys A tb Q 27 [(6, 7, 0), (2, 0, 0), (2, a.2.1, 0), (0, 0, 0)] [] b.2.1 b.2.2.1 cells slots := by
  have h1 : cells ≤ R.cells := by omega
  have h2 : slots ≤ R.slots := by omega
  obtain ⟨N0, hN0⟩ : ∃ N0 : Nat, xs 0 = nI N0 := ⟨_, mv_p5_nI (lo := ((xs 0).toInt + 2147483648).toNat) (by have := Int32.le_toInt (xs 0); omega)⟩
  refine lg_ald C (j := 0) cx164_27 rfl rfl rfl h1 h2 ?_
  refine lg_ild C (j := 3) cx164_28 rfl rfl rfl h1 h2 ?_
  refine lg_scr C (j := 0) (x := (0, N0, 0)) cx164_29 rfl (by decide) (fun _ _ => congrArg Value.int hN0) ?_
  refine lg_bipush C (v := 31) cx164_30 (by decide) (by decide) h1 h2 ?_
  refine lg_iand C cx164_32 h1 h2 ?_
  have hop : mo_and N0 31 < 32 := Nat.lt_succ_of_le Nat.and_le_right
  generalize mo_and N0 31 = op at hop ⊢
  match op, hop with
  | 0, _ => exact lg_tk C cx164_33 rfl (pc' := 152) (S' := []) (by decide +kernel) h1 h2 (lwa_feed C hend hR hc1 hc2 ha hb hn1)
  | 1, _ => exact lg_tk C cx164_33 rfl (pc' := 215) (S' := []) (by decide +kernel) h1 h2 (lwa_cut C hend hR hc1 hc2 ha hb hn1)
  | 2, _ => exact lg_tk C cx164_33 rfl (pc' := 238) (S' := []) (by decide +kernel) h1 h2 (lwa_hash C hend hR hc1 hc2 ha hb hn1)
  | 3, _ => exact lg_tk C cx164_33 rfl (pc' := 271) (S' := []) (by decide +kernel) h1 h2 (lwa_seed C hend hR hc1 hc2 ha hb hn1)
  | 4, _ => exact lg_tk C cx164_33 rfl (pc' := 284) (S' := []) (by decide +kernel) h1 h2 (lwa_gap C hend hR hc1 hc2 ha hb hn1)
  | 5, _ => exact lg_tk C cx164_33 rfl (pc' := 307) (S' := []) (by decide +kernel) h1 h2 (lwa_key C hend hR hc1 hc2 ha hb hn1)
  | 6, _ => exact lg_tk C cx164_33 rfl (pc' := 350) (S' := []) (by decide +kernel) h1 h2 (lwa_address C hend hR hc1 hc2 ha hb hn1)
  | 7, _ => exact lg_tk C cx164_33 rfl (pc' := 383) (S' := []) (by decide +kernel) h1 h2 (lwa_mine C hend hR hc1 hc2 ha hb hn1 hmine)
  | 8, _ => exact lg_tk C cx164_33 rfl (pc' := 416) (S' := []) (by decide +kernel) h1 h2 (lwa_block C hend hR hc1 hc2 ha hb hn1)
  | 9, _ => exact lg_tk C cx164_33 rfl (pc' := 449) (S' := []) (by decide +kernel) h1 h2 (lwa_payment C hend hR hc1 hc2 ha hb hn1)
  | 10, _ => exact lg_tk C cx164_33 rfl (pc' := 492) (S' := []) (by decide +kernel) h1 h2 (lwa_filterByte C hend hR hc1 hc2 ha hb hn1)
  | 11, _ => exact lg_tk C cx164_33 rfl (pc' := 525) (S' := []) (by decide +kernel) h1 h2 (lwa_waiting C hend hR hc1 hc2 ha hb hn1)
  | 12, _ => exact lg_tk C cx164_33 rfl (pc' := 538) (S' := []) (by decide +kernel) h1 h2 (lwa_forget C hend hR hc1 hc2 ha hb hn1)
  | 13, _ => exact lg_tk C cx164_33 rfl (pc' := 551) (S' := []) (by decide +kernel) h1 h2 (lwa_give C hend hR hc1 hc2 ha hb hn1 hgive)
  | 14, _ => exact lg_tk C cx164_33 rfl (pc' := 604) (S' := []) (by decide +kernel) h1 h2 (lwa_header C hend hR hc1 hc2 ha hb hn1)
  | 15, _ => exact lg_tk C cx164_33 rfl (pc' := 637) (S' := []) (by decide +kernel) h1 h2 (lwa_chain C hend hR hc1 hc2 ha hb hn1)
  | 16, _ => exact lg_tk C cx164_33 rfl (pc' := 660) (S' := []) (by decide +kernel) h1 h2 (lwa_last C hend hR hc1 hc2 ha hb hn1)
  | 17, _ => exact lg_tk C cx164_33 rfl (pc' := 683) (S' := []) (by decide +kernel) h1 h2 (lwa_coin C hend hR hc1 hc2 ha hb hn1)
  | 18, _ => exact lg_tk C cx164_33 rfl (pc' := 716) (S' := []) (by decide +kernel) h1 h2 (lwa_sum C hend hR hc1 hc2 ha hb hn1)
  | 19, _ => exact lg_tk C cx164_33 rfl (pc' := 739) (S' := []) (by decide +kernel) h1 h2 (lwa_pay C hend hR hc1 hc2 ha hb hn1)
  | 20, _ => exact lg_tk C cx164_33 rfl (pc' := 772) (S' := []) (by decide +kernel) h1 h2 (lwa_draft C hend hR hc1 hc2 ha hb hn1)
  | 21, _ => exact lg_tk C cx164_33 rfl (pc' := 805) (S' := []) (by decide +kernel) h1 h2 (lwa_sign C hend hR hc1 hc2 ha hb hn1)
  | 22, _ => exact lg_tk C cx164_33 rfl (pc' := 828) (S' := []) (by decide +kernel) h1 h2 (lwa_draftByte C hend hR hc1 hc2 ha hb hn1)
  | 23, _ => exact lg_tk C cx164_33 rfl (pc' := 861) (S' := []) (by decide +kernel) h1 h2 (lwa_send C hend hR hc1 hc2 ha hb hn1)
  | 24, _ => exact lg_tk C cx164_33 rfl (pc' := 904) (S' := []) (by decide +kernel) h1 h2 (lwa_drop C hend hR hc1 hc2 ha hb hn1)
  | 25, _ => exact lg_tk C cx164_33 rfl (pc' := 927) (S' := []) (by decide +kernel) h1 h2 (lwa_check C hend hR hc1 hc2 ha hb hn1)
  | 26, _ => exact lg_tk C cx164_33 rfl (pc' := 950) (S' := []) (by decide +kernel) h1 h2 (lg_tail C hend h1 h2)
  | 27, _ => exact lg_tk C cx164_33 rfl (pc' := 950) (S' := []) (by decide +kernel) h1 h2 (lg_tail C hend h1 h2)
  | 28, _ => exact lg_tk C cx164_33 rfl (pc' := 950) (S' := []) (by decide +kernel) h1 h2 (lg_tail C hend h1 h2)
  | 29, _ => exact lg_tk C cx164_33 rfl (pc' := 950) (S' := []) (by decide +kernel) h1 h2 (lg_tail C hend h1 h2)
  | 30, _ => exact lg_tk C cx164_33 rfl (pc' := 950) (S' := []) (by decide +kernel) h1 h2 (lg_tail C hend h1 h2)
  | 31, _ => exact lg_tk C cx164_33 rfl (pc' := 950) (S' := []) (by decide +kernel) h1 h2 (lg_tail C hend h1 h2)
  | op + 32, h => exact absurd h (by omega)
theorem lwa_start {Ls : Nat} (C : lg_C p s m args meth c D tys A tb b0 Ls xs) (hLs : Ls ≤ 6) (hend : ∀ (ls : List mv_V) (n : Nat) (w : mv_T 10) (cells slots : Nat), cells ≤ R.cells → slots ≤ R.slots → lg_G p l e R s m args below meth c D tys A tb Q 957 ls [(0, 1, 0)] n w cells slots) (hR : 13 ≤ R.frames ∧ 560 ≤ R.locals) (hRc : 10000 ≤ R.cells) (hRs : 7000000 ≤ R.slots) (hmine : Ls = 6 → ∀ (a b : mv_R) (cells slots : Nat), z_c = some a → z_m a = some b → cells + 1800 ≤ R.cells → slots + 2000000 ≤ R.slots → (xs 1).toInt = 0 → 0 ≤ (xs 2).toInt → (xs 2).toInt ≤ 1000 → lg_G p l e R s m args below meth c D tys A tb Q 383 [(6, 7, 0), (2, 0, 0), (2, a.2.1, 0), (0, 0, 0)] [] b.2.1 b.2.2.1 cells slots) (hgive : Ls = 6 → ∀ (a b : mv_R) (cells slots : Nat), z_c = some a → z_m a = some b → cells + 1800 ≤ R.cells → slots + 2000000 ≤ R.slots → (xs 1).toInt = 0 → ((xs 2).toInt = 0 ∧ (xs 3).toInt ≤ 104 ∨ (xs 2).toInt = 1 ∧ (xs 3).toInt ≤ 2 ∨ (xs 2).toInt = 2 ∧ (xs 3).toInt ≤ 27) → 0 ≤ (xs 3).toInt → 1 ≤ (xs 4).toInt → (xs 4).toInt ≤ 255 → lg_G p l e R s m args below meth c D tys A tb Q 551 [(6, 7, 0), (2, 0, 0), (2, a.2.1, 0), (0, 0, 0)] [] b.2.1 b.2.2.1 cells slots) : lg_G p l e R s m args below meth c D tys A tb Q 0 [(6, 7, 0), (255, 0, 0), (255, 0, 0), (255, 0, 0)] [] 0 (mv_nil 10) 0 0 := by
  obtain ⟨a, b, ha, hb, oa, ob, hn1, ea, eb⟩ := z_start zz_0
  obtain ⟨a1, a2, a3, a4⟩ := z_ok_ok oa
  obtain ⟨b1, b2, b3, b4⟩ := z_ok_ok ob
  have htl := C.1.2.2.2.2.2.2.2.2.2
  refine lg_new C (q := 1) (nf := 13) cx164_0 (by decide +kernel) (by decide) (by omega) (by omega) ?_
  refine lg_sk C (S' := [(2, 0, 0), (2, 0, 0)]) cx164_3 rfl rfl (by omega) (by omega) ?_
  refine lg_call C (r := a) (as := [(2, 0, 0)]) (S0 := [(2, 0, 0)]) cx164_4 (sy_calI (kd := 5) (q := 0) (np := 0) (as := [(2, 0, 0)]) (S0 := [(2, 0, 0)]) (by decide +kernel) rfl rfl) (by decide) (by decide) rfl (by decide) (tt_met htl (tt_mb 0 (by decide)).1 rfl (by decide +kernel) (show tt_run pr_all 100000 0 0 (mv_l0 0 [(2, 0, 0)] 0) [] 1 (mv_set 10 (mv_nil 10) 0 (0, 1, 13, tt_dpk 1)) = some a from ha)) ⟨by omega, by rw [show tt_mL 0 = 7 by decide +kernel]; omega⟩ ⟨by omega, by omega⟩ ?_
  rw [ea]
  simp only [List.nil_append]
  refine lg_ast C (j := 1) cx164_7 rfl rfl (sy_ok2 (by decide)) (by rw [mL164]; rfl) rfl (by omega) (by omega) ?_
  simp only [List.set_cons_zero, List.set_cons_succ]
  refine lg_new C (q := 0) (nf := 107) cx164_8 (by decide +kernel) (by omega) (by omega) (by omega) ?_
  refine lg_sk C (S' := [(2, a.2.1, 0), (2, a.2.1, 0)]) cx164_11 rfl rfl (by omega) (by omega) ?_
  refine lg_call C (r := b) (as := [(2, a.2.1, 0)]) (S0 := [(2, a.2.1, 0)]) cx164_12 (sy_calI (kd := 5) (q := 124) (np := 0) (as := [(2, a.2.1, 0)]) (S0 := [(2, a.2.1, 0)]) (by decide +kernel) rfl rfl) (by decide) (by decide) rfl (lw_cs1 _) (tt_met htl (tt_mb 124 (by decide)).1 (sy_oks_cons (sy_ok2 (by omega)) sy_oks_nil) (by rw [show tt_mL 124 = 2 by decide +kernel]; exact (by decide : 1 ≤ 2)) (show tt_run pr_all 100000 124 0 (mv_l0 0 [(2, a.2.1, 0)] 0) [] (a.2.1 + 1) (mv_set 10 a.2.2.1 a.2.1 (0, 0, 107, tt_dpk 0)) = some b from hb)) ⟨by omega, by rw [show tt_mL 124 = 2 by decide +kernel]; omega⟩ ⟨by omega, by omega⟩ ?_
  rw [eb]
  simp only [List.nil_append]
  refine lg_ast C (j := 2) cx164_15 rfl rfl (sy_ok2 (by omega)) (by rw [mL164]; rfl) rfl (by omega) (by omega) ?_
  simp only [List.set_cons_zero, List.set_cons_succ]
  refine lg_iconst C (v := 0) cx164_16 (by decide) (by omega) (by omega) ?_
  refine lg_ist C (j := 3) cx164_17 rfl rfl (sy_ok0 (by decide)) (by rw [mL164]; rfl) rfl (by omega) (by omega) ?_
  simp only [List.set_cons_zero, List.set_cons_succ]
  refine lg_ild C (j := 3) cx164_18 rfl rfl rfl (by omega) (by omega) ?_
  refine lg_ald C (j := 0) cx164_19 rfl rfl rfl (by omega) (by omega) ?_
  refine lg_len C cx164_20 ?_
  refine lg_bipush C (v := 6) cx164_21 (by decide) (by decide) (by omega) (by omega) ?_
  refine lg_isub C cx164_23 (by omega) (by omega) ?_
  by_cases h6 : Ls = 6
  · subst h6
    refine lg_gt C (b := false) (pc' := 27) cx164_24 (by decide) (sy_lt_f (by decide) (by decide)) (by decide) (by omega) (by omega) ?_
    exact lwa_switch C hend hR (by omega) (by omega) ha hb hn1 (hmine rfl a b _ _ ha hb (by omega) (by omega)) (hgive rfl a b _ _ ha hb (by omega) (by omega))
  · refine lg_gt C (b := true) (pc' := 956) cx164_24 (by decide) (sy_neg_t (by unfold mo_sub; omega) (mo_sub_lt _ _)) (by decide) (by omega) (by omega) ?_
    refine lg_iconst C (v := 1) cx164_956 (by decide) (by omega) (by omega) ?_
    exact hend _ _ _ _ _ (by omega) (by omega)
end LZ
