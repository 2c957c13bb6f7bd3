/-! GIVE, both sides together -/
section GX
theorem rg_rd (T place mask j : Nat) : mv_rd 32 (rg_G T place mask) j = if j = place then mn_b (mn_b (mo_xor (mv_rd 32 T place) mask)) % 2 ^ 32 else mv_rd 32 T j := by
  unfold rg_G
  rw [mv_rd_wr]
/-- the spoiled bytes -/
def gb (S place mask j : Nat) : Nat := if j = place then mn_b (mn_b (mo_xor (mv_rd 32 S place) mask)) % 2 ^ 32 else mv_rd 32 S j
theorem gb_c {P S m place mask : Nat} (hp : place < m) : ∀ j, j < m → mv_rd 32 (rg_G (mv_cw 32 P S 0 0 m) place mask) (0 + j) = gb S place mask j := by
  intro j hj
  rw [rg_rd, Nat.zero_add]
  unfold gb
  by_cases e : j = place
  · rw [if_pos e, if_pos e, mv_cw_rd, if_pos (by omega), show 0 + (place - 0) = place by omega]
  · rw [if_neg e, if_neg e, mv_cw_rd, if_pos (by omega), show 0 + (j - 0) = j by omega]
theorem gb_byte {S m : Nat} : mv_ab S 0 m = true → ∀ j, j < m → mn_b (mv_rd 32 S j) % 2 ^ 32 = mv_rd 32 S j := by
  induction m with
  | zero => intro _ j hj; exact absurd hj (Nat.not_lt_zero _)
  | succ m ih =>
    intro h j hj
    have h' : ((Nat.blt (mv_rd 32 S (0 + m)) 128 || Nat.ble 4294967168 (mv_rd 32 S (0 + m))) && mv_ab S 0 m) = true := h
    simp only [Bool.and_eq_true, Bool.or_eq_true, Nat.blt_eq, Nat.ble_eq] at h'
    by_cases e : j = m
    · subst e
      have h1 := h'.1
      rw [Nat.zero_add] at h1
      have h2 := mo_rd_lt S j
      generalize mv_rd 32 S j = x at h1 h2
      unfold mn_b
      omega
    · exact ih h'.2 j (by omega)
theorem gb_r {P S S' m place mask : Nat} (hp : place < m) (hab : mv_ab S 0 m = true) (he : ∀ j, j < m → mv_rd 32 S j = mv_rd 32 S' j) : ∀ j, j < m → mv_rd 32 (rg_G (mo_T P 0 S' 0 m) place mask) (0 + j) = gb S place mask j := by
  intro j hj
  rw [rg_rd, Nat.zero_add]
  unfold gb
  by_cases e : j = place
  · rw [if_pos e, if_pos e, mo_T_rd, if_pos (by omega), show 0 + (place - 0) = place by omega, ← he place hp, gb_byte hab place hp]
  · rw [if_neg e, if_neg e, mo_T_rd, if_pos (by omega), show 0 + (j - 0) = j by omega, ← he j hj, gb_byte hab j hj]
theorem gb_no {S Id G place mask : Nat} (hG : ∀ j, j < 32 → mv_rd 32 G (0 + j) = gb S place mask j) (h1 : mv_rd 32 Id 1 ≠ mv_rd 32 S 1) (h2 : mv_rd 32 Id 2 ≠ mv_rd 32 S 2) : sb_eq Id 0 G 0 32 = false := by
  cases hb : sb_eq Id 0 G 0 32 with
  | false => rfl
  | true =>
    have k := sb_bytes 32 hb
    have e : ∀ j, j < 32 → j ≠ place → mv_rd 32 Id j = mv_rd 32 S j := fun j hj hn => by
      have a := k j hj
      rw [hG j hj, Nat.zero_add] at a
      rw [a]
      unfold gb
      rw [if_neg hn]
    by_cases z : place = 1
    · exact absurd (e 2 (by decide) (by omega)) h2
    · exact absurd (e 1 (by decide) (Ne.symm z)) h1
/-- the other object's cells are as they were -/
theorem wh_move {N M : Nat} {pl pr : Nat → Nat} {w0 w : mv_T 10} {cs cs' : List mv_C} (h : wh M pr w0 w0 cs) (g : ∃ cs, wh N pl w0 w cs) (hd : ∀ i j, i < N → j < M → pl i ≠ pr j) : wh M pr w w cs := by
  obtain ⟨c2, g⟩ := g
  obtain ⟨h1, h2, h3, h4, h5⟩ := h
  refine ⟨fun i c hc => ?_, h2, h3, h4, fun _ _ _ => rfl⟩
  have hi : i < M := by
    have := (List.getElem?_eq_some_iff.mp hc).1
    omega
  rw [g.2.2.2.2 (pr i) (h3 i hi) (fun k hk => hd k i hk hi)]
  exact h1 i c hc
theorem hs_congr {f g : Nat → Nat} {n : Nat} (h : ∀ j, j < n → f j = g j) : hs_2 f n = hs_2 g n := by
  have e : bk_B f n = bk_B g n := by
    funext j
    unfold bk_B
    by_cases hj : j < n
    · rw [if_pos hj, if_pos hj, h j hj]
    · rw [if_neg hj, if_neg hj]
  unfold hs_2 hs_1
  rw [e]
end GX
section GY
variable {p : Program} {l : Launch} {e : Env} {R : Room} {s : State} {m : MethodId} {args : Array Value} {below : List Frame} {meth : Method} {c : Code} {D : va_G} {tys : List (ClassId × FieldType)} {A : Nat → Prop} {tb : Nat → Nat} {Q : State → Prop} {b0 : Nat} {xs : Nat → Int32}
variable {cells slots : Nat} {a b : mv_R}

theorem gz_of (htl : tys.map Prod.snd = tt_tl) {kx km F1 L1 F2 L2 n base v cx cm nx nm X Y : Nat} {as : List mv_V} {w w1 w2 : mv_T 10} (hk1 : plainName (tt_my kx).cls = true) (hk2 : plainName (tt_my km).cls = true) (ho : mv_oks as = true) (hb : base < 1024) (hcs1 : mv_cs ((2, 0, 0) :: as) ≤ tt_mL kx) (hcs2 : mv_cs ((2, base, 0) :: as) ≤ tt_mL km) (hm1 : tt_mci kx = cx) (hm2 : tt_mci km = cm) (hr1 : mv_get 10 w 0 = (0, cx, nx, X)) (hC : sy_C kx n F1 L1 ((2, 0, 0) :: as) w [(0, v, 0)] w1) (hr2 : mv_get 10 w1 base = (0, cm, nm, Y)) (hD : sy_C km n F2 L2 ((2, base, 0) :: as) w1 [(0, v, 0)] w2) (hF : (F1 ≤ 12 ∧ L1 ≤ 500) ∧ F2 ≤ 12 ∧ L2 ≤ 500) : ∃ (r q : mv_R) (x y : mv_V), mv_rcv 3 (tt_mci kx) ((2, 0, 0) :: as) w = true ∧ mv_Met l D tt_cl tys tb (mv_E tt_nst tt_aos tt_zs tt_zt tb) (tt_my kx) (Cond.code (tt_my kx) (tt_mcc kx) (tt_mL kx) (tt_mret kx) :: tt_mw) ((2, 0, 0) :: as) n w r ∧ mv_rcv 3 (tt_mci km) ((2, base, 0) :: as) r.2.2.1 = true ∧ mv_Met l D tt_cl tys tb (mv_E tt_nst tt_aos tt_zs tt_zt tb) (tt_my km) (Cond.code (tt_my km) (tt_mcc km) (tt_mL km) (tt_mret km) :: tt_mw) ((2, base, 0) :: as) r.2.1 r.2.2.1 q ∧ r.1 = [x] ∧ q.1 = [y] ∧ mv_eq x y = some true ∧ z_ok r = true ∧ z_ok q = true := by
  obtain ⟨f1, r1⟩ := hC
  obtain ⟨f2, r2⟩ := hD
  have ok : ∀ {a b : Nat} {ret : List mv_V} {w : mv_T 10}, a ≤ 12 → b ≤ 500 → z_ok (ret, n, w, 0, 0, a, b) = true := by
    intro a b ret w h1 h2
    unfold z_ok
    simp only [Bool.and_eq_true, Nat.ble_eq]
    exact ⟨⟨by omega, by omega⟩, h1, h2⟩
  exact ⟨_, _, _, _, sy_rcvm hm1 hr1, sy_met htl hk1 (sy_oks_cons rfl ho) hcs1 r1, sy_rcvm hm2 hr2, sy_met htl hk2 (sy_oks_cons (sy_ok2 hb) ho) hcs2 r2, rfl, rfl, sy_eq_y rfl, ok hF.1.1 hF.1.2, ok hF.2.1 hF.2.2⟩
theorem lw_giveM (C : lg_C p s m args meth c D tys A tb b0 6 xs) (hend : ∀ (ls : List mv_V) (n : Nat) (w : mv_T 10) (cells slots : Nat), cells ≤ R.cells → slots ≤ R.slots → lg_G p l e R s m args below meth c D tys A tb Q 957 ls [(0, 1, 0)] n w cells slots) (hR : 13 ≤ R.frames ∧ 560 ≤ R.locals) (hc1 : cells + 1800 ≤ R.cells) (hc2 : slots + 2000000 ≤ R.slots) {a b : mv_R} {v1 v2 v3 v4 : mv_V} (hv1 : ∀ (n : Nat) (ad : Nat → Nat), mv_r n ad tb v1 (.int (xs 1))) (hv2 : ∀ (n : Nat) (ad : Nat → Nat), mv_r n ad tb v2 (.int (xs 2))) (hv3 : ∀ (n : Nat) (ad : Nat → Nat), mv_r n ad tb v3 (.int (xs 3))) (hv4 : ∀ (n : Nat) (ad : Nat → Nat), mv_r n ad tb v4 (.int (xs 4))) (hz : ∃ (r q : mv_R) (x y : mv_V), mv_rcv 3 (tt_mci 72) [(2, 0, 0), v1, v2, v3, v4] b.2.2.1 = true ∧ mv_Met l D tt_cl tys tb (mv_E tt_nst tt_aos tt_zs tt_zt tb) (tt_my 72) (Cond.code (tt_my 72) (tt_mcc 72) (tt_mL 72) (tt_mret 72) :: tt_mw) [(2, 0, 0), v1, v2, v3, v4] b.2.1 b.2.2.1 r ∧ mv_rcv 3 (tt_mci 142) [(2, a.2.1, 0), v1, v2, v3, v4] r.2.2.1 = true ∧ mv_Met l D tt_cl tys tb (mv_E tt_nst tt_aos tt_zs tt_zt tb) (tt_my 142) (Cond.code (tt_my 142) (tt_mcc 142) (tt_mL 142) (tt_mret 142) :: tt_mw) [(2, a.2.1, 0), v1, v2, v3, v4] r.2.1 r.2.2.1 q ∧ r.1 = [x] ∧ q.1 = [y] ∧ mv_eq x y = some true ∧ z_ok r = true ∧ z_ok q = true) (hn1 : a.2.1 < 1000) : lg_G p l e R s m args below meth c D tys A tb Q 551 [(6, 7, 0), (2, 0, 0), (2, a.2.1, 0), (0, 0, 0)] [] b.2.1 b.2.2.1 cells slots := by
  obtain ⟨r, q, x, y, z4, z5, z6, z7, z8, z9, z10, z11, z12⟩ := hz
  obtain ⟨o1, o2, o3, o4⟩ := z_ok_ok z11
  obtain ⟨o5, o6, o7, o8⟩ := z_ok_ok z12
  have htl := C.1.2.2.2.2.2.2.2.2.2
  refine lg_ald C (j := 1) cd164_551 rfl rfl rfl (by omega) (by omega) ?_
  refine lg_ald C (j := 0) cd164_552 rfl rfl rfl (by omega) (by omega) ?_
  refine lg_ild C (j := 3) cd164_553 rfl rfl rfl (by omega) (by omega) ?_
  refine lg_iconst C (v := 1) cd164_554 (by decide) (by omega) (by omega) ?_
  refine lg_iadd C cd164_555 (by omega) (by omega) ?_
  refine lg_scr C (j := 1) cd164_556 (by decide) (by decide) hv1 ?_
  refine lg_ald C (j := 0) cd164_557 rfl rfl rfl (by omega) (by omega) ?_
  refine lg_ild C (j := 3) cd164_558 rfl rfl rfl (by omega) (by omega) ?_
  refine lg_iconst C (v := 2) cd164_559 (by decide) (by omega) (by omega) ?_
  refine lg_iadd C cd164_560 (by omega) (by omega) ?_
  refine lg_scr C (j := 2) cd164_561 (by decide) (by decide) hv2 ?_
  refine lg_ald C (j := 0) cd164_562 rfl rfl rfl (by omega) (by omega) ?_
  refine lg_ild C (j := 3) cd164_563 rfl rfl rfl (by omega) (by omega) ?_
  refine lg_iconst C (v := 3) cd164_564 (by decide) (by omega) (by omega) ?_
  refine lg_iadd C cd164_565 (by omega) (by omega) ?_
  refine lg_scr C (j := 3) cd164_566 (by decide) (by decide) hv3 ?_
  refine lg_ald C (j := 0) cd164_567 rfl rfl rfl (by omega) (by omega) ?_
  refine lg_ild C (j := 3) cd164_568 rfl rfl rfl (by omega) (by omega) ?_
  refine lg_iconst C (v := 4) cd164_569 (by decide) (by omega) (by omega) ?_
  refine lg_iadd C cd164_570 (by omega) (by omega) ?_
  refine lg_scr C (j := 4) cd164_571 (by decide) (by decide) hv4 ?_
  refine lg_call C (r := r) (as := [(2, 0, 0), v1, v2, v3, v4]) (S0 := []) cd164_572 (sy_calV (as := [(2, 0, 0), v1, v2, v3, v4]) (S0 := []) ml164_70 rfl rfl) (by decide) (by decide) z4 (by decide) z5 ⟨by omega, by rw [mL72]; omega⟩ ⟨by omega, by omega⟩ ?_
  rw [z8]
  simp only [List.cons_append, List.nil_append]
  refine lg_ald C (j := 2) cd164_575 rfl rfl rfl (by omega) (by omega) ?_
  refine lg_ald C (j := 0) cd164_576 rfl rfl rfl (by omega) (by omega) ?_
  refine lg_ild C (j := 3) cd164_577 rfl rfl rfl (by omega) (by omega) ?_
  refine lg_iconst C (v := 1) cd164_578 (by decide) (by omega) (by omega) ?_
  refine lg_iadd C cd164_579 (by omega) (by omega) ?_
  refine lg_scr C (j := 1) cd164_580 (by decide) (by decide) hv1 ?_
  refine lg_ald C (j := 0) cd164_581 rfl rfl rfl (by omega) (by omega) ?_
  refine lg_ild C (j := 3) cd164_582 rfl rfl rfl (by omega) (by omega) ?_
  refine lg_iconst C (v := 2) cd164_583 (by decide) (by omega) (by omega) ?_
  refine lg_iadd C cd164_584 (by omega) (by omega) ?_
  refine lg_scr C (j := 2) cd164_585 (by decide) (by decide) hv2 ?_
  refine lg_ald C (j := 0) cd164_586 rfl rfl rfl (by omega) (by omega) ?_
  refine lg_ild C (j := 3) cd164_587 rfl rfl rfl (by omega) (by omega) ?_
  refine lg_iconst C (v := 3) cd164_588 (by decide) (by omega) (by omega) ?_
  refine lg_iadd C cd164_589 (by omega) (by omega) ?_
  refine lg_scr C (j := 3) cd164_590 (by decide) (by decide) hv3 ?_
  refine lg_ald C (j := 0) cd164_591 rfl rfl rfl (by omega) (by omega) ?_
  refine lg_ild C (j := 3) cd164_592 rfl rfl rfl (by omega) (by omega) ?_
  refine lg_iconst C (v := 4) cd164_593 (by decide) (by omega) (by omega) ?_
  refine lg_iadd C cd164_594 (by omega) (by omega) ?_
  refine lg_scr C (j := 4) cd164_595 (by decide) (by decide) hv4 ?_
  refine lg_call C (r := q) (as := [(2, a.2.1, 0), v1, v2, v3, v4]) (S0 := [x]) cd164_596 (sy_calV (as := [(2, a.2.1, 0), v1, v2, v3, v4]) (S0 := [x]) ml164_74 rfl rfl) (by decide) (by decide) z6 (lw_cs1 x) z7 ⟨by omega, by rw [mL142]; omega⟩ ⟨by omega, by omega⟩ ?_
  rw [z9]
  simp only [List.cons_append, List.nil_append]
  refine lg_eqt C (pc' := 950) cd164_599 (by decide) (by decide) z10 (by omega) (by omega) ?_
  exact lg_tail C hend (by omega) (by omega)
theorem lw_mineM (C : lg_C p s m args meth c D tys A tb b0 6 xs) (hend : ∀ (ls : List mv_V) (n : Nat) (w : mv_T 10) (cells slots : Nat), cells ≤ R.cells → slots ≤ R.slots → lg_G p l e R s m args below meth c D tys A tb Q 957 ls [(0, 1, 0)] n w cells slots) (hR : 13 ≤ R.frames ∧ 560 ≤ R.locals) (hc1 : cells + 1800 ≤ R.cells) (hc2 : slots + 2000000 ≤ R.slots) {a b : mv_R} {v1 v2 : mv_V} (hv1 : ∀ (n : Nat) (ad : Nat → Nat), mv_r n ad tb v1 (.int (xs 1))) (hv2 : ∀ (n : Nat) (ad : Nat → Nat), mv_r n ad tb v2 (.int (xs 2))) (hz : ∃ (r q : mv_R) (x y : mv_V), mv_rcv 3 (tt_mci 63) [(2, 0, 0), v1, v2] b.2.2.1 = true ∧ mv_Met l D tt_cl tys tb (mv_E tt_nst tt_aos tt_zs tt_zt tb) (tt_my 63) (Cond.code (tt_my 63) (tt_mcc 63) (tt_mL 63) (tt_mret 63) :: tt_mw) [(2, 0, 0), v1, v2] b.2.1 b.2.2.1 r ∧ mv_rcv 3 (tt_mci 135) [(2, a.2.1, 0), v1, v2] r.2.2.1 = true ∧ mv_Met l D tt_cl tys tb (mv_E tt_nst tt_aos tt_zs tt_zt tb) (tt_my 135) (Cond.code (tt_my 135) (tt_mcc 135) (tt_mL 135) (tt_mret 135) :: tt_mw) [(2, a.2.1, 0), v1, v2] r.2.1 r.2.2.1 q ∧ r.1 = [x] ∧ q.1 = [y] ∧ mv_eq x y = some true ∧ z_ok r = true ∧ z_ok q = true) (hn1 : a.2.1 < 1000) : lg_G p l e R s m args below meth c D tys A tb Q 383 [(6, 7, 0), (2, 0, 0), (2, a.2.1, 0), (0, 0, 0)] [] b.2.1 b.2.2.1 cells slots := by
  obtain ⟨r, q, x, y, z4, z5, z6, z7, z8, z9, z10, z11, z12⟩ := hz
  obtain ⟨o1, o2, o3, o4⟩ := z_ok_ok z11
  obtain ⟨o5, o6, o7, o8⟩ := z_ok_ok z12
  have htl := C.1.2.2.2.2.2.2.2.2.2
  refine lg_ald C (j := 1) cd164_383 rfl rfl rfl (by omega) (by omega) ?_
  refine lg_ald C (j := 0) cd164_384 rfl rfl rfl (by omega) (by omega) ?_
  refine lg_ild C (j := 3) cd164_385 rfl rfl rfl (by omega) (by omega) ?_
  refine lg_iconst C (v := 1) cd164_386 (by decide) (by omega) (by omega) ?_
  refine lg_iadd C cd164_387 (by omega) (by omega) ?_
  refine lg_scr C (j := 1) cd164_388 (by decide) (by decide) hv1 ?_
  refine lg_ald C (j := 0) cd164_389 rfl rfl rfl (by omega) (by omega) ?_
  refine lg_ild C (j := 3) cd164_390 rfl rfl rfl (by omega) (by omega) ?_
  refine lg_iconst C (v := 2) cd164_391 (by decide) (by omega) (by omega) ?_
  refine lg_iadd C cd164_392 (by omega) (by omega) ?_
  refine lg_scr C (j := 2) cd164_393 (by decide) (by decide) hv2 ?_
  refine lg_call C (r := r) (as := [(2, 0, 0), v1, v2]) (S0 := []) cd164_394 (sy_calV (as := [(2, 0, 0), v1, v2]) (S0 := []) ml164_46 rfl rfl) (by decide) (by decide) z4 (by decide) z5 ⟨by omega, by rw [mL63]; omega⟩ ⟨by omega, by omega⟩ ?_
  rw [z8]
  simp only [List.cons_append, List.nil_append]
  refine lg_ald C (j := 2) cd164_397 rfl rfl rfl (by omega) (by omega) ?_
  refine lg_ald C (j := 0) cd164_398 rfl rfl rfl (by omega) (by omega) ?_
  refine lg_ild C (j := 3) cd164_399 rfl rfl rfl (by omega) (by omega) ?_
  refine lg_iconst C (v := 1) cd164_400 (by decide) (by omega) (by omega) ?_
  refine lg_iadd C cd164_401 (by omega) (by omega) ?_
  refine lg_scr C (j := 1) cd164_402 (by decide) (by decide) hv1 ?_
  refine lg_ald C (j := 0) cd164_403 rfl rfl rfl (by omega) (by omega) ?_
  refine lg_ild C (j := 3) cd164_404 rfl rfl rfl (by omega) (by omega) ?_
  refine lg_iconst C (v := 2) cd164_405 (by decide) (by omega) (by omega) ?_
  refine lg_iadd C cd164_406 (by omega) (by omega) ?_
  refine lg_scr C (j := 2) cd164_407 (by decide) (by decide) hv2 ?_
  refine lg_call C (r := q) (as := [(2, a.2.1, 0), v1, v2]) (S0 := [x]) cd164_408 (sy_calV (as := [(2, a.2.1, 0), v1, v2]) (S0 := [x]) ml164_49 rfl rfl) (by decide) (by decide) z6 (lw_cs1 x) z7 ⟨by omega, by rw [mL135]; omega⟩ ⟨by omega, by omega⟩ ?_
  rw [z9]
  simp only [List.cons_append, List.nil_append]
  refine lg_eqt C (pc' := 950) cd164_411 (by decide) (by decide) z10 (by omega) (by omega) ?_
  exact lg_tail C hend (by omega) (by omega)
theorem gi72 : tt_mci 72 = 1 := by decide +kernel
theorem gi142 : tt_mci 142 = 0 := by decide +kernel
theorem gz_0 {place mask : Nat} (ha : z_c = some a) (hb : z_m a = some b) (htl : tys.map Prod.snd = tt_tl) (hp : place < 105) (hm1 : 0 < mask) (hm2 : mask ≤ 255) : ∃ (r q : mv_R) (x y : mv_V), mv_rcv 3 (tt_mci 72) ((2, 0, 0) :: [(0, 0, 0), (0, 0, 0), (0, place, 0), (0, mask, 0)]) b.2.2.1 = true ∧ mv_Met l D tt_cl tys tb (mv_E tt_nst tt_aos tt_zs tt_zt tb) (tt_my 72) (Cond.code (tt_my 72) (tt_mcc 72) (tt_mL 72) (tt_mret 72) :: tt_mw) ((2, 0, 0) :: [(0, 0, 0), (0, 0, 0), (0, place, 0), (0, mask, 0)]) b.2.1 b.2.2.1 r ∧ mv_rcv 3 (tt_mci 142) ((2, a.2.1, 0) :: [(0, 0, 0), (0, 0, 0), (0, place, 0), (0, mask, 0)]) r.2.2.1 = true ∧ mv_Met l D tt_cl tys tb (mv_E tt_nst tt_aos tt_zs tt_zt tb) (tt_my 142) (Cond.code (tt_my 142) (tt_mcc 142) (tt_mL 142) (tt_mret 142) :: tt_mw) ((2, a.2.1, 0) :: [(0, 0, 0), (0, 0, 0), (0, place, 0), (0, mask, 0)]) r.2.1 r.2.2.1 q ∧ r.1 = [x] ∧ q.1 = [y] ∧ mv_eq x y = some true ∧ z_ok r = true ∧ z_ok q = true := by
  refine zk_use ha hb ?_
  intro pl X0 X1 X3 X8 X11 X17 cbs Hd Id Fi cps Pb Pl ckn Dg cff cbf Ids Sp Sw Ss In stl su sl pr X0r Pcr Wdr Vvr Str Afr Mir Hdr Gvr Gir Hir Bir Hbr Flr Ofr Our Fsr Bsr Hfr Hhr Bbr Oir Lyr Hwr Her Htr Car Lur thr upr lpr ocr cor sor msr bhr h0 hw hX0 hX1 hX3 hX8 hX11 hX17 hbs hkn hff hbf hps hst hsu hsl hab0 hab1 hab2 hi1 hi2 hPB g0 hv hY0 hA hBi hbz hfs hhf hhh hht hhe x0 x1 x2 x3 x4 xd xr
  have r1 : mv_get 10 b.2.2.1 0 = (0, 1, 13, X0) := by
    have h := wh_at hw 0 rfl
    rw [h0] at h
    exact h
  have lb : a.2.1 < 1024 := by
    have h := wh_lt hv 0 (by decide)
    rw [g0] at h
    exact h
  have hf := gb_c (P := Pl) (S := Hd) (mask := mask) hp
  have hG := gb_no (Id := Id) (fun j hj => hf j (by omega)) hi1 hi2
  obtain ⟨ret, w1, ⟨T, hT, rfl, hE⟩, hC⟩ := cg_give0 (n := b.2.1) hw hX0 hX1 hX3 hX8 hX11 hX17 hbs hkn hff hbf hps hst hsu hsl hab0 hp hm1 hm2 hf hG
  have hf2 := gb_r (P := Gvr) (S := Hd) (S' := Hdr) (mask := mask) hp hab0 x0
  have hG2 : sb_eq Hir 0 (rg_G (mo_T Gvr 0 Hdr 0 105) place mask) 0 32 = false := gb_no (fun j hj => hf2 j (by omega)) (by rw [← x1 1 (by decide)]; exact hi1) (by rw [← x1 2 (by decide)]; exact hi2)
  have hv2 := wh_move (cs' := []) hv hE xd
  have r2 : mv_get 10 w1 a.2.1 = (0, 0, 107, X0r) := by
    have h := wh_at hv2 0 rfl
    rw [g0] at h
    exact h
  obtain ⟨ret2, w2, ⟨T2, hT2, rfl⟩, hD⟩ := rg_give (n := b.2.1) hv2 hY0 hp hm1 hm2 hA hf2 hG2
  have e : gh_a Hir T2 = gh_a Id T := by
    unfold gh_a
    rw [sb_congr (A' := Id) (a' := 0) (B' := T) (b' := 0) 32 (fun j hj => by rw [Nat.zero_add]; exact (x1 j hj).symm) (fun j hj => by rw [Nat.zero_add, hT2 j hj, hT j hj])]
  rw [e, g0] at hD
  rw [h0] at hC
  exact gz_of (base := a.2.1) htl (tt_mb 72 (by decide)).1 (tt_mb 142 (by decide)).1 (sy_oks_cons (sy_ok0 (by decide)) (sy_oks_cons (sy_ok0 (by decide)) (sy_oks_cons (sy_ok0 (by omega)) (sy_oks_cons (sy_ok0 (by omega)) sy_oks_nil)))) lb (by rw [mL72]; exact (by decide : 5 ≤ 8)) (by rw [mL142]; exact (by decide : 5 ≤ 7)) gi72 gi142 r1 hC r2 hD ⟨⟨by decide, by decide⟩, by decide, by decide⟩
theorem gz_1 {place mask : Nat} (ha : z_c = some a) (hb : z_m a = some b) (htl : tys.map Prod.snd = tt_tl) (hp : place < 2) (hm1 : 0 < mask) (hm2 : mask ≤ 255) : ∃ (r q : mv_R) (x y : mv_V), mv_rcv 3 (tt_mci 72) ((2, 0, 0) :: [(0, 0, 0), (0, 1, 0), (0, place, 0), (0, mask, 0)]) b.2.2.1 = true ∧ mv_Met l D tt_cl tys tb (mv_E tt_nst tt_aos tt_zs tt_zt tb) (tt_my 72) (Cond.code (tt_my 72) (tt_mcc 72) (tt_mL 72) (tt_mret 72) :: tt_mw) ((2, 0, 0) :: [(0, 0, 0), (0, 1, 0), (0, place, 0), (0, mask, 0)]) b.2.1 b.2.2.1 r ∧ mv_rcv 3 (tt_mci 142) ((2, a.2.1, 0) :: [(0, 0, 0), (0, 1, 0), (0, place, 0), (0, mask, 0)]) r.2.2.1 = true ∧ mv_Met l D tt_cl tys tb (mv_E tt_nst tt_aos tt_zs tt_zt tb) (tt_my 142) (Cond.code (tt_my 142) (tt_mcc 142) (tt_mL 142) (tt_mret 142) :: tt_mw) ((2, a.2.1, 0) :: [(0, 0, 0), (0, 1, 0), (0, place, 0), (0, mask, 0)]) r.2.1 r.2.2.1 q ∧ r.1 = [x] ∧ q.1 = [y] ∧ mv_eq x y = some true ∧ z_ok r = true ∧ z_ok q = true := by
  refine zk_use ha hb ?_
  intro pl X0 X1 X3 X8 X11 X17 cbs Hd Id Fi cps Pb Pl ckn Dg cff cbf Ids Sp Sw Ss In stl su sl pr X0r Pcr Wdr Vvr Str Afr Mir Hdr Gvr Gir Hir Bir Hbr Flr Ofr Our Fsr Bsr Hfr Hhr Bbr Oir Lyr Hwr Her Htr Car Lur thr upr lpr ocr cor sor msr bhr h0 hw hX0 hX1 hX3 hX8 hX11 hX17 hbs hkn hff hbf hps hst hsu hsl hab0 hab1 hab2 hi1 hi2 hPB g0 hv hY0 hA hBi hbz hfs hhf hhh hht hhe x0 x1 x2 x3 x4 xd xr
  have r1 : mv_get 10 b.2.2.1 0 = (0, 1, 13, X0) := by
    have h := wh_at hw 0 rfl
    rw [h0] at h
    exact h
  have lb : a.2.1 < 1024 := by
    have h := wh_lt hv 0 (by decide)
    rw [g0] at h
    exact h
  have hf := gb_c (P := Pl) (S := Fi) (mask := mask) hp
  obtain ⟨ret, w1, ⟨T, hT, rfl, hE⟩, hC⟩ := cg_give1 (n := b.2.1) hw hX0 hX1 hX3 hX8 hX11 hX17 hbs hkn hff hbf hps hst hsu hsl hab1 hp hm1 hm2 hf
  have hf2 := gb_r (P := Ofr) (S := Fi) (S' := Flr) (mask := mask) hp hab1 x2
  have hv2 := wh_move (cs' := []) hv hE xd
  have r2 : mv_get 10 w1 a.2.1 = (0, 0, 107, X0r) := by
    have h := wh_at hv2 0 rfl
    rw [g0] at h
    exact h
  obtain ⟨ret2, w2, ⟨T2, hT2, rfl⟩, hD⟩ := rg_give1 (n := b.2.1) hv2 hY0 hBi hhf hhh hfs hbz hht hhe hA hp hm1 hm2 hf2
  have e : cg_a T2 Hbr 64 = cg_a T Hd 64 := by
    unfold cg_a
    rw [sb_congr (A' := T) (a' := 0) (B' := Hd) (b' := 64) 32 (fun j hj => by rw [Nat.zero_add, hT2 j hj, hT j hj]) (fun j hj => by have := x4 (32 + j) (by omega); rw [show 64 + j = 32 + (32 + j) by omega]; exact this.symm)]
  rw [e, g0] at hD
  rw [h0] at hC
  exact gz_of (base := a.2.1) htl (tt_mb 72 (by decide)).1 (tt_mb 142 (by decide)).1 (sy_oks_cons (sy_ok0 (by decide)) (sy_oks_cons (sy_ok0 (by decide)) (sy_oks_cons (sy_ok0 (by omega)) (sy_oks_cons (sy_ok0 (by omega)) sy_oks_nil)))) lb (by rw [mL72]; exact (by decide : 5 ≤ 8)) (by rw [mL142]; exact (by decide : 5 ≤ 7)) gi72 gi142 r1 hC r2 hD ⟨⟨by decide, by decide⟩, by decide, by decide⟩
/-- the value's bytes -/
def wo_b (a b c d : Nat) : Nat := mo_or (mo_shl (mo_or (mo_shl (mo_or (mo_shl (mo_or 0 (mo_and a 255)) 8) (mo_and b 255)) 8) (mo_and c 255)) 8) (mo_and d 255)
theorem wo_b_eq (G : Nat) : wo_4 G = wo_b (mv_rd 32 G 4) (mv_rd 32 G 5) (mv_rd 32 G 6) (mv_rd 32 G 7) := rfl
def gv (place mask j : Nat) : Nat := if j = place then mn_b (mn_b (mo_xor (mv_rd 32 z_PB place) mask)) % 2 ^ 32 else mv_rd 32 z_PB j
def gv_w (place mask : Nat) : Nat := wo_b (gv place mask 4) (gv place mask 5) (gv place mask 6) (gv place mask 7)
def gv_ck (place mask : Nat) : Bool := bif Nat.beq place 4 && Nat.ble 60 mask then ((Nat.blt 1000000000 (gv_w place mask) && Nat.blt (gv_w place mask) 2147483648) || (Nat.ble 2147483648 (gv_w place mask) && Nat.blt (gv_w place mask) 4294967296)) else (Nat.ble 1 (gv_w place mask) && Nat.ble (gv_w place mask) 1000000000)
theorem gv_all : ((List.range 28).all (fun p => (List.range 256).all (fun m => Nat.beq p 0 || (Nat.beq p 3 || gv_ck p m)))) = true := by decide +kernel
theorem gv_b0 : ((List.range 256).all (fun m => Nat.beq m 0 || (!(Nat.beq (gv 0 m 0) 0) && !(Nat.beq (gv 3 m 3) 1)))) = true := by decide +kernel
theorem gv_get {place mask : Nat} (hp : place < 28) (hm : mask ≤ 255) (h0 : place ≠ 0) (h3 : place ≠ 3) : gv_ck place mask = true := by
  have h := List.all_eq_true.mp (List.all_eq_true.mp gv_all place (List.mem_range.mpr hp)) mask (List.mem_range.mpr (by omega))
  simp only [Bool.or_eq_true, Nat.beq_eq] at h
  rcases h with z | z | z
  · exact absurd z h0
  · exact absurd z h3
  · exact z
theorem gv_bad {mask : Nat} (hm1 : 0 < mask) (hm : mask ≤ 255) : gv 0 mask 0 ≠ 0 ∧ gv 3 mask 3 ≠ 1 := by
  have h := List.all_eq_true.mp gv_b0 mask (List.mem_range.mpr (by omega))
  simp only [Bool.or_eq_true, Nat.beq_eq, Bool.and_eq_true, Bool.not_eq_true'] at h
  rcases h with z | ⟨z1, z2⟩
  · omega
  · exact ⟨fun e => Bool.noConfusion ((congrArg (fun x => Nat.beq x 0) e).symm.trans z1), fun e => Bool.noConfusion ((congrArg (fun x => Nat.beq x 1) e).symm.trans z2)⟩
theorem gb_gv {Pb place mask : Nat} (hPB : ∀ j, j < 28 → mv_rd 32 Pb j = mv_rd 32 z_PB j) (hp : place < 28) : ∀ j, j < 28 → gb Pb place mask j = gv place mask j := by
  intro j hj
  unfold gb gv
  rw [hPB place hp, hPB j hj]
theorem z_bad {m : Nat} (h1 : 60 ≤ m) (h2 : m ≤ 255) : z_ne (hs_2 (z_fb m) 28) = true := by
  rcases Nat.lt_or_ge m 158 with z | z
  · have := List.all_eq_true.mp z_bad0 (m - 60) (List.mem_range.mpr (by omega))
    rwa [show 60 + (m - 60) = m by omega] at this
  · have := List.all_eq_true.mp z_bad1 (m - 158) (List.mem_range.mpr (by omega))
    rwa [show 158 + (m - 158) = m by omega] at this
theorem gz_2 {place mask : Nat} (ha : z_c = some a) (hb : z_m a = some b) (htl : tys.map Prod.snd = tt_tl) (hp : place < 28) (hm1 : 0 < mask) (hm2 : mask ≤ 255) : ∃ (r q : mv_R) (x y : mv_V), mv_rcv 3 (tt_mci 72) ((2, 0, 0) :: [(0, 0, 0), (0, 2, 0), (0, place, 0), (0, mask, 0)]) b.2.2.1 = true ∧ mv_Met l D tt_cl tys tb (mv_E tt_nst tt_aos tt_zs tt_zt tb) (tt_my 72) (Cond.code (tt_my 72) (tt_mcc 72) (tt_mL 72) (tt_mret 72) :: tt_mw) ((2, 0, 0) :: [(0, 0, 0), (0, 2, 0), (0, place, 0), (0, mask, 0)]) b.2.1 b.2.2.1 r ∧ mv_rcv 3 (tt_mci 142) ((2, a.2.1, 0) :: [(0, 0, 0), (0, 2, 0), (0, place, 0), (0, mask, 0)]) r.2.2.1 = true ∧ mv_Met l D tt_cl tys tb (mv_E tt_nst tt_aos tt_zs tt_zt tb) (tt_my 142) (Cond.code (tt_my 142) (tt_mcc 142) (tt_mL 142) (tt_mret 142) :: tt_mw) ((2, a.2.1, 0) :: [(0, 0, 0), (0, 2, 0), (0, place, 0), (0, mask, 0)]) r.2.1 r.2.2.1 q ∧ r.1 = [x] ∧ q.1 = [y] ∧ mv_eq x y = some true ∧ z_ok r = true ∧ z_ok q = true := by
  refine zk_use ha hb ?_
  intro pl X0 X1 X3 X8 X11 X17 cbs Hd Id Fi cps Pb Pl ckn Dg cff cbf Ids Sp Sw Ss In stl su sl pr X0r Pcr Wdr Vvr Str Afr Mir Hdr Gvr Gir Hir Bir Hbr Flr Ofr Our Fsr Bsr Hfr Hhr Bbr Oir Lyr Hwr Her Htr Car Lur thr upr lpr ocr cor sor msr bhr h0 hw hX0 hX1 hX3 hX8 hX11 hX17 hbs hkn hff hbf hps hst hsu hsl hab0 hab1 hab2 hi1 hi2 hPB g0 hv hY0 hA hBi hbz hfs hhf hhh hht hhe x0 x1 x2 x3 x4 xd xr
  have r1 : mv_get 10 b.2.2.1 0 = (0, 1, 13, X0) := by
    have h := wh_at hw 0 rfl
    rw [h0] at h
    exact h
  have lb : a.2.1 < 1024 := by
    have h := wh_lt hv 0 (by decide)
    rw [g0] at h
    exact h
  have hf := gb_c (P := Pl) (S := Pb) (mask := mask) hp
  have hf2 := gb_r (P := Ofr) (S := Pb) (S' := Bbr) (mask := mask) hp hab2 x3
  have hc : ∀ j, j < 28 → mv_rd 32 (rg_G (mv_cw 32 Pl Pb 0 0 28) place mask) j = gv place mask j := fun j hj => by have := hf j hj; rw [Nat.zero_add, gb_gv hPB hp j hj] at this; exact this
  have hr : ∀ j, j < 28 → mv_rd 32 (rg_G (mo_T Ofr 0 Bbr 0 28) place mask) j = gv place mask j := fun j hj => by have := hf2 j hj; rw [Nat.zero_add, gb_gv hPB hp j hj] at this; exact this
  have hw4 : wo_4 (rg_G (mo_T Ofr 0 Bbr 0 28) place mask) = gv_w place mask := by rw [wo_b_eq, hr 4 (by decide), hr 5 (by decide), hr 6 (by decide), hr 7 (by decide)]; rfl
  have oth : ∀ j, j ≠ place → gv place mask j = mv_rd 32 z_PB j := fun j h => by unfold gv; rw [if_neg h]
  have fin : ∀ (v F1 L1 F2 L2 : Nat) (w1 w2 : mv_T 10), sy_C 72 b.2.1 F1 L1 [(2, pl 0, 0), (0, 0, 0), (0, 2, 0), (0, place, 0), (0, mask, 0)] b.2.2.1 [(0, v, 0)] w1 → (∃ cs, wh 22 pl b.2.2.1 w1 cs) → sy_C 142 b.2.1 F2 L2 [(2, pr 0, 0), (0, 0, 0), (0, 2, 0), (0, place, 0), (0, mask, 0)] w1 [(0, v, 0)] w2 → ((F1 ≤ 12 ∧ L1 ≤ 500) ∧ F2 ≤ 12 ∧ L2 ≤ 500) → ∃ (r q : mv_R) (x y : mv_V), mv_rcv 3 (tt_mci 72) ((2, 0, 0) :: [(0, 0, 0), (0, 2, 0), (0, place, 0), (0, mask, 0)]) b.2.2.1 = true ∧ mv_Met l D tt_cl tys tb (mv_E tt_nst tt_aos tt_zs tt_zt tb) (tt_my 72) (Cond.code (tt_my 72) (tt_mcc 72) (tt_mL 72) (tt_mret 72) :: tt_mw) ((2, 0, 0) :: [(0, 0, 0), (0, 2, 0), (0, place, 0), (0, mask, 0)]) b.2.1 b.2.2.1 r ∧ mv_rcv 3 (tt_mci 142) ((2, a.2.1, 0) :: [(0, 0, 0), (0, 2, 0), (0, place, 0), (0, mask, 0)]) r.2.2.1 = true ∧ mv_Met l D tt_cl tys tb (mv_E tt_nst tt_aos tt_zs tt_zt tb) (tt_my 142) (Cond.code (tt_my 142) (tt_mcc 142) (tt_mL 142) (tt_mret 142) :: tt_mw) ((2, a.2.1, 0) :: [(0, 0, 0), (0, 2, 0), (0, place, 0), (0, mask, 0)]) r.2.1 r.2.2.1 q ∧ r.1 = [x] ∧ q.1 = [y] ∧ mv_eq x y = some true ∧ z_ok r = true ∧ z_ok q = true := by
    intro v F1 L1 F2 L2 w1 w2 hC hE hD hF
    have hv2 := wh_move (cs' := []) hv hE xd
    have r2 : mv_get 10 w1 a.2.1 = (0, 0, 107, X0r) := by
      have h := wh_at hv2 0 rfl
      rw [g0] at h
      exact h
    rw [g0] at hD
    rw [h0] at hC
    exact gz_of (base := a.2.1) htl (tt_mb 72 (by decide)).1 (tt_mb 142 (by decide)).1 (sy_oks_cons (sy_ok0 (by decide)) (sy_oks_cons (sy_ok0 (by decide)) (sy_oks_cons (sy_ok0 (by omega)) (sy_oks_cons (sy_ok0 (by omega)) sy_oks_nil)))) lb (by rw [mL72]; exact (by decide : 5 ≤ 8)) (by rw [mL142]; exact (by decide : 5 ≤ 7)) gi72 gi142 r1 hC r2 hD hF
  by_cases p0 : place = 0
  · subst p0
    have k := (gv_bad hm1 hm2).1
    obtain ⟨ret, w1, ⟨rfl, hE⟩, hC⟩ := cg_give2N (n := b.2.1) hw hX0 hX1 hX3 hX8 hX11 hX17 hbs hkn hff hbf hps hst hsu hsl hab2 hp hm1 hm2 (Or.inl (by rw [hc 0 hp]; exact k))
    obtain ⟨ret2, w2, rfl, hD⟩ := rg_give2N (n := b.2.1) (wh_move (cs' := []) hv hE xd) hY0 hBi hhh hbz hp hm1 hm2 (Or.inl (by rw [hr 0 hp]; exact k))
    exact fin _ _ _ _ _ _ _ hC hE hD ⟨⟨by decide, by decide⟩, by decide, by decide⟩
  by_cases p3 : place = 3
  · subst p3
    have k := (gv_bad hm1 hm2).2
    have k0 : gv 3 mask 0 = 0 := (oth 0 (by decide)).trans (by decide)
    obtain ⟨ret, w1, ⟨rfl, hE⟩, hC⟩ := cg_give2N (n := b.2.1) hw hX0 hX1 hX3 hX8 hX11 hX17 hbs hkn hff hbf hps hst hsu hsl hab2 hp hm1 hm2 (Or.inr ⟨by rw [hc 0 (by decide)]; exact k0, by rw [hc 3 hp]; exact k⟩)
    obtain ⟨ret2, w2, rfl, hD⟩ := rg_give2N (n := b.2.1) (wh_move (cs' := []) hv hE xd) hY0 hBi hhh hbz hp hm1 hm2 (Or.inr (Or.inl ⟨by rw [hr 0 (by decide)]; exact k0, by rw [hr 3 hp]; exact k⟩))
    exact fin _ _ _ _ _ _ _ hC hE hD ⟨⟨by decide, by decide⟩, by decide, by decide⟩
  have k0 : gv place mask 0 = 0 := (oth 0 (Ne.symm p0)).trans (by decide)
  have k3 : gv place mask 3 = 1 := (oth 3 (Ne.symm p3)).trans (by decide)
  obtain ⟨ret, w1, ⟨T, hT, rfl, hE⟩, hC⟩ := cg_give2 (n := b.2.1) hw hX0 hX1 hX3 hX8 hX11 hX17 hbs hkn hff hbf hps hst hsu hsl hab2 hp hm1 hm2 hf (by rw [hc 0 (by decide)]; exact k0) (by rw [hc 3 (by decide)]; exact k3)
  have hv2 := wh_move (cs' := []) hv hE xd
  have hck := gv_get hp hm2 p0 p3
  unfold gv_ck at hck
  cases hbd : (Nat.beq place 4 && Nat.ble 60 mask) with
  | true =>
    rw [hbd] at hck
    simp only [cond_true, Bool.or_eq_true, Bool.and_eq_true, Nat.blt_eq, Nat.ble_eq] at hck
    simp only [Bool.and_eq_true, Nat.beq_eq, Nat.ble_eq] at hbd
    obtain ⟨p4, m60⟩ := hbd
    subst p4
    have eh : hs_2 (gb Pb 4 mask) 28 = hs_2 (z_fb mask) 28 := hs_congr (fun j hj => by
      rw [gb_gv hPB hp j hj]
      unfold gv z_fb
      rw [show mv_rd 32 z_PB 4 = 0 by decide])
    have ne := z_bad m60 hm2
    have e0 : cg_a T Hd 32 = 0 := by
      unfold cg_a
      cases hb : sb_eq T 0 Hd 32 32 with
      | false => rfl
      | true =>
        exfalso
        have k := sb_bytes 32 hb
        have a0 := k 0 (by decide)
        have a1 := k 1 (by decide)
        rw [Nat.zero_add, hT _ (by decide), eh] at a0 a1
        rw [show 32 + 0 = 32 from rfl, xr.1] at a0
        rw [show 32 + 1 = 33 from rfl, xr.2] at a1
        unfold z_ne at ne
        rw [a0, a1] at ne
        exact absurd ne (by decide)
    obtain ⟨ret2, w2, rfl, hD⟩ := rg_give2N (n := b.2.1) hv2 hY0 hBi hhh hbz hp hm1 hm2 (by
      rw [hr 0 (by decide), hr 3 (by decide), hw4]
      rcases hck with z | z
      · exact Or.inr (Or.inr (Or.inl ⟨k0, k3, z⟩))
      · exact Or.inr (Or.inr (Or.inr ⟨k0, k3, z⟩)))
    rw [e0] at hC
    exact fin _ _ _ _ _ _ _ hC hE hD ⟨⟨by decide, by decide⟩, by decide, by decide⟩
  | false =>
    rw [hbd] at hck
    simp only [cond_false, Bool.and_eq_true, Nat.ble_eq] at hck
    obtain ⟨ret2, w2, ⟨T2, hT2, rfl⟩, hD⟩ := rg_give2 (n := b.2.1) hv2 hY0 hBi hhf hhh hfs hbz hht hhe hA hp hm1 hm2 hf2 (by rw [hr 0 (by decide)]; exact k0) (by rw [hr 3 (by decide)]; exact k3) (by rw [hw4]; exact hck.1) (by rw [hw4]; exact hck.2)
    have e : cg_a T2 Hbr 32 = cg_a T Hd 32 := by
      unfold cg_a
      rw [sb_congr (A' := T) (a' := 0) (B' := Hd) (b' := 32) 32 (fun j hj => by rw [Nat.zero_add, hT2 j hj, hT j hj]) (fun j hj => (x4 j (by omega)).symm)]
    rw [e] at hD
    exact fin _ _ _ _ _ _ _ hC hE hD ⟨⟨by decide, by decide⟩, by decide, by decide⟩
theorem gz_give (C : lg_C p s m args meth c D tys A tb b0 6 xs) (hend : ∀ (ls : List mv_V) (n : Nat) (w : mv_T 10) (cells slots : Nat), cells ≤ R.cells → slots ≤ R.slots → lg_G p l e R s m args below meth c D tys A tb Q 957 ls [(0, 1, 0)] n w cells slots) (hR : 13 ≤ R.frames ∧ 560 ≤ R.locals) (hc1 : cells + 1800 ≤ R.cells) (hc2 : slots + 2000000 ≤ R.slots) (ha : z_c = some a) (hb : z_m a = some b) (hn1 : a.2.1 < 1000) (e1 : (xs 1).toInt = 0) (e2 : (xs 2).toInt = 0 ∧ (xs 3).toInt ≤ 104 ∨ (xs 2).toInt = 1 ∧ (xs 3).toInt ≤ 2 ∨ (xs 2).toInt = 2 ∧ (xs 3).toInt ≤ 27) (e3 : 0 ≤ (xs 3).toInt) (e4 : 1 ≤ (xs 4).toInt) (e5 : (xs 4).toInt ≤ 255) : lg_G p l e R s m args below meth c D tys A tb Q 551 [(6, 7, 0), (2, 0, 0), (2, a.2.1, 0), (0, 0, 0)] [] b.2.1 b.2.2.1 cells slots := by
  have htl := C.1.2.2.2.2.2.2.2.2.2
  obtain ⟨place, hpl⟩ : ∃ k : Nat, (xs 3).toInt = (k : Int) := ⟨(xs 3).toInt.toNat, by omega⟩
  obtain ⟨mask, hmk⟩ : ∃ k : Nat, (xs 4).toInt = (k : Int) := ⟨(xs 4).toInt.toNat, by omega⟩
  rcases e2 with ⟨w0, h3⟩ | ⟨w1, h3⟩ | ⟨w2, h3⟩
  · exact lw_giveM C hend hR hc1 hc2 (lwp_0 (k := 0) (by decide) (by omega)) (lwp_0 (k := 0) (by decide) (by omega)) (lwp_0 (k := place) (by omega) hpl) (lwp_0 (k := mask) (by omega) hmk) (gz_0 ha hb htl (by omega) (by omega) (by omega)) hn1
  · by_cases h2 : (xs 3).toInt = 2
    · exact lw_give C hend hR hc1 hc2 (lwp_0 (k := 0) (by decide) (by omega)) (lwp_0 (k := 1) (by decide) (by omega)) (lwp_0 (k := 2) (by decide) (by omega)) (lwp_i (lo := 2147483649) (hi := 2147483903) (by omega) (by omega)) (z_get zz_13 ha hb _ (List.mem_of_getElem? (i := 0) rfl) _ (List.mem_of_getElem? (i := 0) rfl)) hn1
    · exact lw_giveM C hend hR hc1 hc2 (lwp_0 (k := 0) (by decide) (by omega)) (lwp_0 (k := 1) (by decide) (by omega)) (lwp_0 (k := place) (by omega) hpl) (lwp_0 (k := mask) (by omega) hmk) (gz_1 ha hb htl (by omega) (by omega) (by omega)) hn1
  · exact lw_giveM C hend hR hc1 hc2 (lwp_0 (k := 0) (by decide) (by omega)) (lwp_0 (k := 2) (by decide) (by omega)) (lwp_0 (k := place) (by omega) hpl) (lwp_0 (k := mask) (by omega) hmk) (gz_2 ha hb htl (by omega) (by omega) (by omega)) hn1
end GY
