/-! MINE: both sides -/
section GY
variable {p : Program} {l : Launch} {e : Env} {R : Room} {s : State} {m : MethodId} {args : Array Value} {below : List Frame} {meth : Method} {c : Code} {D : va_G} {tys : List (ClassId × FieldType)} {A : Nat → Prop} {tb : Nat → Nat} {Q : State → Prop} {b0 : Nat} {xs : Nat → Int32}
variable {cells slots : Nat} {a b : mv_R}

theorem gz_of2 (htl : tys.map Prod.snd = tt_tl) {kx km F1 L1 F2 L2 n n1 dc ds base v cx cm nx nm X Y : Nat} {as : List mv_V} {w w1 w2 : mv_T 10} (hk1 : plainName (tt_my kx).cls = true) (hk2 : plainName (tt_my km).cls = true) (ho : mv_oks as = true) (hb : base < 1024) (hcs1 : mv_cs ((2, 0, 0) :: as) ≤ tt_mL kx) (hcs2 : mv_cs ((2, base, 0) :: as) ≤ tt_mL km) (hm1 : tt_mci kx = cx) (hm2 : tt_mci km = cm) (hr1 : mv_get 10 w 0 = (0, cx, nx, X)) (hC : sy_B kx n F1 L1 ((2, 0, 0) :: as) w [(0, v, 0)] n1 w1 dc ds) (hdc : dc ≤ 900 ∧ ds ≤ 1000000) (hr2 : mv_get 10 w1 base = (0, cm, nm, Y)) (hD : sy_C km n1 F2 L2 ((2, base, 0) :: as) w1 [(0, v, 0)] w2) (hF : (F1 ≤ 12 ∧ L1 ≤ 500) ∧ F2 ≤ 12 ∧ L2 ≤ 500) : ∃ (r q : mv_R) (x y : mv_V), mv_rcv 3 (tt_mci kx) ((2, 0, 0) :: as) w = true ∧ mv_Met l D tt_cl tys tb (mv_E tt_nst tt_aos tt_zs tt_zt tb) (tt_my kx) (Cond.code (tt_my kx) (tt_mcc kx) (tt_mL kx) (tt_mret kx) :: tt_mw) ((2, 0, 0) :: as) n w r ∧ mv_rcv 3 (tt_mci km) ((2, base, 0) :: as) r.2.2.1 = true ∧ mv_Met l D tt_cl tys tb (mv_E tt_nst tt_aos tt_zs tt_zt tb) (tt_my km) (Cond.code (tt_my km) (tt_mcc km) (tt_mL km) (tt_mret km) :: tt_mw) ((2, base, 0) :: as) r.2.1 r.2.2.1 q ∧ r.1 = [x] ∧ q.1 = [y] ∧ mv_eq x y = some true ∧ z_ok r = true ∧ z_ok q = true := by
  obtain ⟨f1, r1⟩ := hC
  obtain ⟨f2, r2⟩ := hD
  have ok : ∀ {a b c d n : Nat} {ret : List mv_V} {w : mv_T 10}, c ≤ 900 → d ≤ 1000000 → a ≤ 12 → b ≤ 500 → z_ok (ret, n, w, c, d, a, b) = true := by
    intro a b c d n ret w h3 h4 h1 h2
    unfold z_ok
    simp only [Bool.and_eq_true, Nat.ble_eq]
    exact ⟨⟨h3, h4⟩, h1, h2⟩
  exact ⟨_, _, _, _, sy_rcvm hm1 hr1, sy_met htl hk1 (sy_oks_cons rfl ho) hcs1 r1, sy_rcvm hm2 hr2, sy_met htl hk2 (sy_oks_cons (sy_ok2 hb) ho) hcs2 r2, rfl, rfl, sy_eq_y rfl, ok hdc.1 hdc.2 hF.1.1 hF.1.2, ok (by decide) (by decide) hF.2.1 hF.2.2⟩
theorem gi63 : tt_mci 63 = 1 := by decide +kernel
theorem gi135 : tt_mci 135 = 0 := by decide +kernel
theorem gz_mineZ {sec : Nat} (ha : z_c = some a) (hb : z_m a = some b) (htl : tys.map Prod.snd = tt_tl) (hsec : sec ≤ 1000) : ∃ (r q : mv_R) (x y : mv_V), mv_rcv 3 (tt_mci 63) [(2, 0, 0), (0, 0, 0), (0, sec, 0)] b.2.2.1 = true ∧ mv_Met l D tt_cl tys tb (mv_E tt_nst tt_aos tt_zs tt_zt tb) (tt_my 63) (Cond.code (tt_my 63) (tt_mcc 63) (tt_mL 63) (tt_mret 63) :: tt_mw) [(2, 0, 0), (0, 0, 0), (0, sec, 0)] b.2.1 b.2.2.1 r ∧ mv_rcv 3 (tt_mci 135) [(2, a.2.1, 0), (0, 0, 0), (0, sec, 0)] r.2.2.1 = true ∧ mv_Met l D tt_cl tys tb (mv_E tt_nst tt_aos tt_zs tt_zt tb) (tt_my 135) (Cond.code (tt_my 135) (tt_mcc 135) (tt_mL 135) (tt_mret 135) :: tt_mw) [(2, a.2.1, 0), (0, 0, 0), (0, sec, 0)] r.2.1 r.2.2.1 q ∧ r.1 = [x] ∧ q.1 = [y] ∧ mv_eq x y = some true ∧ z_ok r = true ∧ z_ok q = true := by
  refine zm_use ha hb ?_
  intro pl X0 X1 cbs X3 Hd Id Ids Ads Br Dg X10 Sp Sw Ss In Mk Is Os Ks Kp ac su sl kl pr X0r Pcr Wdr Vvr Str Afr Mir Hdr Bir Bfr Hgr Tmr Bor Wkr Pnr Bsr Mtr Pstr Pplr Pszr Bbr Pidr Sor Fnr Fcr Flr Fsr Our Lyr Nor Bur thr upr lpr scr bar h0 hw hX0 hX1 hX3 hX10 hbs hab4 hab5 hab6 hab11 hab19 hab15 ht hd hmk hsu hsl hac hkl g0 hv hY0 hA hh0 ht0 hb00 hw0 hBu hId xd xp xm
  have q : ∀ K, 20 ≤ K → pl K + 1 = pl (K + 1) := by
    intro K hK
    rw [xp K hK, xp (K + 1) (by omega)]
    omega
  have p20 : pl 20 = b.2.1 := xp 20 (by decide)
  have r1 : mv_get 10 b.2.2.1 0 = (0, 1, 13, X0) := by
    have h := wh_at hw 0 rfl
    rw [h0] at h
    exact h
  have lb : a.2.1 < 1024 := by
    have h := wh_lt hv 0 (by decide)
    rw [g0] at h
    exact h
  obtain ⟨ret, n1, w1, dc, ds, ⟨rfl, rfl, rfl, rfl, hE⟩, hB⟩ := cj_mine hw hX0 hX1 hX3 hX10 (q 20 (by decide)) (q 21 (by decide)) (q 22 (by decide)) (q 23 (by decide)) (q 24 (by decide)) (q 25 (by decide)) (q 26 (by decide)) (q 27 (by decide)) (q 28 (by decide)) (q 29 (by decide)) hbs hab5 hmk ht hd hsec
  rw [p20, h0] at hB
  have hv2 := wh_move (cs' := []) hv hE xd
  have r2 : mv_get 10 w1 a.2.1 = (0, 0, 107, X0r) := by
    have h := wh_at hv2 0 rfl
    rw [g0] at h
    exact h
  obtain ⟨ret2, w2, rfl, hD⟩ := wq_mine (n := pl 30) hv2 hY0 hsec hA hh0 ht0 hb00 hw0 hBu hId
  rw [g0] at hD
  exact gz_of2 (base := a.2.1) htl (tt_mb 63 (by decide)).1 (tt_mb 135 (by decide)).1 (sy_oks_cons (sy_ok0 (by decide)) (sy_oks_cons (sy_ok0 (by omega)) sy_oks_nil)) lb (by rw [mL63]; exact (by decide : 3 ≤ 6)) (by rw [mL135]; exact (by decide : 3 ≤ 5)) gi63 gi135 r1 hB ⟨by decide, by decide⟩ r2 hD ⟨⟨by decide, by decide⟩, by decide, by decide⟩
theorem gz_mine (C : lg_C p s m args meth c D tys A tb b0 6 xs) (hend : ∀ (ls : List mv_V) (n : Nat) (w : mv_T 10) (cells slots : Nat), cells ≤ R.cells → slots ≤ R.slots → lg_G p l e R s m args below meth c D tys A tb Q 957 ls [(0, 1, 0)] n w cells slots) (hR : 13 ≤ R.frames ∧ 560 ≤ R.locals) (hc1 : cells + 1800 ≤ R.cells) (hc2 : slots + 2000000 ≤ R.slots) (ha : z_c = some a) (hb : z_m a = some b) (hn1 : a.2.1 < 1000) (e1 : (xs 1).toInt = 0) (e2 : 0 ≤ (xs 2).toInt) (e3 : (xs 2).toInt ≤ 1000) : lg_G p l e R s m args below meth c D tys A tb Q 383 [(6, 7, 0), (2, 0, 0), (2, a.2.1, 0), (0, 0, 0)] [] b.2.1 b.2.2.1 cells slots := by
  have htl := C.1.2.2.2.2.2.2.2.2.2
  obtain ⟨sec, hs⟩ : ∃ k : Nat, (xs 2).toInt = (k : Int) := ⟨(xs 2).toInt.toNat, by omega⟩
  exact lw_mineM C hend hR hc1 hc2 (lwp_0 (k := 0) (by decide) (by omega)) (lwp_0 (k := sec) (by omega) hs) (gz_mineZ ha hb htl (by omega)) hn1
end GY
