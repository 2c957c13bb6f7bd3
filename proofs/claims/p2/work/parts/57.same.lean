/-! BOTH HASHES ARE ONE: the stream of bytes, its blocks, the state behind them -/
theorem cg_b {P P' i : Nat} (h : ∀ j, j < 64 → mv_rd 32 P j = mv_rd 32 P' j) (hi : i < 16) : mc_b P i = mc_b P' i := by
  unfold mc_b
  rw [h (4 * i) (by omega), h (4 * i + 1) (by omega), h (4 * i + 2) (by omega), h (4 * i + 3) (by omega)]
theorem cg_W1 {P P' W W' : Nat} (h : ∀ j, j < 64 → mv_rd 32 P j = mv_rd 32 P' j) : ∀ m, m ≤ 16 → ∀ j, j < m → mv_rd 32 (mc_W1 P W m) j = mv_rd 32 (mc_W1 P' W' m) j
  | 0, _, _, hj => absurd hj (Nat.not_lt_zero _)
  | m + 1, hm, j, hj => by
    show mv_rd 32 (mv_wr 32 (mc_W1 P W m) m (mc_b P m)) j = mv_rd 32 (mv_wr 32 (mc_W1 P' W' m) m (mc_b P' m)) j
    rw [mv_rd_wr, mv_rd_wr, cg_b h (show m < 16 by omega)]
    by_cases e : j = m
    · rw [if_pos e, if_pos e]
    · rw [if_neg e, if_neg e]
      exact cg_W1 h m (by omega) j (by omega)
theorem cg_c {W W' i : Nat} (h : ∀ j, j < i → mv_rd 32 W j = mv_rd 32 W' j) (hi : 16 ≤ i) : mc_c W i = mc_c W' i := by
  unfold mc_c
  rw [h (i - 16) (by omega), h (i - 7) (by omega), h (i - 15) (by omega), h (i - 2) (by omega)]
theorem cg_W2 {W W' : Nat} (h : ∀ j, j < 16 → mv_rd 32 W j = mv_rd 32 W' j) : ∀ m, ∀ j, j < 16 + m → mv_rd 32 (mc_W2 W m) j = mv_rd 32 (mc_W2 W' m) j
  | 0, j, hj => h j hj
  | m + 1, j, hj => by
    show mv_rd 32 (mv_wr 32 (mc_W2 W m) (16 + m) (mc_c (mc_W2 W m) (16 + m))) j = mv_rd 32 (mv_wr 32 (mc_W2 W' m) (16 + m) (mc_c (mc_W2 W' m) (16 + m))) j
    rw [mv_rd_wr, mv_rd_wr, cg_c (cg_W2 h m) (by omega)]
    by_cases e : j = 16 + m
    · rw [if_pos e, if_pos e]
    · rw [if_neg e, if_neg e]
      exact cg_W2 h m j (by omega)
theorem cg_R {W W' : Nat} {v : mc_V} (h : ∀ j, j < 64 → mv_rd 32 W j = mv_rd 32 W' j) : ∀ m, m ≤ 64 → mc_R W v m = mc_R W' v m
  | 0, _ => rfl
  | m + 1, hm => by
    show mc_f W m (mc_R W v m) = mc_f W' m (mc_R W' v m)
    rw [cg_R h m (by omega)]
    unfold mc_f
    rw [h m (by omega)]
theorem cg_e (St : Nat) (v : mc_V) : mv_rd 32 (mc_end St v) 0 = mo_add (mv_rd 32 St 0) v.1 ∧ mv_rd 32 (mc_end St v) 1 = mo_add (mv_rd 32 St 1) v.2.1 ∧ mv_rd 32 (mc_end St v) 2 = mo_add (mv_rd 32 St 2) v.2.2.1 ∧ mv_rd 32 (mc_end St v) 3 = mo_add (mv_rd 32 St 3) v.2.2.2.1 ∧ mv_rd 32 (mc_end St v) 4 = mo_add (mv_rd 32 St 4) v.2.2.2.2.1 ∧ mv_rd 32 (mc_end St v) 5 = mo_add (mv_rd 32 St 5) v.2.2.2.2.2.1 ∧ mv_rd 32 (mc_end St v) 6 = mo_add (mv_rd 32 St 6) v.2.2.2.2.2.2.1 ∧ mv_rd 32 (mc_end St v) 7 = mo_add (mv_rd 32 St 7) v.2.2.2.2.2.2.2 := by
  obtain ⟨a, b, c, d, e, f, g, h⟩ := v
  unfold mc_end
  dsimp only
  unfold mc_a1
  simp only [mv_rd_wr]
  simp [ag_m, mo_add_lt]
theorem cg_S {P P' W W' St St' : Nat} (h : ∀ j, j < 64 → mv_rd 32 P j = mv_rd 32 P' j) (hs : ∀ i, i < 8 → mv_rd 32 St i = mv_rd 32 St' i) : ∀ i, i < 8 → mv_rd 32 (mc_Sf P W St) i = mv_rd 32 (mc_Sf P' W' St') i := by
  have e0 : mc_v0 St = mc_v0 St' := by
    unfold mc_v0
    rw [hs 0 (by decide), hs 1 (by decide), hs 2 (by decide), hs 3 (by decide), hs 4 (by decide), hs 5 (by decide), hs 6 (by decide), hs 7 (by decide)]
  have eW : ∀ j, j < 64 → mv_rd 32 (mc_Wf P W) j = mv_rd 32 (mc_Wf P' W') j := fun j hj => cg_W2 (fun i hi => cg_W1 h 16 (Nat.le_refl 16) i hi) 48 j hj
  intro i hi
  unfold mc_Sf
  rw [e0, cg_R eW 64 (Nat.le_refl 64)]
  obtain ⟨a0, a1, a2, a3, a4, a5, a6, a7⟩ := cg_e St (mc_R (mc_Wf P' W') (mc_v0 St') 64)
  obtain ⟨b0, b1, b2, b3, b4, b5, b6, b7⟩ := cg_e St' (mc_R (mc_Wf P' W') (mc_v0 St') 64)
  match i, hi with
  | 0, _ => rw [a0, b0, hs 0 (by decide)]
  | 1, _ => rw [a1, b1, hs 1 (by decide)]
  | 2, _ => rw [a2, b2, hs 2 (by decide)]
  | 3, _ => rw [a3, b3, hs 3 (by decide)]
  | 4, _ => rw [a4, b4, hs 4 (by decide)]
  | 5, _ => rw [a5, b5, hs 5 (by decide)]
  | 6, _ => rw [a6, b6, hs 6 (by decide)]
  | 7, _ => rw [a7, b7, hs 7 (by decide)]
  | i + 8, h => exact absurd h (by omega)
/-- a block of the stream, and the states -/
def bk_r (B : Nat → Nat) (o : Nat) : Nat → Nat
  | 0 => 0
  | m + 1 => mv_wr 32 (bk_r B o m) m (B (o + m))
theorem bk_rd (B : Nat → Nat) (o : Nat) : ∀ m j, j < m → mv_rd 32 (bk_r B o m) j = B (o + j) % 2 ^ 32
  | 0, _, h => absurd h (Nat.not_lt_zero _)
  | m + 1, j, h => by
    show mv_rd 32 (mv_wr 32 (bk_r B o m) m (B (o + m))) j = _
    rw [mv_rd_wr]
    by_cases e : j = m
    · rw [if_pos e, e]
    · rw [if_neg e]
      exact bk_rd B o m j (by omega)
def bk_G (B : Nat → Nat) (S0 : Nat) : Nat → Nat
  | 0 => S0
  | k + 1 => mc_Sf (bk_r B (64 * k) 64) 0 (bk_G B S0 k)
/-- t bytes of the stream went in -/
def bk_I (B : Nat → Nat) (S0 t u P St : Nat) : Prop := u = t % 64 ∧ (∀ j, j < u → mv_rd 32 P j = B (64 * (t / 64) + j) % 2 ^ 32) ∧ ∀ i, i < 8 → mv_rd 32 St i = mv_rd 32 (bk_G B S0 (t / 64)) i
theorem bk_full {B : Nat → Nat} {S0 k P W St : Nat} (hP : ∀ j, j < 64 → mv_rd 32 P j = B (64 * k + j) % 2 ^ 32) (hS : ∀ i, i < 8 → mv_rd 32 St i = mv_rd 32 (bk_G B S0 k) i) : ∀ i, i < 8 → mv_rd 32 (mc_Sf P W St) i = mv_rd 32 (bk_G B S0 (k + 1)) i := by
  show ∀ i, i < 8 → mv_rd 32 (mc_Sf P W St) i = mv_rd 32 (mc_Sf (bk_r B (64 * k) 64) 0 (bk_G B S0 k)) i
  exact cg_S (fun j hj => by rw [hP j hj, bk_rd B (64 * k) 64 j hj]) hS
theorem bk_put {B : Nat → Nat} {t u P b : Nat} (hu : u = t % 64) (h : ∀ j, j < u → mv_rd 32 P j = B (64 * (t / 64) + j) % 2 ^ 32) (hb : b % 2 ^ 32 = B t % 2 ^ 32) : ∀ j, j < u + 1 → mv_rd 32 (mv_wr 32 P u b) j = B (64 * (t / 64) + j) % 2 ^ 32 := by
  intro j hj
  rw [mv_rd_wr]
  by_cases e : j = u
  · rw [if_pos e, hb, e, hu, Nat.div_add_mod]
  · rw [if_neg e]
    exact h j (by omega)
theorem bk_sh {B : Nat → Nat} {S0 t b : Nat} {s : sh_T} (h : bk_I B S0 t s.1 s.2.2.1 s.2.2.2.2) (hb : b % 2 ^ 32 = B t % 2 ^ 32) : bk_I B S0 (t + 1) (sh_1 b s).1 (sh_1 b s).2.2.1 (sh_1 b s).2.2.2.2 := by
  obtain ⟨h1, h2, h3⟩ := h
  have hp := bk_put h1 h2 hb
  unfold sh_1
  cases hb2 : Nat.beq (s.1 + 1) 64 with
  | true =>
    have e := Nat.eq_of_beq_eq_true hb2
    have ed : (t + 1) / 64 = t / 64 + 1 := by omega
    refine ⟨by show 0 = (t + 1) % 64; omega, fun j hj => absurd hj (Nat.not_lt_zero _), ?_⟩
    rw [ed]
    exact bk_full (fun j hj => hp j (by omega)) h3
  | false =>
    have hn : s.1 + 1 ≠ 64 := fun e => by rw [e] at hb2; cases hb2
    have ed : (t + 1) / 64 = t / 64 := by omega
    refine ⟨by show s.1 + 1 = (t + 1) % 64; omega, ?_, ?_⟩
    · rw [ed]; exact hp
    · rw [ed]; exact h3
theorem bk_rs {B : Nat → Nat} {S0 t b : Nat} {s : rs_T} (h : bk_I B S0 t s.1 s.2.2.1 s.2.2.2.2.2) (hb : mn_b (mn_b b) % 2 ^ 32 = B t % 2 ^ 32) : bk_I B S0 (t + 1) (rs_1 mc_K b s).1 (rs_1 mc_K b s).2.2.1 (rs_1 mc_K b s).2.2.2.2.2 := by
  obtain ⟨h1, h2, h3⟩ := h
  have hp := bk_put h1 h2 hb
  unfold rs_1
  cases hb2 : Nat.beq (s.1 + 1) 64 with
  | true =>
    have e := Nat.eq_of_beq_eq_true hb2
    have ed : (t + 1) / 64 = t / 64 + 1 := by omega
    refine ⟨by show 0 = (t + 1) % 64; omega, fun j hj => absurd hj (Nat.not_lt_zero _), ?_⟩
    rw [ed]
    show ∀ i, i < 8 → mv_rd 32 (mr_Sf mc_K (mv_wr 32 s.2.2.1 s.1 (mn_b (mn_b b))) s.2.2.2.1 s.2.2.2.2.1 s.2.2.2.2.2) i = _
    rw [← ag_S _ 0]
    exact bk_full (fun j hj => hp j (by omega)) h3
  | false =>
    have hn : s.1 + 1 ≠ 64 := fun e => by rw [e] at hb2; cases hb2
    have ed : (t + 1) / 64 = t / 64 := by omega
    refine ⟨by show s.1 + 1 = (t + 1) % 64; omega, ?_, ?_⟩
    · rw [ed]; exact hp
    · rw [ed]; exact h3
theorem mn_bb (a : Nat) : mn_b (mn_b a) = mn_b a := by
  unfold mn_b
  omega
theorem mn_b_eq {a b : Nat} (h : a % 256 = b % 256) : mn_b a = mn_b b := by
  unfold mn_b
  rw [h]
/-- the stream of a message f of n bytes, with its end; N blocks -/
def bk_N (n : Nat) : Nat := (n + 72) / 64
def bk_B (f : Nat → Nat) (n j : Nat) : Nat := if j < n then mn_b (f j) else if j = n then mn_b 128 else if j < 64 * bk_N n - 4 then 0 else mn_b (8 * n / 2 ^ (8 * (64 * bk_N n - 1 - j)))
theorem bk_sh_n {f : Nat → Nat} {n S0 C a : Nat} {s : sh_T} (hf : ∀ j, j < n → mv_rd 32 C (a + j) = f j) (h : bk_I (bk_B f n) S0 0 s.1 s.2.2.1 s.2.2.2.2) : ∀ m, m ≤ n → bk_I (bk_B f n) S0 m (sh_n C a s m).1 (sh_n C a s m).2.2.1 (sh_n C a s m).2.2.2.2
  | 0, _ => h
  | m + 1, hm => bk_sh (bk_sh_n hf h m (by omega)) (by rw [hf m (by omega)]; unfold bk_B; rw [if_pos (show m < n by omega)])
theorem bk_rs_n {f : Nat → Nat} {n S0 C a : Nat} {s : rs_T} (hf : ∀ j, j < n → mv_rd 32 C (a + j) = f j) (h : bk_I (bk_B f n) S0 0 s.1 s.2.2.1 s.2.2.2.2.2) : ∀ m, m ≤ n → bk_I (bk_B f n) S0 m (rs_n mc_K C a s m).1 (rs_n mc_K C a s m).2.2.1 (rs_n mc_K C a s m).2.2.2.2.2
  | 0, _ => h
  | m + 1, hm => bk_rs (bk_rs_n hf h m (by omega)) (by rw [hf m (by omega), mn_bb]; unfold bk_B; rw [if_pos (show m < n by omega)])
/-- the class's end -/
theorem fi_rd (T a v j : Nat) : ∀ m, mv_rd 32 (fi_T T a v m) j = if a ≤ j ∧ j < a + m then mn_b v % 2 ^ 32 else mv_rd 32 T j
  | 0 => by rw [if_neg (by omega)]; rfl
  | m + 1 => by
    show mv_rd 32 (mv_wr 32 (fi_T T a v m) (a + m) (mn_b v)) j = _
    rw [mv_rd_wr, fi_rd T a v j m]
    by_cases e : j = a + m
    · rw [if_pos e, if_pos (by omega)]
    · rw [if_neg e]
      by_cases h : a ≤ j ∧ j < a + m
      · rw [if_pos h, if_pos (by omega)]
      · rw [if_neg h, if_neg (by omega)]
theorem su_rd (T at_ v j : Nat) : mv_rd 32 (su_4 T at_ v) j = if j = at_ + 3 then mn_b v % 2 ^ 32 else if j = at_ + 2 then mn_b (mo_shr v 8) % 2 ^ 32 else if j = at_ + 1 then mn_b (mo_shr v 16) % 2 ^ 32 else if j = at_ then mn_b (mo_shr v 24) % 2 ^ 32 else mv_rd 32 T j := by
  unfold su_4 su_1
  rw [mv_rd_wr, mv_rd_wr, mv_rd_wr, mv_rd_wr, mn_bb, mn_bb, mn_bb, mn_bb]
theorem mo_shr_s {v : Nat} (hv : v < 16777216) : mo_shr v 24 = v / 2 ^ 24 ∧ mo_shr v 16 = v / 2 ^ 16 ∧ mo_shr v 8 = v / 2 ^ 8 := by
  have e : mn_up v = v + 2147483648 := sy_up (by omega)
  unfold mo_shr
  rw [e]
  refine ⟨?_, ?_, ?_⟩
  · show ((v + 2147483648) / 16777216 + (4294967296 - 2147483648 / 16777216)) % 4294967296 = v / 16777216
    omega
  · show ((v + 2147483648) / 65536 + (4294967296 - 2147483648 / 65536)) % 4294967296 = v / 65536
    omega
  · show ((v + 2147483648) / 256 + (4294967296 - 2147483648 / 256)) % 4294967296 = v / 256
    omega
theorem bk_last {f : Nat → Nat} {n P u k : Nat} (hn : n < 1048576) (hu : u ≤ 56) (hk : 64 * k + 64 = 64 * bk_N n) (hle : n < 64 * k + u) (h : ∀ j, j < u → mv_rd 32 P j = bk_B f n (64 * k + j) % 2 ^ 32) : ∀ j, j < 64 → mv_rd 32 (su_4 (fi_T P u 0 (64 - u)) 60 (mo_mul 8 n)) j = bk_B f n (64 * k + j) % 2 ^ 32 := by
  intro j hj
  have ev : mo_mul 8 n = 8 * n := Nat.mod_eq_of_lt (by omega)
  obtain ⟨s1, s2, s3⟩ := mo_shr_s (v := 8 * n) (by omega)
  rw [su_rd, fi_rd, ev, s1, s2, s3]
  have z0 : mn_b 0 % 2 ^ 32 = 0 := by decide
  rcases Nat.lt_or_ge j u with z | z
  · rw [if_neg (by omega), if_neg (by omega), if_neg (by omega), if_neg (by omega), if_neg (by omega)]
    exact h j z
  · have a1 : ¬ 64 * k + j < n := by omega
    have a2 : ¬ 64 * k + j = n := by omega
    unfold bk_B
    rw [if_neg a1, if_neg a2]
    rcases Nat.lt_or_ge j 60 with y | y
    · rw [if_neg (show ¬ j = 60 + 3 by omega), if_neg (show ¬ j = 60 + 2 by omega), if_neg (show ¬ j = 60 + 1 by omega), if_neg (show ¬ j = 60 by omega), if_pos (show u ≤ j ∧ j < u + (64 - u) by omega), if_pos (show 64 * k + j < 64 * bk_N n - 4 by omega), z0]
    · rw [if_neg (show ¬ 64 * k + j < 64 * bk_N n - 4 by omega)]
      have hj4 : j = 60 ∨ j = 61 ∨ j = 62 ∨ j = 63 := by omega
      rcases hj4 with e | e | e | e
      · subst e
        rw [if_neg (by decide), if_neg (by decide), if_neg (by decide), if_pos rfl, show 64 * bk_N n - 1 - (64 * k + 60) = 3 by omega]
      · subst e
        rw [if_neg (by decide), if_neg (by decide), if_pos rfl, show 64 * bk_N n - 1 - (64 * k + 61) = 2 by omega]
      · subst e
        rw [if_neg (by decide), if_pos rfl, show 64 * bk_N n - 1 - (64 * k + 62) = 1 by omega]
      · subst e
        rw [if_pos rfl, show 64 * bk_N n - 1 - (64 * k + 63) = 0 by omega]
        simp
theorem bk_she {f : Nat → Nat} {n S0 : Nat} {s : sh_T} (hn : n < 1048576) (hl : s.2.1 = n) (h : bk_I (bk_B f n) S0 n s.1 s.2.2.1 s.2.2.2.2) : ∀ i, i < 8 → mv_rd 32 (sh_e s).2.2.2.2 i = mv_rd 32 (bk_G (bk_B f n) S0 (bk_N n)) i := by
  obtain ⟨u, l, P, W, St⟩ := s
  dsimp only at hl h
  subst hl
  obtain ⟨h1, h2, h3⟩ := h
  have e128 : mn_b 4294967168 % 2 ^ 32 = bk_B f l l % 2 ^ 32 := by
    unfold bk_B
    rw [if_neg (Nat.lt_irrefl l), if_pos rfl]
    decide
  have hp := bk_put h1 h2 e128
  have hN : bk_N l = (l + 72) / 64 := rfl
  by_cases hc : u + 1 ≤ 56
  · have e2 : sh_e2 (sh_e1 (u, l, P, W, St)) = sh_e1 (u, l, P, W, St) := by
      unfold sh_e2
      rw [show Nat.ble (sh_e1 (u, l, P, W, St)).1 56 = true from Nat.ble_eq_true_of_le hc]
      rfl
    unfold sh_e
    rw [e2]
    show ∀ i, i < 8 → mv_rd 32 (mc_Sf (su_4 (fi_T (mv_wr 32 P u (mn_b 4294967168)) (u + 1) 0 (64 - (u + 1))) 60 (mo_mul 8 l)) W St) i = _
    rw [show bk_N l = l / 64 + 1 by omega]
    exact bk_full (bk_last hn hc (by omega) (by omega) hp) h3
  · have e2 : sh_e2 (sh_e1 (u, l, P, W, St)) = sh_cm (fi_T (mv_wr 32 P u (mn_b 4294967168)) (u + 1) 0 (64 - (u + 1))) (sh_e1 (u, l, P, W, St)) := by
      unfold sh_e2
      rw [show Nat.ble (sh_e1 (u, l, P, W, St)).1 56 = false by cases hb : Nat.ble (sh_e1 (u, l, P, W, St)).1 56 with
        | false => rfl
        | true => exact absurd (Nat.le_of_ble_eq_true hb) hc]
      rfl
    unfold sh_e
    rw [e2]
    have z0 : mn_b 0 % 2 ^ 32 = 0 := by decide
    have hP2 : ∀ j, j < 64 → mv_rd 32 (fi_T (mv_wr 32 P u (mn_b 4294967168)) (u + 1) 0 (64 - (u + 1))) j = bk_B f l (64 * (l / 64) + j) % 2 ^ 32 := by
      intro j hj
      rw [fi_rd]
      by_cases hju : j < u + 1
      · rw [if_neg (by omega)]
        exact hp j hju
      · rw [if_pos (by omega), z0]
        unfold bk_B
        rw [if_neg (by omega), if_neg (by omega), if_pos (by omega)]
    have hG := bk_full (W := W) hP2 h3
    show ∀ i, i < 8 → mv_rd 32 (mc_Sf (su_4 (fi_T (fi_T (mv_wr 32 P u (mn_b 4294967168)) (u + 1) 0 (64 - (u + 1))) 0 0 (64 - 0)) 60 (mo_mul 8 l)) (mc_Wf (fi_T (mv_wr 32 P u (mn_b 4294967168)) (u + 1) 0 (64 - (u + 1))) W) (mc_Sf (fi_T (mv_wr 32 P u (mn_b 4294967168)) (u + 1) 0 (64 - (u + 1))) W St)) i = _
    rw [show bk_N l = l / 64 + 1 + 1 by omega]
    refine bk_full (fun j hj => ?_) hG
    have ev : mo_mul 8 l = 8 * l := Nat.mod_eq_of_lt (by omega)
    obtain ⟨s1, s2, s3⟩ := mo_shr_s (v := 8 * l) (by omega)
    rw [su_rd, fi_rd, ev, s1, s2, s3]
    unfold bk_B
    rw [if_neg (show ¬ 64 * (l / 64 + 1) + j < l by omega), if_neg (show ¬ 64 * (l / 64 + 1) + j = l by omega)]
    rcases Nat.lt_or_ge j 60 with y | y
    · rw [if_neg (show ¬ j = 60 + 3 by omega), if_neg (show ¬ j = 60 + 2 by omega), if_neg (show ¬ j = 60 + 1 by omega), if_neg (show ¬ j = 60 by omega), if_pos (show 0 ≤ j ∧ j < 0 + (64 - 0) by omega), if_pos (show 64 * (l / 64 + 1) + j < 64 * bk_N l - 4 by omega), z0]
    · rw [if_neg (show ¬ 64 * (l / 64 + 1) + j < 64 * bk_N l - 4 by omega)]
      have hj4 : j = 60 ∨ j = 61 ∨ j = 62 ∨ j = 63 := by omega
      rcases hj4 with e | e | e | e
      · subst e
        rw [if_neg (by decide), if_neg (by decide), if_neg (by decide), if_pos rfl, show 64 * bk_N l - 1 - (64 * (l / 64 + 1) + 60) = 3 by omega]
      · subst e
        rw [if_neg (by decide), if_neg (by decide), if_pos rfl, show 64 * bk_N l - 1 - (64 * (l / 64 + 1) + 61) = 2 by omega]
      · subst e
        rw [if_neg (by decide), if_pos rfl, show 64 * bk_N l - 1 - (64 * (l / 64 + 1) + 62) = 1 by omega]
      · subst e
        rw [if_pos rfl, show 64 * bk_N l - 1 - (64 * (l / 64 + 1) + 63) = 0 by omega]
        simp
/-- the reference's end -/
theorem bk_rsz {f : Nat → Nat} {n S0 : Nat} : ∀ (d t : Nat) (s : rs_T), n < t → t + d ≤ 64 * bk_N n - 4 → bk_I (bk_B f n) S0 t s.1 s.2.2.1 s.2.2.2.2.2 → bk_I (bk_B f n) S0 (t + d) (rs_z mc_K s d).1 (rs_z mc_K s d).2.2.1 (rs_z mc_K s d).2.2.2.2.2
  | 0, _, _, _, _, h => h
  | d + 1, t, s, h1, h2, h => by
    have hb : mn_b (mn_b 0) % 2 ^ 32 = bk_B f n t % 2 ^ 32 := by
      unfold bk_B
      rw [if_neg (by omega), if_neg (by omega), if_pos (by omega)]
      decide
    have := bk_rsz d (t + 1) (rs_1 mc_K 0 s) (by omega) (by omega) (bk_rs h hb)
    rw [show t + (d + 1) = t + 1 + d by omega]
    exact this
theorem bk_lb {n m : Nat} (hn : n < 1048576) (hm : m < 8) : mn_b (mn_b (rs_lb (8 * n) m)) = mn_b (8 * n / 2 ^ (8 * (7 - m))) := by
  rw [mn_bb]
  apply mn_b_eq
  unfold rs_lb mo_and mo_lushr
  have e : ∀ a : Nat, a &&& 255 = a % 256 := fun a => Nat.and_two_pow_sub_one_eq_mod a 8
  rw [e]
  match m, hm with
  | 0, _ => show (8 * n % 18446744073709551616 / 72057594037927936 % 4294967296) % 256 % 256 = 8 * n / 72057594037927936 % 256; omega
  | 1, _ => show (8 * n % 18446744073709551616 / 281474976710656 % 4294967296) % 256 % 256 = 8 * n / 281474976710656 % 256; omega
  | 2, _ => show (8 * n % 18446744073709551616 / 1099511627776 % 4294967296) % 256 % 256 = 8 * n / 1099511627776 % 256; omega
  | 3, _ => show (8 * n % 18446744073709551616 / 4294967296 % 4294967296) % 256 % 256 = 8 * n / 4294967296 % 256; omega
  | 4, _ => show (8 * n % 18446744073709551616 / 16777216 % 4294967296) % 256 % 256 = 8 * n / 16777216 % 256; omega
  | 5, _ => show (8 * n % 18446744073709551616 / 65536 % 4294967296) % 256 % 256 = 8 * n / 65536 % 256; omega
  | 6, _ => show (8 * n % 18446744073709551616 / 256 % 4294967296) % 256 % 256 = 8 * n / 256 % 256; omega
  | 7, _ => show (8 * n % 18446744073709551616 / 1 % 4294967296) % 256 % 256 = 8 * n / 1 % 256; omega
  | m + 8, h => exact absurd h (by omega)
theorem bk_rsl {f : Nat → Nat} {n S0 : Nat} {s : rs_T} (hn : n < 1048576) (h : bk_I (bk_B f n) S0 (64 * bk_N n - 8) s.1 s.2.2.1 s.2.2.2.2.2) : ∀ m, m ≤ 8 → bk_I (bk_B f n) S0 (64 * bk_N n - 8 + m) (rs_l mc_K (8 * n) s m).1 (rs_l mc_K (8 * n) s m).2.2.1 (rs_l mc_K (8 * n) s m).2.2.2.2.2
  | 0, _ => h
  | m + 1, hm => by
    have hN : bk_N n = (n + 72) / 64 := rfl
    have ih := bk_rsl hn h m (by omega)
    refine bk_rs (t := 64 * bk_N n - 8 + m) ih ?_
    rw [bk_lb hn (by omega)]
    unfold bk_B
    rw [if_neg (by omega), if_neg (by omega)]
    by_cases h4 : m < 4
    · rw [if_pos (by omega)]
      have e0 : 8 * n / 2 ^ (8 * (7 - m)) = 0 := by
        apply Nat.div_eq_of_lt
        exact Nat.lt_of_lt_of_le (show 8 * n < 2 ^ 32 by omega) (Nat.pow_le_pow_right (by decide) (by omega))
      rw [e0]
      decide
    · rw [if_neg (by omega), show 64 * bk_N n - 1 - (64 * bk_N n - 8 + m) = 7 - m by omega]
theorem bk_rse {f : Nat → Nat} {n S0 : Nat} {s : rs_T} (hn : n < 1048576) (hl : s.2.1 = n) (hs : s.1 < 64) (h : bk_I (bk_B f n) S0 n s.1 s.2.2.1 s.2.2.2.2.2) : ∀ i, i < 8 → mv_rd 32 (rs_e mc_K s).2.2.2.2.2 i = mv_rd 32 (bk_G (bk_B f n) S0 (bk_N n)) i := by
  have hN : bk_N n = (n + 72) / 64 := rfl
  have e128 : mn_b (mn_b 128) % 2 ^ 32 = bk_B f n n % 2 ^ 32 := by
    unfold bk_B
    rw [if_neg (Nat.lt_irrefl n), if_pos rfl, mn_bb]
  have k1 := bk_rs h e128
  have hu := k1.1
  have k2 := bk_rsz ((120 - (rs_1 mc_K 128 s).1) % 64) (n + 1) (rs_1 mc_K 128 s) (by omega) (by omega) k1
  rw [show n + 1 + (120 - (rs_1 mc_K 128 s).1) % 64 = 64 * bk_N n - 8 by omega] at k2
  have k3 := bk_rsl hn k2 8 (Nat.le_refl 8)
  have k4 := k3.2.2
  rw [show (64 * bk_N n - 8 + 8) / 64 = bk_N n by omega] at k4
  unfold rs_e
  rw [hl, show mo_lmul 8 n = 8 * n from Nat.mod_eq_of_lt (by omega)]
  exact k4
/-- what comes out, byte by byte -/
theorem mo_sh8 (v : Nat) : mn_b (mo_shr v 24) = mn_b (mo_ushr v 24) ∧ mn_b (mo_shr v 16) = mn_b (mo_ushr v 16) ∧ mn_b (mo_shr v 8) = mn_b (mo_ushr v 8) ∧ mn_b v = mn_b (mo_ushr v 0) := by
  refine ⟨mn_b_eq ?_, mn_b_eq ?_, mn_b_eq ?_, mn_b_eq ?_⟩
  · show ((v + 2147483648) % 4294967296 / 16777216 + (4294967296 - 2147483648 / 16777216)) % 4294967296 % 256 = v % 4294967296 / 16777216 % 256
    omega
  · show ((v + 2147483648) % 4294967296 / 65536 + (4294967296 - 2147483648 / 65536)) % 4294967296 % 256 = v % 4294967296 / 65536 % 256
    omega
  · show ((v + 2147483648) % 4294967296 / 256 + (4294967296 - 2147483648 / 256)) % 4294967296 % 256 = v % 4294967296 / 256 % 256
    omega
  · show v % 256 = v % 4294967296 / 1 % 256
    omega
/-- byte m of a digest -/
def bk_D (St m : Nat) : Nat := mn_b (mo_ushr (mv_rd 32 St (m / 4)) (24 - 8 * (m % 4))) % 2 ^ 32
theorem bk_sho (T a St : Nat) : ∀ k, ∀ j, mv_rd 32 (sh_o T a St k) j = if a ≤ j ∧ j < a + 4 * k then bk_D St (j - a) else mv_rd 32 T j
  | 0, j => by rw [if_neg (by omega)]; rfl
  | k + 1, j => by
    show mv_rd 32 (su_4 (sh_o T a St k) (a + 4 * k) (mv_rd 32 St k)) j = _
    rw [su_rd, bk_sho T a St k j]
    obtain ⟨m1, m2, m3, m4⟩ := mo_sh8 (mv_rd 32 St k)
    by_cases h3 : j = a + 4 * k + 3
    · rw [if_pos h3, if_pos (by omega), m4]
      unfold bk_D
      rw [show (j - a) / 4 = k by omega, show 24 - 8 * ((j - a) % 4) = 0 by omega]
    · rw [if_neg h3]
      by_cases h2 : j = a + 4 * k + 2
      · rw [if_pos h2, if_pos (by omega), m3]
        unfold bk_D
        rw [show (j - a) / 4 = k by omega, show 24 - 8 * ((j - a) % 4) = 8 by omega]
      · rw [if_neg h2]
        by_cases h1 : j = a + 4 * k + 1
        · rw [if_pos h1, if_pos (by omega), m2]
          unfold bk_D
          rw [show (j - a) / 4 = k by omega, show 24 - 8 * ((j - a) % 4) = 16 by omega]
        · rw [if_neg h1]
          by_cases h0 : j = a + 4 * k
          · rw [if_pos h0, if_pos (by omega), m1]
            unfold bk_D
            rw [show (j - a) / 4 = k by omega, show 24 - 8 * ((j - a) % 4) = 24 by omega]
          · rw [if_neg h0]
            by_cases h : a ≤ j ∧ j < a + 4 * k
            · rw [if_pos h, if_pos (by omega)]
            · rw [if_neg h, if_neg (by omega)]
theorem bk_rso (T a St : Nat) : ∀ k, ∀ j, mv_rd 32 (rs_o T a St k) j = if a ≤ j ∧ j < a + k then bk_D St (j - a) else mv_rd 32 T j
  | 0, j => by rw [if_neg (by omega)]; rfl
  | k + 1, j => by
    show mv_rd 32 (mv_wr 32 (rs_o T a St k) (a + k) (mn_b (mn_b (rs_ob St k)))) j = _
    rw [mv_rd_wr, bk_rso T a St k j, mn_bb]
    by_cases h : j = a + k
    · rw [if_pos h, if_pos (by omega), show j - a = k by omega]
      unfold rs_ob bk_D
      rw [show mo_sub 24 (mo_mul 8 (k % 4)) = 24 - 8 * (k % 4) by unfold mo_sub mo_mul; omega]
    · rw [if_neg h]
      by_cases h2 : a ≤ j ∧ j < a + k
      · rw [if_pos h2, if_pos (by omega)]
      · rw [if_neg h2, if_neg (by omega)]
