/-! SYMBOLIC RUNS: the small machine over numbers that are not known -/
def mo_add (a b : Nat) : Nat := (a + b) % 4294967296
def mo_sub (a b : Nat) : Nat := (a + (4294967296 - b % 4294967296)) % 4294967296
def mo_mul (a b : Nat) : Nat := (a * b) % 4294967296
def mo_and (a b : Nat) : Nat := a &&& b
def mo_or (a b : Nat) : Nat := a ||| b
def mo_xor (a b : Nat) : Nat := a ^^^ b
def mo_shl (a b : Nat) : Nat := a * 2 ^ (b % 32) % 4294967296
def mo_ushr (a b : Nat) : Nat := a % 4294967296 / 2 ^ (b % 32)
theorem mo_add_lt (a b : Nat) : mo_add a b < 4294967296 := Nat.mod_lt _ (by decide)
theorem mo_sub_lt (a b : Nat) : mo_sub a b < 4294967296 := Nat.mod_lt _ (by decide)
theorem mo_mul_lt (a b : Nat) : mo_mul a b < 4294967296 := Nat.mod_lt _ (by decide)
theorem mo_shl_lt (a b : Nat) : mo_shl a b < 4294967296 := Nat.mod_lt _ (by decide)
theorem mo_ushr_lt (a b : Nat) : mo_ushr a b < 4294967296 := Nat.lt_of_le_of_lt (Nat.div_le_self _ _) (Nat.mod_lt _ (by decide))
theorem mo_or_lt {a b : Nat} (ha : a < 4294967296) (hb : b < 4294967296) : mo_or a b < 4294967296 := Nat.or_lt_two_pow (n := 32) ha hb
theorem mo_xor_lt {a b : Nat} (ha : a < 4294967296) (hb : b < 4294967296) : mo_xor a b < 4294967296 := Nat.xor_lt_two_pow (n := 32) ha hb
theorem mo_and_lt {a b : Nat} (ha : a < 4294967296) : mo_and a b < 4294967296 := Nat.lt_of_le_of_lt Nat.and_le_left ha
theorem mo_rd_lt (c i : Nat) : mv_rd 32 c i < 4294967296 := mv_rd_lt 32 c i
theorem mo_inc {i : Nat} (h : i < 4294967295) : mo_add i 1 = i + 1 := Nat.mod_eq_of_lt (by omega)
theorem sy_ok0 {a : Nat} (h : a < 4294967296) : mv_ok (0, a, 0) = true := by
  unfold mv_ok
  simp only [Bool.and_eq_true, Nat.ble_eq, Nat.blt_eq]
  omega
theorem sy_ok2 {a : Nat} (h : a < 1024) : mv_ok (2, a, 0) = true := by
  unfold mv_ok
  simp only [Bool.and_eq_true, Nat.ble_eq, Nat.blt_eq]
  omega
/-- trees are what they hold -/
theorem mv_ext : ∀ (d : Nat) (t u : mv_T d), (∀ i, i < 2 ^ d → mv_get d t i = mv_get d u i) → t = u
  | 0, t, u, h => h 0 (by decide)
  | d + 1, (t1, t2), (u1, u2), h => by
    have e1 : t1 = u1 := mv_ext d t1 u1 fun i hi => by
      have := h (2 * i) (by rw [Nat.pow_succ]; omega)
      rwa [mv_get_t (by omega), mv_get_t (by omega), show 2 * i / 2 = i by omega] at this
    have e2 : t2 = u2 := mv_ext d t2 u2 fun i hi => by
      have := h (2 * i + 1) (by rw [Nat.pow_succ]; omega)
      rwa [mv_get_f (by omega), mv_get_f (by omega), show (2 * i + 1) / 2 = i by omega] at this
    rw [e1, e2]
theorem mv_gs {w : mv_T 10} {i : Nat} {x : mv_C} (hi : i < 1024) : mv_get 10 (mv_set 10 w i x) i = x := by rw [mv_get_set 10 w i i x hi hi, if_pos rfl]
theorem mv_gn {w : mv_T 10} {i j : Nat} {x : mv_C} (hi : i < 1024) (hj : j < 1024) (h : j ≠ i) : mv_get 10 (mv_set 10 w i x) j = mv_get 10 w j := by rw [mv_get_set 10 w i j x hi hj, if_neg h]
theorem mv_ss {w : mv_T 10} {i : Nat} {x y : mv_C} (hi : i < 1024) : mv_set 10 (mv_set 10 w i x) i y = mv_set 10 w i y := by
  apply mv_ext
  intro j hj
  rw [mv_get_set 10 _ i j y hi hj, mv_get_set 10 _ i j x hi hj, mv_get_set 10 _ i j y hi hj]
  by_cases h : j = i
  · rw [if_pos h, if_pos h]
  · rw [if_neg h, if_neg h, if_neg h]
theorem mv_sc {w : mv_T 10} {i j : Nat} {x y : mv_C} (hi : i < 1024) (hj : j < 1024) (h : i ≠ j) : mv_set 10 (mv_set 10 w i x) j y = mv_set 10 (mv_set 10 w j y) i x := by
  apply mv_ext
  intro q hq
  rw [mv_get_set 10 _ j q y hj hq, mv_get_set 10 _ i q x hi hq, mv_get_set 10 _ i q x hi hq, mv_get_set 10 _ j q y hj hq]
  by_cases h1 : q = j
  · rw [if_pos h1, if_pos h1, if_neg (by omega)]
  · rw [if_neg h1, if_neg h1]
theorem mv_sg {w : mv_T 10} {i : Nat} {x : mv_C} (hi : i < 1024) (h : mv_get 10 w i = x) : mv_set 10 w i x = w := by
  apply mv_ext
  intro q hq
  rw [mv_get_set 10 _ i q x hi hq]
  by_cases h1 : q = i
  · rw [if_pos h1, h1, h]
  · rw [if_neg h1]
noncomputable def sy_run (f k pc L : Nat) (S : List mv_V) (n : Nat) (w : mv_T 10) (fr lo : Nat) : Option mv_R := mv_run tt_cd tt_kc tt_fl tt_nl tt_al tt_sl tt_ml tt_mL tt_mr tt_ini tt_mci tt_fty tt_ffin tt_tl tt_cn tt_dpk tt_stt tt_none f k pc L S n w 0 0 fr lo
/-- what is known of the locals (kind 255: nothing) -/
def sy_L (L : Nat) (ls : List mv_V) : Prop := ∀ (j : Nat) (v : mv_V), ls[j]? = some v → v.1 ≠ 255 → mv_lg L j = v
def sy_R (k n fr lo pc : Nat) (ls S : List mv_V) (w : mv_T 10) (pc' : Nat) (ls' S' : List mv_V) (w' : mv_T 10) : Prop := ∀ L, sy_L L ls → ∃ c L', sy_L L' ls' ∧ ∀ f res, sy_run f k pc' L' S' n w' fr lo = some res → sy_run (f + c) k pc L S n w fr lo = some res
section SY
variable {k n fr lo pc pc' pc2 : Nat} {ls ls' ls2 S S' S2 : List mv_V} {w w' w2 : mv_T 10}
theorem sy_refl : sy_R k n fr lo pc ls S w pc ls S w := fun L h => ⟨0, L, h, fun _ _ h => h⟩
theorem sy_trans (h1 : sy_R k n fr lo pc ls S w pc' ls' S' w') (h2 : sy_R k n fr lo pc' ls' S' w' pc2 ls2 S2 w2) : sy_R k n fr lo pc ls S w pc2 ls2 S2 w2 := by
  intro L h
  obtain ⟨c1, L1, g1, e1⟩ := h1 L h
  obtain ⟨c2, L2, g2, e2⟩ := h2 L1 g1
  exact ⟨c2 + c1, L2, g2, fun f res hr => by rw [← Nat.add_assoc]; exact e1 _ _ (e2 _ _ hr)⟩
/-- less is known -/
theorem sy_weak (h : ∀ (j : Nat) (v : mv_V), ls'[j]? = some v → v.1 ≠ 255 → ls[j]? = some v) : sy_R k n fr lo pc ls S w pc ls' S w := fun L hL => ⟨0, L, fun j v hv hn => hL j v (h j v hv hn) hn, fun _ _ h => h⟩
def sy_lw : List mv_V → List mv_V → Prop
  | _, [] => True
  | [], _ :: _ => False
  | x :: xs, y :: ys => (y.1 = 255 ∨ x = y) ∧ sy_lw xs ys
theorem sy_lw_ok : ∀ {a b : List mv_V}, sy_lw a b → ∀ (j : Nat) (v : mv_V), b[j]? = some v → v.1 ≠ 255 → a[j]? = some v
  | _, [], _, j, v, h, _ => by simp at h
  | [], _ :: _, h, _, _, _, _ => h.elim
  | x :: xs, y :: ys, h, 0, v, hv, hn => by
    simp only [List.getElem?_cons_zero, Option.some.injEq] at hv ⊢
    rcases h.1 with e | e
    · rw [hv] at e; exact absurd e hn
    · rw [e, hv]
  | x :: xs, y :: ys, h, j + 1, v, hv, hn => by
    simp only [List.getElem?_cons_succ] at hv ⊢
    exact sy_lw_ok h.2 j v hv hn
theorem sy_step {g len : Nat} {i : Instr} (hc : tt_cd k pc = (g, i, len)) (hlen : Nat.blt 0 len = true) (hg : (Nat.beq g 9 || (Nat.beq g 10 || (Nat.beq g 11 || Nat.beq g 12))) = false) (h : ∀ L, sy_L L ls → ∃ L', sy_L L' ls' ∧ mv_one g (tt_mL k) (tt_kc k) (tt_fl k) (tt_nl k) (tt_al k) (tt_sl k) (tt_ini k) tt_fty tt_ffin tt_tl tt_cn tt_dpk i len pc L S n w = some (pc', L', S', n, w', 0, 0)) (kk : sy_R k n fr lo pc' ls' S' w' pc2 ls2 S2 w2) : sy_R k n fr lo pc ls S w pc2 ls2 S2 w2 := by
  intro L hL
  obtain ⟨L', h1, h2⟩ := h L hL
  obtain ⟨c, L2, h3, h4⟩ := kk L' h1
  refine ⟨c + 1, L2, h3, fun f res hr => ?_⟩
  have h5 := h4 f res hr
  rw [← Nat.add_assoc]
  show mv_stepf tt_cd tt_kc tt_fl tt_nl tt_al tt_sl tt_ml tt_mL tt_mr tt_ini tt_mci tt_fty tt_ffin tt_tl tt_cn tt_dpk tt_stt tt_none (mv_run tt_cd tt_kc tt_fl tt_nl tt_al tt_sl tt_ml tt_mL tt_mr tt_ini tt_mci tt_fty tt_ffin tt_tl tt_cn tt_dpk tt_stt tt_none (f + c)) k pc L S n w 0 0 fr lo = some res
  unfold mv_stepf
  rw [hc]
  simp only [Bool.or_eq_false_iff] at hg
  dsimp only
  rw [hlen, hg.1, hg.2.1, hg.2.2.1, hg.2.2.2, h2]
  exact h5
theorem sy_sk {i : Instr} {len : Nat} (hc : tt_cd k pc = (2, i, len)) (hlen : Nat.blt 0 len = true) (h : mv_sk i S = some (len, S')) (kk : sy_R k n fr lo (pc + len) ls S' w pc2 ls2 S2 w2) : sy_R k n fr lo pc ls S w pc2 ls2 S2 w2 := by
  refine sy_step hc hlen rfl (fun L hL => ⟨L, hL, ?_⟩) kk
  show (match mv_sk i S with
  | some (q, S') => bif Nat.beq q len then some (Nat.add pc len, L, S', n, w, 0, 0) else none
  | none => none) = _
  rw [h]
  show (bif Nat.beq len len then _ else _) = _
  rw [Nat.beq_refl]
  rfl
theorem sy_ck {i : Instr} {len : Nat} (hc : tt_cd k pc = (4, i, len)) (hlen : Nat.blt 0 len = true) (h : mv_ck (tt_kc k) i S = some (len, S')) (kk : sy_R k n fr lo (pc + len) ls S' w pc2 ls2 S2 w2) : sy_R k n fr lo pc ls S w pc2 ls2 S2 w2 := by
  refine sy_step hc hlen rfl (fun L hL => ⟨L, hL, ?_⟩) kk
  show (match mv_ck (tt_kc k) i S with
  | some (q, S') => bif Nat.beq q len then some (Nat.add pc len, L, S', n, w, 0, 0) else none
  | none => none) = _
  rw [h]
  show (bif Nat.beq len len then _ else _) = _
  rw [Nat.beq_refl]
  rfl
theorem sy_hk {i : Instr} {len : Nat} (hc : tt_cd k pc = (3, i, len)) (hlen : Nat.blt 0 len = true) (h : mv_hk (tt_fl k) tt_tl i S w = some (len, S')) (kk : sy_R k n fr lo (pc + len) ls S' w pc2 ls2 S2 w2) : sy_R k n fr lo pc ls S w pc2 ls2 S2 w2 := by
  refine sy_step hc hlen rfl (fun L hL => ⟨L, hL, ?_⟩) kk
  show (match mv_hk (tt_fl k) tt_tl i S w with
  | some (q, S') => bif Nat.beq q len then some (Nat.add pc len, L, S', n, w, 0, 0) else none
  | none => none) = _
  rw [h]
  show (bif Nat.beq len len then _ else _) = _
  rw [Nat.beq_refl]
  rfl
theorem sy_wk {i : Instr} {len : Nat} (hc : tt_cd k pc = (6, i, len)) (hlen : Nat.blt 0 len = true) (h : mv_wk (tt_fl k) tt_fty tt_ffin (tt_ini k) tt_tl tt_cn i S w = some (len, S', w')) (kk : sy_R k n fr lo (pc + len) ls S' w' pc2 ls2 S2 w2) : sy_R k n fr lo pc ls S w pc2 ls2 S2 w2 := by
  refine sy_step hc hlen rfl (fun L hL => ⟨L, hL, ?_⟩) kk
  show (match mv_wk (tt_fl k) tt_fty tt_ffin (tt_ini k) tt_tl tt_cn i S w with
  | some (q, S', w') => bif Nat.beq q len then some (Nat.add pc len, L, S', n, w', 0, 0) else none
  | none => none) = _
  rw [h]
  show (bif Nat.beq len len then _ else _) = _
  rw [Nat.beq_refl]
  rfl
theorem sy_bk {i : Instr} {len : Nat} (hc : tt_cd k pc = (5, i, len)) (hlen : Nat.blt 0 len = true) (hb : mv_blen i len = true) (h : mv_bk pc i S = some (pc', S')) (kk : sy_R k n fr lo pc' ls S' w pc2 ls2 S2 w2) : sy_R k n fr lo pc ls S w pc2 ls2 S2 w2 := by
  refine sy_step hc hlen rfl (fun L hL => ⟨L, hL, ?_⟩) kk
  show (match mv_bk pc i S with
  | some (pc', S') => bif mv_blen i len then some (pc', L, S', n, w, 0, 0) else none
  | none => none) = _
  rw [h]
  show (bif mv_blen i len then _ else _) = _
  rw [hb]
  rfl
theorem sy_ak {i : Instr} {len : Nat} (hc : tt_cd k pc = (7, i, len)) (hlen : Nat.blt 0 len = true) (h : mv_ak (tt_nl k) tt_dpk (tt_al k) (tt_sl k) i S n = some (len, S', none, 0)) (kk : sy_R k n fr lo (pc + len) ls S' w pc2 ls2 S2 w2) : sy_R k n fr lo pc ls S w pc2 ls2 S2 w2 := by
  refine sy_step hc hlen rfl (fun L hL => ⟨L, hL, ?_⟩) kk
  show (match mv_ak (tt_nl k) tt_dpk (tt_al k) (tt_sl k) i S n with
  | some (q, S', x, d) => bif Nat.beq q len then some (Nat.add pc len, L, S', mv_n1 n x, mv_w1 n w x, mv_k1 x, d) else none
  | none => none) = _
  rw [h]
  show (bif Nat.beq len len then _ else _) = _
  rw [Nat.beq_refl]
  rfl
theorem sy_lk {i : Instr} {len : Nat} (hc : tt_cd k pc = (1, i, len)) (hlen : Nat.blt 0 len = true) (h : ∀ L, sy_L L ls → ∃ L', sy_L L' ls' ∧ mv_lk (tt_mL k) i L S = some (len, L', S')) (kk : sy_R k n fr lo (pc + len) ls' S' w pc2 ls2 S2 w2) : sy_R k n fr lo pc ls S w pc2 ls2 S2 w2 := by
  refine sy_step hc hlen rfl (fun L hL => ?_) kk
  obtain ⟨L', h1, h2⟩ := h L hL
  refine ⟨L', h1, ?_⟩
  show (match mv_lk (tt_mL k) i L S with
  | some (q, L', S') => bif Nat.beq q len then some (Nat.add pc len, L', S', n, w, 0, 0) else none
  | none => none) = _
  rw [h2]
  show (bif Nat.beq len len then _ else _) = _
  rw [Nat.beq_refl]
  rfl
/-- loads -/
theorem sy_ild {j : Nat} {v : mv_V} (hc : tt_cd k pc = (1, .iload j, 2)) (hv : ls[j]? = some v) (hk : mv_isI v = true) (kk : sy_R k n fr lo (pc + 2) ls (v :: S) w pc2 ls2 S2 w2) : sy_R k n fr lo pc ls S w pc2 ls2 S2 w2 := by
  refine sy_lk hc rfl (fun L hL => ⟨L, hL, ?_⟩) kk
  show (bif mv_isI (mv_lg L j) then some (2, L, mv_lg L j :: S) else none) = _
  rw [hL j v hv (mv_isI_ne hk), hk]
  rfl
theorem sy_ildn {j : Fin 4} {v : mv_V} (hc : tt_cd k pc = (1, .iload_n j, 1)) (hv : ls[j.val]? = some v) (hk : mv_isI v = true) (kk : sy_R k n fr lo (pc + 1) ls (v :: S) w pc2 ls2 S2 w2) : sy_R k n fr lo pc ls S w pc2 ls2 S2 w2 := by
  refine sy_lk hc rfl (fun L hL => ⟨L, hL, ?_⟩) kk
  show (bif mv_isI (mv_lg L j.val) then some (1, L, mv_lg L j.val :: S) else none) = _
  rw [hL j.val v hv (mv_isI_ne hk), hk]
  rfl
theorem sy_aldn {j : Fin 4} {v : mv_V} (hc : tt_cd k pc = (1, .aload_n j, 1)) (hv : ls[j.val]? = some v) (hk : mv_isA v = true) (kk : sy_R k n fr lo (pc + 1) ls (v :: S) w pc2 ls2 S2 w2) : sy_R k n fr lo pc ls S w pc2 ls2 S2 w2 := by
  refine sy_lk hc rfl (fun L hL => ⟨L, hL, ?_⟩) kk
  show (bif mv_isA (mv_lg L j.val) then some (1, L, mv_lg L j.val :: S) else none) = _
  rw [hL j.val v hv (mv_isA_ne hk), hk]
  rfl
theorem sy_ald {j : Nat} {v : mv_V} (hc : tt_cd k pc = (1, .aload j, 2)) (hv : ls[j]? = some v) (hk : mv_isA v = true) (kk : sy_R k n fr lo (pc + 2) ls (v :: S) w pc2 ls2 S2 w2) : sy_R k n fr lo pc ls S w pc2 ls2 S2 w2 := by
  refine sy_lk hc rfl (fun L hL => ⟨L, hL, ?_⟩) kk
  show (bif mv_isA (mv_lg L j) then some (2, L, mv_lg L j :: S) else none) = _
  rw [hL j v hv (mv_isA_ne hk), hk]
  rfl
/-- stores -/
def sy_nl (ls : List mv_V) (j : Nat) : Bool := match ls[j - 1]? with
  | some v => !(mv_isL v)
  | none => true
theorem sy_ls1 {L j : Nat} {x : mv_V} (hL : sy_L L ls) (hnl : sy_nl ls j = true) (hok : mv_ok x = true) : sy_L (mv_ls1 L j x) (ls.set j x) := by
  intro q v hv hn
  have key : ∀ L1 : Nat, (∀ (q : Nat) (v : mv_V), ls[q]? = some v → v.1 ≠ 255 → q ≠ j → mv_lg L1 q = v) → mv_lg (mv_wr 136 L1 j (mv_enc x)) q = v := by
    intro L1 h1
    rw [mv_lg_wr]
    by_cases e : q = j
    · subst e
      rw [if_pos rfl, mv_dec_enc hok]
      by_cases hq : q < ls.length
      · rw [List.getElem?_set_self hq] at hv
        exact Option.some.inj hv
      · rw [List.getElem?_eq_none (by rw [List.length_set]; omega)] at hv
        cases hv
    · rw [if_neg e]
      rw [List.getElem?_set_ne (fun z => e z.symm)] at hv
      exact h1 q v hv hn e
  unfold mv_ls1
  cases hb : mv_isL (mv_lg L (j - 1)) with
  | false => exact key L (fun q v h1 h2 _ => hL q v h1 h2)
  | true =>
    refine key _ (fun q v h1 h2 h3 => ?_)
    rw [mv_lg_wr]
    by_cases e : q = j - 1
    · exfalso
      have e2 := hL q v h1 h2
      rw [← e, e2] at hb
      unfold sy_nl at hnl
      rw [← e, h1] at hnl
      dsimp only at hnl
      rw [hb] at hnl
      cases hnl
    · rw [if_neg e]
      exact hL q v h1 h2
theorem sy_ist {j : Nat} {x : mv_V} (hc : tt_cd k pc = (1, .istore j, 2)) (hx : mv_isI x = true) (hok : mv_ok x = true) (hj : Nat.blt j (tt_mL k) = true) (hnl : sy_nl ls j = true) (kk : sy_R k n fr lo (pc + 2) (ls.set j x) S w pc2 ls2 S2 w2) : sy_R k n fr lo pc ls (x :: S) w pc2 ls2 S2 w2 := by
  refine sy_lk hc rfl (fun L hL => ⟨mv_ls1 L j x, sy_ls1 hL hnl hok, ?_⟩) kk
  show (bif mv_isI x && (mv_ok x && Nat.blt j (tt_mL k)) then some (2, mv_ls1 L j x, S) else none) = _
  rw [hx, hok, hj]
  rfl
theorem sy_istn {jf : Fin 4} {j : Nat} {x : mv_V} (hc : tt_cd k pc = (1, .istore_n jf, 1)) (hjf : jf.val = j) (hx : mv_isI x = true) (hok : mv_ok x = true) (hj : Nat.blt j (tt_mL k) = true) (hnl : sy_nl ls j = true) (kk : sy_R k n fr lo (pc + 1) (ls.set j x) S w pc2 ls2 S2 w2) : sy_R k n fr lo pc ls (x :: S) w pc2 ls2 S2 w2 := by
  subst hjf
  refine sy_lk hc rfl (fun L hL => ⟨mv_ls1 L jf.val x, sy_ls1 hL hnl hok, ?_⟩) kk
  show (bif mv_isI x && (mv_ok x && Nat.blt jf.val (tt_mL k)) then some (1, mv_ls1 L jf.val x, S) else none) = _
  rw [hx, hok, hj]
  rfl
theorem sy_astn {jf : Fin 4} {j : Nat} {x : mv_V} (hc : tt_cd k pc = (1, .astore_n jf, 1)) (hjf : jf.val = j) (hx : mv_isA x = true) (hok : mv_ok x = true) (hj : Nat.blt j (tt_mL k) = true) (hnl : sy_nl ls j = true) (kk : sy_R k n fr lo (pc + 1) (ls.set j x) S w pc2 ls2 S2 w2) : sy_R k n fr lo pc ls (x :: S) w pc2 ls2 S2 w2 := by
  subst hjf
  refine sy_lk hc rfl (fun L hL => ⟨mv_ls1 L jf.val x, sy_ls1 hL hnl hok, ?_⟩) kk
  show (bif mv_isA x && (mv_ok x && Nat.blt jf.val (tt_mL k)) then some (1, mv_ls1 L jf.val x, S) else none) = _
  rw [hx, hok, hj]
  rfl
theorem sy_iinc {j a c : Nat} {q : Int} (hc : tt_cd k pc = (1, .iinc j q, 3)) (hv : ls[j]? = some (0, a, 0)) (hq : mv_sgn q = c) (hj : Nat.blt j (tt_mL k) = true) (hnl : sy_nl ls j = true) (kk : sy_R k n fr lo (pc + 3) (ls.set j (0, mo_add a c, 0)) S w pc2 ls2 S2 w2) : sy_R k n fr lo pc ls S w pc2 ls2 S2 w2 := by
  refine sy_lk hc rfl (fun L hL => ⟨mv_ls1 L j (0, mo_add a c, 0), sy_ls1 hL hnl (sy_ok0 (mo_add_lt _ _)), ?_⟩) kk
  show (bif Nat.beq (mv_lg L j).1 0 && (mv_ok (0, ((mv_lg L j).2.1 + mv_sgn q) % 4294967296, 0) && Nat.blt j (tt_mL k)) then some (3, mv_ls1 L j (0, ((mv_lg L j).2.1 + mv_sgn q) % 4294967296, 0), S) else none) = _
  rw [hL j _ hv (by show (0 : Nat) ≠ 255; decide), hq, hj]
  show (bif Nat.beq 0 0 && (mv_ok (0, mo_add a c, 0) && true) then some (3, mv_ls1 L j (0, mo_add a c, 0), S) else none) = _
  rw [sy_ok0 (mo_add_lt _ _)]
  rfl
theorem sy_iadd {x y : Nat} (hc : tt_cd k pc = (2, .iadd, 1)) (kk : sy_R k n fr lo (pc + 1) ls ((0, mo_add x y, 0) :: S) w pc2 ls2 S2 w2) : sy_R k n fr lo pc ls ((0, y, 0) :: (0, x, 0) :: S) w pc2 ls2 S2 w2 := sy_sk hc rfl rfl kk
theorem sy_isub {x y : Nat} (hc : tt_cd k pc = (2, .isub, 1)) (kk : sy_R k n fr lo (pc + 1) ls ((0, mo_sub x y, 0) :: S) w pc2 ls2 S2 w2) : sy_R k n fr lo pc ls ((0, y, 0) :: (0, x, 0) :: S) w pc2 ls2 S2 w2 := sy_sk hc rfl rfl kk
theorem sy_imul {x y : Nat} (hc : tt_cd k pc = (2, .imul, 1)) (kk : sy_R k n fr lo (pc + 1) ls ((0, mo_mul x y, 0) :: S) w pc2 ls2 S2 w2) : sy_R k n fr lo pc ls ((0, y, 0) :: (0, x, 0) :: S) w pc2 ls2 S2 w2 := sy_sk hc rfl rfl kk
theorem sy_iand {x y : Nat} (hc : tt_cd k pc = (2, .iand, 1)) (kk : sy_R k n fr lo (pc + 1) ls ((0, mo_and x y, 0) :: S) w pc2 ls2 S2 w2) : sy_R k n fr lo pc ls ((0, y, 0) :: (0, x, 0) :: S) w pc2 ls2 S2 w2 := sy_sk hc rfl rfl kk
theorem sy_ior {x y : Nat} (hc : tt_cd k pc = (2, .ior, 1)) (kk : sy_R k n fr lo (pc + 1) ls ((0, mo_or x y, 0) :: S) w pc2 ls2 S2 w2) : sy_R k n fr lo pc ls ((0, y, 0) :: (0, x, 0) :: S) w pc2 ls2 S2 w2 := sy_sk hc rfl rfl kk
theorem sy_ixor {x y : Nat} (hc : tt_cd k pc = (2, .ixor, 1)) (kk : sy_R k n fr lo (pc + 1) ls ((0, mo_xor x y, 0) :: S) w pc2 ls2 S2 w2) : sy_R k n fr lo pc ls ((0, y, 0) :: (0, x, 0) :: S) w pc2 ls2 S2 w2 := sy_sk hc rfl rfl kk
theorem sy_ishl {x y : Nat} (hc : tt_cd k pc = (2, .ishl, 1)) (kk : sy_R k n fr lo (pc + 1) ls ((0, mo_shl x y, 0) :: S) w pc2 ls2 S2 w2) : sy_R k n fr lo pc ls ((0, y, 0) :: (0, x, 0) :: S) w pc2 ls2 S2 w2 := sy_sk hc rfl rfl kk
theorem sy_iushr {x y : Nat} (hc : tt_cd k pc = (2, .iushr, 1)) (kk : sy_R k n fr lo (pc + 1) ls ((0, mo_ushr x y, 0) :: S) w pc2 ls2 S2 w2) : sy_R k n fr lo pc ls ((0, y, 0) :: (0, x, 0) :: S) w pc2 ls2 S2 w2 := sy_sk hc rfl rfl kk
theorem sy_iconst {q : Int} {v : Nat} (hc : tt_cd k pc = (2, .iconst q, 1)) (hv : mv_sgn q = v) (kk : sy_R k n fr lo (pc + 1) ls ((0, v, 0) :: S) w pc2 ls2 S2 w2) : sy_R k n fr lo pc ls S w pc2 ls2 S2 w2 := by
  subst hv
  exact sy_sk hc rfl rfl kk
theorem sy_bipush {q : Int} {v : Nat} (hc : tt_cd k pc = (4, .bipush q, 2)) (h1 : (decide (-128 ≤ q) && decide (q ≤ 127)) = true) (hv : mv_sgn q = v) (kk : sy_R k n fr lo (pc + 2) ls ((0, v, 0) :: S) w pc2 ls2 S2 w2) : sy_R k n fr lo pc ls S w pc2 ls2 S2 w2 := by
  subst hv
  refine sy_ck hc rfl ?_ kk
  show (bif decide (-128 ≤ q) && decide (q ≤ 127) then some (2, (0, mv_sgn q, 0) :: S) else none) = _
  rw [h1]
  rfl
theorem sy_sipush {q : Int} {v : Nat} (hc : tt_cd k pc = (4, .sipush q, 3)) (h1 : (decide (-32768 ≤ q) && decide (q ≤ 32767)) = true) (hv : mv_sgn q = v) (kk : sy_R k n fr lo (pc + 3) ls ((0, v, 0) :: S) w pc2 ls2 S2 w2) : sy_R k n fr lo pc ls S w pc2 ls2 S2 w2 := by
  subst hv
  refine sy_ck hc rfl ?_ kk
  show (bif decide (-32768 ≤ q) && decide (q ≤ 32767) then some (3, (0, mv_sgn q, 0) :: S) else none) = _
  rw [h1]
  rfl
theorem sy_dup2 {x y : mv_V} (hc : tt_cd k pc = (2, .dup2, 1)) (h : (mv_c1 x && mv_c1 y) = true) (kk : sy_R k n fr lo (pc + 1) ls (y :: x :: y :: x :: S) w pc2 ls2 S2 w2) : sy_R k n fr lo pc ls (y :: x :: S) w pc2 ls2 S2 w2 := by
  refine sy_sk hc rfl ?_ kk
  show (bif mv_c1 x && mv_c1 y then some (1, y :: x :: y :: x :: S) else none) = _
  rw [h]
  rfl
/-- cells -/
theorem sy_gf {j kd ci fi nf pk a b : Nat} {v : mv_V} (hc : tt_cd k pc = (3, .getfield j, 3)) (hf : tt_fl k j = (kd, ci, fi)) (hkd : Nat.ble 1 kd = true) (hw : mv_get 10 w a = (0, ci, nf, pk)) (hfi : Nat.blt fi nf = true) (hv : mv_dec (mv_rd 136 pk fi) = v) (kk : sy_R k n fr lo (pc + 3) ls (v :: S) w pc2 ls2 S2 w2) : sy_R k n fr lo pc ls ((2, a, b) :: S) w pc2 ls2 S2 w2 := by
  refine sy_hk hc rfl ?_ kk
  show (mv_gf (tt_fl k j) (mv_get 10 w a)).map (fun v => (3, v :: S)) = _
  rw [hf, hw]
  show (bif Nat.beq 0 0 && (Nat.beq ci ci && (Nat.blt fi nf && Nat.ble 1 kd)) then some (mv_dec (mv_rd 136 pk fi)) else none).map (fun v => (3, v :: S)) = _
  rw [Nat.beq_refl ci, hfi, hkd, hv]
  rfl
theorem sy_pfi {j kd ci fi nf pk a b x : Nat} (hc : tt_cd k pc = (6, .putfield j, 3)) (hf : tt_fl k j = (kd, ci, fi)) (hkd : Nat.ble 1 kd = true) (hty : tt_fty ci fi = .int) (hfin : tt_ffin ci fi = false) (hw : mv_get 10 w a = (0, ci, nf, pk)) (hfi : Nat.blt fi nf = true) (hx : x < 4294967296) (hw' : mv_set 10 w a (0, ci, nf, mv_wr 136 pk fi (mv_enc (0, x, 0))) = w') (kk : sy_R k n fr lo (pc + 3) ls S w' pc2 ls2 S2 w2) : sy_R k n fr lo pc ls ((0, x, 0) :: (2, a, b) :: S) w pc2 ls2 S2 w2 := by
  subst hw'
  refine sy_wk hc rfl ?_ kk
  show (mv_pf (tt_fl k j) (tt_fty (tt_fl k j).2.1 (tt_fl k j).2.2) (tt_ffin (tt_fl k j).2.1 (tt_fl k j).2.2) (tt_ini k) (mv_get 10 w a) (0, x, 0)).map (fun y => (3, S, mv_set 10 w a y)) = _
  rw [hf, hw]
  dsimp only
  rw [hty, hfin]
  show (bif (Nat.beq 0 0 && (Nat.beq ci ci && (Nat.blt fi nf && Nat.ble 1 kd))) && (mv_ok (0, x, 0) && (true && true)) then some (0, ci, nf, mv_wr 136 pk fi (mv_enc (0, x, 0))) else none).map (fun y => (3, S, mv_set 10 w a y)) = _
  rw [Nat.beq_refl ci, hfi, hkd, sy_ok0 hx]
  rfl
theorem sy_ix {e i q : Nat} (he : e = i) (hi : i < q) (hq : q ≤ 2147483647) : mv_ix (0, e, 0) q = true := by
  subst he
  unfold mv_ix
  simp only [Bool.and_eq_true, Nat.blt_eq, Nat.ble_eq]
  exact ⟨rfl, hi, hq⟩
theorem sy_ial {a b e i q c : Nat} (hc : tt_cd k pc = (3, .iaload, 1)) (hw : mv_get 10 w a = (1, 0, q, c)) (he : e = i) (hi : i < q) (hq : q ≤ 2147483647) (kk : sy_R k n fr lo (pc + 1) ls ((0, mv_rd 32 c i, 0) :: S) w pc2 ls2 S2 w2) : sy_R k n fr lo pc ls ((0, e, 0) :: (2, a, b) :: S) w pc2 ls2 S2 w2 := by
  refine sy_hk hc rfl ?_ kk
  show (mv_al tt_tl 1 (mv_get 10 w a) (0, e, 0)).map (fun v => (1, v :: S)) = _
  rw [hw]
  show (bif Nat.beq 1 1 && mv_ix (0, e, 0) q then some (0, mv_rd 32 c e, 0) else none).map (fun v => (1, v :: S)) = _
  rw [sy_ix he hi hq, he]
  rfl
theorem sy_bal {a b e i q c : Nat} (hc : tt_cd k pc = (3, .baload, 1)) (hw : mv_get 10 w a = (1, 1, q, c)) (he : e = i) (hi : i < q) (hq : q ≤ 2147483647) (kk : sy_R k n fr lo (pc + 1) ls ((0, mv_rd 32 c i, 0) :: S) w pc2 ls2 S2 w2) : sy_R k n fr lo pc ls ((0, e, 0) :: (2, a, b) :: S) w pc2 ls2 S2 w2 := by
  refine sy_hk hc rfl ?_ kk
  show (bif Nat.beq (mv_tc tt_tl[(mv_get 10 w a).2.1]?) 2 then (mv_al tt_tl 2 (mv_get 10 w a) (0, e, 0)).map (fun v => (1, v :: S)) else (mv_al tt_tl 3 (mv_get 10 w a) (0, e, 0)).map (fun v => (1, v :: S))) = _
  rw [hw]
  show (bif Nat.beq 2 2 && mv_ix (0, e, 0) q then some (0, mv_rd 32 c e, 0) else none).map (fun v => (1, v :: S)) = _
  rw [sy_ix he hi hq, he]
  rfl
theorem sy_ias {a b e i q c v : Nat} (hc : tt_cd k pc = (6, .iastore, 1)) (hw : mv_get 10 w a = (1, 0, q, c)) (he : e = i) (hi : i < q) (hq : q ≤ 2147483647) (hw' : mv_set 10 w a (1, 0, q, mv_wr 32 c i v) = w') (kk : sy_R k n fr lo (pc + 1) ls S w' pc2 ls2 S2 w2) : sy_R k n fr lo pc ls ((0, v, 0) :: (0, e, 0) :: (2, a, b) :: S) w pc2 ls2 S2 w2 := by
  subst hw'
  refine sy_wk hc rfl ?_ kk
  show (mv_as tt_tl 1 (mv_get 10 w a) (0, e, 0) (0, v, 0)).map (fun y => (1, S, mv_set 10 w a y)) = _
  rw [hw]
  show (bif Nat.beq 1 1 && mv_ix (0, e, 0) q then some (1, 0, q, mv_wr 32 c e v) else none).map (fun y => (1, S, mv_set 10 w a y)) = _
  rw [sy_ix he hi hq, he]
  rfl
theorem sy_bas {a b e i q c v : Nat} (hc : tt_cd k pc = (6, .bastore, 1)) (hw : mv_get 10 w a = (1, 1, q, c)) (he : e = i) (hi : i < q) (hq : q ≤ 2147483647) (hw' : mv_set 10 w a (1, 1, q, mv_wr 32 c i (mn_b v)) = w') (kk : sy_R k n fr lo (pc + 1) ls S w' pc2 ls2 S2 w2) : sy_R k n fr lo pc ls ((0, v, 0) :: (0, e, 0) :: (2, a, b) :: S) w pc2 ls2 S2 w2 := by
  subst hw'
  refine sy_wk hc rfl ?_ kk
  show (bif Nat.beq (mv_tc tt_tl[(mv_get 10 w a).2.1]?) 3 then (mv_as tt_tl 3 (mv_get 10 w a) (0, e, 0) (0, v, 0)).map (fun y => (1, S, mv_set 10 w a y)) else (mv_as tt_tl 2 (mv_get 10 w a) (0, e, 0) (0, v, 0)).map (fun y => (1, S, mv_set 10 w a y))) = _
  rw [hw]
  show (bif Nat.beq 2 2 && mv_ix (0, e, 0) q then some (1, 1, q, mv_wr 32 c e (mn_b v)) else none).map (fun y => (1, S, mv_set 10 w a y)) = _
  rw [sy_ix he hi hq, he]
  rfl
theorem sy_gst {j q : Nat} (hc : tt_cd k pc = (7, .getstatic j, 3)) (hs : tt_sl k j = q + 1) (kk : sy_R k n fr lo (pc + 3) ls ((6, q, 0) :: S) w pc2 ls2 S2 w2) : sy_R k n fr lo pc ls S w pc2 ls2 S2 w2 := by
  refine sy_ak hc rfl ?_ kk
  show (bif Nat.blt 0 (tt_sl k j) then some (3, (6, tt_sl k j - 1, 0) :: S, none, 0) else none) = _
  rw [hs]
  rfl
theorem sy_tld {b e i q len c : Nat} (hc : tt_cd k pc = (11, .iaload, 1)) (hs : tt_stt q = (0, len, c)) (he : e = i) (hi : i < len) (hq : len ≤ 2147483647) (kk : sy_R k n fr lo (pc + 1) ls ((0, mv_rd 32 c i, 0) :: S) w pc2 ls2 S2 w2) : sy_R k n fr lo pc ls ((0, e, 0) :: (6, q, b) :: S) w pc2 ls2 S2 w2 := by
  intro L hL
  obtain ⟨c1, L2, h3, h4⟩ := kk L hL
  refine ⟨c1 + 1, L2, h3, fun f res hr => ?_⟩
  have h5 := h4 f res hr
  rw [← Nat.add_assoc]
  show mv_stepf tt_cd tt_kc tt_fl tt_nl tt_al tt_sl tt_ml tt_mL tt_mr tt_ini tt_mci tt_fty tt_ffin tt_tl tt_cn tt_dpk tt_stt tt_none (mv_run tt_cd tt_kc tt_fl tt_nl tt_al tt_sl tt_ml tt_mL tt_mr tt_ini tt_mci tt_fty tt_ffin tt_tl tt_cn tt_dpk tt_stt tt_none (f + c1)) k pc L ((0, e, 0) :: (6, q, b) :: S) n w 0 0 fr lo = some res
  unfold mv_stepf
  rw [hc]
  have e1 : mv_tld tt_tl tt_stt .iaload ((0, e, 0) :: (6, q, b) :: S) = some ((0, mv_rd 32 c i, 0) :: S) := by
    show (bif Nat.beq 6 6 && (Nat.beq (mv_tc tt_tl[(tt_stt q).1]?) 1 && mv_ix (0, e, 0) (tt_stt q).2.1) then some ((0, mv_rd 32 (tt_stt q).2.2 e, 0) :: S) else none) = _
    rw [hs]
    show (bif Nat.beq 6 6 && (Nat.beq 1 1 && mv_ix (0, e, 0) len) then some ((0, mv_rd 32 c e, 0) :: S) else none) = _
    rw [sy_ix he hi hq, he]
    rfl
  show (match mv_tld tt_tl tt_stt .iaload ((0, e, 0) :: (6, q, b) :: S) with
      | some S' => bif Nat.beq 1 1 then mv_run tt_cd tt_kc tt_fl tt_nl tt_al tt_sl tt_ml tt_mL tt_mr tt_ini tt_mci tt_fty tt_ffin tt_tl tt_cn tt_dpk tt_stt tt_none (f + c1) k (Nat.add pc 1) L S' n w 0 0 fr lo else none
      | none => none) = some res
  rw [e1]
  exact h5
/-- branches -/
theorem sy_up {a : Nat} (h : a < 2147483648) : mn_up a = a + 2147483648 := Nat.mod_eq_of_lt (by omega)
theorem sy_upl {x y : Nat} (h : x < y) (hy : y < 2147483648) : mn_up x < mn_up y := by
  rw [sy_up (show x < 2147483648 by omega), sy_up hy]
  omega
theorem sy_upe {x y : Nat} (h : y ≤ x) (hx : x < 2147483648) : mn_up y ≤ mn_up x := by
  rw [sy_up hx, sy_up (show y < 2147483648 by omega)]
  omega
theorem sy_iv0 (x : Nat) : mv_iv (0, x, 0) = (mn_up x, mn_up x) := by
  unfold mv_iv
  generalize mn_up x = u
  rfl
theorem mv_lt_of {x y : mv_V} (hx : mv_isI x = true) (hy : mv_isI y = true) (h : (mv_iv x).2 < (mv_iv y).1) : mv_lt x y = some true := by
  unfold mv_lt
  rw [hx, hy, show Nat.blt (mv_iv x).2 (mv_iv y).1 = true by simpa using h]
  rfl
theorem mv_lt_no {x y : mv_V} (hx : mv_isI x = true) (hy : mv_isI y = true) (h1 : ¬ (mv_iv x).2 < (mv_iv y).1) (h2 : (mv_iv y).2 ≤ (mv_iv x).1) : mv_lt x y = some false := by
  unfold mv_lt
  have e : Nat.blt (mv_iv x).2 (mv_iv y).1 = false := by
    cases hb : Nat.blt (mv_iv x).2 (mv_iv y).1 with
    | false => rfl
    | true => simp only [Nat.blt_eq] at hb; exact absurd hb h1
  rw [hx, hy, e, show Nat.ble (mv_iv y).2 (mv_iv x).1 = true by simpa using h2]
  rfl
theorem sy_lt_t {x y : Nat} (h : x < y) (hy : y < 2147483648) : mv_lt (0, x, 0) (0, y, 0) = some true := mv_lt_of rfl rfl (by rw [sy_iv0, sy_iv0]; exact sy_upl h hy)
theorem sy_lt_f {x y : Nat} (h : y ≤ x) (hx : x < 2147483648) : mv_lt (0, x, 0) (0, y, 0) = some false := mv_lt_no rfl rfl (by rw [sy_iv0, sy_iv0]; exact Nat.not_lt.mpr (sy_upe h hx)) (by rw [sy_iv0, sy_iv0]; exact sy_upe h hx)
theorem sy_goto {off : Int} (hc : tt_cd k pc = (5, .goto off, 3)) (ht : mv_tgok pc off = true) (hp : mv_tg pc off = pc') (kk : sy_R k n fr lo pc' ls S w pc2 ls2 S2 w2) : sy_R k n fr lo pc ls S w pc2 ls2 S2 w2 := by
  refine sy_bk hc rfl rfl ?_ kk
  show (bif mv_tgok pc off then some (mv_tg pc off, S) else none) = _
  rw [ht, hp]
  rfl
theorem sy_ge_f {off : Int} {x y : Nat} (hc : tt_cd k pc = (5, .if_icmp .ge off, 3)) (ht : mv_tgok pc off = true) (h : x < y) (hy : y < 2147483648) (kk : sy_R k n fr lo (pc + 3) ls S w pc2 ls2 S2 w2) : sy_R k n fr lo pc ls ((0, y, 0) :: (0, x, 0) :: S) w pc2 ls2 S2 w2 := by
  refine sy_bk hc rfl rfl ?_ kk
  show (bif mv_tgok pc off then ((mv_lt (0, x, 0) (0, y, 0)).map (fun b => !b)).map (fun b => (bif b then mv_tg pc off else pc + 3, S)) else none) = _
  rw [ht, sy_lt_t h hy]
  rfl
theorem sy_ge_t {off : Int} {x y : Nat} (hc : tt_cd k pc = (5, .if_icmp .ge off, 3)) (ht : mv_tgok pc off = true) (h : y ≤ x) (hx : x < 2147483648) (hp : mv_tg pc off = pc') (kk : sy_R k n fr lo pc' ls S w pc2 ls2 S2 w2) : sy_R k n fr lo pc ls ((0, y, 0) :: (0, x, 0) :: S) w pc2 ls2 S2 w2 := by
  refine sy_bk hc rfl rfl ?_ kk
  show (bif mv_tgok pc off then ((mv_lt (0, x, 0) (0, y, 0)).map (fun b => !b)).map (fun b => (bif b then mv_tg pc off else pc + 3, S)) else none) = _
  rw [ht, sy_lt_f h hx, hp]
  rfl
theorem sy_le_f {off : Int} {x : Nat} (hc : tt_cd k pc = (5, .ifCond .le off, 3)) (ht : mv_tgok pc off = true) (h : 0 < x) (hx : x < 2147483648) (kk : sy_R k n fr lo (pc + 3) ls S w pc2 ls2 S2 w2) : sy_R k n fr lo pc ls ((0, x, 0) :: S) w pc2 ls2 S2 w2 := by
  refine sy_bk hc rfl rfl ?_ kk
  show (bif mv_tgok pc off then ((mv_lt (0, 0, 0) (0, x, 0)).map (fun b => !b)).map (fun b => (bif b then mv_tg pc off else pc + 3, S)) else none) = _
  rw [ht, sy_lt_t h hx]
  rfl
theorem sy_le_t {off : Int} (hc : tt_cd k pc = (5, .ifCond .le off, 3)) (ht : mv_tgok pc off = true) (hp : mv_tg pc off = pc') (kk : sy_R k n fr lo pc' ls S w pc2 ls2 S2 w2) : sy_R k n fr lo pc ls ((0, 0, 0) :: S) w pc2 ls2 S2 w2 := by
  refine sy_bk hc rfl rfl ?_ kk
  show (bif mv_tgok pc off then ((mv_lt (0, 0, 0) (0, 0, 0)).map (fun b => !b)).map (fun b => (bif b then mv_tg pc off else pc + 3, S)) else none) = _
  rw [ht, sy_lt_f (Nat.le_refl 0) (by decide), hp]
  rfl
/-- the end of a method without an answer -/
theorem sy_ret {L f : Nat} (hc : tt_cd k pc = (9, .return_, 1)) (hm : tt_mr k = 0) : sy_run (f + 1) k pc L [] n w fr lo = some ([], n, w, 0, 0, fr, lo) := by
  show mv_stepf tt_cd tt_kc tt_fl tt_nl tt_al tt_sl tt_ml tt_mL tt_mr tt_ini tt_mci tt_fty tt_ffin tt_tl tt_cn tt_dpk tt_stt tt_none (mv_run tt_cd tt_kc tt_fl tt_nl tt_al tt_sl tt_ml tt_mL tt_mr tt_ini tt_mci tt_fty tt_ffin tt_tl tt_cn tt_dpk tt_stt tt_none f) k pc L [] n w 0 0 fr lo = _
  unfold mv_stepf
  rw [hc]
  show (match mv_rt (tt_mr k) .return_ [] with
      | some ret => bif Nat.beq 1 1 then some (ret, n, w, 0, 0, fr, lo) else none
      | none => none) = _
  rw [hm]
  rfl
end SY
