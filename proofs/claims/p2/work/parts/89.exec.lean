/-! RUNS OVER WORLDS OF WHICH SOME CELLS ARE KNOWN -/
/-- the cells cs stand in the world w, at the places pl 0, pl 1 ..; all else is as in w0 -/
def wh (N : Nat) (pl : Nat → Nat) (w0 w : mv_T 10) (cs : List mv_C) : Prop := (∀ (i : Nat) (c : mv_C), cs[i]? = some c → mv_get 10 w (pl i) = c) ∧ (∀ i j, i < N → j < N → i ≠ j → pl i ≠ pl j) ∧ (∀ i, i < N → pl i < 1024) ∧ cs.length ≤ N ∧ ∀ j, j < 1024 → (∀ i, i < N → pl i ≠ j) → mv_get 10 w j = mv_get 10 w0 j
section WH
variable {N : Nat} {pl : Nat → Nat} {w0 w : mv_T 10} {cs : List mv_C}
theorem wh_at (h : wh N pl w0 w cs) (i : Nat) {c : mv_C} (hc : cs[i]? = some c) : mv_get 10 w (pl i) = c := h.1 i c hc
theorem wh_lt (h : wh N pl w0 w cs) (i : Nat) (hi : i < N) : pl i < 1024 := h.2.2.1 i hi
theorem wh_ne (h : wh N pl w0 w cs) (i j : Nat) (hi : i < N) (hj : j < N) (e : i ≠ j) : pl i ≠ pl j := h.2.1 i j hi hj e
theorem wh_set (h : wh N pl w0 w cs) (i : Nat) (hi : i < N) (x : mv_C) : wh N pl w0 (mv_set 10 w (pl i) x) (cs.set i x) := by
  obtain ⟨h1, h2, h3, h4, h5⟩ := h
  refine ⟨fun j c hc => ?_, h2, h3, by rw [List.length_set]; exact h4, fun j hj hn => ?_⟩
  · by_cases e : j = i
    · subst e
      rw [mv_gs (h3 j hi)]
      rw [List.getElem?_set] at hc
      simp only [if_true] at hc
      split at hc
      · exact Option.some.inj hc
      · cases hc
    · rw [List.getElem?_set_ne (Ne.symm e)] at hc
      have hj : j < N := by
        have := (List.getElem?_eq_some_iff.mp hc).1
        omega
      rw [mv_gn (h3 i hi) (h3 j hj) (h2 j i hj hi e)]
      exact h1 j c hc
  · rw [mv_gn (h3 i hi) hj (Ne.symm (hn i hi))]
    exact h5 j hj hn
end WH
/-- fields of an object that are known -/
def fh (X : Nat) (js : List Nat) (vs : List mv_V) : Prop := ∀ (i j : Nat) (v : mv_V), js[i]? = some j → vs[i]? = some v → mv_dec (mv_rd 136 X j) = v
theorem fh_at {X : Nat} {js : List Nat} {vs : List mv_V} (h : fh X js vs) (i : Nat) {j : Nat} {v : mv_V} (hj : js[i]? = some j) (hv : vs[i]? = some v) : mv_dec (mv_rd 136 X j) = v := h i j v hj hv
theorem fh_set {X : Nat} {js : List Nat} {vs : List mv_V} (h : fh X js vs) (hn : js.Nodup) (i : Nat) {j : Nat} (hj : js[i]? = some j) {v : mv_V} (hok : mv_ok v = true) : fh (mv_wr 136 X j (mv_enc v)) js (vs.set i v) := by
  intro a b u ha hu
  rw [mv_rd_wr]
  by_cases e : a = i
  · subst e
    have e2 : b = j := Option.some.inj (ha.symm.trans hj)
    subst e2
    rw [if_pos rfl, mv_dec_enc hok]
    rw [List.getElem?_set] at hu
    simp only [if_true] at hu
    split at hu
    · exact Option.some.inj hu
    · cases hu
  · rw [List.getElem?_set_ne (Ne.symm e)] at hu
    rw [if_neg (nd_ne hn ha hj e)]
    exact h a b u ha hu
/-- a run to its end, of which something is said -/
def sy_F (k n fr lo pc : Nat) (ls S : List mv_V) (w : mv_T 10) (Q : List mv_V → mv_T 10 → Prop) : Prop := ∀ L, sy_L L ls → ∃ (f : Nat) (ret : List mv_V) (w' : mv_T 10), Q ret w' ∧ sy_run f k pc L S n w fr lo = some (ret, n, w', 0, 0, fr, lo)
def sy_D (q n F Lo : Nat) (as : List mv_V) (w : mv_T 10) (Q : List mv_V → mv_T 10 → Prop) : Prop := ∃ (ret : List mv_V) (w' : mv_T 10), Q ret w' ∧ sy_C q n F Lo as w ret w'
section SF
variable {k n fr lo pc pc' : Nat} {ls ls' S S' : List mv_V} {w w' : mv_T 10} {Q : List mv_V → mv_T 10 → Prop}
theorem sy_Fs (h : sy_R k n fr lo pc ls S w pc' ls' S' w') (g : sy_F k n fr lo pc' ls' S' w' Q) : sy_F k n fr lo pc ls S w Q := by
  intro L hL
  obtain ⟨c, L', h1, h2⟩ := h L hL
  obtain ⟨f, ret, w2, q, r⟩ := g L' h1
  exact ⟨f + c, ret, w2, q, h2 f _ r⟩
theorem sy_Dof {as us : List mv_V} (ho : mv_oks as = true) (hl : as.all (fun v => !(mv_isL v)) = true) (hu : us.all (fun v => Nat.beq v.1 255) = true) (h : sy_F k n fr lo 0 (as ++ us) [] w Q) : sy_D k n fr lo as w Q := by
  obtain ⟨f, ret, w2, q, r⟩ := h _ (sy_l0L ho hl hu)
  exact ⟨ret, w2, q, f, r⟩
theorem sy_Dc {as ret : List mv_V} (h : sy_C k n fr lo as w ret w') (q : Q ret w') : sy_D k n fr lo as w Q := ⟨ret, w', q, h⟩
theorem sy_Fi {x : mv_V} (hc : tt_cd k pc = (9, .ireturn, 1)) (hm : tt_mr k = 1) (hx : mv_isI x = true) (q : Q [x] w) : sy_F k n fr lo pc ls [x] w Q := fun _ _ => ⟨1, _, _, q, sy_reti hc hm hx⟩
theorem sy_Fz {x : Nat} (hc : tt_cd k pc = (9, .ireturn, 1)) (hm : tt_mr k = 4) (hx : x < 2) (q : Q [(0, x, 0)] w) : sy_F k n fr lo pc ls [(0, x, 0)] w Q := fun _ _ => ⟨1, _, _, q, sy_retz hc hm hx⟩
theorem sy_Fv (hc : tt_cd k pc = (9, .return_, 1)) (hm : tt_mr k = 0) (q : Q [] w) : sy_F k n fr lo pc ls [] w Q := fun _ _ => ⟨1, _, _, q, sy_ret (f := 0) hc hm⟩
theorem sy_Fa {x : mv_V} (hc : tt_cd k pc = (9, .areturn, 1)) (hm : tt_mr k = 3) (hx : mv_isA x = true) (q : Q [x] w) : sy_F k n fr lo pc ls [x] w Q := fun L hL => by
  obtain ⟨f, h⟩ := sy_Ea (n := n) (fr := fr) (lo := lo) (ls := ls) (w := w) hc hm hx L hL
  exact ⟨f, _, _, q, h⟩
/-- a store into a known cell -/
theorem sy_Fw {N : Nat} {pl : Nat → Nat} {w0 : mv_T 10} {cs : List mv_C} {i : Nat} {x : mv_C} (hw : wh N pl w0 w cs) (hi : i < N) (h : sy_R k n fr lo pc ls S w pc' ls' S' (mv_set 10 w (pl i) x)) (g : ∀ w', wh N pl w0 w' (cs.set i x) → sy_F k n fr lo pc' ls' S' w' Q) : sy_F k n fr lo pc ls S w Q := sy_Fs h (g _ (wh_set hw i hi x))
/-- a store into a field -/
theorem sy_Ff {N : Nat} {pl : Nat → Nat} {w0 : mv_T 10} {cs : List mv_C} {js : List Nat} {vs : List mv_V} {i q ci nf X fi : Nat} {v : mv_V} (hw : wh N pl w0 w cs) (hX : fh X js vs) (hn : js.Nodup) (hi : i < N) (hq : js[q]? = some fi) (hok : mv_ok v = true) (h : sy_R k n fr lo pc ls S w pc' ls' S' (mv_set 10 w (pl i) (0, ci, nf, mv_wr 136 X fi (mv_enc v)))) (g : ∀ w' X', wh N pl w0 w' (cs.set i (0, ci, nf, X')) → fh X' js (vs.set q v) → sy_F k n fr lo pc' ls' S' w' Q) : sy_F k n fr lo pc ls S w Q := sy_Fs h (g _ _ (wh_set hw i hi _) (fh_set hX hn q hq hok))
end SF
section SX
variable {k n fr lo pc pc' pc2 : Nat} {ls ls' ls2 S S' S2 : List mv_V} {w w' w2 : mv_T 10}
theorem sx_iadd {x y z : Nat} (hc : tt_cd k pc = (2, .iadd, 1)) (h : mo_add x y = z) : sy_R k n fr lo pc ls ((0, y, 0) :: (0, x, 0) :: S) w (pc + 1) ls ((0, z, 0) :: S) w := by subst h; exact sy_iadd hc sy_refl
theorem sx_isub {x y z : Nat} (hc : tt_cd k pc = (2, .isub, 1)) (h : mo_sub x y = z) : sy_R k n fr lo pc ls ((0, y, 0) :: (0, x, 0) :: S) w (pc + 1) ls ((0, z, 0) :: S) w := by subst h; exact sy_isub hc sy_refl
theorem sx_imul {x y z : Nat} (hc : tt_cd k pc = (2, .imul, 1)) (h : mo_mul x y = z) : sy_R k n fr lo pc ls ((0, y, 0) :: (0, x, 0) :: S) w (pc + 1) ls ((0, z, 0) :: S) w := by subst h; exact sy_imul hc sy_refl
theorem sx_iand {x y z : Nat} (hc : tt_cd k pc = (2, .iand, 1)) (h : mo_and x y = z) : sy_R k n fr lo pc ls ((0, y, 0) :: (0, x, 0) :: S) w (pc + 1) ls ((0, z, 0) :: S) w := by subst h; exact sy_iand hc sy_refl
theorem sx_ior {x y z : Nat} (hc : tt_cd k pc = (2, .ior, 1)) (h : mo_or x y = z) : sy_R k n fr lo pc ls ((0, y, 0) :: (0, x, 0) :: S) w (pc + 1) ls ((0, z, 0) :: S) w := by subst h; exact sy_ior hc sy_refl
theorem sx_ixor {x y z : Nat} (hc : tt_cd k pc = (2, .ixor, 1)) (h : mo_xor x y = z) : sy_R k n fr lo pc ls ((0, y, 0) :: (0, x, 0) :: S) w (pc + 1) ls ((0, z, 0) :: S) w := by subst h; exact sy_ixor hc sy_refl
theorem sx_ishl {x y z : Nat} (hc : tt_cd k pc = (2, .ishl, 1)) (h : mo_shl x y = z) : sy_R k n fr lo pc ls ((0, y, 0) :: (0, x, 0) :: S) w (pc + 1) ls ((0, z, 0) :: S) w := by subst h; exact sy_ishl hc sy_refl
theorem sx_ishr {x y z : Nat} (hc : tt_cd k pc = (2, .ishr, 1)) (h : mo_shr x y = z) : sy_R k n fr lo pc ls ((0, y, 0) :: (0, x, 0) :: S) w (pc + 1) ls ((0, z, 0) :: S) w := by subst h; exact sy_ishr hc sy_refl
theorem sx_iushr {x y z : Nat} (hc : tt_cd k pc = (2, .iushr, 1)) (h : mo_ushr x y = z) : sy_R k n fr lo pc ls ((0, y, 0) :: (0, x, 0) :: S) w (pc + 1) ls ((0, z, 0) :: S) w := by subst h; exact sy_iushr hc sy_refl
theorem sx_idiv {x y z : Nat} (hc : tt_cd k pc = (2, .idiv, 1)) (h : (Nat.blt x 2147483648 && (Nat.blt y 2147483648 && Nat.blt 0 y)) = true) (e : x / y = z) : sy_R k n fr lo pc ls ((0, y, 0) :: (0, x, 0) :: S) w (pc + 1) ls ((0, z, 0) :: S) w := by subst e; exact sy_idiv hc h sy_refl
theorem sx_irem {x y z : Nat} (hc : tt_cd k pc = (2, .irem, 1)) (h : (Nat.blt x 2147483648 && (Nat.blt y 2147483648 && Nat.blt 0 y)) = true) (e : x % y = z) : sy_R k n fr lo pc ls ((0, y, 0) :: (0, x, 0) :: S) w (pc + 1) ls ((0, z, 0) :: S) w := by subst e; exact sy_irem hc h sy_refl
theorem sx_i2b {x z : Nat} (hc : tt_cd k pc = (2, .i2b, 1)) (h : mn_b x = z) : sy_R k n fr lo pc ls ((0, x, 0) :: S) w (pc + 1) ls ((0, z, 0) :: S) w := by subst h; exact sy_i2b hc sy_refl
theorem sx_i2l {x : Nat} (hc : tt_cd k pc = (2, .i2l, 1)) (h : x < 2147483648) : sy_R k n fr lo pc ls ((0, x, 0) :: S) w (pc + 1) ls ((1, x, 0) :: S) w := by
  refine sy_sk hc rfl ?_ sy_refl
  show some (1, (1, (mn_up x + 18446744071562067968) % 18446744073709551616, 0) :: S) = _
  have e : (mn_up x + 18446744071562067968) % 18446744073709551616 = x := by unfold mn_up; omega
  rw [e]
theorem sx_iinc {j a c z : Nat} {q : Int} (hc : tt_cd k pc = (1, .iinc j q, 3)) (hv : ls[j]? = some (0, a, 0)) (hq : mv_sgn q = c) (hj : Nat.blt j (tt_mL k) = true) (hnl : sy_nl ls j = true) (h : mo_add a c = z) (hl : ls.set j (0, z, 0) = ls') : sy_R k n fr lo pc ls S w (pc + 3) ls' S w := by subst h; subst hl; exact sy_iinc hc hv hq hj hnl sy_refl
theorem sx_ist {j : Nat} {x : mv_V} (hc : tt_cd k pc = (1, .istore j, 2)) (hx : mv_isI x = true) (hok : mv_ok x = true) (hj : Nat.blt j (tt_mL k) = true) (hnl : sy_nl ls j = true) (hl : ls.set j x = ls') : sy_R k n fr lo pc ls (x :: S) w (pc + 2) ls' S w := by subst hl; exact sy_ist hc hx hok hj hnl sy_refl
theorem sx_istn {jf : Fin 4} {j : Nat} {x : mv_V} (hc : tt_cd k pc = (1, .istore_n jf, 1)) (hjf : jf.val = j) (hx : mv_isI x = true) (hok : mv_ok x = true) (hj : Nat.blt j (tt_mL k) = true) (hnl : sy_nl ls j = true) (hl : ls.set j x = ls') : sy_R k n fr lo pc ls (x :: S) w (pc + 1) ls' S w := by subst hl; exact sy_istn hc hjf hx hok hj hnl sy_refl
theorem sx_ast {j : Nat} {x : mv_V} (hc : tt_cd k pc = (1, .astore j, 2)) (hx : mv_isA x = true) (hok : mv_ok x = true) (hj : Nat.blt j (tt_mL k) = true) (hnl : sy_nl ls j = true) (hl : ls.set j x = ls') : sy_R k n fr lo pc ls (x :: S) w (pc + 2) ls' S w := by subst hl; exact sy_ast hc hx hok hj hnl sy_refl
theorem sx_astn {jf : Fin 4} {j : Nat} {x : mv_V} (hc : tt_cd k pc = (1, .astore_n jf, 1)) (hjf : jf.val = j) (hx : mv_isA x = true) (hok : mv_ok x = true) (hj : Nat.blt j (tt_mL k) = true) (hnl : sy_nl ls j = true) (hl : ls.set j x = ls') : sy_R k n fr lo pc ls (x :: S) w (pc + 1) ls' S w := by subst hl; exact sy_astn hc hjf hx hok hj hnl sy_refl
theorem sx_lld {j : Nat} {v : mv_V} (hc : tt_cd k pc = (1, .lload j, 2)) (hv : ls[j]? = some v) (hk : mv_isL v = true) : sy_R k n fr lo pc ls S w (pc + 2) ls (v :: S) w := by
  refine sy_lk hc rfl (fun L hL => ⟨L, hL, ?_⟩) sy_refl
  show (bif mv_isL (mv_lg L j) then some (2, L, mv_lg L j :: S) else none) = _
  rw [hL j v hv (mv_isL_ne hk), hk]
  rfl
theorem sx_lv {x : Nat} (h : x < 9223372036854775808) : mv_lv (1, x, 0) = (x + 9223372036854775808, x + 9223372036854775808) := by
  show (ml_up x, ml_up x) = _
  have e : ml_up x = x + 9223372036854775808 := by unfold ml_up; omega
  rw [e]
theorem sk_lcmp (x y : mv_V) (S : List mv_V) : mv_sk .lcmp (y :: x :: S) = (mv_lc x y).map (fun z => (1, z :: S)) := rfl
theorem sx_lcmp_g {x y : Nat} (hc : tt_cd k pc = (2, .lcmp, 1)) (hx : x < 9223372036854775808) (h : y < x) : sy_R k n fr lo pc ls ((1, y, 0) :: (1, x, 0) :: S) w (pc + 1) ls ((0, 1, 0) :: S) w := by
  refine sy_sk hc rfl ?_ sy_refl
  have e : mv_lc (1, x, 0) (1, y, 0) = some (0, 1, 0) := by
    unfold mv_lc
    rw [sx_lv hx, sx_lv (by omega)]
    have a1 : Nat.blt (x + 9223372036854775808) (y + 9223372036854775808) = false := by
      rw [← Bool.not_eq_true, Nat.blt_eq]; omega
    have a2 : Nat.blt (y + 9223372036854775808) (x + 9223372036854775808) = true := by
      rw [Nat.blt_eq]; omega
    dsimp only
    rw [a1, a2]
    rfl
  rw [sk_lcmp, e]
  rfl
theorem sx_lcmp_l {x y : Nat} (hc : tt_cd k pc = (2, .lcmp, 1)) (hy : y < 9223372036854775808) (h : x < y) : sy_R k n fr lo pc ls ((1, y, 0) :: (1, x, 0) :: S) w (pc + 1) ls ((0, 4294967295, 0) :: S) w := by
  refine sy_sk hc rfl ?_ sy_refl
  have e : mv_lc (1, x, 0) (1, y, 0) = some (0, 4294967295, 0) := by
    unfold mv_lc
    rw [sx_lv hy, sx_lv (by omega)]
    have a1 : Nat.blt (x + 9223372036854775808) (y + 9223372036854775808) = true := by
      rw [Nat.blt_eq]; omega
    dsimp only
    rw [a1]
    rfl
  rw [sk_lcmp, e]
  rfl
theorem sx_lcmp_e {x y : Nat} (hc : tt_cd k pc = (2, .lcmp, 1)) (hy : y < 9223372036854775808) (h : x = y) : sy_R k n fr lo pc ls ((1, y, 0) :: (1, x, 0) :: S) w (pc + 1) ls ((0, 0, 0) :: S) w := by
  subst h
  refine sy_sk hc rfl ?_ sy_refl
  have e : mv_lc (1, x, 0) (1, x, 0) = some (0, 0, 0) := by
    unfold mv_lc
    rw [sx_lv hy]
    have a1 : Nat.blt (x + 9223372036854775808) (x + 9223372036854775808) = false := by
      rw [← Bool.not_eq_true, Nat.blt_eq]; omega
    dsimp only
    rw [a1, Nat.beq_refl]
    rfl
  rw [sk_lcmp, e]
  rfl
theorem sx_ifgt_t {off : Int} {x : Nat} (hc : tt_cd k pc = (5, .ifCond .gt off, 3)) (ht : mv_tgok pc off = true) (h : 0 < x) (hx : x < 2147483648) (hp : mv_tg pc off = pc') : sy_R k n fr lo pc ls ((0, x, 0) :: S) w pc' ls S w := by
  subst hp
  refine sy_bk hc rfl rfl ?_ sy_refl
  show (bif mv_tgok pc off then (mv_bc .gt (0, x, 0) (0, 0, 0)).map (fun b => (bif b then mv_tg pc off else pc + 3, S)) else none) = _
  rw [ht, show mv_bc .gt (0, x, 0) (0, 0, 0) = some true from sy_lt_t h hx]
  rfl
theorem sx_ifgt_f {off : Int} {x : Nat} (hc : tt_cd k pc = (5, .ifCond .gt off, 3)) (ht : mv_tgok pc off = true) (h : x = 0 ∨ 2147483648 ≤ x) (hx : x < 4294967296) : sy_R k n fr lo pc ls ((0, x, 0) :: S) w (pc + 3) ls S w := by
  refine sy_bk hc rfl rfl ?_ sy_refl
  show (bif mv_tgok pc off then (mv_bc .gt (0, x, 0) (0, 0, 0)).map (fun b => (bif b then mv_tg pc off else pc + 3, S)) else none) = _
  have e : mv_bc .gt (0, x, 0) (0, 0, 0) = some false := by
    show mv_lt (0, 0, 0) (0, x, 0) = some false
    unfold mv_lt
    rw [sy_iv0, sy_iv0]
    have a1 : Nat.blt (mn_up 0) (mn_up x) = false := by
      rw [← Bool.not_eq_true, Nat.blt_eq]; unfold mn_up; omega
    have a2 : Nat.ble (mn_up x) (mn_up 0) = true := by
      rw [Nat.ble_eq]; unfold mn_up; omega
    dsimp only
    rw [a1, a2]
    rfl
  rw [ht, e]
  rfl
theorem sx_nul_t {off : Int} (hc : tt_cd k pc = (5, .ifnull off, 3)) (ht : mv_tgok pc off = true) (hp : mv_tg pc off = pc') : sy_R k n fr lo pc ls ((3, 0, 0) :: S) w pc' ls S w := by
  subst hp
  refine sy_bk hc rfl rfl ?_ sy_refl
  show (bif mv_tgok pc off && true then some (mv_tg pc off, S) else none) = _
  rw [ht]
  rfl
theorem sx_nnl_f {off : Int} (hc : tt_cd k pc = (5, .ifnonnull off, 3)) (ht : mv_tgok pc off = true) : sy_R k n fr lo pc ls ((3, 0, 0) :: S) w (pc + 3) ls S w := by
  refine sy_bk hc rfl rfl ?_ sy_refl
  show (bif mv_tgok pc off && true then some (pc + 3, S) else none) = _
  rw [ht]
  rfl
/-- three longs at the entry -/
theorem sx_l3 {a b c : Nat} (ha : a < 18446744073709551616) (hb : b < 18446744073709551616) (hc : c < 18446744073709551616) : sy_L (mv_l0 0 [(1, a, 0), (1, b, 0), (1, c, 0)] 0) [(1, a, 0), (255, 0, 0), (1, b, 0), (255, 0, 0), (1, c, 0), (255, 0, 0)] := by
  intro j v hv hn
  show mv_lg (mv_wr 136 (mv_wr 136 (mv_wr 136 0 0 (mv_enc (1, a, 0))) 2 (mv_enc (1, b, 0))) 4 (mv_enc (1, c, 0))) j = v
  rw [mv_lg_wr, mv_lg_wr, mv_lg_wr]
  match j, hv with
  | 0, hv => rw [if_neg (by decide), if_neg (by decide), if_pos rfl, mv_dec_enc (sy_ok1 ha)]; exact Option.some.inj hv
  | 1, hv => exact absurd (congrArg Prod.fst (Option.some.inj hv)).symm hn
  | 2, hv => rw [if_neg (by decide), if_pos rfl, mv_dec_enc (sy_ok1 hb)]; exact Option.some.inj hv
  | 3, hv => exact absurd (congrArg Prod.fst (Option.some.inj hv)).symm hn
  | 4, hv => rw [if_pos rfl, mv_dec_enc (sy_ok1 hc)]; exact Option.some.inj hv
  | 5, hv => exact absurd (congrArg Prod.fst (Option.some.inj hv)).symm hn
  | j + 6, hv => simp at hv
theorem sx_ial {a b e q c z : Nat} (hc : tt_cd k pc = (3, .iaload, 1)) (hw : mv_get 10 w a = (1, 0, q, c)) (hi : e < q) (hq : q ≤ 2147483647) (hz : mv_rd 32 c e = z) : sy_R k n fr lo pc ls ((0, e, 0) :: (2, a, b) :: S) w (pc + 1) ls ((0, z, 0) :: S) w := by subst hz; exact sy_ial hc hw rfl hi hq sy_refl
theorem sx_bal {a b e q c z : Nat} (hc : tt_cd k pc = (3, .baload, 1)) (hw : mv_get 10 w a = (1, 1, q, c)) (hi : e < q) (hq : q ≤ 2147483647) (hz : mv_rd 32 c e = z) : sy_R k n fr lo pc ls ((0, e, 0) :: (2, a, b) :: S) w (pc + 1) ls ((0, z, 0) :: S) w := by subst hz; exact sy_bal hc hw rfl hi hq sy_refl
theorem sx_zal {a b e q c z : Nat} (hc : tt_cd k pc = (3, .baload, 1)) (hw : mv_get 10 w a = (1, 2, q, c)) (hi : e < q) (hq : q ≤ 2147483647) (hz : mv_rd 32 c e = z) : sy_R k n fr lo pc ls ((0, e, 0) :: (2, a, b) :: S) w (pc + 1) ls ((0, z, 0) :: S) w := by
  subst hz
  refine sy_hk hc rfl ?_ sy_refl
  show (bif Nat.beq (mv_tc tt_tl[(mv_get 10 w a).2.1]?) 2 then (mv_al tt_tl 2 (mv_get 10 w a) (0, e, 0)).map (fun v => (1, v :: S)) else (mv_al tt_tl 3 (mv_get 10 w a) (0, e, 0)).map (fun v => (1, v :: S))) = _
  rw [hw]
  show (bif Nat.beq 3 3 && mv_ix (0, e, 0) q then some (0, mv_rd 32 c e, 0) else none).map (fun v => (1, v :: S)) = _
  rw [sy_ix rfl hi hq]
  rfl
theorem sx_aaln {a b e t q c : Nat} {C : String} (hc : tt_cd k pc = (3, .aaload, 1)) (hw : mv_get 10 w a = (3, t, q, c)) (ht : tt_tl[t]? = some (.object C)) (hi : e < q) (hq : q ≤ 2147483647) (hp : mv_rd 32 c e = 0) : sy_R k n fr lo pc ls ((0, e, 0) :: (2, a, b) :: S) w (pc + 1) ls ((3, 0, 0) :: S) w := by
  refine sy_hk hc rfl ?_ sy_refl
  show (mv_al tt_tl 5 (mv_get 10 w a) (0, e, 0)).map (fun v => (1, v :: S)) = _
  rw [hw]
  show (bif Nat.beq (mv_tc tt_tl[t]?) 5 && mv_ix (0, e, 0) q then some (bif Nat.beq (mv_rd 32 c e) 0 then (3, 0, 0) else (2, mv_rd 32 c e - 1, 0)) else none).map (fun v => (1, v :: S)) = _
  rw [ht, sy_ix rfl hi hq, hp]
  rfl
theorem sx_zas {a b e i q c v : Nat} (hc : tt_cd k pc = (6, .bastore, 1)) (hw : mv_get 10 w a = (1, 2, q, c)) (he : e = i) (hi : i < q) (hq : q ≤ 2147483647) (hv : v < 2) (hw' : mv_set 10 w a (1, 2, q, mv_wr 32 c i v) = w') (kk : sy_R k n fr lo (pc + 1) ls S w' pc2 ls2 S2 w2) : sy_R k n fr lo pc ls ((0, v, 0) :: (0, e, 0) :: (2, a, b) :: S) w pc2 ls2 S2 w2 := by
  subst hw'
  refine sy_wk hc rfl ?_ kk
  show (bif Nat.beq (mv_tc tt_tl[(mv_get 10 w a).2.1]?) 3 then (mv_as tt_tl 3 (mv_get 10 w a) (0, e, 0) (0, v, 0)).map (fun y => (1, S, mv_set 10 w a y)) else (mv_as tt_tl 2 (mv_get 10 w a) (0, e, 0) (0, v, 0)).map (fun y => (1, S, mv_set 10 w a y))) = _
  rw [hw]
  show (bif Nat.beq 3 3 && mv_ix (0, e, 0) q then (bif Nat.blt v 2 then some (1, 2, q, mv_wr 32 c e v) else none) else none).map (fun y => (1, S, mv_set 10 w a y)) = _
  rw [sy_ix he hi hq, he, show Nat.blt v 2 = true by rw [Nat.blt_eq]; exact hv]
  rfl
theorem sx_pfz {j kd ci fi nf pk a b x : Nat} (hc : tt_cd k pc = (6, .putfield j, 3)) (hf : tt_fl k j = (kd, ci, fi)) (hkd : Nat.ble 1 kd = true) (hty : tt_fty ci fi = .boolean) (hfin : tt_ffin ci fi = false) (hw : mv_get 10 w a = (0, ci, nf, pk)) (hfi : Nat.blt fi nf = true) (hx : x < 2) (hw' : mv_set 10 w a (0, ci, nf, mv_wr 136 pk fi (mv_enc (0, x, 0))) = w') (kk : sy_R k n fr lo (pc + 3) ls S w' pc2 ls2 S2 w2) : sy_R k n fr lo pc ls ((0, x, 0) :: (2, a, b) :: S) w pc2 ls2 S2 w2 := by
  subst hw'
  refine sy_wk hc rfl ?_ kk
  show (mv_pf (tt_fl k j) (tt_fty (tt_fl k j).2.1 (tt_fl k j).2.2) (tt_ffin (tt_fl k j).2.1 (tt_fl k j).2.2) (tt_ini k) (mv_get 10 w a) (0, x, 0)).map (fun y => (3, S, mv_set 10 w a y)) = _
  rw [hf, hw]
  dsimp only
  rw [hty, hfin]
  show (bif (Nat.beq 0 0 && (Nat.beq ci ci && (Nat.blt fi nf && Nat.ble 1 kd))) && (mv_ok (0, x, 0) && (Nat.blt x 2 && true)) then some (0, ci, nf, mv_wr 136 pk fi (mv_enc (0, x, 0))) else none).map (fun y => (3, S, mv_set 10 w a y)) = _
  rw [Nat.beq_refl ci, hfi, hkd, sy_ok0 (show x < 4294967296 by omega), show Nat.blt x 2 = true by rw [Nat.blt_eq]; exact hx]
  rfl
theorem sx_aas {a b d b2 e i t ci nf q c X : Nat} {C : String} (hc : tt_cd k pc = (6, .aastore, 1)) (hw : mv_get 10 w a = (3, t, q, c)) (hd : mv_get 10 w d = (0, ci, nf, X)) (ht : tt_tl[t]? = some (.object C)) (hn : tt_cn[ci]? = some C) (he : e = i) (hi : i < q) (hq : q ≤ 2147483647) (hw' : mv_set 10 w a (3, t, q, mv_wr 32 c i (d + 1)) = w') (kk : sy_R k n fr lo (pc + 1) ls S w' pc2 ls2 S2 w2) : sy_R k n fr lo pc ls ((2, d, b2) :: (0, e, 0) :: (2, a, b) :: S) w pc2 ls2 S2 w2 := by
  subst hw'
  refine sy_wk hc rfl ?_ kk
  show (mv_aq tt_tl tt_cn (mv_get 10 w a) (mv_get 10 w d) (0, e, 0) d).map (fun y => (1, S, mv_set 10 w a y)) = _
  rw [hw, hd]
  unfold mv_aq
  dsimp only
  rw [sy_ix he hi hq, ht, hn]
  dsimp only
  rw [decide_eq_true (rfl : C = C), he]
  rfl
end SX
