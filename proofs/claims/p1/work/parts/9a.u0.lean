/-! NEW CELLS over known cells -/
section AP
variable {k n fr lo pc pc' : Nat} {ls ls' S S' : List mv_V} {w w' : mv_T 10} {Q : List mv_V → Nat → mv_T 10 → Nat → Nat → Prop} {N K : Nat} {pl : Nat → Nat} {w0 : mv_T 10} {cs : List mv_C}
theorem sy_Aw {i : Nat} {x : mv_C} (hw : wh N pl w0 w cs) (hi : i < N) (h : sy_R k n fr lo pc ls S w pc' ls' S' (mv_set 10 w (pl i) x)) (g : ∀ w', wh N pl w0 w' (cs.set i x) → sy_A k n fr lo pc' ls' S' w' Q) : sy_A k n fr lo pc ls S w Q := sy_As h (g _ (wh_set hw i hi x))
theorem sy_Af {js : List Nat} {vs : List mv_V} {i q ci nf X fi : Nat} {v : mv_V} (hw : wh N pl w0 w cs) (hX : fh X js vs) (hn : js.Nodup) (hi : i < N) (hq : js[q]? = some fi) (hok : mv_ok v = true) (h : sy_R k n fr lo pc ls S w pc' ls' S' (mv_set 10 w (pl i) (0, ci, nf, mv_wr 136 X fi (mv_enc v)))) (g : ∀ w' X', wh N pl w0 w' (cs.set i (0, ci, nf, X')) → fh X' js (vs.set q v) → sy_A k n fr lo pc' ls' S' w' Q) : sy_A k n fr lo pc ls S w Q := sy_As h (g _ _ (wh_set hw i hi _) (fh_set hX hn q hq hok))
theorem ap_g {i : Instr} {len d : Nat} {x : mv_C} (hw : wh N pl w0 w cs) (hK : cs.length = K) (hKN : K < N) (hp : pl K + 1 = pl (K + 1)) (hc : tt_cd k pc = (7, i, len)) (hlen : Nat.blt 0 len = true) (h : mv_ak (tt_nl k) tt_dpk (tt_al k) (tt_sl k) i S (pl K) = some (len, S', some x, d)) (g : ∀ w', wh N pl w0 w' (cs ++ [x]) → sy_A k (pl (K + 1)) fr lo (pc + len) ls S' w' (fun ret n' w' dc ds => Q ret n' w' (dc + 1) (ds + d))) : sy_A k (pl K) fr lo pc ls S w Q := by
  refine sy_Anew hc hlen h ?_
  rw [hp]
  subst hK
  exact g _ (wh_push hw hKN)
theorem ap_n (hw : wh N pl w0 w cs) (hKN : K < N) : Nat.blt (pl K) 1024 = true := by
  rw [Nat.blt_eq]
  exact wh_lt hw K hKN
theorem ap_ln {m : Nat} (hm : m ≤ 1000000) : mv_ln (0, m, 0) = true := by
  show (Nat.beq 0 0 && Nat.ble m 1000000) = true
  rw [Nat.ble_eq_true_of_le hm]
  rfl
theorem ap_b {m : Nat} (hw : wh N pl w0 w cs) (hK : cs.length = K) (hKN : K < N) (hp : pl K + 1 = pl (K + 1)) (hc : tt_cd k pc = (7, .newarray .byte, 2)) (hm : m ≤ 1000000) (g : ∀ w', wh N pl w0 w' (cs ++ [(1, 1, m, 0)]) → sy_A k (pl (K + 1)) fr lo (pc + 2) ls ((2, pl K, 0) :: S) w' (fun ret n' w' dc ds => Q ret n' w' (dc + 1) (ds + m))) : sy_A k (pl K) fr lo pc ls ((0, m, 0) :: S) w Q := by
  refine ap_g hw hK hKN hp hc rfl ?_ g
  show (bif mv_ln (0, m, 0) && Nat.blt (pl K) 1024 then some (2, (2, pl K, 0) :: S, some (1, 1, m, 0), m) else none) = _
  rw [ap_ln hm, ap_n hw hKN]
  rfl
theorem ap_i {m : Nat} (hw : wh N pl w0 w cs) (hK : cs.length = K) (hKN : K < N) (hp : pl K + 1 = pl (K + 1)) (hc : tt_cd k pc = (7, .newarray .int, 2)) (hm : m ≤ 1000000) (g : ∀ w', wh N pl w0 w' (cs ++ [(1, 0, m, 0)]) → sy_A k (pl (K + 1)) fr lo (pc + 2) ls ((2, pl K, 0) :: S) w' (fun ret n' w' dc ds => Q ret n' w' (dc + 1) (ds + m))) : sy_A k (pl K) fr lo pc ls ((0, m, 0) :: S) w Q := by
  refine ap_g hw hK hKN hp hc rfl ?_ g
  show (bif mv_ln (0, m, 0) && Nat.blt (pl K) 1024 then some (2, (2, pl K, 0) :: S, some (1, 0, m, 0), m) else none) = _
  rw [ap_ln hm, ap_n hw hKN]
  rfl
theorem ap_a {j m t : Nat} (hw : wh N pl w0 w cs) (hK : cs.length = K) (hKN : K < N) (hp : pl K + 1 = pl (K + 1)) (hc : tt_cd k pc = (7, .anewarray j, 3)) (ha : tt_al k j = t + 1) (hm : m ≤ 1000000) (g : ∀ w', wh N pl w0 w' (cs ++ [(3, t, m, 0)]) → sy_A k (pl (K + 1)) fr lo (pc + 3) ls ((2, pl K, 0) :: S) w' (fun ret n' w' dc ds => Q ret n' w' (dc + 1) (ds + m))) : sy_A k (pl K) fr lo pc ls ((0, m, 0) :: S) w Q := by
  refine ap_g hw hK hKN hp hc rfl ?_ g
  show (bif (mv_ln (0, m, 0) && Nat.blt (pl K) 1024) && Nat.blt 0 (tt_al k j) then some (3, (2, pl K, 0) :: S, some (3, tt_al k j - 1, m, 0), m) else none) = _
  rw [ap_ln hm, ap_n hw hKN, ha]
  rfl
theorem ap_o {j q nf : Nat} (hw : wh N pl w0 w cs) (hK : cs.length = K) (hKN : K < N) (hp : pl K + 1 = pl (K + 1)) (hc : tt_cd k pc = (7, .new j, 3)) (ha : tt_nl k j = (q + 1, nf)) (g : ∀ w', wh N pl w0 w' (cs ++ [(0, q, nf, tt_dpk q)]) → sy_A k (pl (K + 1)) fr lo (pc + 3) ls ((2, pl K, 0) :: S) w' (fun ret n' w' dc ds => Q ret n' w' (dc + 1) (ds + nf))) : sy_A k (pl K) fr lo pc ls S w Q := by
  refine ap_g hw hK hKN hp hc rfl ?_ g
  show (bif Nat.blt 0 (tt_nl k j).1 && Nat.blt (pl K) 1024 then some (3, (2, pl K, 0) :: S, some (0, (tt_nl k j).1 - 1, (tt_nl k j).2, tt_dpk ((tt_nl k j).1 - 1)), (tt_nl k j).2) else none) = _
  rw [ha, ap_n hw hKN]
  rfl
theorem xg_ref {ty : FieldType} {a : Nat} (h : mv_fit ty (2, 0, 0) = true) : mv_fit ty (2, a, 0) = true := by
  cases ty <;> first | exact h | (cases h)
theorem xg_int {ty : FieldType} {a : Nat} (h : ty = .int) : mv_fit ty (0, a, 0) = true := by
  subst h
  rfl
end AP
def kN : List Nat := [0, 1, 2, 3, 4, 5, 6, 7, 8, 9, 10]
theorem kN_0 : fh (tt_dpk 9) kN [(3, 0, 0), (0, 0, 0), (0, 0, 0), (0, 0, 0), (3, 0, 0), (3, 0, 0), (3, 0, 0), (0, 0, 0), (3, 0, 0), (0, 0, 0), (3, 0, 0)] := by
  intro i j v hj hv
  match i, hj, hv with
  | 0, hj, hv => exact Option.some.inj hj ▸ Option.some.inj hv ▸ (by decide +kernel : mv_dec (mv_rd 136 (tt_dpk 9) 0) = (3, 0, 0))
  | 1, hj, hv => exact Option.some.inj hj ▸ Option.some.inj hv ▸ (by decide +kernel : mv_dec (mv_rd 136 (tt_dpk 9) 1) = (0, 0, 0))
  | 2, hj, hv => exact Option.some.inj hj ▸ Option.some.inj hv ▸ (by decide +kernel : mv_dec (mv_rd 136 (tt_dpk 9) 2) = (0, 0, 0))
  | 3, hj, hv => exact Option.some.inj hj ▸ Option.some.inj hv ▸ (by decide +kernel : mv_dec (mv_rd 136 (tt_dpk 9) 3) = (0, 0, 0))
  | 4, hj, hv => exact Option.some.inj hj ▸ Option.some.inj hv ▸ (by decide +kernel : mv_dec (mv_rd 136 (tt_dpk 9) 4) = (3, 0, 0))
  | 5, hj, hv => exact Option.some.inj hj ▸ Option.some.inj hv ▸ (by decide +kernel : mv_dec (mv_rd 136 (tt_dpk 9) 5) = (3, 0, 0))
  | 6, hj, hv => exact Option.some.inj hj ▸ Option.some.inj hv ▸ (by decide +kernel : mv_dec (mv_rd 136 (tt_dpk 9) 6) = (3, 0, 0))
  | 7, hj, hv => exact Option.some.inj hj ▸ Option.some.inj hv ▸ (by decide +kernel : mv_dec (mv_rd 136 (tt_dpk 9) 7) = (0, 0, 0))
  | 8, hj, hv => exact Option.some.inj hj ▸ Option.some.inj hv ▸ (by decide +kernel : mv_dec (mv_rd 136 (tt_dpk 9) 8) = (3, 0, 0))
  | 9, hj, hv => exact Option.some.inj hj ▸ Option.some.inj hv ▸ (by decide +kernel : mv_dec (mv_rd 136 (tt_dpk 9) 9) = (0, 0, 0))
  | 10, hj, hv => exact Option.some.inj hj ▸ Option.some.inj hv ▸ (by decide +kernel : mv_dec (mv_rd 136 (tt_dpk 9) 10) = (3, 0, 0))
  | i + 11, hj, hv => exact absurd hj (by simp [kN])
def kP : List Nat := [0, 1, 2, 3, 4, 5]
theorem kP_0 : fh (tt_dpk 10) kP [(3, 0, 0), (0, 0, 0), (0, 0, 0), (0, 0, 0), (3, 0, 0), (3, 0, 0)] := by
  intro i j v hj hv
  match i, hj, hv with
  | 0, hj, hv => exact Option.some.inj hj ▸ Option.some.inj hv ▸ (by decide +kernel : mv_dec (mv_rd 136 (tt_dpk 10) 0) = (3, 0, 0))
  | 1, hj, hv => exact Option.some.inj hj ▸ Option.some.inj hv ▸ (by decide +kernel : mv_dec (mv_rd 136 (tt_dpk 10) 1) = (0, 0, 0))
  | 2, hj, hv => exact Option.some.inj hj ▸ Option.some.inj hv ▸ (by decide +kernel : mv_dec (mv_rd 136 (tt_dpk 10) 2) = (0, 0, 0))
  | 3, hj, hv => exact Option.some.inj hj ▸ Option.some.inj hv ▸ (by decide +kernel : mv_dec (mv_rd 136 (tt_dpk 10) 3) = (0, 0, 0))
  | 4, hj, hv => exact Option.some.inj hj ▸ Option.some.inj hv ▸ (by decide +kernel : mv_dec (mv_rd 136 (tt_dpk 10) 4) = (3, 0, 0))
  | 5, hj, hv => exact Option.some.inj hj ▸ Option.some.inj hv ▸ (by decide +kernel : mv_dec (mv_rd 136 (tt_dpk 10) 5) = (3, 0, 0))
  | i + 6, hj, hv => exact absurd hj (by simp [kP])
