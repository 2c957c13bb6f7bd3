/-! SYMBOLIC RUNS, V: rows of references, null, arraycopy; places that are apart -/
theorem nd_ne {l : List Nat} (h : l.Nodup) {i j a b : Nat} (hi : l[i]? = some a) (hj : l[j]? = some b) (hij : i ≠ j) : a ≠ b := by
  intro e
  subst e
  obtain ⟨h1, e1⟩ := List.getElem?_eq_some_iff.mp hi
  obtain ⟨h2, e2⟩ := List.getElem?_eq_some_iff.mp hj
  have hp := List.pairwise_iff_getElem.mp h
  rcases Nat.lt_or_gt_of_ne hij with z | z
  · exact hp i j h1 h2 z (e1.trans e2.symm)
  · exact hp j i h2 h1 z (e2.trans e1.symm)
section SV
variable {k n fr lo pc pc' pc2 : Nat} {ls ls2 S S2 : List mv_V} {w w' w2 : mv_T 10}
theorem sy_aald {a b e i t q c p : Nat} {C : String} (hc : tt_cd k pc = (3, .aaload, 1)) (hw : mv_get 10 w a = (3, t, q, c)) (ht : tt_tl[t]? = some (.object C)) (he : e = i) (hi : i < q) (hq : q ≤ 2147483647) (hp : mv_rd 32 c i = p + 1) (kk : sy_R k n fr lo (pc + 1) ls ((2, p, 0) :: S) w pc2 ls2 S2 w2) : sy_R k n fr lo pc ls ((0, e, 0) :: (2, a, b) :: S) w pc2 ls2 S2 w2 := by
  refine sy_hk hc rfl ?_ kk
  show (mv_al tt_tl 5 (mv_get 10 w a) (0, e, 0)).map (fun v => (1, v :: S)) = _
  rw [hw]
  show (bif Nat.beq (mv_tc tt_tl[t]?) 5 && mv_ix (0, e, 0) q then some (bif Nat.beq (mv_rd 32 c e) 0 then (3, 0, 0) else (2, mv_rd 32 c e - 1, 0)) else none).map (fun v => (1, v :: S)) = _
  rw [ht, sy_ix he hi hq, he, hp]
  rfl
theorem sy_nul_f {off : Int} {p b : Nat} (hc : tt_cd k pc = (5, .ifnull off, 3)) (ht : mv_tgok pc off = true) (kk : sy_R k n fr lo (pc + 3) ls S w pc2 ls2 S2 w2) : sy_R k n fr lo pc ls ((2, p, b) :: S) w pc2 ls2 S2 w2 := by
  refine sy_bk hc rfl rfl ?_ kk
  show (bif mv_tgok pc off && true then some (pc + 3, S) else none) = _
  rw [ht]
  rfl
theorem sy_nnl_t {off : Int} {p b : Nat} (hc : tt_cd k pc = (5, .ifnonnull off, 3)) (ht : mv_tgok pc off = true) (hp : mv_tg pc off = pc') (kk : sy_R k n fr lo pc' ls S w pc2 ls2 S2 w2) : sy_R k n fr lo pc ls ((2, p, b) :: S) w pc2 ls2 S2 w2 := by
  refine sy_bk hc rfl rfl ?_ kk
  show (bif mv_tgok pc off && true then some (mv_tg pc off, S) else none) = _
  rw [ht, hp]
  rfl
theorem sy_ast {j : Nat} {x : mv_V} (hc : tt_cd k pc = (1, .astore j, 2)) (hx : mv_isA x = true) (hok : mv_ok x = true) (hj : Nat.blt j (tt_mL k) = true) (hnl : sy_nl ls j = true) (kk : sy_R k n fr lo (pc + 2) (ls.set j x) S w pc2 ls2 S2 w2) : sy_R k n fr lo pc ls (x :: S) w pc2 ls2 S2 w2 := by
  refine sy_lk hc rfl (fun L hL => ⟨mv_ls1 L j x, sy_ls1 hL hnl hok, ?_⟩) kk
  show (bif mv_isA x && (mv_ok x && Nat.blt j (tt_mL k)) then some (2, mv_ls1 L j x, S) else none) = _
  rw [hx, hok, hj]
  rfl
theorem sy_Ea {x : mv_V} {n fr lo : Nat} (hc : tt_cd k pc = (9, .areturn, 1)) (hm : tt_mr k = 3) (hx : mv_isA x = true) : sy_E k n fr lo pc ls [x] w ([x], n, w, 0, 0, fr, lo) := by
  intro L _
  refine ⟨1, ?_⟩
  show mv_stepf tt_cd tt_kc tt_fl tt_nl tt_al tt_sl tt_ml tt_mL tt_mr tt_ini tt_mci tt_fty tt_ffin tt_tl tt_cn tt_dpk tt_stt tt_none (mv_run tt_cd tt_kc tt_fl tt_nl tt_al tt_sl tt_ml tt_mL tt_mr tt_ini tt_mci tt_fty tt_ffin tt_tl tt_cn tt_dpk tt_stt tt_none 0) k pc L [x] n w 0 0 fr lo = _
  unfold mv_stepf
  rw [hc]
  show (match mv_rt (tt_mr k) .areturn [x] with
      | some ret => bif Nat.beq 1 1 then some (ret, n, w, 0, 0, fr, lo) else none
      | none => none) = _
  rw [hm]
  show (match (bif Nat.beq 3 3 && mv_isA x then some [x] else none) with
      | some ret => bif Nat.beq 1 1 then some (ret, n, w, 0, 0, fr, lo) else none
      | none => none) = _
  rw [hx]
  rfl
/-- bytes that are bytes -/
def nb_ok (P a : Nat) : Nat → Prop := fun m => ∀ j, j < m → mn_b (mv_rd 32 P (a + j)) % 4294967296 = mv_rd 32 P (a + j)
/-- arraycopy of bytes from one row to another -/
theorem sy_cpb {pa pb qa qb A B sp dp m : Nat} {S0 : List mv_V} (ha : mv_get 10 w pa = (1, 1, qa, A)) (hb : mv_get 10 w pb = (1, 1, qb, B)) (h1 : sp + m ≤ qa) (h2 : dp + m ≤ qb) (hqa : qa ≤ 2147483647) (hqb : qb ≤ 2147483647) (hab : mv_ab A sp m = true) : mv_c8 tt_tl tt_stt 0 [(2, pa, 0), (0, sp, 0), (2, pb, 0), (0, dp, 0), (0, m, 0)] S0 w = some (S0, mv_set 10 w pb (1, 1, qb, mv_cw 32 B A sp dp m)) := by
  show ((mv_cp tt_tl (mv_get 10 w pa) (mv_get 10 w pb) (0, sp, 0) (0, dp, 0) (0, m, 0)).map (fun z => mv_set 10 w pb z)).map (fun w' => (S0, w')) = _
  rw [ha, hb]
  have e : mv_cp tt_tl (1, 1, qa, A) (1, 1, qb, B) (0, sp, 0) (0, dp, 0) (0, m, 0) = some (1, 1, qb, mv_cw 32 B A sp dp m) := by
    unfold mv_cp
    dsimp only
    rw [show Nat.ble (sp + m) qa = true by simpa using h1, show Nat.ble (dp + m) qb = true by simpa using h2, show Nat.blt (sp + m) 2147483648 = true by simp only [Nat.blt_eq]; omega, show Nat.blt (dp + m) 2147483648 = true by simp only [Nat.blt_eq]; omega, hab]
    rfl
  rw [e]
  rfl
end SV
