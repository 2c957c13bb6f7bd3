/-! THE CLASS over known cells -/
def jX : List Nat := [7, 3, 8]
def jM : List Nat := [3, 2]
def jB : List Nat := [5, 4, 8, 9, 7, 6]
def jP : List Nat := [0]
def jU : List Nat := [0, 2, 5, 18, 3, 4, 7, 17]
def jS : List Nat := [2, 1, 0, 3, 11, 12]
section CH
variable {n : Nat} {pl : Nat → Nat} {w0 w : mv_T 10} {cs : List mv_C} {vs : List mv_V} {X : Nat} {s : sh_T}
theorem wc_W (hw : wh 22 pl w0 w cs) (c17 : cs[17]? = some (0, 2, 13, X)) (c18 : cs[18]? = some (1, 1, 64, s.2.2.1)) (c19 : cs[19]? = some (1, 0, 64, s.2.2.2.1)) (c20 : cs[20]? = some (1, 0, 8, s.2.2.2.2)) (hX : fh X jS vs) (v0 : vs[0]? = some (2, pl 18, 0)) (v1 : vs[1]? = some (2, pl 19, 0)) (v2 : vs[2]? = some (2, pl 20, 0)) (v4 : vs[4]? = some (0, s.1, 0)) (v5 : vs[5]? = some (0, s.2.1, 0)) : sh_D (pl 17) (pl 18) (pl 19) (pl 20) ∧ mc_F X (pl 18) (pl 19) (pl 20) ∧ sh_W w (pl 17) (pl 18) (pl 19) (pl 20) X s = w := by
  have L : ∀ i, i < 22 → pl i < 1024 := fun i hi => wh_lt hw i hi
  have E : ∀ i j, i < 22 → j < 22 → i ≠ j → pl i ≠ pl j := fun i j hi hj e => wh_ne hw i j hi hj e
  refine ⟨⟨L 17 (by decide), L 18 (by decide), L 19 (by decide), L 20 (by decide), E 17 19 (by decide) (by decide) (by decide), E 17 20 (by decide) (by decide) (by decide), E 19 20 (by decide) (by decide) (by decide), E 18 17 (by decide) (by decide) (by decide), E 18 19 (by decide) (by decide) (by decide), E 18 20 (by decide) (by decide) (by decide)⟩, ⟨fh_at hX 2 rfl v2, fh_at hX 1 rfl v1, fh_at hX 0 rfl v0⟩, ?_⟩
  have x1 : sh_x X s.1 s.2.1 = X := by
    unfold sh_x
    have r1 := mv_enc_dec (by decide) (fh_at hX 4 (j := 11) rfl v4)
    have r2 := mv_enc_dec (by decide) (fh_at hX 5 (j := 12) rfl v5)
    have q1 : mv_wr 136 X 11 (mv_enc (0, s.1, 0)) = X := by
      refine mv_wr_rd ?_
      rw [← r1]
      exact (Nat.mod_eq_of_lt (mv_rd_lt 136 X _)).symm
    rw [q1]
    refine mv_wr_rd ?_
    rw [← r2]
    exact (Nat.mod_eq_of_lt (mv_rd_lt 136 X _)).symm
  show sh_w w (pl 17) (pl 18) (pl 19) (pl 20) (sh_x X s.1 s.2.1) s.2.2.1 s.2.2.2.1 s.2.2.2.2 = w
  rw [x1]
  unfold sh_w
  rw [mv_sg (L 18 (by decide)) (wh_at hw 18 c18)]
  unfold mc_w
  rw [mv_sg (L 17 (by decide)) (wh_at hw 17 c17), mv_sg (L 19 (by decide)) (wh_at hw 19 c19), mv_sg (L 20 (by decide)) (wh_at hw 20 c20)]
theorem wc_O (hw : wh 22 pl w0 w cs) (i : Nat) (hi : i < 22) (h1 : i < 17 ∨ 20 < i) : sh_O (pl 17) (pl 18) (pl 19) (pl 20) (pl i) := ⟨wh_lt hw i hi, wh_ne hw i 17 hi (by decide) (by omega), wh_ne hw i 18 hi (by decide) (by omega), wh_ne hw i 19 hi (by decide) (by omega), wh_ne hw i 20 hi (by decide) (by omega)⟩
theorem wc_wh {s' : sh_T} (hw : wh 22 pl w0 w cs) : wh 22 pl w0 (sh_W w (pl 17) (pl 18) (pl 19) (pl 20) X s') ((((cs.set 18 (1, 1, 64, s'.2.2.1)).set 17 (0, 2, 13, sh_x X s'.1 s'.2.1)).set 19 (1, 0, 64, s'.2.2.2.1)).set 20 (1, 0, 8, s'.2.2.2.2)) := by
  unfold sh_W sh_w mc_w
  exact wh_set (wh_set (wh_set (wh_set hw 18 (by decide) _) 17 (by decide) _) 19 (by decide) _) 20 (by decide) _
theorem wc_fh {u l : Nat} (hX : fh X jS vs) (hu : u < 4294967296) (hl : l < 4294967296) : fh (sh_x X u l) jS ((vs.set 4 (0, u, 0)).set 5 (0, l, 0)) := by
  unfold sh_x
  exact fh_set (fh_set hX (by decide) 4 rfl (sy_ok0 hu)) (by decide) 5 rfl (sy_ok0 hl)
theorem wc_eu (s : sh_T) : (sh_e s).1 = 0 := rfl
theorem wc_el (s : sh_T) : (sh_e s).2.1 = s.2.1 := by
  show (sh_e2 (sh_e1 s)).2.1 = s.2.1
  unfold sh_e2
  cases Nat.ble (sh_e1 s).1 56 <;> rfl
theorem wc_begin (hw : wh 22 pl w0 w cs) (c17 : cs[17]? = some (0, 2, 13, X)) (c18 : cs[18]? = some (1, 1, 64, s.2.2.1)) (c19 : cs[19]? = some (1, 0, 64, s.2.2.2.1)) (c20 : cs[20]? = some (1, 0, 8, s.2.2.2.2)) (hX : fh X jS vs) (v0 : vs[0]? = some (2, pl 18, 0)) (v1 : vs[1]? = some (2, pl 19, 0)) (v2 : vs[2]? = some (2, pl 20, 0)) (v4 : vs[4]? = some (0, s.1, 0)) (v5 : vs[5]? = some (0, s.2.1, 0)) : ∃ (w' : mv_T 10) (X' : Nat), sy_C 14 n 1 18 [(2, pl 17, 0)] w [] w' ∧ wh 22 pl w0 w' (((((cs.set 18 (1, 1, 64, (sh_b s).2.2.1)).set 17 (0, 2, 13, X')).set 19 (1, 0, 64, (sh_b s).2.2.2.1)).set 20 (1, 0, 8, (sh_b s).2.2.2.2))) ∧ fh X' jS ((vs.set 4 (0, (sh_b s).1, 0)).set 5 (0, (sh_b s).2.1, 0)) := by
  obtain ⟨D, F, e⟩ := wc_W hw c17 c18 c19 c20 hX v0 v1 v2 v4 v5
  have h := sh_begin (n := n) (s := s) (w := w) D F
  rw [e] at h
  exact ⟨_, sh_x X (sh_b s).1 (sh_b s).2.1, h, wc_wh (s' := sh_b s) hw, wc_fh hX (by show 0 < 4294967296; decide) (by show 0 < 4294967296; decide)⟩
theorem wc_put {jf qf C fa nn : Nat} (hw : wh 22 pl w0 w cs) (c17 : cs[17]? = some (0, 2, 13, X)) (c18 : cs[18]? = some (1, 1, 64, s.2.2.1)) (c19 : cs[19]? = some (1, 0, 64, s.2.2.2.1)) (c20 : cs[20]? = some (1, 0, 8, s.2.2.2.2)) (hX : fh X jS vs) (v0 : vs[0]? = some (2, pl 18, 0)) (v1 : vs[1]? = some (2, pl 19, 0)) (v2 : vs[2]? = some (2, pl 20, 0)) (v4 : vs[4]? = some (0, s.1, 0)) (v5 : vs[5]? = some (0, s.2.1, 0)) (hs : s.1 < 64) (hl : s.2.1 < 4294967296) (hjf : jf < 17) (cf : cs[jf]? = some (1, 1, qf, C)) (hqf : qf ≤ 2147483647) (hn : fa + nn ≤ qf) : ∃ (w' : mv_T 10) (X' : Nat), sy_C 15 n 1 33 [(2, pl 17, 0), (2, pl jf, 0), (0, fa, 0), (0, nn, 0)] w [] w' ∧ wh 22 pl w0 w' (((((cs.set 18 (1, 1, 64, (sh_p C fa nn s).2.2.1)).set 17 (0, 2, 13, X')).set 19 (1, 0, 64, (sh_p C fa nn s).2.2.2.1)).set 20 (1, 0, 8, (sh_p C fa nn s).2.2.2.2))) ∧ fh X' jS ((vs.set 4 (0, (sh_p C fa nn s).1, 0)).set 5 (0, (sh_p C fa nn s).2.1, 0)) := by
  obtain ⟨D, F, e⟩ := wc_W hw c17 c18 c19 c20 hX v0 v1 v2 v4 v5
  have h := sh_put (n := n) (s := s) (w := w) hs hl D F (wc_O hw jf (by omega) (Or.inl hjf)) (wh_at hw jf cf) hqf hn
  rw [e] at h
  exact ⟨_, sh_x X (sh_p C fa nn s).1 (sh_p C fa nn s).2.1, h, wc_wh (s' := sh_p C fa nn s) hw, wc_fh hX (Nat.lt_trans (sh_p_ok hs) (by decide)) (mo_add_lt _ _)⟩
theorem wc_twice {it q T I at_ : Nat} (hw : wh 22 pl w0 w cs) (c17 : cs[17]? = some (0, 2, 13, X)) (c18 : cs[18]? = some (1, 1, 64, s.2.2.1)) (c19 : cs[19]? = some (1, 0, 64, s.2.2.2.1)) (c20 : cs[20]? = some (1, 0, 8, s.2.2.2.2)) (hX : fh X jS vs) (v0 : vs[0]? = some (2, pl 18, 0)) (v1 : vs[1]? = some (2, pl 19, 0)) (v2 : vs[2]? = some (2, pl 20, 0)) (v4 : vs[4]? = some (0, s.1, 0)) (v5 : vs[5]? = some (0, s.2.1, 0)) (v3 : vs[3]? = some (2, pl 21, 0)) (c21 : cs[21]? = some (1, 1, 32, I)) (hs : s.1 < 64) (hl : s.2.1 < 4294967296) (hit : it < 17) (ct : cs[it]? = some (1, 1, q, T)) (hq : q ≤ 2147483647) (ha : at_ + 32 ≤ q) : ∃ (w' : mv_T 10) (X' : Nat), sy_C 17 n 3 69 [(2, pl 17, 0), (2, pl it, 0), (0, at_, 0)] w [] w' ∧ wh 22 pl w0 w' (((((((cs.set 21 (1, 1, 32, sh_i s I)).set it (1, 1, q, sh_o T at_ (sh_t s I).2.2.2.2 8)).set 18 (1, 1, 64, (sh_t s I).2.2.1)).set 17 (0, 2, 13, X')).set 19 (1, 0, 64, (sh_t s I).2.2.2.1)).set 20 (1, 0, 8, (sh_t s I).2.2.2.2))) ∧ fh X' jS ((vs.set 4 (0, (sh_t s I).1, 0)).set 5 (0, (sh_t s I).2.1, 0)) := by
  obtain ⟨D, F, e⟩ := wc_W hw c17 c18 c19 c20 hX v0 v1 v2 v4 v5
  have h := sh_twice (n := n) (s := s) (w := w) hs hl D F (fh_at hX 3 rfl v3) (wc_O hw 21 (by decide) (Or.inr (by decide))) (wc_O hw it (by omega) (Or.inl hit)) (wh_ne hw 21 it (by decide) (by omega) (by omega)) (wh_at hw 21 c21) (wh_at hw it ct) hq ha
  rw [e] at h
  have hl : (sh_t s I).1 < 4294967296 ∧ (sh_t s I).2.1 < 4294967296 := by
    unfold sh_t
    refine ⟨by rw [wc_eu]; decide, ?_⟩
    rw [wc_el]
    exact mo_add_lt _ _
  generalize sh_t s I = R at h hl ⊢
  generalize sh_i s I = HI at h ⊢
  exact ⟨_, sh_x X R.1 R.2.1, h, wc_wh (s' := R) (wh_set (wh_set hw 21 (by decide) _) it (by omega) _), wc_fh hX hl.1 hl.2⟩
/-- hashOf -/
theorem wc_hash {it jf q T I qf C fa nn : Nat} {f : Nat → Nat} (hw : wh 22 pl w0 w cs) (c17 : cs[17]? = some (0, 2, 13, X)) (c18 : cs[18]? = some (1, 1, 64, s.2.2.1)) (c19 : cs[19]? = some (1, 0, 64, s.2.2.2.1)) (c20 : cs[20]? = some (1, 0, 8, s.2.2.2.2)) (hX : fh X jS vs) (v0 : vs[0]? = some (2, pl 18, 0)) (v1 : vs[1]? = some (2, pl 19, 0)) (v2 : vs[2]? = some (2, pl 20, 0)) (v4 : vs[4]? = some (0, s.1, 0)) (v5 : vs[5]? = some (0, s.2.1, 0)) (v3 : vs[3]? = some (2, pl 21, 0)) (c21 : cs[21]? = some (1, 1, 32, I)) (hit : it < 17) (ct : cs[it]? = some (1, 1, q, T)) (hq : q ≤ 2147483647) (ha : 0 + 32 ≤ q) (hjf : jf < 17) (cf : cs[jf]? = some (1, 1, qf, C)) (hqf : qf ≤ 2147483647) (hn : fa + nn ≤ qf) (hf : ∀ j, j < nn → mv_rd 32 C (fa + j) = f j) (hnn : nn < 1048576) : ∃ (w' : mv_T 10) (X' P' W' S' I' T' u' l' : Nat), sy_C 13 n 4 91 [(2, pl 17, 0), (2, pl jf, 0), (0, fa, 0), (0, nn, 0), (2, pl it, 0)] w [] w' ∧ wh 22 pl w0 w' (((((((cs.set 21 (1, 1, 32, I')).set it (1, 1, q, T')).set 18 (1, 1, 64, P')).set 17 (0, 2, 13, X')).set 19 (1, 0, 64, W')).set 20 (1, 0, 8, S'))) ∧ fh X' jS ((vs.set 4 (0, u', 0)).set 5 (0, l', 0)) ∧ ∀ j, mv_rd 32 T' j = if 0 ≤ j ∧ j < 0 + 32 then bk_D (hs_2 f nn) (j - 0) else mv_rd 32 T j := by
  obtain ⟨D, F, e⟩ := wc_W hw c17 c18 c19 c20 hX v0 v1 v2 v4 v5
  have h := sh_hash (n := n) (s := s) (w := w) D F (fh_at hX 3 rfl v3) (wc_O hw 21 (by decide) (Or.inr (by decide))) (wc_O hw it (by omega) (Or.inl hit)) (wh_ne hw 21 it (by decide) (by omega) (by omega)) (wh_at hw 21 c21) (wh_at hw it ct) hq ha (wc_O hw jf (by omega) (Or.inl hjf)) (wh_at hw jf cf) hqf hn
  rw [e] at h
  have hl : (sh_t (sh_h C fa nn s) I).1 < 4294967296 ∧ (sh_t (sh_h C fa nn s) I).2.1 < 4294967296 := by
    unfold sh_t
    refine ⟨by rw [wc_eu]; decide, ?_⟩
    rw [wc_el]
    exact mo_add_lt _ _
  have hT : ∀ j, mv_rd 32 (sh_o T 0 (sh_t (sh_h C fa nn s) I).2.2.2.2 8) j = if 0 ≤ j ∧ j < 0 + 32 then bk_D (hs_2 f nn) (j - 0) else mv_rd 32 T j := fun j => hs_cls hf hnn j
  generalize sh_t (sh_h C fa nn s) I = R at h hl hT
  generalize sh_i (sh_h C fa nn s) I = HI at h
  generalize sh_o T 0 R.2.2.2.2 8 = TT at h hT
  exact ⟨_, sh_x X R.1 R.2.1, R.2.2.1, R.2.2.2.1, R.2.2.2.2, HI, TT, R.1, R.2.1, h, wc_wh (s' := R) (wh_set (wh_set hw 21 (by decide) _) it (by omega) _), wc_fh hX hl.1 hl.2, hT⟩
theorem sb_refl (A a : Nat) : ∀ m, sb_eq A a A a m = true
  | 0 => rfl
  | m + 1 => by
    show (sb_eq A a A a m && Nat.beq (mv_rd 32 A (a + m)) (mv_rd 32 A (a + m))) = true
    rw [sb_refl A a m, Nat.beq_refl]
    rfl
theorem sb_congr {A A' B B' a a' b b' : Nat} : ∀ m, (∀ j, j < m → mv_rd 32 A (a + j) = mv_rd 32 A' (a' + j)) → (∀ j, j < m → mv_rd 32 B (b + j) = mv_rd 32 B' (b' + j)) → sb_eq A a B b m = sb_eq A' a' B' b' m
  | 0, _, _ => rfl
  | m + 1, h, g => by
    show (sb_eq A a B b m && Nat.beq (mv_rd 32 A (a + m)) (mv_rd 32 B (b + m))) = (sb_eq A' a' B' b' m && Nat.beq (mv_rd 32 A' (a' + m)) (mv_rd 32 B' (b' + m)))
    rw [sb_congr m (fun j hj => h j (by omega)) (fun j hj => g j (by omega)), h m (by omega), g m (by omega)]
end CH
