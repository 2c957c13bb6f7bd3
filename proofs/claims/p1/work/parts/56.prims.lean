/-! PRIMS: methods whose contracts were proved symbolically, as functions of the small machine's worlds -/
theorem mv_enc_dec {r k a : Nat} (hk : k ≤ 200) (h : mv_dec r = (k, a, 0)) : r = mv_enc (k, a, 0) := by
  have h1 : (r + 255) % 256 = k := congrArg (fun q => q.1) h
  have h2 : r / 256 % 18446744073709551616 = a := congrArg (fun q => q.2.1) h
  have h3 : r / 4722366482869645213696 = 0 := congrArg (fun q => q.2.2) h
  show r = k + 1 + 256 * a + 4722366482869645213696 * 0
  omega
def pr_p (X f : Nat) : Nat := (mv_dec (mv_rd 136 X f)).2.1
def pr_k (X f k : Nat) : Bool := Nat.beq (mv_dec (mv_rd 136 X f)).1 k && Nat.beq (mv_dec (mv_rd 136 X f)).2.2 0
theorem pr_k_ok {X f k : Nat} (h : pr_k X f k = true) : mv_dec (mv_rd 136 X f) = (k, pr_p X f, 0) := by
  unfold pr_k at h
  simp only [Bool.and_eq_true, Nat.beq_eq] at h
  exact Prod.ext h.1 (Prod.ext rfl h.2)
def pr_c (c : mv_C) (k t q : Nat) : Bool := Nat.beq c.1 k && (Nat.beq c.2.1 t && Nat.beq c.2.2.1 q)
theorem pr_c_ok {c : mv_C} {k t q : Nat} (h : pr_c c k t q = true) : c = (k, t, q, c.2.2.2) := by
  unfold pr_c at h
  simp only [Bool.and_eq_true, Nat.beq_eq] at h
  exact Prod.ext h.1 (Prod.ext h.2.1 (Prod.ext h.2.2 rfl))
def pr_ne (a b : Nat) : Bool := !(Nat.beq a b)
theorem pr_ne_ok {a b : Nat} (h : pr_ne a b = true) : a ≠ b := by
  intro e
  subst e
  unfold pr_ne at h
  rw [Nat.beq_refl] at h
  cases h
/-- a Sha at a place -/
noncomputable def pr_X (w : mv_T 10) (p : Nat) : Nat := (mv_get 10 w p).2.2.2
theorem pr_cX {w : mv_T 10} {p k t q : Nat} (h : pr_c (mv_get 10 w p) k t q = true) : mv_get 10 w p = (k, t, q, pr_X w p) := pr_c_ok h
noncomputable def sh_s (w : mv_T 10) (X : Nat) : sh_T := (pr_p X 11, pr_p X 12, pr_X w (pr_p X 2), pr_X w (pr_p X 1), pr_X w (pr_p X 0))
noncomputable def sh_ck (w : mv_T 10) (p0 X : Nat) : Bool := (pr_c (mv_get 10 w p0) 0 2 13 && Nat.blt p0 1024) && ((pr_k X 2 2 && (pr_k X 1 2 && pr_k X 0 2)) && ((pr_k X 11 0 && (pr_k X 12 0 && (Nat.blt (pr_p X 11) 64 && Nat.blt (pr_p X 12) 4294967296))) && ((Nat.blt (pr_p X 2) 1024 && (Nat.blt (pr_p X 1) 1024 && Nat.blt (pr_p X 0) 1024)) && ((pr_ne p0 (pr_p X 1) && (pr_ne p0 (pr_p X 0) && (pr_ne (pr_p X 1) (pr_p X 0) && (pr_ne (pr_p X 2) p0 && (pr_ne (pr_p X 2) (pr_p X 1) && pr_ne (pr_p X 2) (pr_p X 0)))))) && (pr_c (mv_get 10 w (pr_p X 2)) 1 1 64 && (pr_c (mv_get 10 w (pr_p X 1)) 1 0 64 && pr_c (mv_get 10 w (pr_p X 0)) 1 0 8))))))
noncomputable def sh_at (w : mv_T 10) (p0 X : Nat) (s : sh_T) : mv_T 10 := sh_W w p0 (pr_p X 2) (pr_p X 1) (pr_p X 0) X s
theorem sh_ck_ok {w : mv_T 10} {p0 : Nat} (h : sh_ck w p0 (pr_X w p0) = true) : sh_D p0 (pr_p (pr_X w p0) 2) (pr_p (pr_X w p0) 1) (pr_p (pr_X w p0) 0) ∧ mc_F (pr_X w p0) (pr_p (pr_X w p0) 2) (pr_p (pr_X w p0) 1) (pr_p (pr_X w p0) 0) ∧ (sh_s w (pr_X w p0)).1 < 64 ∧ (sh_s w (pr_X w p0)).2.1 < 4294967296 ∧ sh_at w p0 (pr_X w p0) (sh_s w (pr_X w p0)) = w := by
  generalize hX : pr_X w p0 = X at h ⊢
  unfold sh_ck at h
  simp only [Bool.and_eq_true, Nat.blt_eq] at h
  obtain ⟨⟨a1, a2⟩, ⟨b1, b2, b3⟩, ⟨c1, c2, c3, c4⟩, ⟨d1, d2, d3⟩, ⟨e1, e2, e3, e4, e5, e6⟩, f1, f2, f3⟩ := h
  have D : sh_D p0 (pr_p X 2) (pr_p X 1) (pr_p X 0) := ⟨a2, d1, d2, d3, pr_ne_ok e1, pr_ne_ok e2, pr_ne_ok e3, pr_ne_ok e4, pr_ne_ok e5, pr_ne_ok e6⟩
  refine ⟨D, ⟨pr_k_ok b3, pr_k_ok b2, pr_k_ok b1⟩, c3, c4, ?_⟩
  have g0 : mv_get 10 w p0 = (0, 2, 13, X) := by rw [← hX]; exact pr_c_ok a1
  have gp := pr_cX f1
  have gw := pr_cX f2
  have gs := pr_cX f3
  have x1 : sh_x X (pr_p X 11) (pr_p X 12) = X := by
    unfold sh_x
    have r1 := mv_enc_dec (by decide) (pr_k_ok c1)
    have r2 := mv_enc_dec (by decide) (pr_k_ok c2)
    have q1 : mv_wr 136 X 11 (mv_enc (0, pr_p X 11, 0)) = X := by
      refine mv_wr_rd ?_
      rw [← r1]
      exact (Nat.mod_eq_of_lt (mv_rd_lt 136 X _)).symm
    rw [q1]
    refine mv_wr_rd ?_
    rw [← r2]
    exact (Nat.mod_eq_of_lt (mv_rd_lt 136 X _)).symm
  show sh_w w p0 (pr_p X 2) (pr_p X 1) (pr_p X 0) (sh_x X (pr_p X 11) (pr_p X 12)) (pr_X w (pr_p X 2)) (pr_X w (pr_p X 1)) (pr_X w (pr_p X 0)) = w
  rw [x1]
  unfold sh_w
  rw [mv_sg d1 gp]
  exact mc_id (pp := pr_p X 2) (P := pr_X w (pr_p X 2)) ⟨a2, d1, d2, d3, D.2.2.2.2.1, D.2.2.2.2.2.1, D.2.2.2.2.2.2.1, D.2.2.2.2.2.2.2.1, D.2.2.2.2.2.2.2.2.1, D.2.2.2.2.2.2.2.2.2, gp⟩ g0 gw gs
/-- a row of bytes beside it -/
noncomputable def sh_oc (w : mv_T 10) (p0 X pf : Nat) : Bool := (Nat.blt pf 1024 && (pr_ne pf p0 && (pr_ne pf (pr_p X 2) && (pr_ne pf (pr_p X 1) && pr_ne pf (pr_p X 0))))) && (Nat.beq (mv_get 10 w pf).1 1 && (Nat.beq (mv_get 10 w pf).2.1 1 && Nat.ble (mv_get 10 w pf).2.2.1 2147483647))
theorem sh_oc_ok {w : mv_T 10} {p0 X pf : Nat} (h : sh_oc w p0 X pf = true) : sh_O p0 (pr_p X 2) (pr_p X 1) (pr_p X 0) pf ∧ mv_get 10 w pf = (1, 1, (mv_get 10 w pf).2.2.1, pr_X w pf) ∧ (mv_get 10 w pf).2.2.1 ≤ 2147483647 := by
  unfold sh_oc at h
  simp only [Bool.and_eq_true, Nat.blt_eq, Nat.beq_eq, Nat.ble_eq] at h
  obtain ⟨⟨a1, a2, a3, a4, a5⟩, b1, b2, b3⟩ := h
  exact ⟨⟨a1, pr_ne_ok a2, pr_ne_ok a3, pr_ne_ok a4, pr_ne_ok a5⟩, Prod.ext b1 (Prod.ext b2 rfl), b3⟩
def pr_v (x : mv_V) (k : Nat) : Bool := Nat.beq x.1 k && Nat.beq x.2.2 0
theorem pr_v_ok {x : mv_V} {k : Nat} (h : pr_v x k = true) : x = (k, x.2.1, 0) := by
  unfold pr_v at h
  simp only [Bool.and_eq_true, Nat.beq_eq] at h
  exact Prod.ext h.1 (Prod.ext rfl h.2)
noncomputable def pr_cmp (as : List mv_V) (n : Nat) (w : mv_T 10) : Option mv_R := match as with
  | [x0] => bif pr_v x0 2 && sh_ck w x0.2.1 (pr_X w x0.2.1) then some ([], n, sh_at w x0.2.1 (pr_X w x0.2.1) (sh_cm (sh_s w (pr_X w x0.2.1)).2.2.1 (sh_s w (pr_X w x0.2.1))), 0, 0, 0, 0) else none
  | _ => none
noncomputable def pr_put (as : List mv_V) (n : Nat) (w : mv_T 10) : Option mv_R := match as with
  | [x0, x1, x2, x3] => bif (pr_v x0 2 && (pr_v x1 2 && (pr_v x2 0 && pr_v x3 0))) && (sh_ck w x0.2.1 (pr_X w x0.2.1) && (sh_oc w x0.2.1 (pr_X w x0.2.1) x1.2.1 && Nat.ble (x2.2.1 + x3.2.1) (mv_get 10 w x1.2.1).2.2.1)) then some ([], n, sh_at w x0.2.1 (pr_X w x0.2.1) (sh_p (pr_X w x1.2.1) x2.2.1 x3.2.1 (sh_s w (pr_X w x0.2.1))), 0, 0, 1, 33) else none
  | _ => none
noncomputable def pr_end (as : List mv_V) (n : Nat) (w : mv_T 10) : Option mv_R := match as with
  | [x0, x1, x2] => bif (pr_v x0 2 && (pr_v x1 2 && pr_v x2 0)) && (sh_ck w x0.2.1 (pr_X w x0.2.1) && (sh_oc w x0.2.1 (pr_X w x0.2.1) x1.2.1 && Nat.ble (x2.2.1 + 32) (mv_get 10 w x1.2.1).2.2.1)) then some ([], n, sh_at (mv_set 10 w x1.2.1 (1, 1, (mv_get 10 w x1.2.1).2.2.1, sh_o (pr_X w x1.2.1) x2.2.1 (sh_e (sh_s w (pr_X w x0.2.1))).2.2.2.2 8)) x0.2.1 (pr_X w x0.2.1) (sh_e (sh_s w (pr_X w x0.2.1))), 0, 0, 2, 46) else none
  | _ => none
/-- the reference at a place -/
noncomputable def rs_s (w : mv_T 10) (X : Nat) : rs_T := (pr_p X 13, pr_p X 14, pr_X w (pr_p X 12), pr_X w (pr_p X 10), pr_X w (pr_p X 11), pr_X w (pr_p X 9))
noncomputable def rs_ck (w : mv_T 10) (p0 X : Nat) : Bool := (pr_c (mv_get 10 w p0) 0 0 107 && Nat.blt p0 1024) && ((pr_k X 12 2 && (pr_k X 10 2 && (pr_k X 11 2 && (pr_k X 9 2 && pr_k X 7 2)))) && ((pr_k X 13 0 && (pr_k X 14 1 && (Nat.blt (pr_p X 13) 64 && Nat.blt (pr_p X 14) 18446744073709551616))) && ((Nat.blt (pr_p X 12) 1024 && (Nat.blt (pr_p X 7) 1024 && (Nat.blt (pr_p X 10) 1024 && (Nat.blt (pr_p X 11) 1024 && Nat.blt (pr_p X 9) 1024)))) && ((pr_ne (pr_p X 10) (pr_p X 11) && (pr_ne (pr_p X 10) (pr_p X 9) && pr_ne (pr_p X 11) (pr_p X 9))) && ((pr_ne p0 (pr_p X 10) && (pr_ne p0 (pr_p X 11) && pr_ne p0 (pr_p X 9))) && ((pr_ne (pr_p X 12) (pr_p X 10) && (pr_ne (pr_p X 12) (pr_p X 11) && pr_ne (pr_p X 12) (pr_p X 9))) && ((pr_ne (pr_p X 7) (pr_p X 10) && (pr_ne (pr_p X 7) (pr_p X 11) && pr_ne (pr_p X 7) (pr_p X 9))) && ((pr_ne p0 (pr_p X 12) && (pr_ne (pr_p X 7) (pr_p X 12) && pr_ne (pr_p X 7) p0)) && (pr_c (mv_get 10 w (pr_p X 12)) 1 1 64 && (pr_c (mv_get 10 w (pr_p X 10)) 1 0 64 && (pr_c (mv_get 10 w (pr_p X 11)) 1 0 8 && (pr_c (mv_get 10 w (pr_p X 9)) 1 0 8 && pr_c (mv_get 10 w (pr_p X 7)) 1 0 64))))))))))))
noncomputable def rs_at (w : mv_T 10) (p0 X : Nat) (s : rs_T) : mv_T 10 := rs_W w p0 (pr_p X 12) (pr_p X 10) (pr_p X 11) (pr_p X 9) X s
noncomputable def rs_K (w : mv_T 10) (X : Nat) : Nat := pr_X w (pr_p X 7)
theorem rs_ck_ok {w : mv_T 10} {p0 : Nat} (h : rs_ck w p0 (pr_X w p0) = true) : rs_D w p0 (pr_p (pr_X w p0) 12) (pr_p (pr_X w p0) 7) (pr_p (pr_X w p0) 10) (pr_p (pr_X w p0) 11) (pr_p (pr_X w p0) 9) (pr_X w p0) (rs_K w (pr_X w p0)) ∧ (rs_s w (pr_X w p0)).1 < 64 ∧ (rs_s w (pr_X w p0)).2.1 < 18446744073709551616 ∧ rs_at w p0 (pr_X w p0) (rs_s w (pr_X w p0)) = w := by
  generalize hX : pr_X w p0 = X at h ⊢
  unfold rs_ck at h
  simp only [Bool.and_eq_true, Nat.blt_eq] at h
  obtain ⟨⟨a1, a2⟩, ⟨b1, b2, b3, b4, b5⟩, ⟨c1, c2, c3, c4⟩, ⟨d1, d2, d3, d4, d5⟩, ⟨e1, e2, e3⟩, ⟨f1, f2, f3⟩, ⟨g1, g2, g3⟩, ⟨h1, h2, h3⟩, ⟨i1, i2, i3⟩, j1, j2, j3, j4, j5⟩ := h
  have g0 : mv_get 10 w p0 = (0, 0, 107, X) := by rw [← hX]; exact pr_c_ok a1
  have gp := pr_cX j1
  have D : rs_D w p0 (pr_p X 12) (pr_p X 7) (pr_p X 10) (pr_p X 11) (pr_p X 9) X (rs_K w X) := ⟨⟨a2, d1, d2, d3, d4, d5⟩, ⟨pr_ne_ok e1, pr_ne_ok e2, pr_ne_ok e3⟩, ⟨pr_ne_ok f1, pr_ne_ok f2, pr_ne_ok f3⟩, ⟨pr_ne_ok g1, pr_ne_ok g2, pr_ne_ok g3⟩, ⟨pr_ne_ok h1, pr_ne_ok h2, pr_ne_ok h3⟩, ⟨pr_ne_ok i1, pr_ne_ok i2, pr_ne_ok i3⟩, pr_c_ok j5, pr_k_ok b2, pr_k_ok b1, pr_k_ok b3, pr_k_ok b4, pr_k_ok b5⟩
  refine ⟨D, c3, c4, ?_⟩
  have x1 : rs_x X (pr_p X 13) (pr_p X 14) = X := by
    unfold rs_x
    have r1 := mv_enc_dec (by decide) (pr_k_ok c1)
    have r2 := mv_enc_dec (by decide) (pr_k_ok c2)
    have q1 : mv_wr 136 X 13 (mv_enc (0, pr_p X 13, 0)) = X := by
      refine mv_wr_rd ?_
      rw [← r1]
      exact (Nat.mod_eq_of_lt (mv_rd_lt 136 X _)).symm
    rw [q1]
    refine mv_wr_rd ?_
    rw [← r2]
    exact (Nat.mod_eq_of_lt (mv_rd_lt 136 X _)).symm
  show rs_w w p0 (pr_p X 12) (pr_p X 10) (pr_p X 11) (pr_p X 9) (rs_x X (pr_p X 13) (pr_p X 14)) (pr_X w (pr_p X 12)) (pr_X w (pr_p X 10)) (pr_X w (pr_p X 11)) (pr_X w (pr_p X 9)) = w
  rw [x1]
  unfold rs_w
  rw [mv_sg d1 gp, mv_sg a2 g0]
  unfold mr_w
  rw [mv_sg d3 (pr_cX j2), mv_sg d4 (pr_cX j3), mv_sg d5 (pr_cX j4)]
noncomputable def rs_oc (w : mv_T 10) (p0 X pf : Nat) : Bool := (Nat.blt pf 1024 && (pr_ne pf p0 && (pr_ne pf (pr_p X 12) && (pr_ne pf (pr_p X 10) && (pr_ne pf (pr_p X 11) && pr_ne pf (pr_p X 9)))))) && (Nat.beq (mv_get 10 w pf).1 1 && (Nat.beq (mv_get 10 w pf).2.1 1 && Nat.ble (mv_get 10 w pf).2.2.1 2147483647))
theorem rs_oc_ok {w : mv_T 10} {p0 X pf : Nat} (h : rs_oc w p0 X pf = true) : rs_O p0 (pr_p X 12) (pr_p X 10) (pr_p X 11) (pr_p X 9) pf ∧ mv_get 10 w pf = (1, 1, (mv_get 10 w pf).2.2.1, pr_X w pf) ∧ (mv_get 10 w pf).2.2.1 ≤ 2147483647 := by
  unfold rs_oc at h
  simp only [Bool.and_eq_true, Nat.blt_eq, Nat.beq_eq, Nat.ble_eq] at h
  obtain ⟨⟨a1, a2, a3, a4, a5, a6⟩, b1, b2, b3⟩ := h
  exact ⟨⟨a1, pr_ne_ok a2, pr_ne_ok a3, pr_ne_ok a4, pr_ne_ok a5, pr_ne_ok a6⟩, Prod.ext b1 (Prod.ext b2 rfl), b3⟩
noncomputable def pr_byte (as : List mv_V) (n : Nat) (w : mv_T 10) : Option mv_R := match as with
  | [x0, x1] => bif (pr_v x0 2 && (pr_v x1 0 && Nat.blt x1.2.1 4294967296)) && rs_ck w x0.2.1 (pr_X w x0.2.1) then some ([], n, rs_at w x0.2.1 (pr_X w x0.2.1) (rs_1 (rs_K w (pr_X w x0.2.1)) x1.2.1 (rs_s w (pr_X w x0.2.1))), 0, 0, 2, 51) else none
  | _ => none
noncomputable def pr_row (as : List mv_V) (n : Nat) (w : mv_T 10) : Option mv_R := match as with
  | [x0, x1, x2, x3] => bif (pr_v x0 2 && (pr_v x1 2 && (pr_v x2 0 && pr_v x3 0))) && (rs_ck w x0.2.1 (pr_X w x0.2.1) && (rs_oc w x0.2.1 (pr_X w x0.2.1) x1.2.1 && Nat.ble (x2.2.1 + x3.2.1) (mv_get 10 w x1.2.1).2.2.1)) then some ([], n, rs_at w x0.2.1 (pr_X w x0.2.1) (rs_n (rs_K w (pr_X w x0.2.1)) (pr_X w x1.2.1) x2.2.1 (rs_s w (pr_X w x0.2.1)) x3.2.1), 0, 0, 3, 72) else none
  | _ => none
noncomputable def pr_rend (as : List mv_V) (n : Nat) (w : mv_T 10) : Option mv_R := match as with
  | [x0, x1, x2] => bif (pr_v x0 2 && (pr_v x1 2 && pr_v x2 0)) && ((rs_ck w x0.2.1 (pr_X w x0.2.1) && pr_ne (pr_p (pr_X w x0.2.1) 7) x1.2.1) && (rs_oc w x0.2.1 (pr_X w x0.2.1) x1.2.1 && Nat.ble (x2.2.1 + 32) (mv_get 10 w x1.2.1).2.2.1)) then some ([], n, rs_at (mv_set 10 w x1.2.1 (1, 1, (mv_get 10 w x1.2.1).2.2.1, rs_o (pr_X w x1.2.1) x2.2.1 (rs_e (rs_K w (pr_X w x0.2.1)) (rs_s w (pr_X w x0.2.1))).2.2.2.2.2 32)) x0.2.1 (pr_X w x0.2.1) (rs_e (rs_K w (pr_X w x0.2.1)) (rs_s w (pr_X w x0.2.1))), 0, 0, 3, 72) else none
  | _ => none
noncomputable def pr_all (q : Nat) (as : List mv_V) (n : Nat) (w : mv_T 10) : Option mv_R := bif Nat.beq q 16 then pr_cmp as n w else bif Nat.beq q 15 then pr_put as n w else bif Nat.beq q 18 then pr_end as n w else bif Nat.beq q 103 then pr_byte as n w else bif Nat.beq q 102 then pr_row as n w else bif Nat.beq q 106 then pr_rend as n w else none
section PR
variable {n : Nat} {w : mv_T 10} {as : List mv_V} {r : mv_R}
/-- what a prim gives is a run -/
def pr_Run (k n : Nat) (w : mv_T 10) (as : List mv_V) (r : mv_R) : Prop := mv_oks as = true ∧ mv_cs as ≤ tt_mL k ∧ ∃ f fr lo, sy_run f k 0 (mv_l0 0 as 0) [] n w fr lo = some r
theorem pr_of {k F Lo : Nat} {w' : mv_T 10} (ho : mv_oks as = true) (hc : mv_cs as ≤ tt_mL k) (h : sy_C k n F Lo as w [] w') : pr_Run k n w as ([], n, w', 0, 0, F, Lo) := by
  obtain ⟨f, hf⟩ := h
  exact ⟨ho, hc, f, F, Lo, hf⟩
theorem pr_cmp_ok (h : pr_cmp as n w = some r) : pr_Run 16 n w as r := by
  unfold pr_cmp at h
  split at h
  · rename_i x0
    obtain ⟨h1, h2⟩ := mv_bif h
    simp only [Bool.and_eq_true] at h1
    obtain ⟨a1, a2⟩ := h1
    subst h2
    obtain ⟨D, F, hu, hl, e⟩ := sh_ck_ok a2
    have e0 := pr_v_ok a1
    generalize hX : pr_X w x0.2.1 = X at *
    generalize hp : x0.2.1 = p0 at *
    subst e0
    refine pr_of (sy_oks_cons (sy_ok2 D.1) sy_oks_nil) (by rw [mL16]; exact (by decide : 1 ≤ 14)) ?_
    have hC := sh_Cc (n := n) (w := w) (X := X) (u := (sh_s w X).1) (l := (sh_s w X).2.1) (P := (sh_s w X).2.2.1) (W := (sh_s w X).2.2.2.1) (St := (sh_s w X).2.2.2.2) D F
    have e' : sh_w w p0 (pr_p X 2) (pr_p X 1) (pr_p X 0) (sh_x X (sh_s w X).1 (sh_s w X).2.1) (sh_s w X).2.2.1 (sh_s w X).2.2.2.1 (sh_s w X).2.2.2.2 = w := e
    rw [e'] at hC
    exact hC
  · cases h
theorem pr_put_ok (h : pr_put as n w = some r) : pr_Run 15 n w as r := by
  unfold pr_put at h
  split at h
  · rename_i x0 x1 x2 x3
    obtain ⟨h1, h2⟩ := mv_bif h
    simp only [Bool.and_eq_true, Nat.ble_eq] at h1
    obtain ⟨⟨a0, a1, a2, a3⟩, b1, b2, b3⟩ := h1
    subst h2
    obtain ⟨D, F, hu, hl, e⟩ := sh_ck_ok b1
    obtain ⟨O, hC, hq⟩ := sh_oc_ok b2
    have e0 := pr_v_ok a0
    have e1 := pr_v_ok a1
    have e2 := pr_v_ok a2
    have e3 := pr_v_ok a3
    generalize hX : pr_X w x0.2.1 = X at *
    generalize x0.2.1 = p0 at *
    generalize x1.2.1 = pf at *
    generalize x2.2.1 = at_ at *
    generalize x3.2.1 = nn at *
    subst e0; subst e1; subst e2; subst e3
    refine pr_of (sy_oks_cons (sy_ok2 D.1) (sy_oks_cons (sy_ok2 O.1) (sy_oks_cons (sy_ok0 (by omega)) (sy_oks_cons (sy_ok0 (by omega)) sy_oks_nil)))) (by rw [mL15]; exact (by decide : 4 ≤ 5)) ?_
    have hP := sh_put (n := n) (w := w) (X := X) (s := sh_s w X) hu hl D F O hC hq b3
    have e' : sh_W w p0 (pr_p X 2) (pr_p X 1) (pr_p X 0) X (sh_s w X) = w := e
    rw [e'] at hP
    exact hP
  · cases h
theorem pr_end_ok (h : pr_end as n w = some r) : pr_Run 18 n w as r := by
  unfold pr_end at h
  split at h
  · rename_i x0 x1 x2
    obtain ⟨h1, h2⟩ := mv_bif h
    simp only [Bool.and_eq_true, Nat.ble_eq] at h1
    obtain ⟨⟨a0, a1, a2⟩, b1, b2, b3⟩ := h1
    subst h2
    obtain ⟨D, F, hu, hl, e⟩ := sh_ck_ok b1
    obtain ⟨O, hC, hq⟩ := sh_oc_ok b2
    have e0 := pr_v_ok a0
    have e1 := pr_v_ok a1
    have e2 := pr_v_ok a2
    generalize hX : pr_X w x0.2.1 = X at *
    generalize x0.2.1 = p0 at *
    generalize x1.2.1 = pf at *
    generalize x2.2.1 = at_ at *
    subst e0; subst e1; subst e2
    refine pr_of (sy_oks_cons (sy_ok2 D.1) (sy_oks_cons (sy_ok2 O.1) (sy_oks_cons (sy_ok0 (by omega)) sy_oks_nil))) (by rw [mL18]; exact (by decide : 3 ≤ 4)) ?_
    have hP := sh_end (n := n) (w := w) (X := X) (s := sh_s w X) hu hl hq b3 D F O hC
    have e' : sh_W w p0 (pr_p X 2) (pr_p X 1) (pr_p X 0) X (sh_s w X) = w := e
    rw [e'] at hP
    exact hP
  · cases h
theorem pr_byte_ok (h : pr_byte as n w = some r) : pr_Run 103 n w as r := by
  unfold pr_byte at h
  split at h
  · rename_i x0 x1
    obtain ⟨h1, h2⟩ := mv_bif h
    simp only [Bool.and_eq_true, Nat.blt_eq] at h1
    obtain ⟨⟨a0, a1, a2⟩, b1⟩ := h1
    subst h2
    obtain ⟨D, hu, hl, e⟩ := rs_ck_ok b1
    have e0 := pr_v_ok a0
    have e1 := pr_v_ok a1
    generalize hX : pr_X w x0.2.1 = X at *
    generalize x0.2.1 = p0 at *
    generalize x1.2.1 = b at *
    subst e0; subst e1
    refine pr_of (sy_oks_cons (sy_ok2 D.1.1) (sy_oks_cons (sy_ok0 a2) sy_oks_nil)) (by rw [mL103]; exact (by decide : 2 ≤ 2)) ?_
    have hP := rs_byte (n := n) (w := w) (X := X) (s := rs_s w X) hu hl a2 D
    have e' : rs_W w p0 (pr_p X 12) (pr_p X 10) (pr_p X 11) (pr_p X 9) X (rs_s w X) = w := e
    rw [e'] at hP
    exact hP
  · cases h
theorem pr_row_ok (h : pr_row as n w = some r) : pr_Run 102 n w as r := by
  unfold pr_row at h
  split at h
  · rename_i x0 x1 x2 x3
    obtain ⟨h1, h2⟩ := mv_bif h
    simp only [Bool.and_eq_true, Nat.ble_eq] at h1
    obtain ⟨⟨a0, a1, a2, a3⟩, b1, b2, b3⟩ := h1
    subst h2
    obtain ⟨D, hu, hl, e⟩ := rs_ck_ok b1
    obtain ⟨O, hC, hq⟩ := rs_oc_ok b2
    have e0 := pr_v_ok a0
    have e1 := pr_v_ok a1
    have e2 := pr_v_ok a2
    have e3 := pr_v_ok a3
    generalize hX : pr_X w x0.2.1 = X at *
    generalize x0.2.1 = p0 at *
    generalize x1.2.1 = pf at *
    generalize x2.2.1 = at_ at *
    generalize x3.2.1 = nn at *
    subst e0; subst e1; subst e2; subst e3
    refine pr_of (sy_oks_cons (sy_ok2 D.1.1) (sy_oks_cons (sy_ok2 O.1) (sy_oks_cons (sy_ok0 (by omega)) (sy_oks_cons (sy_ok0 (by omega)) sy_oks_nil)))) (by rw [mL102]; exact (by decide : 4 ≤ 5)) ?_
    have hP := rs_row (n := n) (w := w) (X := X) (s := rs_s w X) hu hl D O hC hq b3
    have e' : rs_W w p0 (pr_p X 12) (pr_p X 10) (pr_p X 11) (pr_p X 9) X (rs_s w X) = w := e
    rw [e'] at hP
    exact hP
  · cases h
theorem pr_rend_ok (h : pr_rend as n w = some r) : pr_Run 106 n w as r := by
  unfold pr_rend at h
  split at h
  · rename_i x0 x1 x2
    obtain ⟨h1, h2⟩ := mv_bif h
    simp only [Bool.and_eq_true, Nat.ble_eq] at h1
    obtain ⟨⟨a0, a1, a2⟩, ⟨b1, b4⟩, b2, b3⟩ := h1
    subst h2
    obtain ⟨D, hu, hl, e⟩ := rs_ck_ok b1
    obtain ⟨O, hC, hq⟩ := rs_oc_ok b2
    have b5 := pr_ne_ok b4
    have e0 := pr_v_ok a0
    have e1 := pr_v_ok a1
    have e2 := pr_v_ok a2
    generalize hX : pr_X w x0.2.1 = X at *
    generalize x0.2.1 = p0 at *
    generalize x1.2.1 = pf at *
    generalize x2.2.1 = at_ at *
    subst e0; subst e1; subst e2
    refine pr_of (sy_oks_cons (sy_ok2 D.1.1) (sy_oks_cons (sy_ok2 O.1) (sy_oks_cons (sy_ok0 (by omega)) sy_oks_nil))) (by rw [mL106]; exact (by decide : 3 ≤ 6)) ?_
    have hP := rs_end (n := n) (w := w) (X := X) (s := rs_s w X) hu hl D O b5 hq b3 hC
    have e' : rs_W w p0 (pr_p X 12) (pr_p X 10) (pr_p X 11) (pr_p X 9) X (rs_s w X) = w := e
    rw [e'] at hP
    exact hP
  · cases h
theorem pr_all_ok {q : Nat} (h : pr_all q as n w = some r) : pr_Run q n w as r := by
  unfold pr_all at h
  cases h0 : Nat.beq q 16 with
  | true =>
    rw [h0] at h
    rw [Nat.eq_of_beq_eq_true h0]
    exact pr_cmp_ok h
  | false =>
    rw [h0] at h
    simp only [cond_false] at h
    cases h1 : Nat.beq q 15 with
    | true =>
      rw [h1] at h
      rw [Nat.eq_of_beq_eq_true h1]
      exact pr_put_ok h
    | false =>
      rw [h1] at h
      simp only [cond_false] at h
      cases h2 : Nat.beq q 18 with
      | true =>
        rw [h2] at h
        rw [Nat.eq_of_beq_eq_true h2]
        exact pr_end_ok h
      | false =>
        rw [h2] at h
        simp only [cond_false] at h
        cases h3 : Nat.beq q 103 with
        | true =>
          rw [h3] at h
          rw [Nat.eq_of_beq_eq_true h3]
          exact pr_byte_ok h
        | false =>
          rw [h3] at h
          simp only [cond_false] at h
          cases h4 : Nat.beq q 102 with
          | true =>
            rw [h4] at h
            rw [Nat.eq_of_beq_eq_true h4]
            exact pr_row_ok h
          | false =>
            rw [h4] at h
            simp only [cond_false] at h
            cases h5 : Nat.beq q 106 with
            | true =>
              rw [h5] at h
              rw [Nat.eq_of_beq_eq_true h5]
              exact pr_rend_ok h
            | false =>
              rw [h5] at h
              simp only [cond_false] at h
              cases h
theorem pr_plain {q : Nat} (h : pr_all q as n w = some r) : plainName (tt_my q).cls = true := by
  unfold pr_all at h
  cases h0 : Nat.beq q 16 with
  | true =>
    rw [Nat.eq_of_beq_eq_true h0]
    exact (tt_mb 16 (by decide)).1
  | false =>
    rw [h0] at h
    simp only [cond_false] at h
    cases h1 : Nat.beq q 15 with
    | true =>
      rw [Nat.eq_of_beq_eq_true h1]
      exact (tt_mb 15 (by decide)).1
    | false =>
      rw [h1] at h
      simp only [cond_false] at h
      cases h2 : Nat.beq q 18 with
      | true =>
        rw [Nat.eq_of_beq_eq_true h2]
        exact (tt_mb 18 (by decide)).1
      | false =>
        rw [h2] at h
        simp only [cond_false] at h
        cases h3 : Nat.beq q 103 with
        | true =>
          rw [Nat.eq_of_beq_eq_true h3]
          exact (tt_mb 103 (by decide)).1
        | false =>
          rw [h3] at h
          simp only [cond_false] at h
          cases h4 : Nat.beq q 102 with
          | true =>
            rw [Nat.eq_of_beq_eq_true h4]
            exact (tt_mb 102 (by decide)).1
          | false =>
            rw [h4] at h
            simp only [cond_false] at h
            cases h5 : Nat.beq q 106 with
            | true =>
              rw [Nat.eq_of_beq_eq_true h5]
              exact (tt_mb 106 (by decide)).1
            | false =>
              rw [h5] at h
              simp only [cond_false] at h
              cases h
theorem pr_met {l : Launch} {D : va_G} {tys : List (ClassId × FieldType)} {tb : Nat → Nat} (htl : tys.map Prod.snd = tt_tl) {q : Nat} (h : pr_all q as n w = some r) : mv_Met l D tt_cl tys tb (mv_E tt_nst tt_aos tt_zs tt_zt tb) (tt_my q) (Cond.code (tt_my q) (tt_mcc q) (tt_mL q) (tt_mret q) :: tt_mw) as n w r := by
  obtain ⟨ho, hc, f, fr, lo, hf⟩ := pr_all_ok h
  exact sy_met htl (pr_plain h) ho hc hf
end PR
