/-! THE FRESH WORLD, cell by cell -/
/-- the first payment's bytes -/
def z_PB : Nat := 528294531135665246352339784916516606518847326036121522127960709026673902556724859474417255887657187894674394993257128678882347559502685537250538978462939576908386683999005084168731517676426441053024232261172468411363978426903241941874629001177797746337129705396739506176
noncomputable def zp_1 (w : mv_T 10) (L : List Nat) (r : Nat × Nat × Nat) : Nat := bif Nat.beq r.2.1 0 then pr_p (pr_X w (L.getD r.1 0)) r.2.2 else Nat.sub (mv_rd 32 (pr_X w (L.getD r.1 0)) 0) 1
noncomputable def zp_L (w : mv_T 10) (base : Nat) (rs : List (Nat × Nat × Nat)) : List Nat := rs.foldl (fun L r => L ++ [zp_1 w L r]) [base]
noncomputable def zk_c (w : mv_T 10) (L : List Nat) : Bool := (((((pr_c (mv_get 10 w (L.getD 0 0)) 0 1 13 && (pr_c (mv_get 10 w (L.getD 1 0)) 0 8 11 && pr_c (mv_get 10 w (L.getD 2 0)) 3 6 40)) && ((pr_c (mv_get 10 w (L.getD 3 0)) 0 9 11 && pr_c (mv_get 10 w (L.getD 4 0)) 1 1 105) && (pr_c (mv_get 10 w (L.getD 5 0)) 1 1 32 && pr_c (mv_get 10 w (L.getD 6 0)) 1 1 2))) && (((pr_c (mv_get 10 w (L.getD 7 0)) 3 7 4 && pr_c (mv_get 10 w (L.getD 8 0)) 0 10 6) && (pr_c (mv_get 10 w (L.getD 9 0)) 1 1 28 && pr_c (mv_get 10 w (L.getD 10 0)) 1 1 2048)) && ((pr_c (mv_get 10 w (L.getD 11 0)) 0 11 19 && pr_c (mv_get 10 w (L.getD 12 0)) 3 6 60) && (pr_c (mv_get 10 w (L.getD 13 0)) 1 1 32 && pr_c (mv_get 10 w (L.getD 14 0)) 3 6 60)))) && (((pr_c (mv_get 10 w (L.getD 15 0)) 3 6 60 && (pr_c (mv_get 10 w (L.getD 16 0)) 1 1 2336 && pr_c (mv_get 10 w (L.getD 17 0)) 0 2 13)) && ((pr_c (mv_get 10 w (L.getD 18 0)) 1 1 64 && pr_c (mv_get 10 w (L.getD 19 0)) 1 0 64) && (pr_c (mv_get 10 w (L.getD 20 0)) 1 0 8 && pr_c (mv_get 10 w (L.getD 21 0)) 1 1 32))) && ((((pr_k (pr_X w (L.getD 0 0)) 7 2 && Nat.beq (pr_p (pr_X w (L.getD 0 0)) 7) (L.getD 1 0)) && (pr_k (pr_X w (L.getD 0 0)) 3 2 && Nat.beq (pr_p (pr_X w (L.getD 0 0)) 3) (L.getD 10 0))) && ((pr_k (pr_X w (L.getD 0 0)) 8 2 && Nat.beq (pr_p (pr_X w (L.getD 0 0)) 8) (L.getD 11 0)) && (pr_k (pr_X w (L.getD 1 0)) 3 0 && Nat.beq (pr_p (pr_X w (L.getD 1 0)) 3) 1))) && (((pr_k (pr_X w (L.getD 1 0)) 2 2 && Nat.beq (pr_p (pr_X w (L.getD 1 0)) 2) (L.getD 2 0)) && (pr_k (pr_X w (L.getD 3 0)) 5 2 && Nat.beq (pr_p (pr_X w (L.getD 3 0)) 5) (L.getD 5 0))) && ((pr_k (pr_X w (L.getD 3 0)) 4 2 && Nat.beq (pr_p (pr_X w (L.getD 3 0)) 4) (L.getD 4 0)) && (pr_k (pr_X w (L.getD 3 0)) 8 2 && Nat.beq (pr_p (pr_X w (L.getD 3 0)) 8) (L.getD 6 0))))))) && (((((pr_k (pr_X w (L.getD 3 0)) 9 0 && Nat.beq (pr_p (pr_X w (L.getD 3 0)) 9) 2) && ((pr_k (pr_X w (L.getD 3 0)) 7 0 && Nat.beq (pr_p (pr_X w (L.getD 3 0)) 7) 1) && (pr_k (pr_X w (L.getD 3 0)) 6 2 && Nat.beq (pr_p (pr_X w (L.getD 3 0)) 6) (L.getD 7 0)))) && (((pr_k (pr_X w (L.getD 8 0)) 0 2 && Nat.beq (pr_p (pr_X w (L.getD 8 0)) 0) (L.getD 9 0)) && (pr_k (pr_X w (L.getD 11 0)) 0 2 && Nat.beq (pr_p (pr_X w (L.getD 11 0)) 0) (L.getD 17 0))) && ((pr_k (pr_X w (L.getD 11 0)) 2 2 && Nat.beq (pr_p (pr_X w (L.getD 11 0)) 2) (L.getD 12 0)) && (pr_k (pr_X w (L.getD 11 0)) 5 0 && Nat.beq (pr_p (pr_X w (L.getD 11 0)) 5) 1)))) && ((((pr_k (pr_X w (L.getD 11 0)) 18 2 && Nat.beq (pr_p (pr_X w (L.getD 11 0)) 18) (L.getD 13 0)) && (pr_k (pr_X w (L.getD 11 0)) 3 2 && Nat.beq (pr_p (pr_X w (L.getD 11 0)) 3) (L.getD 14 0))) && ((pr_k (pr_X w (L.getD 11 0)) 4 2 && Nat.beq (pr_p (pr_X w (L.getD 11 0)) 4) (L.getD 15 0)) && (pr_k (pr_X w (L.getD 11 0)) 7 0 && Nat.blt (pr_p (pr_X w (L.getD 11 0)) 7) 2))) && (((pr_k (pr_X w (L.getD 11 0)) 17 2 && Nat.beq (pr_p (pr_X w (L.getD 11 0)) 17) (L.getD 16 0)) && (pr_k (pr_X w (L.getD 17 0)) 2 2 && Nat.beq (pr_p (pr_X w (L.getD 17 0)) 2) (L.getD 18 0))) && ((pr_k (pr_X w (L.getD 17 0)) 1 2 && Nat.beq (pr_p (pr_X w (L.getD 17 0)) 1) (L.getD 19 0)) && (pr_k (pr_X w (L.getD 17 0)) 0 2 && Nat.beq (pr_p (pr_X w (L.getD 17 0)) 0) (L.getD 20 0)))))) && (((((pr_k (pr_X w (L.getD 17 0)) 3 2 && Nat.beq (pr_p (pr_X w (L.getD 17 0)) 3) (L.getD 21 0)) && (pr_k (pr_X w (L.getD 17 0)) 11 0 && Nat.blt (pr_p (pr_X w (L.getD 17 0)) 11) 64)) && ((pr_k (pr_X w (L.getD 17 0)) 12 0 && Nat.blt (pr_p (pr_X w (L.getD 17 0)) 12) 4294967296) && (List.range 22).all (fun i => (List.range 22).all (fun j => Nat.beq i j || pr_ne (L.getD i 0) (L.getD j 0))))) && (((List.range 22).all (fun i => Nat.blt (L.getD i 0) 1024) && Nat.beq (mv_rd 32 (pr_X w (L.getD 2 0)) 0) ((L.getD 3 0) + 1)) && (Nat.beq (mv_rd 32 (pr_X w (L.getD 12 0)) 0) ((L.getD 3 0) + 1) && Nat.beq (mv_rd 32 (pr_X w (L.getD 14 0)) 0) 0))) && (((Nat.beq (mv_rd 32 (pr_X w (L.getD 15 0)) 0) 0 && Nat.beq (mv_rd 32 (pr_X w (L.getD 7 0)) 0) ((L.getD 8 0) + 1)) && (mv_ab (pr_X w (L.getD 4 0)) 0 105 && mv_ab (pr_X w (L.getD 6 0)) 0 2)) && ((mv_ab (pr_X w (L.getD 9 0)) 0 28 && pr_ne (mv_rd 32 (pr_X w (L.getD 5 0)) 1) (mv_rd 32 (pr_X w (L.getD 4 0)) 1)) && (pr_ne (mv_rd 32 (pr_X w (L.getD 5 0)) 2) (mv_rd 32 (pr_X w (L.getD 4 0)) 2) && sb_eq (pr_X w (L.getD 9 0)) 0 z_PB 0 28))))))
noncomputable def zk_r (w : mv_T 10) (M : List Nat) : Bool := ((((((pr_c (mv_get 10 w (M.getD 0 0)) 0 0 107 && pr_c (mv_get 10 w (M.getD 1 0)) 1 1 64) && (pr_c (mv_get 10 w (M.getD 2 0)) 1 0 64 && pr_c (mv_get 10 w (M.getD 3 0)) 1 0 64)) && ((pr_c (mv_get 10 w (M.getD 4 0)) 1 0 8 && pr_c (mv_get 10 w (M.getD 5 0)) 1 0 8) && (pr_c (mv_get 10 w (M.getD 6 0)) 1 0 8 && (pr_c (mv_get 10 w (M.getD 7 0)) 1 1 32 && pr_c (mv_get 10 w (M.getD 8 0)) 1 1 4200)))) && (((pr_c (mv_get 10 w (M.getD 9 0)) 1 1 105 && pr_c (mv_get 10 w (M.getD 10 0)) 1 1 32) && (pr_c (mv_get 10 w (M.getD 11 0)) 1 1 1920 && (pr_c (mv_get 10 w (M.getD 12 0)) 1 1 1280 && pr_c (mv_get 10 w (M.getD 13 0)) 1 1 6300))) && ((pr_c (mv_get 10 w (M.getD 14 0)) 1 1 3200 && pr_c (mv_get 10 w (M.getD 15 0)) 1 1 1900) && (pr_c (mv_get 10 w (M.getD 16 0)) 1 1 32 && (pr_c (mv_get 10 w (M.getD 17 0)) 1 0 40 && pr_c (mv_get 10 w (M.getD 18 0)) 1 0 40))))) && ((((pr_c (mv_get 10 w (M.getD 19 0)) 1 2 60 && pr_c (mv_get 10 w (M.getD 20 0)) 1 2 60) && (pr_c (mv_get 10 w (M.getD 21 0)) 1 1 76000 && (pr_c (mv_get 10 w (M.getD 22 0)) 1 1 2304 && pr_c (mv_get 10 w (M.getD 23 0)) 1 1 2400))) && ((pr_c (mv_get 10 w (M.getD 24 0)) 1 0 60 && pr_c (mv_get 10 w (M.getD 25 0)) 1 0 60) && (pr_c (mv_get 10 w (M.getD 26 0)) 1 0 60 && (pr_c (mv_get 10 w (M.getD 27 0)) 1 0 60 && pr_c (mv_get 10 w (M.getD 28 0)) 1 0 2)))) && ((((pr_k (pr_X w (M.getD 0 0)) 0 0 && Nat.blt (pr_p (pr_X w (M.getD 0 0)) 0) 4294967296) && (pr_k (pr_X w (M.getD 0 0)) 12 2 && Nat.beq (pr_p (pr_X w (M.getD 0 0)) 12) (M.getD 1 0))) && ((pr_k (pr_X w (M.getD 0 0)) 7 2 && Nat.beq (pr_p (pr_X w (M.getD 0 0)) 7) (M.getD 2 0)) && ((pr_k (pr_X w (M.getD 0 0)) 10 2 && Nat.beq (pr_p (pr_X w (M.getD 0 0)) 10) (M.getD 3 0)) && (pr_k (pr_X w (M.getD 0 0)) 11 2 && Nat.beq (pr_p (pr_X w (M.getD 0 0)) 11) (M.getD 4 0))))) && (((pr_k (pr_X w (M.getD 0 0)) 9 2 && Nat.beq (pr_p (pr_X w (M.getD 0 0)) 9) (M.getD 5 0)) && (pr_k (pr_X w (M.getD 0 0)) 8 2 && Nat.beq (pr_p (pr_X w (M.getD 0 0)) 8) (M.getD 6 0))) && ((pr_k (pr_X w (M.getD 0 0)) 15 2 && Nat.beq (pr_p (pr_X w (M.getD 0 0)) 15) (M.getD 7 0)) && ((pr_k (pr_X w (M.getD 0 0)) 13 0 && Nat.blt (pr_p (pr_X w (M.getD 0 0)) 13) 64) && (pr_k (pr_X w (M.getD 0 0)) 14 1 && Nat.blt (pr_p (pr_X w (M.getD 0 0)) 14) 18446744073709551616))))))) && ((((((pr_k (pr_X w (M.getD 0 0)) 37 2 && Nat.beq (pr_p (pr_X w (M.getD 0 0)) 37) (M.getD 8 0)) && (pr_k (pr_X w (M.getD 0 0)) 70 2 && Nat.beq (pr_p (pr_X w (M.getD 0 0)) 70) (M.getD 9 0))) && ((pr_k (pr_X w (M.getD 0 0)) 71 2 && Nat.beq (pr_p (pr_X w (M.getD 0 0)) 71) (M.getD 10 0)) && ((pr_k (pr_X w (M.getD 0 0)) 63 2 && Nat.beq (pr_p (pr_X w (M.getD 0 0)) 63) (M.getD 11 0)) && (pr_k (pr_X w (M.getD 0 0)) 38 2 && Nat.beq (pr_p (pr_X w (M.getD 0 0)) 38) (M.getD 12 0))))) && (((pr_k (pr_X w (M.getD 0 0)) 62 2 && Nat.beq (pr_p (pr_X w (M.getD 0 0)) 62) (M.getD 13 0)) && (pr_k (pr_X w (M.getD 0 0)) 45 2 && Nat.beq (pr_p (pr_X w (M.getD 0 0)) 45) (M.getD 14 0))) && ((pr_k (pr_X w (M.getD 0 0)) 72 2 && Nat.beq (pr_p (pr_X w (M.getD 0 0)) 72) (M.getD 15 0)) && ((pr_k (pr_X w (M.getD 0 0)) 18 2 && Nat.beq (pr_p (pr_X w (M.getD 0 0)) 18) (M.getD 16 0)) && (pr_k (pr_X w (M.getD 0 0)) 46 2 && Nat.beq (pr_p (pr_X w (M.getD 0 0)) 46) (M.getD 17 0)))))) && ((((pr_k (pr_X w (M.getD 0 0)) 36 2 && Nat.beq (pr_p (pr_X w (M.getD 0 0)) 36) (M.getD 18 0)) && (pr_k (pr_X w (M.getD 0 0)) 67 2 && Nat.beq (pr_p (pr_X w (M.getD 0 0)) 67) (M.getD 19 0))) && ((pr_k (pr_X w (M.getD 0 0)) 68 2 && Nat.beq (pr_p (pr_X w (M.getD 0 0)) 68) (M.getD 20 0)) && ((pr_k (pr_X w (M.getD 0 0)) 30 2 && Nat.beq (pr_p (pr_X w (M.getD 0 0)) 30) (M.getD 21 0)) && (pr_k (pr_X w (M.getD 0 0)) 73 2 && Nat.beq (pr_p (pr_X w (M.getD 0 0)) 73) (M.getD 22 0))))) && (((pr_k (pr_X w (M.getD 0 0)) 58 2 && Nat.beq (pr_p (pr_X w (M.getD 0 0)) 58) (M.getD 23 0)) && (pr_k (pr_X w (M.getD 0 0)) 66 2 && Nat.beq (pr_p (pr_X w (M.getD 0 0)) 66) (M.getD 24 0))) && ((pr_k (pr_X w (M.getD 0 0)) 64 2 && Nat.beq (pr_p (pr_X w (M.getD 0 0)) 64) (M.getD 25 0)) && ((pr_k (pr_X w (M.getD 0 0)) 65 2 && Nat.beq (pr_p (pr_X w (M.getD 0 0)) 65) (M.getD 26 0)) && (pr_k (pr_X w (M.getD 0 0)) 85 2 && Nat.beq (pr_p (pr_X w (M.getD 0 0)) 85) (M.getD 27 0))))))) && (((((pr_k (pr_X w (M.getD 0 0)) 76 2 && Nat.beq (pr_p (pr_X w (M.getD 0 0)) 76) (M.getD 28 0)) && (pr_k (pr_X w (M.getD 0 0)) 49 0 && Nat.beq (pr_p (pr_X w (M.getD 0 0)) 49) 1)) && ((pr_k (pr_X w (M.getD 0 0)) 69 0 && Nat.beq (pr_p (pr_X w (M.getD 0 0)) 69) 1) && ((pr_k (pr_X w (M.getD 0 0)) 74 0 && Nat.blt (pr_p (pr_X w (M.getD 0 0)) 74) 4294967296) && (pr_k (pr_X w (M.getD 0 0)) 82 0 && Nat.blt (pr_p (pr_X w (M.getD 0 0)) 82) 4294967296)))) && (((pr_k (pr_X w (M.getD 0 0)) 87 0 && Nat.blt (pr_p (pr_X w (M.getD 0 0)) 87) 4294967296) && (pr_k (pr_X w (M.getD 0 0)) 88 0 && Nat.blt (pr_p (pr_X w (M.getD 0 0)) 88) 4294967296)) && ((pr_k (pr_X w (M.getD 0 0)) 86 0 && Nat.blt (pr_p (pr_X w (M.getD 0 0)) 86) 4294967296) && ((pr_k (pr_X w (M.getD 0 0)) 19 0 && Nat.beq (pr_p (pr_X w (M.getD 0 0)) 19) 0) && (List.range 29).all (fun i => (List.range 29).all (fun j => Nat.beq i j || pr_ne (M.getD i 0) (M.getD j 0))))))) && ((((List.range 29).all (fun i => Nat.blt (M.getD i 0) 1024) && Nat.beq (pr_X w (M.getD 2 0)) mc_K) && (sb_eq (pr_X w (M.getD 6 0)) 0 hs_S0 0 8 && (sb_eq (pr_X w (M.getD 11 0)) 0 (pr_X w (M.getD 12 0)) 0 32 && Nat.beq (mv_rd 32 (pr_X w (M.getD 18 0)) 0) 28))) && ((Nat.beq (mv_rd 32 (pr_X w (M.getD 17 0)) 0) 2 && Nat.beq (mv_rd 32 (pr_X w (M.getD 19 0)) 0) 0) && (Nat.beq (mv_rd 32 (pr_X w (M.getD 20 0)) 0) 0 && (Nat.beq (mv_rd 32 (pr_X w (M.getD 26 0)) 0) 0 && Nat.beq (mv_rd 32 (pr_X w (M.getD 25 0)) 0) 4294967294)))))))
noncomputable def zk_x (w : mv_T 10) (L M : List Nat) : Bool := ((sb_eq (pr_X w (L.getD 4 0)) 0 (pr_X w (M.getD 8 0)) 0 105 && (sb_eq (pr_X w (L.getD 5 0)) 0 (pr_X w (M.getD 11 0)) 0 32 && sb_eq (pr_X w (L.getD 6 0)) 0 (pr_X w (M.getD 14 0)) 0 2)) && ((sb_eq (pr_X w (L.getD 9 0)) 0 (pr_X w (M.getD 21 0)) 0 28 && sb_eq (pr_X w (L.getD 4 0)) 32 (pr_X w (M.getD 13 0)) 32 64) && ((List.range 22).all (fun i => (List.range 29).all (fun j => pr_ne (L.getD i 0) (M.getD j 0))) && (Nat.beq (mv_rd 32 (pr_X w (L.getD 4 0)) 32) 4294967245 && Nat.beq (mv_rd 32 (pr_X w (L.getD 4 0)) 33) 53))))
noncomputable def zk (w : mv_T 10) (base : Nat) (L M : List Nat) : Bool := (Nat.beq (L.getD 0 0) 0 && Nat.beq (M.getD 0 0) base) && (zk_c w L && (zk_r w M && zk_x w L M))
theorem pr_kp {X f k v : Nat} (h : (pr_k X f k && Nat.beq (pr_p X f) v) = true) : mv_dec (mv_rd 136 X f) = (k, v, 0) := by
  simp only [Bool.and_eq_true] at h
  rw [pr_k_ok h.1, Nat.eq_of_beq_eq_true h.2]
theorem pr_kb {X f k v : Nat} (h : (pr_k X f k && Nat.blt (pr_p X f) v) = true) : mv_dec (mv_rd 136 X f) = (k, pr_p X f, 0) ∧ pr_p X f < v := by
  simp only [Bool.and_eq_true, Nat.blt_eq] at h
  exact ⟨pr_k_ok h.1, h.2⟩
theorem zk_nd {N : Nat} {L : List Nat} (h : ((List.range N).all (fun i => (List.range N).all (fun j => Nat.beq i j || pr_ne (L.getD i 0) (L.getD j 0)))) = true) : ∀ i j, i < N → j < N → i ≠ j → L.getD i 0 ≠ L.getD j 0 := by
  intro i j hi hj e
  have h1 := List.all_eq_true.mp (List.all_eq_true.mp h i (List.mem_range.mpr hi)) j (List.mem_range.mpr hj)
  simp only [Bool.or_eq_true] at h1
  rcases h1 with z | z
  · exact absurd (Nat.eq_of_beq_eq_true z) e
  · exact pr_ne_ok z
theorem zk_lt {N : Nat} {L : List Nat} (h : ((List.range N).all (fun i => Nat.blt (L.getD i 0) 1024)) = true) : ∀ i, i < N → L.getD i 0 < 1024 := by
  intro i hi
  have h1 := List.all_eq_true.mp h i (List.mem_range.mpr hi)
  simpa using h1
theorem sb_bytes {A a B b : Nat} : ∀ m, sb_eq A a B b m = true → ∀ j, j < m → mv_rd 32 A (a + j) = mv_rd 32 B (b + j)
  | 0, _, j, hj => absurd hj (Nat.not_lt_zero _)
  | m + 1, h, j, hj => by
    have h' : (sb_eq A a B b m && Nat.beq (mv_rd 32 A (a + m)) (mv_rd 32 B (b + m))) = true := h
    simp only [Bool.and_eq_true] at h'
    by_cases e : j = m
    · subst e; exact Nat.eq_of_beq_eq_true h'.2
    · exact sb_bytes m h'.1 j (by omega)
theorem zk_a {a b : Bool} (h : (a && b) = true) : a = true ∧ b = true := by simpa using h
set_option maxRecDepth 4000 in
theorem zk_ok {w : mv_T 10} {base : Nat} {L M : List Nat} (h : zk w base L M = true) {G : Prop} (K : ∀ (pl : Nat → Nat) (X0 X1 X3 X8 X11 X17 cbs Hd Id Fi cps Pb Pl ckn Dg cff cbf Ids Sp Sw Ss In stl su sl : Nat) (pr : Nat → Nat) (X0r Pcr Wdr Vvr Str Afr Mir Hdr Gvr Gir Hir Bir Hbr Flr Ofr Our Fsr Bsr Hfr Hhr Bbr Oir Lyr Hwr Her Htr Car Lur thr upr lpr ocr cor sor msr bhr : Nat), (pl 0 = 0) → (wh 22 pl w w [(0, 1, 13, X0), (0, 8, 11, X1), (3, 6, 40, cbs), (0, 9, 11, X3), (1, 1, 105, Hd), (1, 1, 32, Id), (1, 1, 2, Fi), (3, 7, 4, cps), (0, 10, 6, X8), (1, 1, 28, Pb), (1, 1, 2048, Pl), (0, 11, 19, X11), (3, 6, 60, ckn), (1, 1, 32, Dg), (3, 6, 60, cff), (3, 6, 60, cbf), (1, 1, 2336, Ids), (0, 2, 13, X17), (1, 1, 64, Sp), (1, 0, 64, Sw), (1, 0, 8, Ss), (1, 1, 32, In)]) → (fh X0 jX [(2, pl 1, 0), (2, pl 10, 0), (2, pl 11, 0)]) → (fh X1 jM [(0, 1, 0), (2, pl 2, 0)]) → (fh X3 jB [(2, pl 5, 0), (2, pl 4, 0), (2, pl 6, 0), (0, 2, 0), (0, 1, 0), (2, pl 7, 0)]) → (fh X8 jP [(2, pl 9, 0)]) → (fh X11 jU [(2, pl 17, 0), (2, pl 12, 0), (0, 1, 0), (2, pl 13, 0), (2, pl 14, 0), (2, pl 15, 0), (0, stl, 0), (2, pl 16, 0)]) → (fh X17 jS [(2, pl 18, 0), (2, pl 19, 0), (2, pl 20, 0), (2, pl 21, 0), (0, su, 0), (0, sl, 0)]) → (mv_rd 32 cbs 0 = pl 3 + 1) → (mv_rd 32 ckn 0 = pl 3 + 1) → (mv_rd 32 cff 0 = 0) → (mv_rd 32 cbf 0 = 0) → (mv_rd 32 cps 0 = pl 8 + 1) → (stl < 2) → (su < 64) → (sl < 4294967296) → (mv_ab Hd 0 105 = true) → (mv_ab Fi 0 2 = true) → (mv_ab Pb 0 28 = true) → (mv_rd 32 Id 1 ≠ mv_rd 32 Hd 1) → (mv_rd 32 Id 2 ≠ mv_rd 32 Hd 2) → (∀ j, j < 28 → mv_rd 32 Pb j = mv_rd 32 z_PB j) → (pr 0 = base) → (wh 29 pr w w [(0, 0, 107, X0r), (1, 1, 64, Pcr), (1, 0, 64, mc_K), (1, 0, 64, Wdr), (1, 0, 8, Vvr), (1, 0, 8, Str), (1, 0, 8, Afr), (1, 1, 32, Mir), (1, 1, 4200, Hdr), (1, 1, 105, Gvr), (1, 1, 32, Gir), (1, 1, 1920, Hir), (1, 1, 1280, Bir), (1, 1, 6300, Hbr), (1, 1, 3200, Flr), (1, 1, 1900, Ofr), (1, 1, 32, Our), (1, 0, 40, Fsr), (1, 0, 40, Bsr), (1, 2, 60, Hfr), (1, 2, 60, Hhr), (1, 1, 76000, Bbr), (1, 1, 2304, Oir), (1, 1, 2400, Lyr), (1, 0, 60, Hwr), (1, 0, 60, Her), (1, 0, 60, Htr), (1, 0, 60, Car), (1, 0, 2, Lur)]) → (fh X0r jR [(0, thr, 0), (2, pr 1, 0), (2, pr 2, 0), (2, pr 3, 0), (2, pr 4, 0), (2, pr 5, 0), (2, pr 6, 0), (2, pr 7, 0), (0, upr, 0), (1, lpr, 0), (2, pr 8, 0), (2, pr 9, 0), (2, pr 10, 0), (2, pr 11, 0), (2, pr 12, 0), (2, pr 13, 0), (2, pr 14, 0), (2, pr 15, 0), (2, pr 16, 0), (2, pr 17, 0), (2, pr 18, 0), (2, pr 19, 0), (2, pr 20, 0), (2, pr 21, 0), (2, pr 22, 0), (2, pr 23, 0), (2, pr 24, 0), (2, pr 25, 0), (2, pr 26, 0), (2, pr 27, 0), (2, pr 28, 0), (0, 1, 0), (0, 1, 0), (0, ocr, 0), (0, cor, 0), (0, sor, 0), (0, msr, 0), (0, bhr, 0), (0, 0, 0)]) → (∀ i, i < 8 → mv_rd 32 Afr i = mv_rd 32 hs_S0 i) → (sb_eq Hir 0 Bir 0 32 = true) → (mv_rd 32 Bsr 0 = 28) → (mv_rd 32 Fsr 0 = 2) → (mv_rd 32 Hfr 0 = 0) → (mv_rd 32 Hhr 0 = 0) → (mv_rd 32 Htr 0 = 0) → (mv_rd 32 Her 0 = 4294967294) → (∀ j, j < 105 → mv_rd 32 Hd j = mv_rd 32 Hdr j) → (∀ j, j < 32 → mv_rd 32 Id j = mv_rd 32 Hir j) → (∀ j, j < 2 → mv_rd 32 Fi j = mv_rd 32 Flr j) → (∀ j, j < 28 → mv_rd 32 Pb j = mv_rd 32 Bbr j) → (∀ j, j < 64 → mv_rd 32 Hd (32 + j) = mv_rd 32 Hbr (32 + j)) → (∀ i j, i < 22 → j < 29 → pl i ≠ pr j) → (mv_rd 32 Hd 32 = 4294967245 ∧ mv_rd 32 Hd 33 = 53) → G) : G := by
  unfold zk at h
  have p0 := (zk_a (zk_a h).1).1
  have p1 := (zk_a (zk_a h).1).2
  have kc := (zk_a (zk_a h).2).1
  have kr := (zk_a (zk_a (zk_a h).2).2).1
  have kx := (zk_a (zk_a (zk_a h).2).2).2
  clear h
  unfold zk_c at kc
  unfold zk_r at kr
  unfold zk_x at kx
  have ac0 := (zk_a (zk_a (zk_a (zk_a (zk_a kc).1).1).1).1).1
  have ac1 := (zk_a (zk_a (zk_a (zk_a (zk_a (zk_a kc).1).1).1).1).2).1
  have ac2 := (zk_a (zk_a (zk_a (zk_a (zk_a (zk_a kc).1).1).1).1).2).2
  have ac3 := (zk_a (zk_a (zk_a (zk_a (zk_a (zk_a kc).1).1).1).2).1).1
  have ac4 := (zk_a (zk_a (zk_a (zk_a (zk_a (zk_a kc).1).1).1).2).1).2
  have ac5 := (zk_a (zk_a (zk_a (zk_a (zk_a (zk_a kc).1).1).1).2).2).1
  have ac6 := (zk_a (zk_a (zk_a (zk_a (zk_a (zk_a kc).1).1).1).2).2).2
  have ac7 := (zk_a (zk_a (zk_a (zk_a (zk_a (zk_a kc).1).1).2).1).1).1
  have ac8 := (zk_a (zk_a (zk_a (zk_a (zk_a (zk_a kc).1).1).2).1).1).2
  have ac9 := (zk_a (zk_a (zk_a (zk_a (zk_a (zk_a kc).1).1).2).1).2).1
  have ac10 := (zk_a (zk_a (zk_a (zk_a (zk_a (zk_a kc).1).1).2).1).2).2
  have ac11 := (zk_a (zk_a (zk_a (zk_a (zk_a (zk_a kc).1).1).2).2).1).1
  have ac12 := (zk_a (zk_a (zk_a (zk_a (zk_a (zk_a kc).1).1).2).2).1).2
  have ac13 := (zk_a (zk_a (zk_a (zk_a (zk_a (zk_a kc).1).1).2).2).2).1
  have ac14 := (zk_a (zk_a (zk_a (zk_a (zk_a (zk_a kc).1).1).2).2).2).2
  have ac15 := (zk_a (zk_a (zk_a (zk_a (zk_a kc).1).2).1).1).1
  have ac16 := (zk_a (zk_a (zk_a (zk_a (zk_a (zk_a kc).1).2).1).1).2).1
  have ac17 := (zk_a (zk_a (zk_a (zk_a (zk_a (zk_a kc).1).2).1).1).2).2
  have ac18 := (zk_a (zk_a (zk_a (zk_a (zk_a (zk_a kc).1).2).1).2).1).1
  have ac19 := (zk_a (zk_a (zk_a (zk_a (zk_a (zk_a kc).1).2).1).2).1).2
  have ac20 := (zk_a (zk_a (zk_a (zk_a (zk_a (zk_a kc).1).2).1).2).2).1
  have ac21 := (zk_a (zk_a (zk_a (zk_a (zk_a (zk_a kc).1).2).1).2).2).2
  have af0_0 := (zk_a (zk_a (zk_a (zk_a (zk_a (zk_a kc).1).2).2).1).1).1
  have af0_1 := (zk_a (zk_a (zk_a (zk_a (zk_a (zk_a kc).1).2).2).1).1).2
  have af0_2 := (zk_a (zk_a (zk_a (zk_a (zk_a (zk_a kc).1).2).2).1).2).1
  have af1_0 := (zk_a (zk_a (zk_a (zk_a (zk_a (zk_a kc).1).2).2).1).2).2
  have af1_1 := (zk_a (zk_a (zk_a (zk_a (zk_a (zk_a kc).1).2).2).2).1).1
  have af3_0 := (zk_a (zk_a (zk_a (zk_a (zk_a (zk_a kc).1).2).2).2).1).2
  have af3_1 := (zk_a (zk_a (zk_a (zk_a (zk_a (zk_a kc).1).2).2).2).2).1
  have af3_2 := (zk_a (zk_a (zk_a (zk_a (zk_a (zk_a kc).1).2).2).2).2).2
  have af3_3 := (zk_a (zk_a (zk_a (zk_a (zk_a kc).2).1).1).1).1
  have af3_4 := (zk_a (zk_a (zk_a (zk_a (zk_a (zk_a kc).2).1).1).1).2).1
  have af3_5 := (zk_a (zk_a (zk_a (zk_a (zk_a (zk_a kc).2).1).1).1).2).2
  have af8_0 := (zk_a (zk_a (zk_a (zk_a (zk_a (zk_a kc).2).1).1).2).1).1
  have af11_0 := (zk_a (zk_a (zk_a (zk_a (zk_a (zk_a kc).2).1).1).2).1).2
  have af11_1 := (zk_a (zk_a (zk_a (zk_a (zk_a (zk_a kc).2).1).1).2).2).1
  have af11_2 := (zk_a (zk_a (zk_a (zk_a (zk_a (zk_a kc).2).1).1).2).2).2
  have af11_3 := (zk_a (zk_a (zk_a (zk_a (zk_a (zk_a kc).2).1).2).1).1).1
  have af11_4 := (zk_a (zk_a (zk_a (zk_a (zk_a (zk_a kc).2).1).2).1).1).2
  have af11_5 := (zk_a (zk_a (zk_a (zk_a (zk_a (zk_a kc).2).1).2).1).2).1
  have af11_6 := (zk_a (zk_a (zk_a (zk_a (zk_a (zk_a kc).2).1).2).1).2).2
  have af11_7 := (zk_a (zk_a (zk_a (zk_a (zk_a (zk_a kc).2).1).2).2).1).1
  have af17_0 := (zk_a (zk_a (zk_a (zk_a (zk_a (zk_a kc).2).1).2).2).1).2
  have af17_1 := (zk_a (zk_a (zk_a (zk_a (zk_a (zk_a kc).2).1).2).2).2).1
  have af17_2 := (zk_a (zk_a (zk_a (zk_a (zk_a (zk_a kc).2).1).2).2).2).2
  have af17_3 := (zk_a (zk_a (zk_a (zk_a (zk_a (zk_a kc).2).2).1).1).1).1
  have af17_4 := (zk_a (zk_a (zk_a (zk_a (zk_a (zk_a kc).2).2).1).1).1).2
  have af17_5 := (zk_a (zk_a (zk_a (zk_a (zk_a (zk_a kc).2).2).1).1).2).1
  have and0 := (zk_a (zk_a (zk_a (zk_a (zk_a (zk_a kc).2).2).1).1).2).2
  have alt := (zk_a (zk_a (zk_a (zk_a (zk_a (zk_a kc).2).2).1).2).1).1
  have hbs := (zk_a (zk_a (zk_a (zk_a (zk_a (zk_a kc).2).2).1).2).1).2
  have hkn := (zk_a (zk_a (zk_a (zk_a (zk_a (zk_a kc).2).2).1).2).2).1
  have hff := (zk_a (zk_a (zk_a (zk_a (zk_a (zk_a kc).2).2).1).2).2).2
  have hbf := (zk_a (zk_a (zk_a (zk_a (zk_a (zk_a kc).2).2).2).1).1).1
  have hps := (zk_a (zk_a (zk_a (zk_a (zk_a (zk_a kc).2).2).2).1).1).2
  have hab0 := (zk_a (zk_a (zk_a (zk_a (zk_a (zk_a kc).2).2).2).1).2).1
  have hab1 := (zk_a (zk_a (zk_a (zk_a (zk_a (zk_a kc).2).2).2).1).2).2
  have hab2 := (zk_a (zk_a (zk_a (zk_a (zk_a (zk_a kc).2).2).2).2).1).1
  have hi1 := (zk_a (zk_a (zk_a (zk_a (zk_a (zk_a kc).2).2).2).2).1).2
  have hi2 := (zk_a (zk_a (zk_a (zk_a (zk_a (zk_a kc).2).2).2).2).2).1
  have hpb := (zk_a (zk_a (zk_a (zk_a (zk_a (zk_a kc).2).2).2).2).2).2
  have rc0 := (zk_a (zk_a (zk_a (zk_a (zk_a (zk_a kr).1).1).1).1).1).1
  have rc1 := (zk_a (zk_a (zk_a (zk_a (zk_a (zk_a kr).1).1).1).1).1).2
  have rc2 := (zk_a (zk_a (zk_a (zk_a (zk_a (zk_a kr).1).1).1).1).2).1
  have rc3 := (zk_a (zk_a (zk_a (zk_a (zk_a (zk_a kr).1).1).1).1).2).2
  have rc4 := (zk_a (zk_a (zk_a (zk_a (zk_a (zk_a kr).1).1).1).2).1).1
  have rc5 := (zk_a (zk_a (zk_a (zk_a (zk_a (zk_a kr).1).1).1).2).1).2
  have rc6 := (zk_a (zk_a (zk_a (zk_a (zk_a (zk_a kr).1).1).1).2).2).1
  have rc7 := (zk_a (zk_a (zk_a (zk_a (zk_a (zk_a (zk_a kr).1).1).1).2).2).2).1
  have rc8 := (zk_a (zk_a (zk_a (zk_a (zk_a (zk_a (zk_a kr).1).1).1).2).2).2).2
  have rc9 := (zk_a (zk_a (zk_a (zk_a (zk_a (zk_a kr).1).1).2).1).1).1
  have rc10 := (zk_a (zk_a (zk_a (zk_a (zk_a (zk_a kr).1).1).2).1).1).2
  have rc11 := (zk_a (zk_a (zk_a (zk_a (zk_a (zk_a kr).1).1).2).1).2).1
  have rc12 := (zk_a (zk_a (zk_a (zk_a (zk_a (zk_a (zk_a kr).1).1).2).1).2).2).1
  have rc13 := (zk_a (zk_a (zk_a (zk_a (zk_a (zk_a (zk_a kr).1).1).2).1).2).2).2
  have rc14 := (zk_a (zk_a (zk_a (zk_a (zk_a (zk_a kr).1).1).2).2).1).1
  have rc15 := (zk_a (zk_a (zk_a (zk_a (zk_a (zk_a kr).1).1).2).2).1).2
  have rc16 := (zk_a (zk_a (zk_a (zk_a (zk_a (zk_a kr).1).1).2).2).2).1
  have rc17 := (zk_a (zk_a (zk_a (zk_a (zk_a (zk_a (zk_a kr).1).1).2).2).2).2).1
  have rc18 := (zk_a (zk_a (zk_a (zk_a (zk_a (zk_a (zk_a kr).1).1).2).2).2).2).2
  have rc19 := (zk_a (zk_a (zk_a (zk_a (zk_a (zk_a kr).1).2).1).1).1).1
  have rc20 := (zk_a (zk_a (zk_a (zk_a (zk_a (zk_a kr).1).2).1).1).1).2
  have rc21 := (zk_a (zk_a (zk_a (zk_a (zk_a (zk_a kr).1).2).1).1).2).1
  have rc22 := (zk_a (zk_a (zk_a (zk_a (zk_a (zk_a (zk_a kr).1).2).1).1).2).2).1
  have rc23 := (zk_a (zk_a (zk_a (zk_a (zk_a (zk_a (zk_a kr).1).2).1).1).2).2).2
  have rc24 := (zk_a (zk_a (zk_a (zk_a (zk_a (zk_a kr).1).2).1).2).1).1
  have rc25 := (zk_a (zk_a (zk_a (zk_a (zk_a (zk_a kr).1).2).1).2).1).2
  have rc26 := (zk_a (zk_a (zk_a (zk_a (zk_a (zk_a kr).1).2).1).2).2).1
  have rc27 := (zk_a (zk_a (zk_a (zk_a (zk_a (zk_a (zk_a kr).1).2).1).2).2).2).1
  have rc28 := (zk_a (zk_a (zk_a (zk_a (zk_a (zk_a (zk_a kr).1).2).1).2).2).2).2
  have rf0_0 := (zk_a (zk_a (zk_a (zk_a (zk_a (zk_a kr).1).2).2).1).1).1
  have rf0_1 := (zk_a (zk_a (zk_a (zk_a (zk_a (zk_a kr).1).2).2).1).1).2
  have rf0_2 := (zk_a (zk_a (zk_a (zk_a (zk_a (zk_a kr).1).2).2).1).2).1
  have rf0_3 := (zk_a (zk_a (zk_a (zk_a (zk_a (zk_a (zk_a kr).1).2).2).1).2).2).1
  have rf0_4 := (zk_a (zk_a (zk_a (zk_a (zk_a (zk_a (zk_a kr).1).2).2).1).2).2).2
  have rf0_5 := (zk_a (zk_a (zk_a (zk_a (zk_a (zk_a kr).1).2).2).2).1).1
  have rf0_6 := (zk_a (zk_a (zk_a (zk_a (zk_a (zk_a kr).1).2).2).2).1).2
  have rf0_7 := (zk_a (zk_a (zk_a (zk_a (zk_a (zk_a kr).1).2).2).2).2).1
  have rf0_8 := (zk_a (zk_a (zk_a (zk_a (zk_a (zk_a (zk_a kr).1).2).2).2).2).2).1
  have rf0_9 := (zk_a (zk_a (zk_a (zk_a (zk_a (zk_a (zk_a kr).1).2).2).2).2).2).2
  have rf0_10 := (zk_a (zk_a (zk_a (zk_a (zk_a (zk_a kr).2).1).1).1).1).1
  have rf0_11 := (zk_a (zk_a (zk_a (zk_a (zk_a (zk_a kr).2).1).1).1).1).2
  have rf0_12 := (zk_a (zk_a (zk_a (zk_a (zk_a (zk_a kr).2).1).1).1).2).1
  have rf0_13 := (zk_a (zk_a (zk_a (zk_a (zk_a (zk_a (zk_a kr).2).1).1).1).2).2).1
  have rf0_14 := (zk_a (zk_a (zk_a (zk_a (zk_a (zk_a (zk_a kr).2).1).1).1).2).2).2
  have rf0_15 := (zk_a (zk_a (zk_a (zk_a (zk_a (zk_a kr).2).1).1).2).1).1
  have rf0_16 := (zk_a (zk_a (zk_a (zk_a (zk_a (zk_a kr).2).1).1).2).1).2
  have rf0_17 := (zk_a (zk_a (zk_a (zk_a (zk_a (zk_a kr).2).1).1).2).2).1
  have rf0_18 := (zk_a (zk_a (zk_a (zk_a (zk_a (zk_a (zk_a kr).2).1).1).2).2).2).1
  have rf0_19 := (zk_a (zk_a (zk_a (zk_a (zk_a (zk_a (zk_a kr).2).1).1).2).2).2).2
  have rf0_20 := (zk_a (zk_a (zk_a (zk_a (zk_a (zk_a kr).2).1).2).1).1).1
  have rf0_21 := (zk_a (zk_a (zk_a (zk_a (zk_a (zk_a kr).2).1).2).1).1).2
  have rf0_22 := (zk_a (zk_a (zk_a (zk_a (zk_a (zk_a kr).2).1).2).1).2).1
  have rf0_23 := (zk_a (zk_a (zk_a (zk_a (zk_a (zk_a (zk_a kr).2).1).2).1).2).2).1
  have rf0_24 := (zk_a (zk_a (zk_a (zk_a (zk_a (zk_a (zk_a kr).2).1).2).1).2).2).2
  have rf0_25 := (zk_a (zk_a (zk_a (zk_a (zk_a (zk_a kr).2).1).2).2).1).1
  have rf0_26 := (zk_a (zk_a (zk_a (zk_a (zk_a (zk_a kr).2).1).2).2).1).2
  have rf0_27 := (zk_a (zk_a (zk_a (zk_a (zk_a (zk_a kr).2).1).2).2).2).1
  have rf0_28 := (zk_a (zk_a (zk_a (zk_a (zk_a (zk_a (zk_a kr).2).1).2).2).2).2).1
  have rf0_29 := (zk_a (zk_a (zk_a (zk_a (zk_a (zk_a (zk_a kr).2).1).2).2).2).2).2
  have rf0_30 := (zk_a (zk_a (zk_a (zk_a (zk_a (zk_a kr).2).2).1).1).1).1
  have rf0_31 := (zk_a (zk_a (zk_a (zk_a (zk_a (zk_a kr).2).2).1).1).1).2
  have rf0_32 := (zk_a (zk_a (zk_a (zk_a (zk_a (zk_a kr).2).2).1).1).2).1
  have rf0_33 := (zk_a (zk_a (zk_a (zk_a (zk_a (zk_a (zk_a kr).2).2).1).1).2).2).1
  have rf0_34 := (zk_a (zk_a (zk_a (zk_a (zk_a (zk_a (zk_a kr).2).2).1).1).2).2).2
  have rf0_35 := (zk_a (zk_a (zk_a (zk_a (zk_a (zk_a kr).2).2).1).2).1).1
  have rf0_36 := (zk_a (zk_a (zk_a (zk_a (zk_a (zk_a kr).2).2).1).2).1).2
  have rf0_37 := (zk_a (zk_a (zk_a (zk_a (zk_a (zk_a kr).2).2).1).2).2).1
  have rf0_38 := (zk_a (zk_a (zk_a (zk_a (zk_a (zk_a (zk_a kr).2).2).1).2).2).2).1
  have rnd := (zk_a (zk_a (zk_a (zk_a (zk_a (zk_a (zk_a kr).2).2).1).2).2).2).2
  have rlt := (zk_a (zk_a (zk_a (zk_a (zk_a (zk_a kr).2).2).2).1).1).1
  have hK := (zk_a (zk_a (zk_a (zk_a (zk_a (zk_a kr).2).2).2).1).1).2
  have hA := (zk_a (zk_a (zk_a (zk_a (zk_a (zk_a kr).2).2).2).1).2).1
  have hBi := (zk_a (zk_a (zk_a (zk_a (zk_a (zk_a (zk_a kr).2).2).2).1).2).2).1
  have hbz := (zk_a (zk_a (zk_a (zk_a (zk_a (zk_a (zk_a kr).2).2).2).1).2).2).2
  have hfs := (zk_a (zk_a (zk_a (zk_a (zk_a (zk_a kr).2).2).2).2).1).1
  have hhf := (zk_a (zk_a (zk_a (zk_a (zk_a (zk_a kr).2).2).2).2).1).2
  have hhh := (zk_a (zk_a (zk_a (zk_a (zk_a (zk_a kr).2).2).2).2).2).1
  have hht := (zk_a (zk_a (zk_a (zk_a (zk_a (zk_a (zk_a kr).2).2).2).2).2).2).1
  have hhe := (zk_a (zk_a (zk_a (zk_a (zk_a (zk_a (zk_a kr).2).2).2).2).2).2).2
  have x0 := (zk_a (zk_a kx).1).1
  have x1 := (zk_a (zk_a (zk_a kx).1).2).1
  have x2 := (zk_a (zk_a (zk_a kx).1).2).2
  have x3 := (zk_a (zk_a (zk_a kx).2).1).1
  have x4 := (zk_a (zk_a (zk_a kx).2).1).2
  have xd := (zk_a (zk_a (zk_a kx).2).2).1
  have xr := (zk_a (zk_a (zk_a kx).2).2).2
  clear kc kr kx
  replace xr := zk_a xr
  have eK := Nat.eq_of_beq_eq_true hK
  have hwc : wh 22 (fun i => L.getD i 0) w w [(0, 1, 13, (pr_X w (L.getD 0 0))), (0, 8, 11, (pr_X w (L.getD 1 0))), (3, 6, 40, (pr_X w (L.getD 2 0))), (0, 9, 11, (pr_X w (L.getD 3 0))), (1, 1, 105, (pr_X w (L.getD 4 0))), (1, 1, 32, (pr_X w (L.getD 5 0))), (1, 1, 2, (pr_X w (L.getD 6 0))), (3, 7, 4, (pr_X w (L.getD 7 0))), (0, 10, 6, (pr_X w (L.getD 8 0))), (1, 1, 28, (pr_X w (L.getD 9 0))), (1, 1, 2048, (pr_X w (L.getD 10 0))), (0, 11, 19, (pr_X w (L.getD 11 0))), (3, 6, 60, (pr_X w (L.getD 12 0))), (1, 1, 32, (pr_X w (L.getD 13 0))), (3, 6, 60, (pr_X w (L.getD 14 0))), (3, 6, 60, (pr_X w (L.getD 15 0))), (1, 1, 2336, (pr_X w (L.getD 16 0))), (0, 2, 13, (pr_X w (L.getD 17 0))), (1, 1, 64, (pr_X w (L.getD 18 0))), (1, 0, 64, (pr_X w (L.getD 19 0))), (1, 0, 8, (pr_X w (L.getD 20 0))), (1, 1, 32, (pr_X w (L.getD 21 0)))] := by
    refine ⟨fun i c h => ?_, zk_nd and0, zk_lt alt, Nat.le_refl 22, fun _ _ _ => rfl⟩
    match i, h with
    | 0, h => exact Option.some.inj h ▸ pr_cX ac0
    | 1, h => exact Option.some.inj h ▸ pr_cX ac1
    | 2, h => exact Option.some.inj h ▸ pr_cX ac2
    | 3, h => exact Option.some.inj h ▸ pr_cX ac3
    | 4, h => exact Option.some.inj h ▸ pr_cX ac4
    | 5, h => exact Option.some.inj h ▸ pr_cX ac5
    | 6, h => exact Option.some.inj h ▸ pr_cX ac6
    | 7, h => exact Option.some.inj h ▸ pr_cX ac7
    | 8, h => exact Option.some.inj h ▸ pr_cX ac8
    | 9, h => exact Option.some.inj h ▸ pr_cX ac9
    | 10, h => exact Option.some.inj h ▸ pr_cX ac10
    | 11, h => exact Option.some.inj h ▸ pr_cX ac11
    | 12, h => exact Option.some.inj h ▸ pr_cX ac12
    | 13, h => exact Option.some.inj h ▸ pr_cX ac13
    | 14, h => exact Option.some.inj h ▸ pr_cX ac14
    | 15, h => exact Option.some.inj h ▸ pr_cX ac15
    | 16, h => exact Option.some.inj h ▸ pr_cX ac16
    | 17, h => exact Option.some.inj h ▸ pr_cX ac17
    | 18, h => exact Option.some.inj h ▸ pr_cX ac18
    | 19, h => exact Option.some.inj h ▸ pr_cX ac19
    | 20, h => exact Option.some.inj h ▸ pr_cX ac20
    | 21, h => exact Option.some.inj h ▸ pr_cX ac21
    | i + 22, h => exact absurd h (by simp)
  have hf0 : fh (pr_X w (L.getD 0 0)) jX [(2, L.getD 1 0, 0), (2, L.getD 10 0, 0), (2, L.getD 11 0, 0)] := by
    intro i j v hj hv
    match i, hj, hv with
    | 0, hj, hv => exact Option.some.inj hj ▸ Option.some.inj hv ▸ pr_kp af0_0
    | 1, hj, hv => exact Option.some.inj hj ▸ Option.some.inj hv ▸ pr_kp af0_1
    | 2, hj, hv => exact Option.some.inj hj ▸ Option.some.inj hv ▸ pr_kp af0_2
    | i + 3, hj, hv => exact absurd hj (by simp [jX])
  have hf1 : fh (pr_X w (L.getD 1 0)) jM [(0, 1, 0), (2, L.getD 2 0, 0)] := by
    intro i j v hj hv
    match i, hj, hv with
    | 0, hj, hv => exact Option.some.inj hj ▸ Option.some.inj hv ▸ pr_kp af1_0
    | 1, hj, hv => exact Option.some.inj hj ▸ Option.some.inj hv ▸ pr_kp af1_1
    | i + 2, hj, hv => exact absurd hj (by simp [jM])
  have hf3 : fh (pr_X w (L.getD 3 0)) jB [(2, L.getD 5 0, 0), (2, L.getD 4 0, 0), (2, L.getD 6 0, 0), (0, 2, 0), (0, 1, 0), (2, L.getD 7 0, 0)] := by
    intro i j v hj hv
    match i, hj, hv with
    | 0, hj, hv => exact Option.some.inj hj ▸ Option.some.inj hv ▸ pr_kp af3_0
    | 1, hj, hv => exact Option.some.inj hj ▸ Option.some.inj hv ▸ pr_kp af3_1
    | 2, hj, hv => exact Option.some.inj hj ▸ Option.some.inj hv ▸ pr_kp af3_2
    | 3, hj, hv => exact Option.some.inj hj ▸ Option.some.inj hv ▸ pr_kp af3_3
    | 4, hj, hv => exact Option.some.inj hj ▸ Option.some.inj hv ▸ pr_kp af3_4
    | 5, hj, hv => exact Option.some.inj hj ▸ Option.some.inj hv ▸ pr_kp af3_5
    | i + 6, hj, hv => exact absurd hj (by simp [jB])
  have hf8 : fh (pr_X w (L.getD 8 0)) jP [(2, L.getD 9 0, 0)] := by
    intro i j v hj hv
    match i, hj, hv with
    | 0, hj, hv => exact Option.some.inj hj ▸ Option.some.inj hv ▸ pr_kp af8_0
    | i + 1, hj, hv => exact absurd hj (by simp [jP])
  have hf11 : fh (pr_X w (L.getD 11 0)) jU [(2, L.getD 17 0, 0), (2, L.getD 12 0, 0), (0, 1, 0), (2, L.getD 13 0, 0), (2, L.getD 14 0, 0), (2, L.getD 15 0, 0), (0, (pr_p (pr_X w (L.getD 11 0)) 7), 0), (2, L.getD 16 0, 0)] := by
    intro i j v hj hv
    match i, hj, hv with
    | 0, hj, hv => exact Option.some.inj hj ▸ Option.some.inj hv ▸ pr_kp af11_0
    | 1, hj, hv => exact Option.some.inj hj ▸ Option.some.inj hv ▸ pr_kp af11_1
    | 2, hj, hv => exact Option.some.inj hj ▸ Option.some.inj hv ▸ pr_kp af11_2
    | 3, hj, hv => exact Option.some.inj hj ▸ Option.some.inj hv ▸ pr_kp af11_3
    | 4, hj, hv => exact Option.some.inj hj ▸ Option.some.inj hv ▸ pr_kp af11_4
    | 5, hj, hv => exact Option.some.inj hj ▸ Option.some.inj hv ▸ pr_kp af11_5
    | 6, hj, hv => exact Option.some.inj hj ▸ Option.some.inj hv ▸ (pr_kb af11_6).1
    | 7, hj, hv => exact Option.some.inj hj ▸ Option.some.inj hv ▸ pr_kp af11_7
    | i + 8, hj, hv => exact absurd hj (by simp [jU])
  have hf17 : fh (pr_X w (L.getD 17 0)) jS [(2, L.getD 18 0, 0), (2, L.getD 19 0, 0), (2, L.getD 20 0, 0), (2, L.getD 21 0, 0), (0, (pr_p (pr_X w (L.getD 17 0)) 11), 0), (0, (pr_p (pr_X w (L.getD 17 0)) 12), 0)] := by
    intro i j v hj hv
    match i, hj, hv with
    | 0, hj, hv => exact Option.some.inj hj ▸ Option.some.inj hv ▸ pr_kp af17_0
    | 1, hj, hv => exact Option.some.inj hj ▸ Option.some.inj hv ▸ pr_kp af17_1
    | 2, hj, hv => exact Option.some.inj hj ▸ Option.some.inj hv ▸ pr_kp af17_2
    | 3, hj, hv => exact Option.some.inj hj ▸ Option.some.inj hv ▸ pr_kp af17_3
    | 4, hj, hv => exact Option.some.inj hj ▸ Option.some.inj hv ▸ (pr_kb af17_4).1
    | 5, hj, hv => exact Option.some.inj hj ▸ Option.some.inj hv ▸ (pr_kb af17_5).1
    | i + 6, hj, hv => exact absurd hj (by simp [jS])
  have hwr : wh 29 (fun i => M.getD i 0) w w [(0, 0, 107, (pr_X w (M.getD 0 0))), (1, 1, 64, (pr_X w (M.getD 1 0))), (1, 0, 64, mc_K), (1, 0, 64, (pr_X w (M.getD 3 0))), (1, 0, 8, (pr_X w (M.getD 4 0))), (1, 0, 8, (pr_X w (M.getD 5 0))), (1, 0, 8, (pr_X w (M.getD 6 0))), (1, 1, 32, (pr_X w (M.getD 7 0))), (1, 1, 4200, (pr_X w (M.getD 8 0))), (1, 1, 105, (pr_X w (M.getD 9 0))), (1, 1, 32, (pr_X w (M.getD 10 0))), (1, 1, 1920, (pr_X w (M.getD 11 0))), (1, 1, 1280, (pr_X w (M.getD 12 0))), (1, 1, 6300, (pr_X w (M.getD 13 0))), (1, 1, 3200, (pr_X w (M.getD 14 0))), (1, 1, 1900, (pr_X w (M.getD 15 0))), (1, 1, 32, (pr_X w (M.getD 16 0))), (1, 0, 40, (pr_X w (M.getD 17 0))), (1, 0, 40, (pr_X w (M.getD 18 0))), (1, 2, 60, (pr_X w (M.getD 19 0))), (1, 2, 60, (pr_X w (M.getD 20 0))), (1, 1, 76000, (pr_X w (M.getD 21 0))), (1, 1, 2304, (pr_X w (M.getD 22 0))), (1, 1, 2400, (pr_X w (M.getD 23 0))), (1, 0, 60, (pr_X w (M.getD 24 0))), (1, 0, 60, (pr_X w (M.getD 25 0))), (1, 0, 60, (pr_X w (M.getD 26 0))), (1, 0, 60, (pr_X w (M.getD 27 0))), (1, 0, 2, (pr_X w (M.getD 28 0)))] := by
    refine ⟨fun i c h => ?_, zk_nd rnd, zk_lt rlt, Nat.le_refl 29, fun _ _ _ => rfl⟩
    match i, h with
    | 0, h => exact Option.some.inj h ▸ pr_cX rc0
    | 1, h => exact Option.some.inj h ▸ pr_cX rc1
    | 2, h => exact Option.some.inj h ▸ eK ▸ pr_cX rc2
    | 3, h => exact Option.some.inj h ▸ pr_cX rc3
    | 4, h => exact Option.some.inj h ▸ pr_cX rc4
    | 5, h => exact Option.some.inj h ▸ pr_cX rc5
    | 6, h => exact Option.some.inj h ▸ pr_cX rc6
    | 7, h => exact Option.some.inj h ▸ pr_cX rc7
    | 8, h => exact Option.some.inj h ▸ pr_cX rc8
    | 9, h => exact Option.some.inj h ▸ pr_cX rc9
    | 10, h => exact Option.some.inj h ▸ pr_cX rc10
    | 11, h => exact Option.some.inj h ▸ pr_cX rc11
    | 12, h => exact Option.some.inj h ▸ pr_cX rc12
    | 13, h => exact Option.some.inj h ▸ pr_cX rc13
    | 14, h => exact Option.some.inj h ▸ pr_cX rc14
    | 15, h => exact Option.some.inj h ▸ pr_cX rc15
    | 16, h => exact Option.some.inj h ▸ pr_cX rc16
    | 17, h => exact Option.some.inj h ▸ pr_cX rc17
    | 18, h => exact Option.some.inj h ▸ pr_cX rc18
    | 19, h => exact Option.some.inj h ▸ pr_cX rc19
    | 20, h => exact Option.some.inj h ▸ pr_cX rc20
    | 21, h => exact Option.some.inj h ▸ pr_cX rc21
    | 22, h => exact Option.some.inj h ▸ pr_cX rc22
    | 23, h => exact Option.some.inj h ▸ pr_cX rc23
    | 24, h => exact Option.some.inj h ▸ pr_cX rc24
    | 25, h => exact Option.some.inj h ▸ pr_cX rc25
    | 26, h => exact Option.some.inj h ▸ pr_cX rc26
    | 27, h => exact Option.some.inj h ▸ pr_cX rc27
    | 28, h => exact Option.some.inj h ▸ pr_cX rc28
    | i + 29, h => exact absurd h (by simp)
  have hfr : fh (pr_X w (M.getD 0 0)) jR [(0, (pr_p (pr_X w (M.getD 0 0)) 0), 0), (2, M.getD 1 0, 0), (2, M.getD 2 0, 0), (2, M.getD 3 0, 0), (2, M.getD 4 0, 0), (2, M.getD 5 0, 0), (2, M.getD 6 0, 0), (2, M.getD 7 0, 0), (0, (pr_p (pr_X w (M.getD 0 0)) 13), 0), (1, (pr_p (pr_X w (M.getD 0 0)) 14), 0), (2, M.getD 8 0, 0), (2, M.getD 9 0, 0), (2, M.getD 10 0, 0), (2, M.getD 11 0, 0), (2, M.getD 12 0, 0), (2, M.getD 13 0, 0), (2, M.getD 14 0, 0), (2, M.getD 15 0, 0), (2, M.getD 16 0, 0), (2, M.getD 17 0, 0), (2, M.getD 18 0, 0), (2, M.getD 19 0, 0), (2, M.getD 20 0, 0), (2, M.getD 21 0, 0), (2, M.getD 22 0, 0), (2, M.getD 23 0, 0), (2, M.getD 24 0, 0), (2, M.getD 25 0, 0), (2, M.getD 26 0, 0), (2, M.getD 27 0, 0), (2, M.getD 28 0, 0), (0, 1, 0), (0, 1, 0), (0, (pr_p (pr_X w (M.getD 0 0)) 74), 0), (0, (pr_p (pr_X w (M.getD 0 0)) 82), 0), (0, (pr_p (pr_X w (M.getD 0 0)) 87), 0), (0, (pr_p (pr_X w (M.getD 0 0)) 88), 0), (0, (pr_p (pr_X w (M.getD 0 0)) 86), 0), (0, 0, 0)] := by
    intro i j v hj hv
    match i, hj, hv with
    | 0, hj, hv => exact Option.some.inj hj ▸ Option.some.inj hv ▸ (pr_kb rf0_0).1
    | 1, hj, hv => exact Option.some.inj hj ▸ Option.some.inj hv ▸ pr_kp rf0_1
    | 2, hj, hv => exact Option.some.inj hj ▸ Option.some.inj hv ▸ pr_kp rf0_2
    | 3, hj, hv => exact Option.some.inj hj ▸ Option.some.inj hv ▸ pr_kp rf0_3
    | 4, hj, hv => exact Option.some.inj hj ▸ Option.some.inj hv ▸ pr_kp rf0_4
    | 5, hj, hv => exact Option.some.inj hj ▸ Option.some.inj hv ▸ pr_kp rf0_5
    | 6, hj, hv => exact Option.some.inj hj ▸ Option.some.inj hv ▸ pr_kp rf0_6
    | 7, hj, hv => exact Option.some.inj hj ▸ Option.some.inj hv ▸ pr_kp rf0_7
    | 8, hj, hv => exact Option.some.inj hj ▸ Option.some.inj hv ▸ (pr_kb rf0_8).1
    | 9, hj, hv => exact Option.some.inj hj ▸ Option.some.inj hv ▸ (pr_kb rf0_9).1
    | 10, hj, hv => exact Option.some.inj hj ▸ Option.some.inj hv ▸ pr_kp rf0_10
    | 11, hj, hv => exact Option.some.inj hj ▸ Option.some.inj hv ▸ pr_kp rf0_11
    | 12, hj, hv => exact Option.some.inj hj ▸ Option.some.inj hv ▸ pr_kp rf0_12
    | 13, hj, hv => exact Option.some.inj hj ▸ Option.some.inj hv ▸ pr_kp rf0_13
    | 14, hj, hv => exact Option.some.inj hj ▸ Option.some.inj hv ▸ pr_kp rf0_14
    | 15, hj, hv => exact Option.some.inj hj ▸ Option.some.inj hv ▸ pr_kp rf0_15
    | 16, hj, hv => exact Option.some.inj hj ▸ Option.some.inj hv ▸ pr_kp rf0_16
    | 17, hj, hv => exact Option.some.inj hj ▸ Option.some.inj hv ▸ pr_kp rf0_17
    | 18, hj, hv => exact Option.some.inj hj ▸ Option.some.inj hv ▸ pr_kp rf0_18
    | 19, hj, hv => exact Option.some.inj hj ▸ Option.some.inj hv ▸ pr_kp rf0_19
    | 20, hj, hv => exact Option.some.inj hj ▸ Option.some.inj hv ▸ pr_kp rf0_20
    | 21, hj, hv => exact Option.some.inj hj ▸ Option.some.inj hv ▸ pr_kp rf0_21
    | 22, hj, hv => exact Option.some.inj hj ▸ Option.some.inj hv ▸ pr_kp rf0_22
    | 23, hj, hv => exact Option.some.inj hj ▸ Option.some.inj hv ▸ pr_kp rf0_23
    | 24, hj, hv => exact Option.some.inj hj ▸ Option.some.inj hv ▸ pr_kp rf0_24
    | 25, hj, hv => exact Option.some.inj hj ▸ Option.some.inj hv ▸ pr_kp rf0_25
    | 26, hj, hv => exact Option.some.inj hj ▸ Option.some.inj hv ▸ pr_kp rf0_26
    | 27, hj, hv => exact Option.some.inj hj ▸ Option.some.inj hv ▸ pr_kp rf0_27
    | 28, hj, hv => exact Option.some.inj hj ▸ Option.some.inj hv ▸ pr_kp rf0_28
    | 29, hj, hv => exact Option.some.inj hj ▸ Option.some.inj hv ▸ pr_kp rf0_29
    | 30, hj, hv => exact Option.some.inj hj ▸ Option.some.inj hv ▸ pr_kp rf0_30
    | 31, hj, hv => exact Option.some.inj hj ▸ Option.some.inj hv ▸ pr_kp rf0_31
    | 32, hj, hv => exact Option.some.inj hj ▸ Option.some.inj hv ▸ pr_kp rf0_32
    | 33, hj, hv => exact Option.some.inj hj ▸ Option.some.inj hv ▸ (pr_kb rf0_33).1
    | 34, hj, hv => exact Option.some.inj hj ▸ Option.some.inj hv ▸ (pr_kb rf0_34).1
    | 35, hj, hv => exact Option.some.inj hj ▸ Option.some.inj hv ▸ (pr_kb rf0_35).1
    | 36, hj, hv => exact Option.some.inj hj ▸ Option.some.inj hv ▸ (pr_kb rf0_36).1
    | 37, hj, hv => exact Option.some.inj hj ▸ Option.some.inj hv ▸ (pr_kb rf0_37).1
    | 38, hj, hv => exact Option.some.inj hj ▸ Option.some.inj hv ▸ pr_kp rf0_38
    | i + 39, hj, hv => exact absurd hj (by simp [jR])
  exact K (fun i => L.getD i 0) (pr_X w (L.getD 0 0)) (pr_X w (L.getD 1 0)) (pr_X w (L.getD 3 0)) (pr_X w (L.getD 8 0)) (pr_X w (L.getD 11 0)) (pr_X w (L.getD 17 0)) (pr_X w (L.getD 2 0)) (pr_X w (L.getD 4 0)) (pr_X w (L.getD 5 0)) (pr_X w (L.getD 6 0)) (pr_X w (L.getD 7 0)) (pr_X w (L.getD 9 0)) (pr_X w (L.getD 10 0)) (pr_X w (L.getD 12 0)) (pr_X w (L.getD 13 0)) (pr_X w (L.getD 14 0)) (pr_X w (L.getD 15 0)) (pr_X w (L.getD 16 0)) (pr_X w (L.getD 18 0)) (pr_X w (L.getD 19 0)) (pr_X w (L.getD 20 0)) (pr_X w (L.getD 21 0)) (pr_p (pr_X w (L.getD 11 0)) 7) (pr_p (pr_X w (L.getD 17 0)) 11) (pr_p (pr_X w (L.getD 17 0)) 12) (fun i => M.getD i 0) (pr_X w (M.getD 0 0)) (pr_X w (M.getD 1 0)) (pr_X w (M.getD 3 0)) (pr_X w (M.getD 4 0)) (pr_X w (M.getD 5 0)) (pr_X w (M.getD 6 0)) (pr_X w (M.getD 7 0)) (pr_X w (M.getD 8 0)) (pr_X w (M.getD 9 0)) (pr_X w (M.getD 10 0)) (pr_X w (M.getD 11 0)) (pr_X w (M.getD 12 0)) (pr_X w (M.getD 13 0)) (pr_X w (M.getD 14 0)) (pr_X w (M.getD 15 0)) (pr_X w (M.getD 16 0)) (pr_X w (M.getD 17 0)) (pr_X w (M.getD 18 0)) (pr_X w (M.getD 19 0)) (pr_X w (M.getD 20 0)) (pr_X w (M.getD 21 0)) (pr_X w (M.getD 22 0)) (pr_X w (M.getD 23 0)) (pr_X w (M.getD 24 0)) (pr_X w (M.getD 25 0)) (pr_X w (M.getD 26 0)) (pr_X w (M.getD 27 0)) (pr_X w (M.getD 28 0)) (pr_p (pr_X w (M.getD 0 0)) 0) (pr_p (pr_X w (M.getD 0 0)) 13) (pr_p (pr_X w (M.getD 0 0)) 14) (pr_p (pr_X w (M.getD 0 0)) 74) (pr_p (pr_X w (M.getD 0 0)) 82) (pr_p (pr_X w (M.getD 0 0)) 87) (pr_p (pr_X w (M.getD 0 0)) 88) (pr_p (pr_X w (M.getD 0 0)) 86) (Nat.eq_of_beq_eq_true p0) (hwc) (hf0) (hf1) (hf3) (hf8) (hf11) (hf17) (Nat.eq_of_beq_eq_true hbs) (Nat.eq_of_beq_eq_true hkn) (Nat.eq_of_beq_eq_true hff) (Nat.eq_of_beq_eq_true hbf) (Nat.eq_of_beq_eq_true hps) ((pr_kb af11_6).2) ((pr_kb af17_4).2) ((pr_kb af17_5).2) (hab0) (hab1) (hab2) (pr_ne_ok hi1) (pr_ne_ok hi2) ((fun j hj => by have := sb_bytes _ hpb j hj; rwa [Nat.zero_add] at this)) (Nat.eq_of_beq_eq_true p1) (hwr) (hfr) ((fun i hi => by have := sb_bytes 8 hA i hi; rwa [Nat.zero_add] at this)) (hBi) (Nat.eq_of_beq_eq_true hbz) (Nat.eq_of_beq_eq_true hfs) (Nat.eq_of_beq_eq_true hhf) (Nat.eq_of_beq_eq_true hhh) (Nat.eq_of_beq_eq_true hht) (Nat.eq_of_beq_eq_true hhe) ((fun j hj => by have := sb_bytes _ x0 j hj; rwa [Nat.zero_add] at this)) ((fun j hj => by have := sb_bytes _ x1 j hj; rwa [Nat.zero_add] at this)) ((fun j hj => by have := sb_bytes _ x2 j hj; rwa [Nat.zero_add] at this)) ((fun j hj => by have := sb_bytes _ x3 j hj; rwa [Nat.zero_add] at this)) ((fun j hj => sb_bytes _ x4 j hj)) ((fun i j hi hj => pr_ne_ok (List.all_eq_true.mp (List.all_eq_true.mp xd i (List.mem_range.mpr hi)) j (List.mem_range.mpr hj)))) (⟨Nat.eq_of_beq_eq_true xr.1, Nat.eq_of_beq_eq_true xr.2⟩)
noncomputable def zk_all : Bool := match z_c with
  | some a => (match z_m a with
    | some b => zk b.2.2.1 a.2.1 (zp_L b.2.2.1 0 [(0, 0, 7), (1, 0, 2), (2, 1, 0), (3, 0, 4), (3, 0, 5), (3, 0, 8), (3, 0, 6), (7, 1, 0), (8, 0, 0), (0, 0, 3), (0, 0, 8), (11, 0, 2), (11, 0, 18), (11, 0, 3), (11, 0, 4), (11, 0, 17), (11, 0, 0), (17, 0, 2), (17, 0, 1), (17, 0, 0), (17, 0, 3)]) (zp_L b.2.2.1 a.2.1 [(0, 0, 12), (0, 0, 7), (0, 0, 10), (0, 0, 11), (0, 0, 9), (0, 0, 8), (0, 0, 15), (0, 0, 37), (0, 0, 70), (0, 0, 71), (0, 0, 63), (0, 0, 38), (0, 0, 62), (0, 0, 45), (0, 0, 72), (0, 0, 18), (0, 0, 46), (0, 0, 36), (0, 0, 67), (0, 0, 68), (0, 0, 30), (0, 0, 73), (0, 0, 58), (0, 0, 66), (0, 0, 64), (0, 0, 65), (0, 0, 85), (0, 0, 76)])
    | none => false)
  | none => false
