/-! FACTS: classes -/
def tt_nf0 : mt_T Nat 4 := (mt_n (mt_n (mt_n (mt_n (mt_l 107) (mt_l 11)) (mt_n (mt_l 5) (mt_l 0))) (mt_n (mt_n (mt_l 13) (mt_l 6)) (mt_n (mt_l 11) (mt_l 0)))) (mt_n (mt_n (mt_n (mt_l 13) (mt_l 11)) (mt_n (mt_l 5) (mt_l 0))) (mt_n (mt_n (mt_l 7) (mt_l 19)) (mt_n (mt_l 12) (mt_l 0)))))
noncomputable def tt_nf (ci : Nat) : Nat := mt_get 4 tt_nf0 ci
noncomputable def tt_fd (ci j : Nat) : String × String × String × Bool := mt_get 7 (mt_get 4 tt_UT ci) j
def tt_CW (ci : Nat) : Prop := ∃ (C : String) (T : u_T), tt_cl[ci]? = some (C, T, tt_nf ci) ∧ tt_cn[ci]? = some C ∧ (∀ j, T j = tt_fd ci j) ∧ (∀ x ∈ u_ws C T (tt_nf ci), x ∈ tt_mw) ∧ (∀ k, k < tt_nf ci → parseFieldDescriptor (T k).2.2.1 = some (tt_fty ci k)) ∧ (∀ a, a < tt_nf ci → ∀ b, b < tt_nf ci → a ≠ b → (T a).2.1 ≠ (T b).2.1) ∧ Cond.instantiable C (tt_nf ci) ∈ tt_mw ∧ Cond.initialized C ∈ tt_mw ∧ ∀ j, j < tt_nf ci → mv_dec (mv_rd 136 (tt_dpk ci) j) = mv_df (tt_fty ci j) ∧ mv_dfok (tt_fty ci j) = true
theorem tt_uws {C : String} {T : u_T} {N : Nat} (h : ∀ k, k < N → u_lay C T k ∈ tt_mw) : ∀ x ∈ u_ws C T N, x ∈ tt_mw := by
  intro x hx
  obtain ⟨k, hk, rfl⟩ := List.mem_map.mp hx
  exact h k (List.mem_range.mp hk)
theorem tt_cwa0 : ∀ k, k < 107 → u_lay RY0 TY0 k ∈ tt_mw := by decide +kernel
theorem tt_cwb0 : ∀ k, k < 107 → parseFieldDescriptor (TY0 k).2.2.1 = some (tt_fty 0 k) := by decide +kernel
theorem tt_cwc0 : ∀ a, a < 107 → ∀ b, b < 107 → a ≠ b → (TY0 a).2.1 ≠ (TY0 b).2.1 := by decide +kernel
theorem tt_cwd0 : ∀ j, j < 107 → mv_dec (mv_rd 136 (tt_dpk 0) j) = mv_df (tt_fty 0 j) ∧ mv_dfok (tt_fty 0 j) = true := by decide +kernel
theorem tt_cw0 : tt_CW 0 := ⟨RY0, TY0, rfl, rfl, fun _ => rfl, tt_uws tt_cwa0, tt_cwb0, tt_cwc0, by decide +kernel, by decide +kernel, tt_cwd0⟩
theorem tt_cwa1 : ∀ k, k < 13 → u_lay RY1 TY1 k ∈ tt_mw := by decide +kernel
theorem tt_cwb1 : ∀ k, k < 13 → parseFieldDescriptor (TY1 k).2.2.1 = some (tt_fty 1 k) := by decide +kernel
theorem tt_cwc1 : ∀ a, a < 13 → ∀ b, b < 13 → a ≠ b → (TY1 a).2.1 ≠ (TY1 b).2.1 := by decide +kernel
theorem tt_cwd1 : ∀ j, j < 13 → mv_dec (mv_rd 136 (tt_dpk 1) j) = mv_df (tt_fty 1 j) ∧ mv_dfok (tt_fty 1 j) = true := by decide +kernel
theorem tt_cw1 : tt_CW 1 := ⟨RY1, TY1, rfl, rfl, fun _ => rfl, tt_uws tt_cwa1, tt_cwb1, tt_cwc1, by decide +kernel, by decide +kernel, tt_cwd1⟩
theorem tt_cwa2 : ∀ k, k < 13 → u_lay RY2 TY2 k ∈ tt_mw := by decide +kernel
theorem tt_cwb2 : ∀ k, k < 13 → parseFieldDescriptor (TY2 k).2.2.1 = some (tt_fty 2 k) := by decide +kernel
theorem tt_cwc2 : ∀ a, a < 13 → ∀ b, b < 13 → a ≠ b → (TY2 a).2.1 ≠ (TY2 b).2.1 := by decide +kernel
theorem tt_cwd2 : ∀ j, j < 13 → mv_dec (mv_rd 136 (tt_dpk 2) j) = mv_df (tt_fty 2 j) ∧ mv_dfok (tt_fty 2 j) = true := by decide +kernel
theorem tt_cw2 : tt_CW 2 := ⟨RY2, TY2, rfl, rfl, fun _ => rfl, tt_uws tt_cwa2, tt_cwb2, tt_cwc2, by decide +kernel, by decide +kernel, tt_cwd2⟩
theorem tt_cwa3 : ∀ k, k < 7 → u_lay RY3 TY3 k ∈ tt_mw := by decide +kernel
theorem tt_cwb3 : ∀ k, k < 7 → parseFieldDescriptor (TY3 k).2.2.1 = some (tt_fty 3 k) := by decide +kernel
theorem tt_cwc3 : ∀ a, a < 7 → ∀ b, b < 7 → a ≠ b → (TY3 a).2.1 ≠ (TY3 b).2.1 := by decide +kernel
theorem tt_cwd3 : ∀ j, j < 7 → mv_dec (mv_rd 136 (tt_dpk 3) j) = mv_df (tt_fty 3 j) ∧ mv_dfok (tt_fty 3 j) = true := by decide +kernel
theorem tt_cw3 : tt_CW 3 := ⟨RY3, TY3, rfl, rfl, fun _ => rfl, tt_uws tt_cwa3, tt_cwb3, tt_cwc3, by decide +kernel, by decide +kernel, tt_cwd3⟩
theorem tt_cwa4 : ∀ k, k < 5 → u_lay RY4 TY4 k ∈ tt_mw := by decide +kernel
theorem tt_cwb4 : ∀ k, k < 5 → parseFieldDescriptor (TY4 k).2.2.1 = some (tt_fty 4 k) := by decide +kernel
theorem tt_cwc4 : ∀ a, a < 5 → ∀ b, b < 5 → a ≠ b → (TY4 a).2.1 ≠ (TY4 b).2.1 := by decide +kernel
theorem tt_cwd4 : ∀ j, j < 5 → mv_dec (mv_rd 136 (tt_dpk 4) j) = mv_df (tt_fty 4 j) ∧ mv_dfok (tt_fty 4 j) = true := by decide +kernel
theorem tt_cw4 : tt_CW 4 := ⟨RY4, TY4, rfl, rfl, fun _ => rfl, tt_uws tt_cwa4, tt_cwb4, tt_cwc4, by decide +kernel, by decide +kernel, tt_cwd4⟩
theorem tt_cwa5 : ∀ k, k < 5 → u_lay RY5 TY5 k ∈ tt_mw := by decide +kernel
theorem tt_cwb5 : ∀ k, k < 5 → parseFieldDescriptor (TY5 k).2.2.1 = some (tt_fty 5 k) := by decide +kernel
theorem tt_cwc5 : ∀ a, a < 5 → ∀ b, b < 5 → a ≠ b → (TY5 a).2.1 ≠ (TY5 b).2.1 := by decide +kernel
theorem tt_cwd5 : ∀ j, j < 5 → mv_dec (mv_rd 136 (tt_dpk 5) j) = mv_df (tt_fty 5 j) ∧ mv_dfok (tt_fty 5 j) = true := by decide +kernel
theorem tt_cw5 : tt_CW 5 := ⟨RY5, TY5, rfl, rfl, fun _ => rfl, tt_uws tt_cwa5, tt_cwb5, tt_cwc5, by decide +kernel, by decide +kernel, tt_cwd5⟩
theorem tt_cwa6 : ∀ k, k < 11 → u_lay RY6 TY6 k ∈ tt_mw := by decide +kernel
theorem tt_cwb6 : ∀ k, k < 11 → parseFieldDescriptor (TY6 k).2.2.1 = some (tt_fty 6 k) := by decide +kernel
theorem tt_cwc6 : ∀ a, a < 11 → ∀ b, b < 11 → a ≠ b → (TY6 a).2.1 ≠ (TY6 b).2.1 := by decide +kernel
theorem tt_cwd6 : ∀ j, j < 11 → mv_dec (mv_rd 136 (tt_dpk 6) j) = mv_df (tt_fty 6 j) ∧ mv_dfok (tt_fty 6 j) = true := by decide +kernel
theorem tt_cw6 : tt_CW 6 := ⟨RY6, TY6, rfl, rfl, fun _ => rfl, tt_uws tt_cwa6, tt_cwb6, tt_cwc6, by decide +kernel, by decide +kernel, tt_cwd6⟩
theorem tt_cwa7 : ∀ k, k < 12 → u_lay RY7 TY7 k ∈ tt_mw := by decide +kernel
theorem tt_cwb7 : ∀ k, k < 12 → parseFieldDescriptor (TY7 k).2.2.1 = some (tt_fty 7 k) := by decide +kernel
theorem tt_cwc7 : ∀ a, a < 12 → ∀ b, b < 12 → a ≠ b → (TY7 a).2.1 ≠ (TY7 b).2.1 := by decide +kernel
theorem tt_cwd7 : ∀ j, j < 12 → mv_dec (mv_rd 136 (tt_dpk 7) j) = mv_df (tt_fty 7 j) ∧ mv_dfok (tt_fty 7 j) = true := by decide +kernel
theorem tt_cw7 : tt_CW 7 := ⟨RY7, TY7, rfl, rfl, fun _ => rfl, tt_uws tt_cwa7, tt_cwb7, tt_cwc7, by decide +kernel, by decide +kernel, tt_cwd7⟩
theorem tt_cwa8 : ∀ k, k < 11 → u_lay RY8 TY8 k ∈ tt_mw := by decide +kernel
theorem tt_cwb8 : ∀ k, k < 11 → parseFieldDescriptor (TY8 k).2.2.1 = some (tt_fty 8 k) := by decide +kernel
theorem tt_cwc8 : ∀ a, a < 11 → ∀ b, b < 11 → a ≠ b → (TY8 a).2.1 ≠ (TY8 b).2.1 := by decide +kernel
theorem tt_cwd8 : ∀ j, j < 11 → mv_dec (mv_rd 136 (tt_dpk 8) j) = mv_df (tt_fty 8 j) ∧ mv_dfok (tt_fty 8 j) = true := by decide +kernel
theorem tt_cw8 : tt_CW 8 := ⟨RY8, TY8, rfl, rfl, fun _ => rfl, tt_uws tt_cwa8, tt_cwb8, tt_cwc8, by decide +kernel, by decide +kernel, tt_cwd8⟩
theorem tt_cwa9 : ∀ k, k < 11 → u_lay RY9 TY9 k ∈ tt_mw := by decide +kernel
theorem tt_cwb9 : ∀ k, k < 11 → parseFieldDescriptor (TY9 k).2.2.1 = some (tt_fty 9 k) := by decide +kernel
theorem tt_cwc9 : ∀ a, a < 11 → ∀ b, b < 11 → a ≠ b → (TY9 a).2.1 ≠ (TY9 b).2.1 := by decide +kernel
theorem tt_cwd9 : ∀ j, j < 11 → mv_dec (mv_rd 136 (tt_dpk 9) j) = mv_df (tt_fty 9 j) ∧ mv_dfok (tt_fty 9 j) = true := by decide +kernel
theorem tt_cw9 : tt_CW 9 := ⟨RY9, TY9, rfl, rfl, fun _ => rfl, tt_uws tt_cwa9, tt_cwb9, tt_cwc9, by decide +kernel, by decide +kernel, tt_cwd9⟩
theorem tt_cwa10 : ∀ k, k < 6 → u_lay RY10 TY10 k ∈ tt_mw := by decide +kernel
theorem tt_cwb10 : ∀ k, k < 6 → parseFieldDescriptor (TY10 k).2.2.1 = some (tt_fty 10 k) := by decide +kernel
theorem tt_cwc10 : ∀ a, a < 6 → ∀ b, b < 6 → a ≠ b → (TY10 a).2.1 ≠ (TY10 b).2.1 := by decide +kernel
theorem tt_cwd10 : ∀ j, j < 6 → mv_dec (mv_rd 136 (tt_dpk 10) j) = mv_df (tt_fty 10 j) ∧ mv_dfok (tt_fty 10 j) = true := by decide +kernel
theorem tt_cw10 : tt_CW 10 := ⟨RY10, TY10, rfl, rfl, fun _ => rfl, tt_uws tt_cwa10, tt_cwb10, tt_cwc10, by decide +kernel, by decide +kernel, tt_cwd10⟩
theorem tt_cwa11 : ∀ k, k < 19 → u_lay RY11 TY11 k ∈ tt_mw := by decide +kernel
theorem tt_cwb11 : ∀ k, k < 19 → parseFieldDescriptor (TY11 k).2.2.1 = some (tt_fty 11 k) := by decide +kernel
theorem tt_cwc11 : ∀ a, a < 19 → ∀ b, b < 19 → a ≠ b → (TY11 a).2.1 ≠ (TY11 b).2.1 := by decide +kernel
theorem tt_cwd11 : ∀ j, j < 19 → mv_dec (mv_rd 136 (tt_dpk 11) j) = mv_df (tt_fty 11 j) ∧ mv_dfok (tt_fty 11 j) = true := by decide +kernel
theorem tt_cw11 : tt_CW 11 := ⟨RY11, TY11, rfl, rfl, fun _ => rfl, tt_uws tt_cwa11, tt_cwb11, tt_cwc11, by decide +kernel, by decide +kernel, tt_cwd11⟩
theorem tt_cw : ∀ c, c < 12 → tt_CW c := by
  intro c hc
  match c, hc with
  | 0, _ => exact tt_cw0
  | 1, _ => exact tt_cw1
  | 2, _ => exact tt_cw2
  | 3, _ => exact tt_cw3
  | 4, _ => exact tt_cw4
  | 5, _ => exact tt_cw5
  | 6, _ => exact tt_cw6
  | 7, _ => exact tt_cw7
  | 8, _ => exact tt_cw8
  | 9, _ => exact tt_cw9
  | 10, _ => exact tt_cw10
  | 11, _ => exact tt_cw11
  | c + 12, h => exact absurd h (by omega)
