/-! FACTS: classes -/
def tt_ch0 : mt_T (List Cond) 4 := (mt_n (mt_n (mt_n (mt_n (mt_l (k2_sels lw_privs)) (mt_l tables_1_8)) (mt_n (mt_l tables_1_4) (mt_l []))) (mt_n (mt_n (mt_l tables_1_2) (mt_l tables_1_10)) (mt_n (mt_l tables_1_6) (mt_l [])))) (mt_n (mt_n (mt_n (mt_l tables_1_1) (mt_l tables_1_9)) (mt_n (mt_l tables_1_5) (mt_l []))) (mt_n (mt_n (mt_l tables_1_3) (mt_l [])) (mt_n (mt_l tables_1_7) (mt_l [])))))
theorem tt_chin : ∀ c, c < 16 → ∀ x, x ∈ mt_get 4 tt_ch0 c → x ∈ lw_tbl := by
  intro c hc x h
  match c, hc with
  | 0, _ => exact List.mem_append_left _ h
  | 1, _ => exact List.mem_append_right _ (List.mem_append_left _ h)
  | 2, _ => exact List.mem_append_right _ (List.mem_append_right _ (List.mem_append_left _ h))
  | 3, _ => exact List.mem_append_right _ (List.mem_append_right _ (List.mem_append_right _ (List.mem_append_left _ h)))
  | 4, _ => exact List.mem_append_right _ (List.mem_append_right _ (List.mem_append_right _ (List.mem_append_right _ (List.mem_append_left _ h))))
  | 5, _ => exact List.mem_append_right _ (List.mem_append_right _ (List.mem_append_right _ (List.mem_append_right _ (List.mem_append_right _ (List.mem_append_left _ h)))))
  | 6, _ => exact List.mem_append_right _ (List.mem_append_right _ (List.mem_append_right _ (List.mem_append_right _ (List.mem_append_right _ (List.mem_append_right _ (List.mem_append_left _ h))))))
  | 7, _ => exact List.mem_append_right _ (List.mem_append_right _ (List.mem_append_right _ (List.mem_append_right _ (List.mem_append_right _ (List.mem_append_right _ (List.mem_append_right _ (List.mem_append_left _ h)))))))
  | 8, _ => exact List.mem_append_right _ (List.mem_append_right _ (List.mem_append_right _ (List.mem_append_right _ (List.mem_append_right _ (List.mem_append_right _ (List.mem_append_right _ (List.mem_append_right _ (List.mem_append_left _ h))))))))
  | 9, _ => exact List.mem_append_right _ (List.mem_append_right _ (List.mem_append_right _ (List.mem_append_right _ (List.mem_append_right _ (List.mem_append_right _ (List.mem_append_right _ (List.mem_append_right _ (List.mem_append_right _ (List.mem_append_left _ h)))))))))
  | 10, _ => exact List.mem_append_right _ (List.mem_append_right _ (List.mem_append_right _ (List.mem_append_right _ (List.mem_append_right _ (List.mem_append_right _ (List.mem_append_right _ (List.mem_append_right _ (List.mem_append_right _ (List.mem_append_right _ h)))))))))
  | 11, _ => exact absurd (show x ∈ ([] : List Cond) from h) List.not_mem_nil
  | 12, _ => exact absurd (show x ∈ ([] : List Cond) from h) List.not_mem_nil
  | 13, _ => exact absurd (show x ∈ ([] : List Cond) from h) List.not_mem_nil
  | 14, _ => exact absurd (show x ∈ ([] : List Cond) from h) List.not_mem_nil
  | 15, _ => exact absurd (show x ∈ ([] : List Cond) from h) List.not_mem_nil
  | c + 16, h2 => exact absurd h2 (by omega)
noncomputable def tt_at (q : Nat) : Option Cond := (mt_get 4 tt_ch0 (q / 256 % 16))[q % 256]?
noncomputable def tt_is (q : Nat) (x : Cond) : Bool := decide (tt_at q = some x) && goodWord x
noncomputable def tt_isN (q : Nat) (x : Cond) : Bool := decide (tt_at q = some x) && mv_isNest x
theorem tt_is_ok {q : Nat} {x : Cond} (h : tt_is q x = true) : x ∈ tt_mw := by
  unfold tt_is at h
  simp only [Bool.and_eq_true, decide_eq_true_eq] at h
  exact List.mem_filter.mpr ⟨tt_chin _ (Nat.mod_lt _ (by decide)) x (List.mem_of_getElem? h.1), h.2⟩
theorem tt_in_ok {c i : Nat} {x : Cond} (hc : c < 16) (h : (mt_get 4 tt_ch0 c)[i]? = some x) (g : goodWord x = true) : x ∈ tt_mw := List.mem_filter.mpr ⟨tt_chin c hc x (List.mem_of_getElem? h), g⟩
theorem tt_isN_ok {q : Nat} {x : Cond} (h : tt_isN q x = true) : x ∈ tt_nst := by
  unfold tt_isN at h
  simp only [Bool.and_eq_true, decide_eq_true_eq] at h
  exact List.mem_filter.mpr ⟨tt_chin _ (Nat.mod_lt _ (by decide)) x (List.mem_of_getElem? h.1), h.2⟩
def tt_nf0 : mt_T Nat 4 := (mt_n (mt_n (mt_n (mt_n (mt_l 107) (mt_l 11)) (mt_n (mt_l 5) (mt_l 0))) (mt_n (mt_n (mt_l 13) (mt_l 6)) (mt_n (mt_l 11) (mt_l 0)))) (mt_n (mt_n (mt_n (mt_l 13) (mt_l 11)) (mt_n (mt_l 5) (mt_l 0))) (mt_n (mt_n (mt_l 7) (mt_l 19)) (mt_n (mt_l 12) (mt_l 0)))))
noncomputable def tt_nf (ci : Nat) : Nat := mt_get 4 tt_nf0 ci
noncomputable def tt_fd (ci j : Nat) : String × String × String × Bool := mt_get 7 (mt_get 4 tt_UT ci) j
def tt_CW (ci : Nat) : Prop := ∃ (C : String) (T : u_T), tt_cl[ci]? = some (C, T, tt_nf ci) ∧ tt_cn[ci]? = some C ∧ (∀ j, T j = tt_fd ci j) ∧ (∀ x ∈ u_ws C T (tt_nf ci), x ∈ tt_mw) ∧ (∀ k, k < tt_nf ci → parseFieldDescriptor (T k).2.2.1 = some (tt_fty ci k)) ∧ (∀ a, a < tt_nf ci → ∀ b, b < tt_nf ci → a ≠ b → (T a).2.1 ≠ (T b).2.1) ∧ Cond.instantiable C (tt_nf ci) ∈ tt_mw ∧ Cond.initialized C ∈ tt_mw ∧ ∀ j, j < tt_nf ci → mv_dec (mv_rd 136 (tt_dpk ci) j) = mv_df (tt_fty ci j) ∧ mv_dfok (tt_fty ci j) = true
theorem tt_uws {C : String} {T : u_T} {N : Nat} (h : ∀ k, k < N → u_lay C T k ∈ tt_mw) : ∀ x ∈ u_ws C T N, x ∈ tt_mw := by
  intro x hx
  obtain ⟨k, hk, rfl⟩ := List.mem_map.mp hx
  exact h k (List.mem_range.mp hk)
def LX0 : mt_T Nat 7 := (mt_n (mt_n (mt_n (mt_n (mt_n (mt_n (mt_n (mt_l 2261) (mt_l 2405)) (mt_n (mt_l 2341) (mt_l 2469))) (mt_n (mt_n (mt_l 2309) (mt_l 2437)) (mt_n (mt_l 2373) (mt_l 0)))) (mt_n (mt_n (mt_n (mt_l 2277) (mt_l 2421)) (mt_n (mt_l 2357) (mt_l 2485))) (mt_n (mt_n (mt_l 2325) (mt_l 2453)) (mt_n (mt_l 2389) (mt_l 0))))) (mt_n (mt_n (mt_n (mt_n (mt_l 2269) (mt_l 2413)) (mt_n (mt_l 2349) (mt_l 2477))) (mt_n (mt_n (mt_l 2317) (mt_l 2445)) (mt_n (mt_l 2381) (mt_l 0)))) (mt_n (mt_n (mt_n (mt_l 2285) (mt_l 2429)) (mt_n (mt_l 2365) (mt_l 0))) (mt_n (mt_n (mt_l 2333) (mt_l 2461)) (mt_n (mt_l 2397) (mt_l 0)))))) (mt_n (mt_n (mt_n (mt_n (mt_n (mt_l 2265) (mt_l 2409)) (mt_n (mt_l 2345) (mt_l 2473))) (mt_n (mt_n (mt_l 2313) (mt_l 2441)) (mt_n (mt_l 2377) (mt_l 0)))) (mt_n (mt_n (mt_n (mt_l 2281) (mt_l 2425)) (mt_n (mt_l 2361) (mt_l 2489))) (mt_n (mt_n (mt_l 2329) (mt_l 2457)) (mt_n (mt_l 2393) (mt_l 0))))) (mt_n (mt_n (mt_n (mt_n (mt_l 2273) (mt_l 2417)) (mt_n (mt_l 2353) (mt_l 2481))) (mt_n (mt_n (mt_l 2321) (mt_l 2449)) (mt_n (mt_l 2385) (mt_l 0)))) (mt_n (mt_n (mt_n (mt_l 2305) (mt_l 2433)) (mt_n (mt_l 2369) (mt_l 0))) (mt_n (mt_n (mt_l 2337) (mt_l 2465)) (mt_n (mt_l 2401) (mt_l 0))))))) (mt_n (mt_n (mt_n (mt_n (mt_n (mt_n (mt_l 2263) (mt_l 2407)) (mt_n (mt_l 2343) (mt_l 2471))) (mt_n (mt_n (mt_l 2311) (mt_l 2439)) (mt_n (mt_l 2375) (mt_l 0)))) (mt_n (mt_n (mt_n (mt_l 2279) (mt_l 2423)) (mt_n (mt_l 2359) (mt_l 2487))) (mt_n (mt_n (mt_l 2327) (mt_l 2455)) (mt_n (mt_l 2391) (mt_l 0))))) (mt_n (mt_n (mt_n (mt_n (mt_l 2271) (mt_l 2415)) (mt_n (mt_l 2351) (mt_l 2479))) (mt_n (mt_n (mt_l 2319) (mt_l 2447)) (mt_n (mt_l 2383) (mt_l 0)))) (mt_n (mt_n (mt_n (mt_l 2287) (mt_l 2431)) (mt_n (mt_l 2367) (mt_l 0))) (mt_n (mt_n (mt_l 2335) (mt_l 2463)) (mt_n (mt_l 2399) (mt_l 0)))))) (mt_n (mt_n (mt_n (mt_n (mt_n (mt_l 2267) (mt_l 2411)) (mt_n (mt_l 2347) (mt_l 2475))) (mt_n (mt_n (mt_l 2315) (mt_l 2443)) (mt_n (mt_l 2379) (mt_l 0)))) (mt_n (mt_n (mt_n (mt_l 2283) (mt_l 2427)) (mt_n (mt_l 2363) (mt_l 0))) (mt_n (mt_n (mt_l 2331) (mt_l 2459)) (mt_n (mt_l 2395) (mt_l 0))))) (mt_n (mt_n (mt_n (mt_n (mt_l 2275) (mt_l 2419)) (mt_n (mt_l 2355) (mt_l 2483))) (mt_n (mt_n (mt_l 2323) (mt_l 2451)) (mt_n (mt_l 2387) (mt_l 0)))) (mt_n (mt_n (mt_n (mt_l 2307) (mt_l 2435)) (mt_n (mt_l 2371) (mt_l 0))) (mt_n (mt_n (mt_l 2339) (mt_l 2467)) (mt_n (mt_l 2403) (mt_l 0))))))))
theorem tt_cwa0 : ∀ k, k < 107 → u_lay RY0 TY0 k ∈ tt_mw := fun k hk => tt_is_ok (q := mt_get 7 LX0 k) ((show ∀ k, k < 107 → tt_is (mt_get 7 LX0 k) (u_lay RY0 TY0 k) = true by decide +kernel) k hk)
theorem tt_cwb0 : ∀ k, k < 107 → parseFieldDescriptor (TY0 k).2.2.1 = some (tt_fty 0 k) := by decide +kernel
theorem tt_cwc0 : ∀ a, a < 107 → ∀ b, b < 107 → a ≠ b → (TY0 a).2.1 ≠ (TY0 b).2.1 := by decide +kernel
theorem tt_cwd0 : ∀ j, j < 107 → mv_dec (mv_rd 136 (tt_dpk 0) j) = mv_df (tt_fty 0 j) ∧ mv_dfok (tt_fty 0 j) = true := by decide +kernel
theorem tt_cw0 : tt_CW 0 := ⟨RY0, TY0, rfl, rfl, fun _ => rfl, tt_uws tt_cwa0, tt_cwb0, tt_cwc0, tt_is_ok (q := 1736) (by decide +kernel), tt_is_ok (q := 271) (by decide +kernel), tt_cwd0⟩
def LX1 : mt_T Nat 7 := (mt_n (mt_n (mt_n (mt_n (mt_n (mt_n (mt_n (mt_l 1029) (mt_l 0)) (mt_z 0 1)) (mt_z 0 2)) (mt_n (mt_n (mt_n (mt_l 1045) (mt_l 0)) (mt_z 0 1)) (mt_z 0 2))) (mt_n (mt_n (mt_n (mt_n (mt_l 1037) (mt_l 0)) (mt_z 0 1)) (mt_z 0 2)) (mt_n (mt_n (mt_n (mt_l 1053) (mt_l 0)) (mt_z 0 1)) (mt_z 0 2)))) (mt_n (mt_n (mt_n (mt_n (mt_n (mt_l 1033) (mt_l 0)) (mt_z 0 1)) (mt_z 0 2)) (mt_n (mt_n (mt_n (mt_l 1049) (mt_l 0)) (mt_z 0 1)) (mt_z 0 2))) (mt_n (mt_n (mt_n (mt_n (mt_l 1041) (mt_l 0)) (mt_z 0 1)) (mt_z 0 2)) (mt_z 0 3)))) (mt_n (mt_n (mt_n (mt_n (mt_n (mt_n (mt_l 1031) (mt_l 0)) (mt_z 0 1)) (mt_z 0 2)) (mt_n (mt_n (mt_n (mt_l 1047) (mt_l 0)) (mt_z 0 1)) (mt_z 0 2))) (mt_n (mt_n (mt_n (mt_n (mt_l 1039) (mt_l 0)) (mt_z 0 1)) (mt_z 0 2)) (mt_z 0 3))) (mt_n (mt_n (mt_n (mt_n (mt_n (mt_l 1035) (mt_l 0)) (mt_z 0 1)) (mt_z 0 2)) (mt_n (mt_n (mt_n (mt_l 1051) (mt_l 0)) (mt_z 0 1)) (mt_z 0 2))) (mt_n (mt_n (mt_n (mt_n (mt_l 1043) (mt_l 0)) (mt_z 0 1)) (mt_z 0 2)) (mt_z 0 3)))))
theorem tt_cwa1 : ∀ k, k < 13 → u_lay RY1 TY1 k ∈ tt_mw := fun k hk => tt_is_ok (q := mt_get 7 LX1 k) ((show ∀ k, k < 13 → tt_is (mt_get 7 LX1 k) (u_lay RY1 TY1 k) = true by decide +kernel) k hk)
theorem tt_cwb1 : ∀ k, k < 13 → parseFieldDescriptor (TY1 k).2.2.1 = some (tt_fty 1 k) := by decide +kernel
theorem tt_cwc1 : ∀ a, a < 13 → ∀ b, b < 13 → a ≠ b → (TY1 a).2.1 ≠ (TY1 b).2.1 := by decide +kernel
theorem tt_cwd1 : ∀ j, j < 13 → mv_dec (mv_rd 136 (tt_dpk 1) j) = mv_df (tt_fty 1 j) ∧ mv_dfok (tt_fty 1 j) = true := by decide +kernel
theorem tt_cw1 : tt_CW 1 := ⟨RY1, TY1, rfl, rfl, fun _ => rfl, tt_uws tt_cwa1, tt_cwb1, tt_cwc1, tt_is_ok (q := 274) (by decide +kernel), tt_is_ok (q := 257) (by decide +kernel), tt_cwd1⟩
def LX2 : mt_T Nat 7 := (mt_n (mt_n (mt_n (mt_n (mt_n (mt_n (mt_n (mt_l 302) (mt_l 0)) (mt_z 0 1)) (mt_z 0 2)) (mt_n (mt_n (mt_n (mt_l 318) (mt_l 0)) (mt_z 0 1)) (mt_z 0 2))) (mt_n (mt_n (mt_n (mt_n (mt_l 310) (mt_l 0)) (mt_z 0 1)) (mt_z 0 2)) (mt_n (mt_n (mt_n (mt_l 326) (mt_l 0)) (mt_z 0 1)) (mt_z 0 2)))) (mt_n (mt_n (mt_n (mt_n (mt_n (mt_l 306) (mt_l 0)) (mt_z 0 1)) (mt_z 0 2)) (mt_n (mt_n (mt_n (mt_l 322) (mt_l 0)) (mt_z 0 1)) (mt_z 0 2))) (mt_n (mt_n (mt_n (mt_n (mt_l 314) (mt_l 0)) (mt_z 0 1)) (mt_z 0 2)) (mt_z 0 3)))) (mt_n (mt_n (mt_n (mt_n (mt_n (mt_n (mt_l 304) (mt_l 0)) (mt_z 0 1)) (mt_z 0 2)) (mt_n (mt_n (mt_n (mt_l 320) (mt_l 0)) (mt_z 0 1)) (mt_z 0 2))) (mt_n (mt_n (mt_n (mt_n (mt_l 312) (mt_l 0)) (mt_z 0 1)) (mt_z 0 2)) (mt_z 0 3))) (mt_n (mt_n (mt_n (mt_n (mt_n (mt_l 308) (mt_l 0)) (mt_z 0 1)) (mt_z 0 2)) (mt_n (mt_n (mt_n (mt_l 324) (mt_l 0)) (mt_z 0 1)) (mt_z 0 2))) (mt_n (mt_n (mt_n (mt_n (mt_l 316) (mt_l 0)) (mt_z 0 1)) (mt_z 0 2)) (mt_z 0 3)))))
theorem tt_cwa2 : ∀ k, k < 13 → u_lay RY2 TY2 k ∈ tt_mw := fun k hk => tt_is_ok (q := mt_get 7 LX2 k) ((show ∀ k, k < 13 → tt_is (mt_get 7 LX2 k) (u_lay RY2 TY2 k) = true by decide +kernel) k hk)
theorem tt_cwb2 : ∀ k, k < 13 → parseFieldDescriptor (TY2 k).2.2.1 = some (tt_fty 2 k) := by decide +kernel
theorem tt_cwc2 : ∀ a, a < 13 → ∀ b, b < 13 → a ≠ b → (TY2 a).2.1 ≠ (TY2 b).2.1 := by decide +kernel
theorem tt_cwd2 : ∀ j, j < 13 → mv_dec (mv_rd 136 (tt_dpk 2) j) = mv_df (tt_fty 2 j) ∧ mv_dfok (tt_fty 2 j) = true := by decide +kernel
theorem tt_cw2 : tt_CW 2 := ⟨RY2, TY2, rfl, rfl, fun _ => rfl, tt_uws tt_cwa2, tt_cwb2, tt_cwc2, tt_is_ok (q := 284) (by decide +kernel), tt_is_ok (q := 258) (by decide +kernel), tt_cwd2⟩
def LX3 : mt_T Nat 7 := (mt_n (mt_n (mt_n (mt_n (mt_n (mt_n (mt_n (mt_l 404) (mt_l 0)) (mt_z 0 1)) (mt_z 0 2)) (mt_z 0 3)) (mt_n (mt_n (mt_n (mt_n (mt_l 412) (mt_l 0)) (mt_z 0 1)) (mt_z 0 2)) (mt_z 0 3))) (mt_n (mt_n (mt_n (mt_n (mt_n (mt_l 408) (mt_l 0)) (mt_z 0 1)) (mt_z 0 2)) (mt_z 0 3)) (mt_n (mt_n (mt_n (mt_n (mt_l 416) (mt_l 0)) (mt_z 0 1)) (mt_z 0 2)) (mt_z 0 3)))) (mt_n (mt_n (mt_n (mt_n (mt_n (mt_n (mt_l 406) (mt_l 0)) (mt_z 0 1)) (mt_z 0 2)) (mt_z 0 3)) (mt_n (mt_n (mt_n (mt_n (mt_l 414) (mt_l 0)) (mt_z 0 1)) (mt_z 0 2)) (mt_z 0 3))) (mt_n (mt_n (mt_n (mt_n (mt_n (mt_l 410) (mt_l 0)) (mt_z 0 1)) (mt_z 0 2)) (mt_z 0 3)) (mt_z 0 4))))
theorem tt_cwa3 : ∀ k, k < 7 → u_lay RY3 TY3 k ∈ tt_mw := fun k hk => tt_is_ok (q := mt_get 7 LX3 k) ((show ∀ k, k < 7 → tt_is (mt_get 7 LX3 k) (u_lay RY3 TY3 k) = true by decide +kernel) k hk)
theorem tt_cwb3 : ∀ k, k < 7 → parseFieldDescriptor (TY3 k).2.2.1 = some (tt_fty 3 k) := by decide +kernel
theorem tt_cwc3 : ∀ a, a < 7 → ∀ b, b < 7 → a ≠ b → (TY3 a).2.1 ≠ (TY3 b).2.1 := by decide +kernel
theorem tt_cwd3 : ∀ j, j < 7 → mv_dec (mv_rd 136 (tt_dpk 3) j) = mv_df (tt_fty 3 j) ∧ mv_dfok (tt_fty 3 j) = true := by decide +kernel
theorem tt_cw3 : tt_CW 3 := ⟨RY3, TY3, rfl, rfl, fun _ => rfl, tt_uws tt_cwa3, tt_cwb3, tt_cwc3, tt_is_ok (q := 332) (by decide +kernel), tt_is_ok (q := 259) (by decide +kernel), tt_cwd3⟩
def LX4 : mt_T Nat 7 := (mt_n (mt_n (mt_n (mt_n (mt_n (mt_n (mt_n (mt_l 354) (mt_l 0)) (mt_z 0 1)) (mt_z 0 2)) (mt_z 0 3)) (mt_n (mt_n (mt_n (mt_n (mt_l 362) (mt_l 0)) (mt_z 0 1)) (mt_z 0 2)) (mt_z 0 3))) (mt_n (mt_n (mt_n (mt_n (mt_n (mt_l 358) (mt_l 0)) (mt_z 0 1)) (mt_z 0 2)) (mt_z 0 3)) (mt_z 0 4))) (mt_n (mt_n (mt_n (mt_n (mt_n (mt_n (mt_l 356) (mt_l 0)) (mt_z 0 1)) (mt_z 0 2)) (mt_z 0 3)) (mt_z 0 4)) (mt_n (mt_n (mt_n (mt_n (mt_n (mt_l 360) (mt_l 0)) (mt_z 0 1)) (mt_z 0 2)) (mt_z 0 3)) (mt_z 0 4))))
theorem tt_cwa4 : ∀ k, k < 5 → u_lay RY4 TY4 k ∈ tt_mw := fun k hk => tt_is_ok (q := mt_get 7 LX4 k) ((show ∀ k, k < 5 → tt_is (mt_get 7 LX4 k) (u_lay RY4 TY4 k) = true by decide +kernel) k hk)
theorem tt_cwb4 : ∀ k, k < 5 → parseFieldDescriptor (TY4 k).2.2.1 = some (tt_fty 4 k) := by decide +kernel
theorem tt_cwc4 : ∀ a, a < 5 → ∀ b, b < 5 → a ≠ b → (TY4 a).2.1 ≠ (TY4 b).2.1 := by decide +kernel
theorem tt_cwd4 : ∀ j, j < 5 → mv_dec (mv_rd 136 (tt_dpk 4) j) = mv_df (tt_fty 4 j) ∧ mv_dfok (tt_fty 4 j) = true := by decide +kernel
theorem tt_cw4 : tt_CW 4 := ⟨RY4, TY4, rfl, rfl, fun _ => rfl, tt_uws tt_cwa4, tt_cwb4, tt_cwc4, tt_is_ok (q := 338) (by decide +kernel), tt_is_ok (q := 260) (by decide +kernel), tt_cwd4⟩
def LX5 : mt_T Nat 7 := (mt_n (mt_n (mt_n (mt_n (mt_n (mt_n (mt_n (mt_l 385) (mt_l 0)) (mt_z 0 1)) (mt_z 0 2)) (mt_z 0 3)) (mt_n (mt_n (mt_n (mt_n (mt_l 393) (mt_l 0)) (mt_z 0 1)) (mt_z 0 2)) (mt_z 0 3))) (mt_n (mt_n (mt_n (mt_n (mt_n (mt_l 389) (mt_l 0)) (mt_z 0 1)) (mt_z 0 2)) (mt_z 0 3)) (mt_z 0 4))) (mt_n (mt_n (mt_n (mt_n (mt_n (mt_n (mt_l 387) (mt_l 0)) (mt_z 0 1)) (mt_z 0 2)) (mt_z 0 3)) (mt_z 0 4)) (mt_n (mt_n (mt_n (mt_n (mt_n (mt_l 391) (mt_l 0)) (mt_z 0 1)) (mt_z 0 2)) (mt_z 0 3)) (mt_z 0 4))))
theorem tt_cwa5 : ∀ k, k < 5 → u_lay RY5 TY5 k ∈ tt_mw := fun k hk => tt_is_ok (q := mt_get 7 LX5 k) ((show ∀ k, k < 5 → tt_is (mt_get 7 LX5 k) (u_lay RY5 TY5 k) = true by decide +kernel) k hk)
theorem tt_cwb5 : ∀ k, k < 5 → parseFieldDescriptor (TY5 k).2.2.1 = some (tt_fty 5 k) := by decide +kernel
theorem tt_cwc5 : ∀ a, a < 5 → ∀ b, b < 5 → a ≠ b → (TY5 a).2.1 ≠ (TY5 b).2.1 := by decide +kernel
theorem tt_cwd5 : ∀ j, j < 5 → mv_dec (mv_rd 136 (tt_dpk 5) j) = mv_df (tt_fty 5 j) ∧ mv_dfok (tt_fty 5 j) = true := by decide +kernel
theorem tt_cw5 : tt_CW 5 := ⟨RY5, TY5, rfl, rfl, fun _ => rfl, tt_uws tt_cwa5, tt_cwb5, tt_cwc5, tt_is_ok (q := 369) (by decide +kernel), tt_is_ok (q := 261) (by decide +kernel), tt_cwd5⟩
def LX6 : mt_T Nat 7 := (mt_n (mt_n (mt_n (mt_n (mt_n (mt_n (mt_n (mt_l 444) (mt_l 0)) (mt_z 0 1)) (mt_z 0 2)) (mt_n (mt_n (mt_n (mt_l 460) (mt_l 0)) (mt_z 0 1)) (mt_z 0 2))) (mt_n (mt_n (mt_n (mt_n (mt_l 452) (mt_l 0)) (mt_z 0 1)) (mt_z 0 2)) (mt_z 0 3))) (mt_n (mt_n (mt_n (mt_n (mt_n (mt_l 448) (mt_l 0)) (mt_z 0 1)) (mt_z 0 2)) (mt_n (mt_n (mt_n (mt_l 464) (mt_l 0)) (mt_z 0 1)) (mt_z 0 2))) (mt_n (mt_n (mt_n (mt_n (mt_l 456) (mt_l 0)) (mt_z 0 1)) (mt_z 0 2)) (mt_z 0 3)))) (mt_n (mt_n (mt_n (mt_n (mt_n (mt_n (mt_l 446) (mt_l 0)) (mt_z 0 1)) (mt_z 0 2)) (mt_n (mt_n (mt_n (mt_l 462) (mt_l 0)) (mt_z 0 1)) (mt_z 0 2))) (mt_n (mt_n (mt_n (mt_n (mt_l 454) (mt_l 0)) (mt_z 0 1)) (mt_z 0 2)) (mt_z 0 3))) (mt_n (mt_n (mt_n (mt_n (mt_n (mt_l 450) (mt_l 0)) (mt_z 0 1)) (mt_z 0 2)) (mt_z 0 3)) (mt_n (mt_n (mt_n (mt_n (mt_l 458) (mt_l 0)) (mt_z 0 1)) (mt_z 0 2)) (mt_z 0 3)))))
theorem tt_cwa6 : ∀ k, k < 11 → u_lay RY6 TY6 k ∈ tt_mw := fun k hk => tt_is_ok (q := mt_get 7 LX6 k) ((show ∀ k, k < 11 → tt_is (mt_get 7 LX6 k) (u_lay RY6 TY6 k) = true by decide +kernel) k hk)
theorem tt_cwb6 : ∀ k, k < 11 → parseFieldDescriptor (TY6 k).2.2.1 = some (tt_fty 6 k) := by decide +kernel
theorem tt_cwc6 : ∀ a, a < 11 → ∀ b, b < 11 → a ≠ b → (TY6 a).2.1 ≠ (TY6 b).2.1 := by decide +kernel
theorem tt_cwd6 : ∀ j, j < 11 → mv_dec (mv_rd 136 (tt_dpk 6) j) = mv_df (tt_fty 6 j) ∧ mv_dfok (tt_fty 6 j) = true := by decide +kernel
theorem tt_cw6 : tt_CW 6 := ⟨RY6, TY6, rfl, rfl, fun _ => rfl, tt_uws tt_cwa6, tt_cwb6, tt_cwc6, tt_is_ok (q := 426) (by decide +kernel), tt_is_ok (q := 262) (by decide +kernel), tt_cwd6⟩
def LX7 : mt_T Nat 7 := (mt_n (mt_n (mt_n (mt_n (mt_n (mt_n (mt_n (mt_l 494) (mt_l 0)) (mt_z 0 1)) (mt_z 0 2)) (mt_n (mt_n (mt_n (mt_l 526) (mt_l 0)) (mt_z 0 1)) (mt_z 0 2))) (mt_n (mt_n (mt_n (mt_n (mt_l 518) (mt_l 0)) (mt_z 0 1)) (mt_z 0 2)) (mt_z 0 3))) (mt_n (mt_n (mt_n (mt_n (mt_n (mt_l 514) (mt_l 0)) (mt_z 0 1)) (mt_z 0 2)) (mt_n (mt_n (mt_n (mt_l 530) (mt_l 0)) (mt_z 0 1)) (mt_z 0 2))) (mt_n (mt_n (mt_n (mt_n (mt_l 522) (mt_l 0)) (mt_z 0 1)) (mt_z 0 2)) (mt_z 0 3)))) (mt_n (mt_n (mt_n (mt_n (mt_n (mt_n (mt_l 512) (mt_l 0)) (mt_z 0 1)) (mt_z 0 2)) (mt_n (mt_n (mt_n (mt_l 528) (mt_l 0)) (mt_z 0 1)) (mt_z 0 2))) (mt_n (mt_n (mt_n (mt_n (mt_l 520) (mt_l 0)) (mt_z 0 1)) (mt_z 0 2)) (mt_z 0 3))) (mt_n (mt_n (mt_n (mt_n (mt_n (mt_l 516) (mt_l 0)) (mt_z 0 1)) (mt_z 0 2)) (mt_n (mt_n (mt_n (mt_l 532) (mt_l 0)) (mt_z 0 1)) (mt_z 0 2))) (mt_n (mt_n (mt_n (mt_n (mt_l 524) (mt_l 0)) (mt_z 0 1)) (mt_z 0 2)) (mt_z 0 3)))))
theorem tt_cwa7 : ∀ k, k < 12 → u_lay RY7 TY7 k ∈ tt_mw := fun k hk => tt_is_ok (q := mt_get 7 LX7 k) ((show ∀ k, k < 12 → tt_is (mt_get 7 LX7 k) (u_lay RY7 TY7 k) = true by decide +kernel) k hk)
theorem tt_cwb7 : ∀ k, k < 12 → parseFieldDescriptor (TY7 k).2.2.1 = some (tt_fty 7 k) := by decide +kernel
theorem tt_cwc7 : ∀ a, a < 12 → ∀ b, b < 12 → a ≠ b → (TY7 a).2.1 ≠ (TY7 b).2.1 := by decide +kernel
theorem tt_cwd7 : ∀ j, j < 12 → mv_dec (mv_rd 136 (tt_dpk 7) j) = mv_df (tt_fty 7 j) ∧ mv_dfok (tt_fty 7 j) = true := by decide +kernel
theorem tt_cw7 : tt_CW 7 := ⟨RY7, TY7, rfl, rfl, fun _ => rfl, tt_uws tt_cwa7, tt_cwb7, tt_cwc7, tt_is_ok (q := 468) (by decide +kernel), tt_is_ok (q := 263) (by decide +kernel), tt_cwd7⟩
def LX8 : mt_T Nat 7 := (mt_n (mt_n (mt_n (mt_n (mt_n (mt_n (mt_n (mt_l 557) (mt_l 0)) (mt_z 0 1)) (mt_z 0 2)) (mt_n (mt_n (mt_n (mt_l 573) (mt_l 0)) (mt_z 0 1)) (mt_z 0 2))) (mt_n (mt_n (mt_n (mt_n (mt_l 565) (mt_l 0)) (mt_z 0 1)) (mt_z 0 2)) (mt_z 0 3))) (mt_n (mt_n (mt_n (mt_n (mt_n (mt_l 561) (mt_l 0)) (mt_z 0 1)) (mt_z 0 2)) (mt_n (mt_n (mt_n (mt_l 577) (mt_l 0)) (mt_z 0 1)) (mt_z 0 2))) (mt_n (mt_n (mt_n (mt_n (mt_l 569) (mt_l 0)) (mt_z 0 1)) (mt_z 0 2)) (mt_z 0 3)))) (mt_n (mt_n (mt_n (mt_n (mt_n (mt_n (mt_l 559) (mt_l 0)) (mt_z 0 1)) (mt_z 0 2)) (mt_n (mt_n (mt_n (mt_l 575) (mt_l 0)) (mt_z 0 1)) (mt_z 0 2))) (mt_n (mt_n (mt_n (mt_n (mt_l 567) (mt_l 0)) (mt_z 0 1)) (mt_z 0 2)) (mt_z 0 3))) (mt_n (mt_n (mt_n (mt_n (mt_n (mt_l 563) (mt_l 0)) (mt_z 0 1)) (mt_z 0 2)) (mt_z 0 3)) (mt_n (mt_n (mt_n (mt_n (mt_l 571) (mt_l 0)) (mt_z 0 1)) (mt_z 0 2)) (mt_z 0 3)))))
theorem tt_cwa8 : ∀ k, k < 11 → u_lay RY8 TY8 k ∈ tt_mw := fun k hk => tt_is_ok (q := mt_get 7 LX8 k) ((show ∀ k, k < 11 → tt_is (mt_get 7 LX8 k) (u_lay RY8 TY8 k) = true by decide +kernel) k hk)
theorem tt_cwb8 : ∀ k, k < 11 → parseFieldDescriptor (TY8 k).2.2.1 = some (tt_fty 8 k) := by decide +kernel
theorem tt_cwc8 : ∀ a, a < 11 → ∀ b, b < 11 → a ≠ b → (TY8 a).2.1 ≠ (TY8 b).2.1 := by decide +kernel
theorem tt_cwd8 : ∀ j, j < 11 → mv_dec (mv_rd 136 (tt_dpk 8) j) = mv_df (tt_fty 8 j) ∧ mv_dfok (tt_fty 8 j) = true := by decide +kernel
theorem tt_cw8 : tt_CW 8 := ⟨RY8, TY8, rfl, rfl, fun _ => rfl, tt_uws tt_cwa8, tt_cwb8, tt_cwc8, tt_is_ok (q := 536) (by decide +kernel), tt_is_ok (q := 264) (by decide +kernel), tt_cwd8⟩
def LX9 : mt_T Nat 7 := (mt_n (mt_n (mt_n (mt_n (mt_n (mt_n (mt_n (mt_l 630) (mt_l 0)) (mt_z 0 1)) (mt_z 0 2)) (mt_n (mt_n (mt_n (mt_l 646) (mt_l 0)) (mt_z 0 1)) (mt_z 0 2))) (mt_n (mt_n (mt_n (mt_n (mt_l 638) (mt_l 0)) (mt_z 0 1)) (mt_z 0 2)) (mt_z 0 3))) (mt_n (mt_n (mt_n (mt_n (mt_n (mt_l 634) (mt_l 0)) (mt_z 0 1)) (mt_z 0 2)) (mt_n (mt_n (mt_n (mt_l 650) (mt_l 0)) (mt_z 0 1)) (mt_z 0 2))) (mt_n (mt_n (mt_n (mt_n (mt_l 642) (mt_l 0)) (mt_z 0 1)) (mt_z 0 2)) (mt_z 0 3)))) (mt_n (mt_n (mt_n (mt_n (mt_n (mt_n (mt_l 632) (mt_l 0)) (mt_z 0 1)) (mt_z 0 2)) (mt_n (mt_n (mt_n (mt_l 648) (mt_l 0)) (mt_z 0 1)) (mt_z 0 2))) (mt_n (mt_n (mt_n (mt_n (mt_l 640) (mt_l 0)) (mt_z 0 1)) (mt_z 0 2)) (mt_z 0 3))) (mt_n (mt_n (mt_n (mt_n (mt_n (mt_l 636) (mt_l 0)) (mt_z 0 1)) (mt_z 0 2)) (mt_z 0 3)) (mt_n (mt_n (mt_n (mt_n (mt_l 644) (mt_l 0)) (mt_z 0 1)) (mt_z 0 2)) (mt_z 0 3)))))
theorem tt_cwa9 : ∀ k, k < 11 → u_lay RY9 TY9 k ∈ tt_mw := fun k hk => tt_is_ok (q := mt_get 7 LX9 k) ((show ∀ k, k < 11 → tt_is (mt_get 7 LX9 k) (u_lay RY9 TY9 k) = true by decide +kernel) k hk)
theorem tt_cwb9 : ∀ k, k < 11 → parseFieldDescriptor (TY9 k).2.2.1 = some (tt_fty 9 k) := by decide +kernel
theorem tt_cwc9 : ∀ a, a < 11 → ∀ b, b < 11 → a ≠ b → (TY9 a).2.1 ≠ (TY9 b).2.1 := by decide +kernel
theorem tt_cwd9 : ∀ j, j < 11 → mv_dec (mv_rd 136 (tt_dpk 9) j) = mv_df (tt_fty 9 j) ∧ mv_dfok (tt_fty 9 j) = true := by decide +kernel
theorem tt_cw9 : tt_CW 9 := ⟨RY9, TY9, rfl, rfl, fun _ => rfl, tt_uws tt_cwa9, tt_cwb9, tt_cwc9, tt_is_ok (q := 586) (by decide +kernel), tt_is_ok (q := 265) (by decide +kernel), tt_cwd9⟩
def LX10 : mt_T Nat 7 := (mt_n (mt_n (mt_n (mt_n (mt_n (mt_n (mt_n (mt_l 731) (mt_l 0)) (mt_z 0 1)) (mt_z 0 2)) (mt_z 0 3)) (mt_n (mt_n (mt_n (mt_n (mt_l 739) (mt_l 0)) (mt_z 0 1)) (mt_z 0 2)) (mt_z 0 3))) (mt_n (mt_n (mt_n (mt_n (mt_n (mt_l 735) (mt_l 0)) (mt_z 0 1)) (mt_z 0 2)) (mt_z 0 3)) (mt_z 0 4))) (mt_n (mt_n (mt_n (mt_n (mt_n (mt_n (mt_l 733) (mt_l 0)) (mt_z 0 1)) (mt_z 0 2)) (mt_z 0 3)) (mt_n (mt_n (mt_n (mt_n (mt_l 741) (mt_l 0)) (mt_z 0 1)) (mt_z 0 2)) (mt_z 0 3))) (mt_n (mt_n (mt_n (mt_n (mt_n (mt_l 737) (mt_l 0)) (mt_z 0 1)) (mt_z 0 2)) (mt_z 0 3)) (mt_z 0 4))))
theorem tt_cwa10 : ∀ k, k < 6 → u_lay RY10 TY10 k ∈ tt_mw := fun k hk => tt_is_ok (q := mt_get 7 LX10 k) ((show ∀ k, k < 6 → tt_is (mt_get 7 LX10 k) (u_lay RY10 TY10 k) = true by decide +kernel) k hk)
theorem tt_cwb10 : ∀ k, k < 6 → parseFieldDescriptor (TY10 k).2.2.1 = some (tt_fty 10 k) := by decide +kernel
theorem tt_cwc10 : ∀ a, a < 6 → ∀ b, b < 6 → a ≠ b → (TY10 a).2.1 ≠ (TY10 b).2.1 := by decide +kernel
theorem tt_cwd10 : ∀ j, j < 6 → mv_dec (mv_rd 136 (tt_dpk 10) j) = mv_df (tt_fty 10 j) ∧ mv_dfok (tt_fty 10 j) = true := by decide +kernel
theorem tt_cw10 : tt_CW 10 := ⟨RY10, TY10, rfl, rfl, fun _ => rfl, tt_uws tt_cwa10, tt_cwb10, tt_cwc10, tt_is_ok (q := 703) (by decide +kernel), tt_is_ok (q := 267) (by decide +kernel), tt_cwd10⟩
def LX11 : mt_T Nat 7 := (mt_n (mt_n (mt_n (mt_n (mt_n (mt_n (mt_n (mt_l 961) (mt_l 0)) (mt_z 0 1)) (mt_n (mt_n (mt_l 993) (mt_l 0)) (mt_z 0 1))) (mt_n (mt_n (mt_n (mt_l 977) (mt_l 0)) (mt_z 0 1)) (mt_z 0 2))) (mt_n (mt_n (mt_n (mt_n (mt_l 969) (mt_l 0)) (mt_z 0 1)) (mt_z 0 2)) (mt_n (mt_n (mt_n (mt_l 985) (mt_l 0)) (mt_z 0 1)) (mt_z 0 2)))) (mt_n (mt_n (mt_n (mt_n (mt_n (mt_l 965) (mt_l 0)) (mt_z 0 1)) (mt_n (mt_n (mt_l 997) (mt_l 0)) (mt_z 0 1))) (mt_n (mt_n (mt_n (mt_l 981) (mt_l 0)) (mt_z 0 1)) (mt_z 0 2))) (mt_n (mt_n (mt_n (mt_n (mt_l 973) (mt_l 0)) (mt_z 0 1)) (mt_z 0 2)) (mt_n (mt_n (mt_n (mt_l 989) (mt_l 0)) (mt_z 0 1)) (mt_z 0 2))))) (mt_n (mt_n (mt_n (mt_n (mt_n (mt_n (mt_l 963) (mt_l 0)) (mt_z 0 1)) (mt_n (mt_n (mt_l 995) (mt_l 0)) (mt_z 0 1))) (mt_n (mt_n (mt_n (mt_l 979) (mt_l 0)) (mt_z 0 1)) (mt_z 0 2))) (mt_n (mt_n (mt_n (mt_n (mt_l 971) (mt_l 0)) (mt_z 0 1)) (mt_z 0 2)) (mt_n (mt_n (mt_n (mt_l 987) (mt_l 0)) (mt_z 0 1)) (mt_z 0 2)))) (mt_n (mt_n (mt_n (mt_n (mt_n (mt_l 967) (mt_l 0)) (mt_z 0 1)) (mt_z 0 2)) (mt_n (mt_n (mt_n (mt_l 983) (mt_l 0)) (mt_z 0 1)) (mt_z 0 2))) (mt_n (mt_n (mt_n (mt_n (mt_l 975) (mt_l 0)) (mt_z 0 1)) (mt_z 0 2)) (mt_n (mt_n (mt_n (mt_l 991) (mt_l 0)) (mt_z 0 1)) (mt_z 0 2))))))
theorem tt_cwa11 : ∀ k, k < 19 → u_lay RY11 TY11 k ∈ tt_mw := fun k hk => tt_is_ok (q := mt_get 7 LX11 k) ((show ∀ k, k < 19 → tt_is (mt_get 7 LX11 k) (u_lay RY11 TY11 k) = true by decide +kernel) k hk)
theorem tt_cwb11 : ∀ k, k < 19 → parseFieldDescriptor (TY11 k).2.2.1 = some (tt_fty 11 k) := by decide +kernel
theorem tt_cwc11 : ∀ a, a < 19 → ∀ b, b < 19 → a ≠ b → (TY11 a).2.1 ≠ (TY11 b).2.1 := by decide +kernel
theorem tt_cwd11 : ∀ j, j < 19 → mv_dec (mv_rd 136 (tt_dpk 11) j) = mv_df (tt_fty 11 j) ∧ mv_dfok (tt_fty 11 j) = true := by decide +kernel
theorem tt_cw11 : tt_CW 11 := ⟨RY11, TY11, rfl, rfl, fun _ => rfl, tt_uws tt_cwa11, tt_cwb11, tt_cwc11, tt_is_ok (q := 917) (by decide +kernel), tt_is_ok (q := 270) (by decide +kernel), tt_cwd11⟩
theorem tt_cw : ∀ c, c < 12 → tt_CW c := by
  intro c hc
  match c, hc with
  | 0, _ => exact tt_cw0
  | 1, _ => exact tt_cw1
  | 2, _ => exact tt_cw2
  | 3, _ => exact tt_cw3
  | 4, _ => exact tt_cw4
  | 5, _ => exact tt_cw5
  | 6, _ => exact tt_cw6
  | 7, _ => exact tt_cw7
  | 8, _ => exact tt_cw8
  | 9, _ => exact tt_cw9
  | 10, _ => exact tt_cw10
  | 11, _ => exact tt_cw11
  | c + 12, h => exact absurd h (by omega)
