/-! THE REFERENCE'S MINE, VI: build's loop to its end -/
theorem xc126_626 : tt_cd 126 626 = (1, .aload_n 0, 1) := by decide +kernel
theorem xc126_627 : tt_cd 126 627 = (2, .dup, 1) := by decide +kernel
theorem xc126_628 : tt_cd 126 628 = (3, .getfield 632, 3) := by decide +kernel
theorem xf126_632 : tt_fl 126 632 = (1, 0, 49) := by decide +kernel
theorem xc126_631 : tt_cd 126 631 = (2, .iconst 1, 1) := by decide +kernel
theorem xc126_632 : tt_cd 126 632 = (2, .iadd, 1) := by decide +kernel
theorem xc126_633 : tt_cd 126 633 = (6, .putfield 632, 3) := by decide +kernel
theorem xt0_49 : tt_fty 0 49 = .int := by decide +kernel
theorem xn0_49 : tt_ffin 0 49 = false := by decide +kernel
theorem xc126_636 : tt_cd 126 636 = (1, .iload 5, 2) := by decide +kernel
theorem xc126_638 : tt_cd 126 638 = (9, .ireturn, 1) := by decide +kernel
theorem xr126 : tt_mr 126 = 1 := by decide +kernel
section BL
variable {n : Nat} {pl : Nat → Nat} {w0 w : mv_T 10} {X0 Pc Wd Vv St Af Mi Hd Bi Bf Hg Tm Bo Wk Pn Bs Mt Pst Ppl Psz Bb Pid So Fn Fc Fl Fs Ou Ly No Bu th up lp sc ba : Nat}
/-- a header's bytes, with a NONCE -/
def hxn (g : Nat → Nat) (m j : Nat) : Nat := if j < 101 then g j else mn_b (mn_b (mo_ushr m (24 - 8 * (j - 101)))) % 2 ^ 32
theorem hx_f {g : Nat → Nat} {m : Nat} (hg : ∀ j, j < 101 → mv_rd 32 Hd (105 + j) = g j) : ∀ j, j < 105 → mv_rd 32 (pw_4 Hd 206 m) (105 + j) = hxn g m j := by
  intro j hj
  rw [pw_rd]
  unfold hxn
  by_cases h : j < 101
  · rw [if_neg (by omega), if_pos h, hg j h]
  · rw [if_pos (by omega), if_neg h, show 24 - 8 * (105 + j - 206) = 24 - 8 * (j - 101) by omega]
theorem bl_end {fr lo sec : Nat} (hw : wh 32 pl w0 w [(0, 0, 107, X0), (1, 1, 64, Pc), (1, 0, 64, mc_K), (1, 0, 64, Wd), (1, 0, 8, Vv), (1, 0, 8, St), (1, 0, 8, Af), (1, 1, 32, Mi), (1, 1, 4200, Hd), (1, 1, 1280, Bi), (1, 0, 40, Bf), (1, 0, 40, Hg), (1, 0, 40, Tm), (1, 0, 40, Bo), (1, 0, 40, Wk), (1, 0, 40, Pn), (1, 0, 40, Bs), (1, 1, 28, Mt), (1, 0, 160, Pst), (1, 0, 160, Ppl), (1, 0, 160, Psz), (1, 1, 76000, Bb), (1, 1, 5120, Pid), (1, 1, 600, So), (1, 0, 960, Fn), (1, 0, 40, Fc), (1, 1, 3200, Fl), (1, 0, 40, Fs), (1, 1, 32, Ou), (1, 1, 2400, Ly), (1, 0, 40, No), (1, 1, 20, Bu)]) (hX0 : fh X0 jQ [(0, th, 0), (2, pl 1, 0), (2, pl 2, 0), (2, pl 3, 0), (2, pl 4, 0), (2, pl 5, 0), (2, pl 6, 0), (2, pl 7, 0), (0, up, 0), (1, lp, 0), (2, pl 8, 0), (2, pl 9, 0), (2, pl 10, 0), (2, pl 11, 0), (2, pl 12, 0), (2, pl 13, 0), (2, pl 14, 0), (2, pl 15, 0), (2, pl 16, 0), (2, pl 17, 0), (2, pl 18, 0), (2, pl 19, 0), (2, pl 20, 0), (2, pl 21, 0), (2, pl 22, 0), (2, pl 23, 0), (2, pl 24, 0), (2, pl 25, 0), (2, pl 26, 0), (2, pl 27, 0), (2, pl 28, 0), (2, pl 29, 0), (2, pl 30, 0), (2, pl 31, 0), (0, 1, 0), (0, 0, 0), (0, sc, 0), (0, ba, 0), (0, 0, 0)]) : sy_F 126 n fr lo 546 [(2, pl 0, 0), (0, 0, 0), (0, sec, 0), (2, pl 31, 0), (0, 0, 0), (0, 1, 0), (0, 0, 0), (0, 105, 0), (0, 1, 0)] [] w (fun ret w' => ret = [(0, 1, 0)] ∧ ∃ X0 Pc Wd Vv St Af Mi Hd Bi Bf Hg Tm Bo Wk Pn Bs Mt Pst Ppl Psz Bb Pid So Fn Fc Fl Fs Ou Ly No Bu th up lp sc ba : Nat, wh 32 pl w0 w' [(0, 0, 107, X0), (1, 1, 64, Pc), (1, 0, 64, mc_K), (1, 0, 64, Wd), (1, 0, 8, Vv), (1, 0, 8, St), (1, 0, 8, Af), (1, 1, 32, Mi), (1, 1, 4200, Hd), (1, 1, 1280, Bi), (1, 0, 40, Bf), (1, 0, 40, Hg), (1, 0, 40, Tm), (1, 0, 40, Bo), (1, 0, 40, Wk), (1, 0, 40, Pn), (1, 0, 40, Bs), (1, 1, 28, Mt), (1, 0, 160, Pst), (1, 0, 160, Ppl), (1, 0, 160, Psz), (1, 1, 76000, Bb), (1, 1, 5120, Pid), (1, 1, 600, So), (1, 0, 960, Fn), (1, 0, 40, Fc), (1, 1, 3200, Fl), (1, 0, 40, Fs), (1, 1, 32, Ou), (1, 1, 2400, Ly), (1, 0, 40, No), (1, 1, 20, Bu)] ∧ fh X0 jQ [(0, th, 0), (2, pl 1, 0), (2, pl 2, 0), (2, pl 3, 0), (2, pl 4, 0), (2, pl 5, 0), (2, pl 6, 0), (2, pl 7, 0), (0, up, 0), (1, lp, 0), (2, pl 8, 0), (2, pl 9, 0), (2, pl 10, 0), (2, pl 11, 0), (2, pl 12, 0), (2, pl 13, 0), (2, pl 14, 0), (2, pl 15, 0), (2, pl 16, 0), (2, pl 17, 0), (2, pl 18, 0), (2, pl 19, 0), (2, pl 20, 0), (2, pl 21, 0), (2, pl 22, 0), (2, pl 23, 0), (2, pl 24, 0), (2, pl 25, 0), (2, pl 26, 0), (2, pl 27, 0), (2, pl 28, 0), (2, pl 29, 0), (2, pl 30, 0), (2, pl 31, 0), (0, 2, 0), (0, 0, 0), (0, sc, 0), (0, ba, 0), (0, 0, 0)]) := by
  refine sy_Fs (sy_ild xc126_546 rfl rfl sy_refl) ?_
  refine sy_Fs (sy_ifne_t (pc' := 626) xc126_548 (by decide) (by decide) (by decide) (by decide) sy_refl) ?_
  refine sy_Fs (sy_aldn xc126_626 rfl rfl sy_refl) ?_
  refine sy_Fs (sy_dup xc126_627 rfl sy_refl) ?_
  refine sy_Fs (sy_gf xc126_628 xf126_632 rfl (wh_at hw 0 rfl) rfl (fh_at hX0 34 rfl rfl) sy_refl) ?_
  refine sy_Fs (sy_iconst (v := 1) xc126_631 (by decide) sy_refl) ?_
  refine sy_Fs (sx_iadd (z := 2) xc126_632 (by decide)) ?_
  refine sy_Ff (i := 0) (q := 34) (v := (0, 2, 0)) hw hX0 (by decide) (by decide) rfl (sy_ok0 (by first | decide | assumption | omega | exact mo_rd_lt _ _ | exact mo_add_lt _ _ | exact mo_sub_lt _ _ | exact mo_mul_lt _ _ | exact mo_shl_lt _ _ | exact mo_ushr_lt _ _ | exact mo_or_lt (by decide) (mo_and_lt (mo_rd_lt _ _)) | exact mo_or_lt (mo_shl_lt _ _) (mo_and_lt (mo_rd_lt _ _)))) (sy_pfi xc126_633 xf126_632 rfl xt0_49 xn0_49 (wh_at hw 0 rfl) rfl (by first | decide | assumption | omega | exact mo_rd_lt _ _ | exact mo_add_lt _ _ | exact mo_sub_lt _ _ | exact mo_mul_lt _ _ | exact mo_shl_lt _ _ | exact mo_ushr_lt _ _ | exact mo_or_lt (by decide) (mo_and_lt (mo_rd_lt _ _)) | exact mo_or_lt (mo_shl_lt _ _) (mo_and_lt (mo_rd_lt _ _))) rfl sy_refl) ?_
  intro w X0 hw hX0
  simp only [List.set_cons_zero, List.set_cons_succ] at hw hX0
  refine sy_Fs (sy_ild xc126_636 rfl rfl sy_refl) ?_
  exact sy_Fi xc126_638 xr126 rfl ⟨rfl, _, _, _, _, _, _, _, _, _, _, _, _, _, _, _, _, _, _, _, _, _, _, _, _, _, _, _, _, _, _, _, _, _, _, _, _, hw, hX0⟩
theorem bl_n {fr lo sec N : Nat} {g : Nat → Nat} (hfr : 8 ≤ fr) (hlo : 300 ≤ lo) (hsec : sec ≤ 1000) (hN : N < 2147483648) (hip : ip_n (bk_D (hs_2 (hxn g N) 105) 0) = 1) : ∀ (d m nv : Nat) (w : mv_T 10) (X0 Pc Wd Vv St Af Mi Hd Bi Bf Hg Tm Bo Wk Pn Bs Mt Pst Ppl Psz Bb Pid So Fn Fc Fl Fs Ou Ly No Bu th up lp sc ba : Nat), m + d = N → wh 32 pl w0 w [(0, 0, 107, X0), (1, 1, 64, Pc), (1, 0, 64, mc_K), (1, 0, 64, Wd), (1, 0, 8, Vv), (1, 0, 8, St), (1, 0, 8, Af), (1, 1, 32, Mi), (1, 1, 4200, Hd), (1, 1, 1280, Bi), (1, 0, 40, Bf), (1, 0, 40, Hg), (1, 0, 40, Tm), (1, 0, 40, Bo), (1, 0, 40, Wk), (1, 0, 40, Pn), (1, 0, 40, Bs), (1, 1, 28, Mt), (1, 0, 160, Pst), (1, 0, 160, Ppl), (1, 0, 160, Psz), (1, 1, 76000, Bb), (1, 1, 5120, Pid), (1, 1, 600, So), (1, 0, 960, Fn), (1, 0, 40, Fc), (1, 1, 3200, Fl), (1, 0, 40, Fs), (1, 1, 32, Ou), (1, 1, 2400, Ly), (1, 0, 40, No), (1, 1, 20, Bu)] → fh X0 jQ [(0, th, 0), (2, pl 1, 0), (2, pl 2, 0), (2, pl 3, 0), (2, pl 4, 0), (2, pl 5, 0), (2, pl 6, 0), (2, pl 7, 0), (0, up, 0), (1, lp, 0), (2, pl 8, 0), (2, pl 9, 0), (2, pl 10, 0), (2, pl 11, 0), (2, pl 12, 0), (2, pl 13, 0), (2, pl 14, 0), (2, pl 15, 0), (2, pl 16, 0), (2, pl 17, 0), (2, pl 18, 0), (2, pl 19, 0), (2, pl 20, 0), (2, pl 21, 0), (2, pl 22, 0), (2, pl 23, 0), (2, pl 24, 0), (2, pl 25, 0), (2, pl 26, 0), (2, pl 27, 0), (2, pl 28, 0), (2, pl 29, 0), (2, pl 30, 0), (2, pl 31, 0), (0, 1, 0), (0, 0, 0), (0, sc, 0), (0, ba, 0), (0, 0, 0)] → (∀ i, i < 8 → mv_rd 32 Af i = mv_rd 32 hs_S0 i) → mv_rd 32 No 1 = nv → mo_add nv 1 = m → mv_rd 32 Bo 1 = 2 → (∀ j, j < 101 → mv_rd 32 Hd (105 + j) = g j) → sy_F 126 n fr lo 546 [(2, pl 0, 0), (0, 0, 0), (0, sec, 0), (2, pl 31, 0), (0, 0, 0), (0, 1, 0), (0, 0, 0), (0, 105, 0), (0, 0, 0)] [] w (fun ret w' => ret = [(0, 1, 0)] ∧ ∃ X0 Pc Wd Vv St Af Mi Hd Bi Bf Hg Tm Bo Wk Pn Bs Mt Pst Ppl Psz Bb Pid So Fn Fc Fl Fs Ou Ly No Bu th up lp sc ba : Nat, wh 32 pl w0 w' [(0, 0, 107, X0), (1, 1, 64, Pc), (1, 0, 64, mc_K), (1, 0, 64, Wd), (1, 0, 8, Vv), (1, 0, 8, St), (1, 0, 8, Af), (1, 1, 32, Mi), (1, 1, 4200, Hd), (1, 1, 1280, Bi), (1, 0, 40, Bf), (1, 0, 40, Hg), (1, 0, 40, Tm), (1, 0, 40, Bo), (1, 0, 40, Wk), (1, 0, 40, Pn), (1, 0, 40, Bs), (1, 1, 28, Mt), (1, 0, 160, Pst), (1, 0, 160, Ppl), (1, 0, 160, Psz), (1, 1, 76000, Bb), (1, 1, 5120, Pid), (1, 1, 600, So), (1, 0, 960, Fn), (1, 0, 40, Fc), (1, 1, 3200, Fl), (1, 0, 40, Fs), (1, 1, 32, Ou), (1, 1, 2400, Ly), (1, 0, 40, No), (1, 1, 20, Bu)] ∧ fh X0 jQ [(0, th, 0), (2, pl 1, 0), (2, pl 2, 0), (2, pl 3, 0), (2, pl 4, 0), (2, pl 5, 0), (2, pl 6, 0), (2, pl 7, 0), (0, up, 0), (1, lp, 0), (2, pl 8, 0), (2, pl 9, 0), (2, pl 10, 0), (2, pl 11, 0), (2, pl 12, 0), (2, pl 13, 0), (2, pl 14, 0), (2, pl 15, 0), (2, pl 16, 0), (2, pl 17, 0), (2, pl 18, 0), (2, pl 19, 0), (2, pl 20, 0), (2, pl 21, 0), (2, pl 22, 0), (2, pl 23, 0), (2, pl 24, 0), (2, pl 25, 0), (2, pl 26, 0), (2, pl 27, 0), (2, pl 28, 0), (2, pl 29, 0), (2, pl 30, 0), (2, pl 31, 0), (0, 2, 0), (0, 0, 0), (0, sc, 0), (0, ba, 0), (0, 0, 0)]) := by
  intro d
  induction d with
  | zero =>
    intro m nv w X0 Pc Wd Vv St Af Mi Hd Bi Bf Hg Tm Bo Wk Pn Bs Mt Pst Ppl Psz Bb Pid So Fn Fc Fl Fs Ou Ly No Bu th up lp sc ba hd hw hX0 hA hnv hm hbo hg
    have e0 : m = N := by omega
    subst e0
    refine bl_1 hw hX0 (f := hxn g m) hfr hlo hA hsec hnv hm (by omega) hbo (hx_f hg) ?_
    intro w X0 P1 W1 V1 S1 M1 T1 u1 l1 hT hw hX0
    rcases (show ip_n (mv_rd 32 T1 32) = 1 ∨ ip_n (mv_rd 32 T1 32) = 0 by have := ip_lt (mv_rd 32 T1 32); omega) with e | e
    · rw [e]
      exact bl_end hw hX0
    · have h0 := hT 0 (by decide)
      rw [show 32 + 0 = 32 from rfl] at h0
      rw [h0, hip] at e
      exact absurd e (by decide)
  | succ d ih =>
    intro m nv w X0 Pc Wd Vv St Af Mi Hd Bi Bf Hg Tm Bo Wk Pn Bs Mt Pst Ppl Psz Bb Pid So Fn Fc Fl Fs Ou Ly No Bu th up lp sc ba hd hw hX0 hA hnv hm hbo hg
    refine bl_1 hw hX0 (f := hxn g m) hfr hlo hA hsec hnv hm (by omega) hbo (hx_f hg) ?_
    intro w X0 P1 W1 V1 S1 M1 T1 u1 l1 hT hw hX0
    rcases (show ip_n (mv_rd 32 T1 32) = 1 ∨ ip_n (mv_rd 32 T1 32) = 0 by have := ip_lt (mv_rd 32 T1 32); omega) with e | e
    · rw [e]
      exact bl_end hw hX0
    · rw [e]
      refine ih (m + 1) m w X0 P1 W1 V1 S1 Af M1 (pw_4 Hd 206 m) T1 Bf Hg Tm Bo Wk Pn Bs Mt Pst Ppl Psz Bb Pid So Fn Fc Fl Fs Ou Ly (mv_wr 32 No 1 m) Bu th u1 l1 sc ba (by omega) hw hX0 hA ((mv_rd_self 32 No 1 m).trans (Nat.mod_eq_of_lt (by omega))) (by unfold mo_add; omega) hbo (fun j hj => ?_)
      rw [pw_rd, if_neg (by omega)]
      exact hg j hj
end BL
