/-! THE CLASS: takeHeader, symbolically -/
theorem gvf75_sha : tt_fl 75 56 = (1, 11, 0) := by decide +kernel
theorem gvf75_digest : tt_fl 75 53 = (1, 11, 18) := by decide +kernel
theorem gvf75_known : tt_fl 75 15 = (1, 11, 2) := by decide +kernel
theorem gvf75_knownCount : tt_fl 75 64 = (1, 11, 5) := by decide +kernel
theorem gvf75_work : tt_fl 75 104 = (2, 9, 3) := by decide +kernel
theorem gvf75_best : tt_fl 75 107 = (1, 11, 6) := by decide +kernel
theorem gvf72_makers : tt_fl 72 88 = (1, 1, 7) := by decide +kernel
theorem gvf72_parcel : tt_fl 72 16 = (1, 1, 3) := by decide +kernel
theorem gvf72_purse : tt_fl 72 99 = (1, 1, 8) := by decide +kernel
theorem gvf72_id : tt_fl 72 198 = (2, 9, 5) := by decide +kernel
theorem mci13g : tt_mci 13 = 2 := by decide +kernel
theorem mci76g : tt_mci 76 = 11 := by decide +kernel
theorem mci53g : tt_mci 53 = 8 := by decide +kernel
theorem mci73g : tt_mci 73 = 9 := by decide +kernel
theorem mci75g : tt_mci 75 = 11 := by decide +kernel
theorem cd75_0 : tt_cd 75 0 = (1, .aload_n 0, 1) := by decide +kernel
theorem cd75_1 : tt_cd 75 1 = (3, .getfield 56, 3) := by decide +kernel
theorem cd75_4 : tt_cd 75 4 = (1, .aload_n 1, 1) := by decide +kernel
theorem cd75_5 : tt_cd 75 5 = (2, .iconst 0, 1) := by decide +kernel
theorem cd75_6 : tt_cd 75 6 = (4, .bipush 105, 2) := by decide +kernel
theorem cd75_8 : tt_cd 75 8 = (1, .aload_n 0, 1) := by decide +kernel
theorem cd75_9 : tt_cd 75 9 = (3, .getfield 53, 3) := by decide +kernel
theorem cd75_12 : tt_cd 75 12 = (10, .invokevirtual 83, 3) := by decide +kernel
theorem cd75_15 : tt_cd 75 15 = (1, .aload_n 0, 1) := by decide +kernel
theorem cd75_16 : tt_cd 75 16 = (1, .aload_n 0, 1) := by decide +kernel
theorem cd75_17 : tt_cd 75 17 = (3, .getfield 53, 3) := by decide +kernel
theorem cd75_20 : tt_cd 75 20 = (2, .iconst 0, 1) := by decide +kernel
theorem cd75_21 : tt_cd 75 21 = (10, .invokevirtual 89, 3) := by decide +kernel
theorem cd75_24 : tt_cd 75 24 = (5, .ifCond .lt 5, 3) := by decide +kernel
theorem cd75_27 : tt_cd 75 27 = (2, .iconst 2, 1) := by decide +kernel
theorem cd75_28 : tt_cd 75 28 = (9, .ireturn, 1) := by decide +kernel
theorem cd75_29 : tt_cd 75 29 = (1, .aload_n 0, 1) := by decide +kernel
theorem cd75_30 : tt_cd 75 30 = (1, .aload_n 1, 1) := by decide +kernel
theorem cd75_31 : tt_cd 75 31 = (2, .iconst 0, 1) := by decide +kernel
theorem cd75_32 : tt_cd 75 32 = (10, .invokevirtual 89, 3) := by decide +kernel
theorem cd75_35 : tt_cd 75 35 = (1, .istore_n 2, 1) := by decide +kernel
theorem cd75_36 : tt_cd 75 36 = (1, .iload_n 2, 1) := by decide +kernel
theorem cd75_37 : tt_cd 75 37 = (5, .ifCond .lt 17, 3) := by decide +kernel
theorem cd75_54 : tt_cd 75 54 = (2, .iconst 0, 1) := by decide +kernel
theorem cd75_55 : tt_cd 75 55 = (9, .ireturn, 1) := by decide +kernel
theorem mL75 : tt_mL 75 = 4 := by decide +kernel
theorem ml75_83 : tt_ml 75 83 = (3, 13, 4) := by decide +kernel
theorem ml75_89 : tt_ml 75 89 = (3, 76, 2) := by decide +kernel
theorem mr75 : tt_mr 75 = 1 := by decide +kernel
section GH
variable {w : mv_T 10} {n psh pp pw ps pi pd pg pu pkn pb pid px pmk pbs ph pl XS Xu Xb Xx Xm I Dg G Id Hd Pl ckn cbs qg place mask : Nat} {s : sh_T}
/-- the purse and what it holds, in the base of the world -/
def gh_P (w : mv_T 10) (psh pp pw ps pi pd pu pkn pb pid XS Xu Xb I Dg Id ckn : Nat) : Prop := (sh_D psh pp pw ps ∧ mc_F XS pp pw ps ∧ mv_dec (mv_rd 136 XS 3) = (2, pi, 0)) ∧ (sh_O psh pp pw ps pi ∧ sh_O psh pp pw ps pd ∧ sh_O psh pp pw ps pu ∧ sh_O psh pp pw ps pkn ∧ sh_O psh pp pw ps pb ∧ sh_O psh pp pw ps pid) ∧ (pi ≠ pd ∧ pu ≠ pi ∧ pu ≠ pd ∧ pkn ≠ pi ∧ pkn ≠ pd ∧ pb ≠ pi ∧ pb ≠ pd ∧ pid ≠ pi ∧ pid ≠ pd) ∧ (mv_get 10 w pi = (1, 1, 32, I) ∧ mv_get 10 w pd = (1, 1, 32, Dg) ∧ mv_get 10 w pu = (0, 11, 19, Xu) ∧ mv_get 10 w pkn = (3, 6, 60, ckn) ∧ mv_get 10 w pb = (0, 9, 11, Xb) ∧ mv_get 10 w pid = (1, 1, 32, Id)) ∧ (mv_dec (mv_rd 136 Xu 0) = (2, psh, 0) ∧ mv_dec (mv_rd 136 Xu 18) = (2, pd, 0) ∧ mv_dec (mv_rd 136 Xu 2) = (2, pkn, 0) ∧ mv_dec (mv_rd 136 Xu 5) = (0, 1, 0) ∧ mv_rd 32 ckn 0 = pb + 1 ∧ mv_dec (mv_rd 136 Xb 5) = (2, pid, 0))
/-- the digest -/
def gh_T (Dg I G : Nat) (s : sh_T) : Nat := sh_o Dg 0 (sh_t (sh_h G 0 105 s) I).2.2.2.2 8
noncomputable def gh_w (w : mv_T 10) (pi pd I Dg G : Nat) (s : sh_T) : mv_T 10 := mv_set 10 (mv_set 10 w pi (1, 1, 32, sh_i (sh_h G 0 105 s) I)) pd (1, 1, 32, gh_T Dg I G s)
theorem gh_o {j : Nat} (hpi : pi < 1024) (hpd : pd < 1024) (hj : j < 1024) (h1 : j ≠ pi) (h2 : j ≠ pd) : mv_get 10 (gh_w w pi pd I Dg G s) j = mv_get 10 w j := by
  unfold gh_w
  rw [mv_gn hpd hj h2, mv_gn hpi hj h1]
theorem gh_d (hpd : pd < 1024) : mv_get 10 (gh_w w pi pd I Dg G s) pd = (1, 1, 32, gh_T Dg I G s) := by
  unfold gh_w
  exact mv_gs hpd
def gh_a (Id T : Nat) : Nat := bif sb_eq Id 0 T 0 32 then 2 else 0
theorem gh_take (H : gh_P w psh pp pw ps pi pd pu pkn pb pid XS Xu Xb I Dg Id ckn) (Og : sh_O psh pp pw ps pg) (g1 : pg ≠ pi) (g2 : pg ≠ pd) (cg : mv_get 10 w pg = (1, 1, qg, G)) (h105 : 105 ≤ qg) (hq : qg ≤ 2147483647) (hG : sb_eq Id 0 G 0 32 = false) : sy_C 75 n 5 115 [(2, pu, 0), (2, pg, 0)] (sh_W w psh pp pw ps XS s) [(0, gh_a Id (gh_T Dg I G s), 0)] (sh_W (gh_w w pi pd I Dg G s) psh pp pw ps XS (sh_t (sh_h G 0 105 s) I)) := by
  obtain ⟨⟨D, F, Fi⟩, ⟨Oi, Od, Ou, Okn, Ob, Oid⟩, ⟨n1, n2, n3, n4, n5, n6, n7, n8, n9⟩, ⟨ci, cd, cu, ckn', cb, cid⟩, ⟨f1, f2, f3, f4, f5, f6⟩⟩ := H
  have eG : gv_fk Id G 0 = 4294967295 := by unfold gv_fk; rw [hG]; rfl
  refine sy_Eof (us := [(255, 0, 0), (255, 0, 0)]) (sy_oks_cons (sy_ok2 Ou.1) (sy_oks_cons (sy_ok2 Og.1) sy_oks_nil)) rfl rfl ?_
  show sy_E 75 n 5 115 0 [(2, pu, 0), (2, pg, 0), (255, 0, 0), (255, 0, 0)] [] (sh_W w psh pp pw ps XS s) ([(0, gh_a Id (gh_T Dg I G s), 0)], n, (sh_W (gh_w w pi pd I Dg G s) psh pp pw ps XS (sh_t (sh_h G 0 105 s) I)), 0, 0, 5, 115)
  cases hb : sb_eq Id 0 (gh_T Dg I G s) 0 32 with
  | true =>
    have e : gv_fk Id (gh_T Dg I G s) 0 = 0 := by unfold gv_fk; rw [hb]; rfl
    have ea : gh_a Id (gh_T Dg I G s) = 2 := by unfold gh_a; rw [hb]; rfl
    rw [ea]
    refine sy_to (pc' := 28) (ls' := [(2, pu, 0), (2, pg, 0), (255, 0, 0), (255, 0, 0)]) (S' := [(0, 2, 0)]) (w' := (sh_W (gh_w w pi pd I Dg G s) psh pp pw ps XS (sh_t (sh_h G 0 105 s) I))) ?_ (sy_Ei cd75_28 mr75 rfl)
    refine sy_aldn cd75_0 rfl rfl ?_
    refine sy_gf cd75_1 gvf75_sha rfl ((sh_go D Ou).trans cu) rfl f1 ?_
    refine sy_aldn cd75_4 rfl rfl ?_
    refine sy_iconst (v := 0) cd75_5 (by decide) ?_
    refine sy_bipush (v := 105) cd75_6 (by decide) (by decide) ?_
    refine sy_aldn cd75_8 rfl rfl ?_
    refine sy_gf cd75_9 gvf75_digest rfl ((sh_go D Ou).trans cu) rfl f2 ?_
    refine sy_callG (kd := 3) (as := [(2, psh, 0), (2, pg, 0), (0, 0, 0), (0, 105, 0), (2, pd, 0)]) (S0 := []) (ret := []) cd75_12 (sy_calV (as := [(2, psh, 0), (2, pg, 0), (0, 0, 0), (0, 105, 0), (2, pd, 0)]) (S0 := []) ml75_83 rfl rfl) rfl rfl (sy_rcvm mci13g (sh_g0 D)) rfl (sy_oka (sy_oks_cons (sy_ok2 D.1) (sy_oks_cons (sy_ok2 Og.1) (sy_oks_cons (sy_ok0 (by decide)) (sy_oks_cons (sy_ok0 (by decide)) (sy_oks_cons (sy_ok2 Od.1) sy_oks_nil))))) rfl mL13) (sh_hash D F Fi Oi Od n1 ci cd (by decide) (by decide) Og cg hq (by omega)) (by decide) (by rw [mL13]; decide) ?_
    simp only [List.nil_append, List.cons_append]
    refine sy_aldn cd75_15 rfl rfl ?_
    refine sy_aldn cd75_16 rfl rfl ?_
    refine sy_gf cd75_17 gvf75_digest rfl ((sh_go D Ou).trans ((gh_o Oi.1 Od.1 Ou.1 n2 n3).trans cu)) rfl f2 ?_
    refine sy_iconst (v := 0) cd75_20 (by decide) ?_
    refine sy_callG (kd := 3) (as := [(2, pu, 0), (2, pd, 0), (0, 0, 0)]) (S0 := []) (ret := [(0, gv_fk Id (gh_T Dg I G s) 0, 0)]) cd75_21 (sy_calV (as := [(2, pu, 0), (2, pd, 0), (0, 0, 0)]) (S0 := []) ml75_89 rfl rfl) rfl rfl (sy_rcvm mci76g ((sh_go D Ou).trans ((gh_o Oi.1 Od.1 Ou.1 n2 n3).trans cu))) rfl (sy_oka (sy_oks_cons (sy_ok2 Ou.1) (sy_oks_cons (sy_ok2 Od.1) (sy_oks_cons (sy_ok0 (by decide)) sy_oks_nil))) rfl mL76) (gv_find Ou.1 Od.1 Oid.1 ((sh_go D Ou).trans ((gh_o Oi.1 Od.1 Ou.1 n2 n3).trans cu)) f4 f3 ((sh_go D Okn).trans ((gh_o Oi.1 Od.1 Okn.1 n4 n5).trans ckn')) f5 ((sh_go D Ob).trans ((gh_o Oi.1 Od.1 Ob.1 n6 n7).trans cb)) f6 ((sh_go D Oid).trans ((gh_o Oi.1 Od.1 Oid.1 n8 n9).trans cid)) ((sh_go D Od).trans (gh_d (w := w) (pi := pi) (I := I) (Dg := Dg) (G := G) (s := s) Od.1)) (by decide) (by decide)) (by decide) (by rw [mL76]; decide) ?_
    simp only [List.nil_append, List.cons_append]
    refine sy_iflt_f cd75_24 (by decide) (by rw [e]; decide) ?_
    refine sy_iconst (v := 2) cd75_27 (by decide) ?_
    exact sy_refl
  | false =>
    have e : gv_fk Id (gh_T Dg I G s) 0 = 4294967295 := by unfold gv_fk; rw [hb]; rfl
    have ea : gh_a Id (gh_T Dg I G s) = 0 := by unfold gh_a; rw [hb]; rfl
    rw [ea]
    refine sy_to (pc' := 55) (ls' := [(2, pu, 0), (2, pg, 0), (0, 4294967295, 0), (255, 0, 0)]) (S' := [(0, 0, 0)]) (w' := (sh_W (gh_w w pi pd I Dg G s) psh pp pw ps XS (sh_t (sh_h G 0 105 s) I))) ?_ (sy_Ei cd75_55 mr75 rfl)
    refine sy_aldn cd75_0 rfl rfl ?_
    refine sy_gf cd75_1 gvf75_sha rfl ((sh_go D Ou).trans cu) rfl f1 ?_
    refine sy_aldn cd75_4 rfl rfl ?_
    refine sy_iconst (v := 0) cd75_5 (by decide) ?_
    refine sy_bipush (v := 105) cd75_6 (by decide) (by decide) ?_
    refine sy_aldn cd75_8 rfl rfl ?_
    refine sy_gf cd75_9 gvf75_digest rfl ((sh_go D Ou).trans cu) rfl f2 ?_
    refine sy_callG (kd := 3) (as := [(2, psh, 0), (2, pg, 0), (0, 0, 0), (0, 105, 0), (2, pd, 0)]) (S0 := []) (ret := []) cd75_12 (sy_calV (as := [(2, psh, 0), (2, pg, 0), (0, 0, 0), (0, 105, 0), (2, pd, 0)]) (S0 := []) ml75_83 rfl rfl) rfl rfl (sy_rcvm mci13g (sh_g0 D)) rfl (sy_oka (sy_oks_cons (sy_ok2 D.1) (sy_oks_cons (sy_ok2 Og.1) (sy_oks_cons (sy_ok0 (by decide)) (sy_oks_cons (sy_ok0 (by decide)) (sy_oks_cons (sy_ok2 Od.1) sy_oks_nil))))) rfl mL13) (sh_hash D F Fi Oi Od n1 ci cd (by decide) (by decide) Og cg hq (by omega)) (by decide) (by rw [mL13]; decide) ?_
    simp only [List.nil_append, List.cons_append]
    refine sy_aldn cd75_15 rfl rfl ?_
    refine sy_aldn cd75_16 rfl rfl ?_
    refine sy_gf cd75_17 gvf75_digest rfl ((sh_go D Ou).trans ((gh_o Oi.1 Od.1 Ou.1 n2 n3).trans cu)) rfl f2 ?_
    refine sy_iconst (v := 0) cd75_20 (by decide) ?_
    refine sy_callG (kd := 3) (as := [(2, pu, 0), (2, pd, 0), (0, 0, 0)]) (S0 := []) (ret := [(0, gv_fk Id (gh_T Dg I G s) 0, 0)]) cd75_21 (sy_calV (as := [(2, pu, 0), (2, pd, 0), (0, 0, 0)]) (S0 := []) ml75_89 rfl rfl) rfl rfl (sy_rcvm mci76g ((sh_go D Ou).trans ((gh_o Oi.1 Od.1 Ou.1 n2 n3).trans cu))) rfl (sy_oka (sy_oks_cons (sy_ok2 Ou.1) (sy_oks_cons (sy_ok2 Od.1) (sy_oks_cons (sy_ok0 (by decide)) sy_oks_nil))) rfl mL76) (gv_find Ou.1 Od.1 Oid.1 ((sh_go D Ou).trans ((gh_o Oi.1 Od.1 Ou.1 n2 n3).trans cu)) f4 f3 ((sh_go D Okn).trans ((gh_o Oi.1 Od.1 Okn.1 n4 n5).trans ckn')) f5 ((sh_go D Ob).trans ((gh_o Oi.1 Od.1 Ob.1 n6 n7).trans cb)) f6 ((sh_go D Oid).trans ((gh_o Oi.1 Od.1 Oid.1 n8 n9).trans cid)) ((sh_go D Od).trans (gh_d (w := w) (pi := pi) (I := I) (Dg := Dg) (G := G) (s := s) Od.1)) (by decide) (by decide)) (by decide) (by rw [mL76]; decide) ?_
    simp only [List.nil_append, List.cons_append]
    refine sy_iflt_t (pc' := 29) cd75_24 (by decide) (by rw [e]; decide) (by rw [e]; decide) (by decide) ?_
    refine sy_aldn cd75_29 rfl rfl ?_
    refine sy_aldn cd75_30 rfl rfl ?_
    refine sy_iconst (v := 0) cd75_31 (by decide) ?_
    refine sy_callG (kd := 3) (as := [(2, pu, 0), (2, pg, 0), (0, 0, 0)]) (S0 := []) (ret := [(0, gv_fk Id G 0, 0)]) cd75_32 (sy_calV (as := [(2, pu, 0), (2, pg, 0), (0, 0, 0)]) (S0 := []) ml75_89 rfl rfl) rfl rfl (sy_rcvm mci76g ((sh_go D Ou).trans ((gh_o Oi.1 Od.1 Ou.1 n2 n3).trans cu))) rfl (sy_oka (sy_oks_cons (sy_ok2 Ou.1) (sy_oks_cons (sy_ok2 Og.1) (sy_oks_cons (sy_ok0 (by decide)) sy_oks_nil))) rfl mL76) (gv_find Ou.1 Og.1 Oid.1 ((sh_go D Ou).trans ((gh_o Oi.1 Od.1 Ou.1 n2 n3).trans cu)) f4 f3 ((sh_go D Okn).trans ((gh_o Oi.1 Od.1 Okn.1 n4 n5).trans ckn')) f5 ((sh_go D Ob).trans ((gh_o Oi.1 Od.1 Ob.1 n6 n7).trans cb)) f6 ((sh_go D Oid).trans ((gh_o Oi.1 Od.1 Oid.1 n8 n9).trans cid)) ((sh_go D Og).trans ((gh_o Oi.1 Od.1 Og.1 g1 g2).trans cg)) (by omega) hq) (by decide) (by rw [mL76]; decide) ?_
    simp only [List.nil_append, List.cons_append]
    rw [eG]
    refine sy_istn (j := 2) cd75_35 rfl rfl (sy_ok0 (by decide)) (by rw [mL75]; rfl) rfl ?_
    simp only [List.set_cons_zero, List.set_cons_succ]
    refine sy_ildn cd75_36 rfl rfl ?_
    refine sy_iflt_t (pc' := 54) cd75_37 (by decide) (by decide) (by decide) (by decide) ?_
    refine sy_iconst (v := 0) cd75_54 (by decide) ?_
    exact sy_refl
end GH
