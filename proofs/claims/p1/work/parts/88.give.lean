/-! THE CLASS: give of a header with a spoiled byte, symbolically -/
theorem cd72_0 : tt_cd 72 0 = (1, .aload_n 0, 1) := by decide +kernel
theorem cd72_1 : tt_cd 72 1 = (3, .getfield 88, 3) := by decide +kernel
theorem cd72_4 : tt_cd 72 4 = (1, .iload_n 1, 1) := by decide +kernel
theorem cd72_5 : tt_cd 72 5 = (10, .invokevirtual 92, 3) := by decide +kernel
theorem cd72_8 : tt_cd 72 8 = (1, .astore 5, 2) := by decide +kernel
theorem cd72_10 : tt_cd 72 10 = (1, .aload 5, 2) := by decide +kernel
theorem cd72_12 : tt_cd 72 12 = (5, .ifnull 25, 3) := by decide +kernel
theorem cd72_15 : tt_cd 72 15 = (1, .iload_n 2, 1) := by decide +kernel
theorem cd72_16 : tt_cd 72 16 = (5, .ifCond .lt 21, 3) := by decide +kernel
theorem cd72_19 : tt_cd 72 19 = (1, .iload_n 2, 1) := by decide +kernel
theorem cd72_20 : tt_cd 72 20 = (2, .iconst 2, 1) := by decide +kernel
theorem cd72_21 : tt_cd 72 21 = (5, .if_icmp .gt 16, 3) := by decide +kernel
theorem cd72_24 : tt_cd 72 24 = (1, .iload 4, 2) := by decide +kernel
theorem cd72_26 : tt_cd 72 26 = (5, .ifCond .lt 11, 3) := by decide +kernel
theorem cd72_29 : tt_cd 72 29 = (1, .iload 4, 2) := by decide +kernel
theorem cd72_31 : tt_cd 72 31 = (4, .sipush 255, 3) := by decide +kernel
theorem cd72_34 : tt_cd 72 34 = (5, .if_icmp .le 5, 3) := by decide +kernel
theorem cd72_39 : tt_cd 72 39 = (1, .aload 5, 2) := by decide +kernel
theorem cd72_41 : tt_cd 72 41 = (1, .iload_n 2, 1) := by decide +kernel
theorem cd72_42 : tt_cd 72 42 = (1, .aload_n 0, 1) := by decide +kernel
theorem cd72_43 : tt_cd 72 43 = (3, .getfield 16, 3) := by decide +kernel
theorem cd72_46 : tt_cd 72 46 = (10, .invokevirtual 227, 3) := by decide +kernel
theorem cd72_49 : tt_cd 72 49 = (1, .istore 6, 2) := by decide +kernel
theorem cd72_51 : tt_cd 72 51 = (1, .iload 4, 2) := by decide +kernel
theorem cd72_53 : tt_cd 72 53 = (5, .ifCond .le 31, 3) := by decide +kernel
theorem cd72_56 : tt_cd 72 56 = (1, .iload_n 3, 1) := by decide +kernel
theorem cd72_57 : tt_cd 72 57 = (5, .ifCond .lt 9, 3) := by decide +kernel
theorem cd72_60 : tt_cd 72 60 = (1, .iload_n 3, 1) := by decide +kernel
theorem cd72_61 : tt_cd 72 61 = (1, .iload 6, 2) := by decide +kernel
theorem cd72_63 : tt_cd 72 63 = (5, .if_icmp .lt 5, 3) := by decide +kernel
theorem cd72_68 : tt_cd 72 68 = (1, .aload_n 0, 1) := by decide +kernel
theorem cd72_69 : tt_cd 72 69 = (3, .getfield 16, 3) := by decide +kernel
theorem cd72_72 : tt_cd 72 72 = (1, .iload_n 3, 1) := by decide +kernel
theorem cd72_73 : tt_cd 72 73 = (1, .aload_n 0, 1) := by decide +kernel
theorem cd72_74 : tt_cd 72 74 = (3, .getfield 16, 3) := by decide +kernel
theorem cd72_77 : tt_cd 72 77 = (1, .iload_n 3, 1) := by decide +kernel
theorem cd72_78 : tt_cd 72 78 = (3, .baload, 1) := by decide +kernel
theorem cd72_79 : tt_cd 72 79 = (1, .iload 4, 2) := by decide +kernel
theorem cd72_81 : tt_cd 72 81 = (2, .ixor, 1) := by decide +kernel
theorem cd72_82 : tt_cd 72 82 = (2, .i2b, 1) := by decide +kernel
theorem cd72_83 : tt_cd 72 83 = (6, .bastore, 1) := by decide +kernel
theorem cd72_84 : tt_cd 72 84 = (1, .iload_n 2, 1) := by decide +kernel
theorem cd72_85 : tt_cd 72 85 = (5, .ifCond .ne 15, 3) := by decide +kernel
theorem cd72_88 : tt_cd 72 88 = (1, .aload_n 0, 1) := by decide +kernel
theorem cd72_89 : tt_cd 72 89 = (3, .getfield 99, 3) := by decide +kernel
theorem cd72_92 : tt_cd 72 92 = (1, .aload_n 0, 1) := by decide +kernel
theorem cd72_93 : tt_cd 72 93 = (3, .getfield 16, 3) := by decide +kernel
theorem cd72_96 : tt_cd 72 96 = (10, .invokevirtual 231, 3) := by decide +kernel
theorem cd72_99 : tt_cd 72 99 = (9, .ireturn, 1) := by decide +kernel
theorem ml72_92 : tt_ml 72 92 = (3, 53, 1) := by decide +kernel
theorem ml72_227 : tt_ml 72 227 = (3, 73, 2) := by decide +kernel
theorem ml72_231 : tt_ml 72 231 = (3, 75, 1) := by decide +kernel
theorem mr72 : tt_mr 72 = 1 := by decide +kernel
section GI
variable {w : mv_T 10} {n psh pp pw ps pi pd pu pkn pb pid px pmk pbs ph pl XS Xu Xb Xx Xm I Dg Id Hd Pl ckn cbs q place mask : Nat} {s : sh_T}
/-- the parcel with the spoiled header -/
def gh_p (Pl Hd place mask : Nat) : Nat := (mv_wr 32 (mv_cw 32 Pl Hd 0 0 105) place (mn_b (mn_b (mo_xor (mv_rd 32 (mv_cw 32 Pl Hd 0 0 105) place) mask))))
theorem gh_Pset {x : mv_C} (H : gh_P w psh pp pw ps pi pd pu pkn pb pid XS Xu Xb I Dg Id ckn) (hl : pl < 1024) (h : pi ≠ pl ∧ pd ≠ pl ∧ pu ≠ pl ∧ pkn ≠ pl ∧ pb ≠ pl ∧ pid ≠ pl) : gh_P (mv_set 10 w pl x) psh pp pw ps pi pd pu pkn pb pid XS Xu Xb I Dg Id ckn := by
  obtain ⟨H1, ⟨Oi, Od, Ou, Okn, Ob, Oid⟩, H3, ⟨c1, c2, c3, c4, c5, c6⟩, H5⟩ := H
  obtain ⟨e1, e2, e3, e4, e5, e6⟩ := h
  exact ⟨H1, ⟨Oi, Od, Ou, Okn, Ob, Oid⟩, H3, ⟨(mv_gn hl Oi.1 e1).trans c1, (mv_gn hl Od.1 e2).trans c2, (mv_gn hl Ou.1 e3).trans c3, (mv_gn hl Okn.1 e4).trans c4, (mv_gn hl Ob.1 e5).trans c5, (mv_gn hl Oid.1 e6).trans c6⟩, H5⟩
/-- what give looks at beside the purse -/
def gh_X (w : mv_T 10) (psh pp pw ps px pmk pbs ph pl pu pb Xx Xm Xb cbs Hd Pl q : Nat) : Prop := (sh_O psh pp pw ps px ∧ sh_O psh pp pw ps pmk ∧ sh_O psh pp pw ps pbs ∧ sh_O psh pp pw ps ph ∧ sh_O psh pp pw ps pl) ∧ (px ≠ pl) ∧ (mv_get 10 w px = (0, 1, 13, Xx) ∧ mv_get 10 w pmk = (0, 8, 11, Xm) ∧ mv_get 10 w pbs = (3, 6, q, cbs) ∧ mv_get 10 w ph = (1, 1, 105, Hd) ∧ mv_get 10 w pl = (1, 1, 2048, Pl)) ∧ (mv_dec (mv_rd 136 Xx 7) = (2, pmk, 0) ∧ mv_dec (mv_rd 136 Xx 3) = (2, pl, 0) ∧ mv_dec (mv_rd 136 Xx 8) = (2, pu, 0) ∧ mv_dec (mv_rd 136 Xm 3) = (0, 1, 0) ∧ mv_dec (mv_rd 136 Xm 2) = (2, pbs, 0) ∧ mv_rd 32 cbs 0 = pb + 1 ∧ mv_dec (mv_rd 136 Xb 4) = (2, ph, 0)) ∧ (0 < q ∧ q ≤ 2147483647 ∧ mv_ab Hd 0 105 = true)
theorem gh_cp (D : sh_D psh pp pw ps) (Ob : sh_O psh pp pw ps pb) (Oh : sh_O psh pp pw ps ph) (Ol : sh_O psh pp pw ps pl) (cb : mv_get 10 w pb = (0, 9, 11, Xb)) (fb : mv_dec (mv_rd 136 Xb 4) = (2, ph, 0)) (ch : mv_get 10 w ph = (1, 1, 105, Hd)) (cl : mv_get 10 w pl = (1, 1, 2048, Pl)) (hab : mv_ab Hd 0 105 = true) : sy_C 73 n 2 41 [(2, pb, 0), (0, 0, 0), (2, pl, 0)] (sh_W w psh pp pw ps XS s) [(0, mo_add 0 105, 0)] (sh_W (mv_set 10 w pl (1, 1, 2048, (mv_cw 32 Pl Hd 0 0 105))) psh pp pw ps XS s) := by
  have h := gv_copyPart (n := n) (w := (sh_W w psh pp pw ps XS s)) Ob.1 Oh.1 Ol.1 ((sh_go D Ob).trans cb) fb ((sh_go D Oh).trans ch) ((sh_go D Ol).trans cl) (by decide) (by decide) hab
  unfold sh_W at h ⊢
  rw [sh_so D Ol] at h
  exact h
theorem gh_give (H : gh_P w psh pp pw ps pi pd pu pkn pb pid XS Xu Xb I Dg Id ckn) (HX : gh_X w psh pp pw ps px pmk pbs ph pl pu pb Xx Xm Xb cbs Hd Pl q) (hd : pi ≠ pl ∧ pd ≠ pl ∧ pu ≠ pl ∧ pkn ≠ pl ∧ pb ≠ pl ∧ pid ≠ pl) (hp : place < 105) (hm1 : 0 < mask) (hm2 : mask ≤ 255) (hG : sb_eq Id 0 (gh_p Pl Hd place mask) 0 32 = false) : sy_C 72 n 6 138 [(2, px, 0), (0, 0, 0), (0, 0, 0), (0, place, 0), (0, mask, 0)] (sh_W w psh pp pw ps XS s) [(0, gh_a Id (gh_T Dg I (gh_p Pl Hd place mask) s), 0)] (sh_W (gh_w (mv_set 10 w pl (1, 1, 2048, gh_p Pl Hd place mask)) pi pd I Dg (gh_p Pl Hd place mask) s) psh pp pw ps XS (sh_t (sh_h (gh_p Pl Hd place mask) 0 105 s) I)) := by
  have H0 := H
  obtain ⟨⟨D, F, Fi⟩, ⟨Oi, Od, Ou, Okn, Ob, Oid⟩, -, ⟨-, -, cu, -, cb, -⟩, -⟩ := H
  obtain ⟨⟨Ox, Om, Obs, Oh, Ol⟩, dx, ⟨cx, cm, cbs', ch, cl⟩, ⟨x1, x2, x3, x4, x5, x6, x7⟩, q1, q2, q3⟩ := HX
  refine sy_Eof (us := [(255, 0, 0), (255, 0, 0), (255, 0, 0)]) (sy_oks_cons (sy_ok2 Ox.1) (sy_oks_cons (sy_ok0 (by decide)) (sy_oks_cons (sy_ok0 (by decide)) (sy_oks_cons (sy_ok0 (by omega)) (sy_oks_cons (sy_ok0 (by omega)) sy_oks_nil))))) rfl rfl ?_
  refine sy_to (pc' := 99) (ls' := [(2, px, 0), (0, 0, 0), (0, 0, 0), (0, place, 0), (0, mask, 0), (2, pb, 0), (0, mo_add 0 105, 0), (255, 0, 0)]) (S' := [(0, gh_a Id (gh_T Dg I (gh_p Pl Hd place mask) s), 0)]) (w' := (sh_W (gh_w (mv_set 10 w pl (1, 1, 2048, gh_p Pl Hd place mask)) pi pd I Dg (gh_p Pl Hd place mask) s) psh pp pw ps XS (sh_t (sh_h (gh_p Pl Hd place mask) 0 105 s) I))) ?_ (sy_Ei cd72_99 mr72 rfl)
  show sy_R 72 n 6 138 0 [(2, px, 0), (0, 0, 0), (0, 0, 0), (0, place, 0), (0, mask, 0), (255, 0, 0), (255, 0, 0), (255, 0, 0)] [] (sh_W w psh pp pw ps XS s) 99 [(2, px, 0), (0, 0, 0), (0, 0, 0), (0, place, 0), (0, mask, 0), (2, pb, 0), (0, mo_add 0 105, 0), (255, 0, 0)] [(0, gh_a Id (gh_T Dg I (gh_p Pl Hd place mask) s), 0)] (sh_W (gh_w (mv_set 10 w pl (1, 1, 2048, gh_p Pl Hd place mask)) pi pd I Dg (gh_p Pl Hd place mask) s) psh pp pw ps XS (sh_t (sh_h (gh_p Pl Hd place mask) 0 105 s) I))
  refine sy_aldn cd72_0 rfl rfl ?_
  refine sy_gf cd72_1 gvf72_makers rfl ((sh_go D Ox).trans cx) rfl x1 ?_
  refine sy_ildn cd72_4 rfl rfl ?_
  refine sy_callG (kd := 3) (as := [(2, pmk, 0), (0, 0, 0)]) (S0 := []) (ret := [(2, pb, 0)]) cd72_5 (sy_calV (as := [(2, pmk, 0), (0, 0, 0)]) (S0 := []) ml72_92 rfl rfl) rfl rfl (sy_rcvm mci53g ((sh_go D Om).trans cm)) rfl (sy_oka (sy_oks_cons (sy_ok2 Om.1) (sy_oks_cons (sy_ok0 (by decide)) sy_oks_nil)) rfl mL53) (gv_blockAt Om.1 ((sh_go D Om).trans cm) x4 x5 ((sh_go D Obs).trans cbs') q1 q2 x6) (by decide) (by rw [mL53]; decide) ?_
  simp only [List.nil_append, List.cons_append]
  refine sy_ast cd72_8 rfl (sy_ok2 Ob.1) (by rw [mL72]; rfl) rfl ?_
  simp only [List.set_cons_zero, List.set_cons_succ]
  refine sy_ald cd72_10 rfl rfl ?_
  refine sy_nul_f cd72_12 (by decide) ?_
  refine sy_ildn cd72_15 rfl rfl ?_
  refine sy_iflt_f cd72_16 (by decide) (by decide) ?_
  refine sy_ildn cd72_19 rfl rfl ?_
  refine sy_iconst (v := 2) cd72_20 (by decide) ?_
  refine sy_icmpgt_f cd72_21 (by decide) (by decide) (by decide) ?_
  refine sy_ild cd72_24 rfl rfl ?_
  refine sy_iflt_f cd72_26 (by decide) (by omega) ?_
  refine sy_ild cd72_29 rfl rfl ?_
  refine sy_sipush (v := 255) cd72_31 (by decide) (by decide) ?_
  refine sy_icmple_t (pc' := 39) cd72_34 (by decide) hm2 (by decide) (by decide) ?_
  refine sy_ald cd72_39 rfl rfl ?_
  refine sy_ildn cd72_41 rfl rfl ?_
  refine sy_aldn cd72_42 rfl rfl ?_
  refine sy_gf cd72_43 gvf72_parcel rfl ((sh_go D Ox).trans cx) rfl x2 ?_
  refine sy_callG (kd := 3) (as := [(2, pb, 0), (0, 0, 0), (2, pl, 0)]) (S0 := []) (ret := [(0, mo_add 0 105, 0)]) cd72_46 (sy_calV (as := [(2, pb, 0), (0, 0, 0), (2, pl, 0)]) (S0 := []) ml72_227 rfl rfl) rfl rfl (sy_rcvm mci73g ((sh_go D Ob).trans cb)) rfl (sy_oka (sy_oks_cons (sy_ok2 Ob.1) (sy_oks_cons (sy_ok0 (by decide)) (sy_oks_cons (sy_ok2 Ol.1) sy_oks_nil))) rfl mL73) (gh_cp D Ob Oh Ol cb x7 ch cl q3) (by decide) (by rw [mL73]; decide) ?_
  simp only [List.nil_append, List.cons_append]
  refine sy_ist cd72_49 rfl (sy_ok0 (mo_add_lt _ _)) (by rw [mL72]; rfl) rfl ?_
  simp only [List.set_cons_zero, List.set_cons_succ]
  refine sy_ild cd72_51 rfl rfl ?_
  refine sy_le_f cd72_53 (by decide) (by omega) (by omega) ?_
  refine sy_ildn cd72_56 rfl rfl ?_
  refine sy_iflt_f cd72_57 (by decide) (by omega) ?_
  refine sy_ildn cd72_60 rfl rfl ?_
  refine sy_ild cd72_61 rfl rfl ?_
  refine sy_icmplt_t (pc' := 68) cd72_63 (by decide) (by unfold mo_add; omega) (by unfold mo_add; omega) (by decide) ?_
  refine sy_aldn cd72_68 rfl rfl ?_
  refine sy_gf cd72_69 gvf72_parcel rfl ((sh_go D Ox).trans ((mv_gn Ol.1 Ox.1 dx).trans cx)) rfl x2 ?_
  refine sy_ildn cd72_72 rfl rfl ?_
  refine sy_aldn cd72_73 rfl rfl ?_
  refine sy_gf cd72_74 gvf72_parcel rfl ((sh_go D Ox).trans ((mv_gn Ol.1 Ox.1 dx).trans cx)) rfl x2 ?_
  refine sy_ildn cd72_77 rfl rfl ?_
  refine sy_bal (i := place) cd72_78 ((sh_go D Ol).trans (mv_gs Ol.1)) rfl (by omega) (by decide) ?_
  refine sy_ild cd72_79 rfl rfl ?_
  refine sy_ixor cd72_81 ?_
  refine sy_i2b cd72_82 ?_
  refine sy_bas (w' := sh_W (mv_set 10 w pl (1, 1, 2048, gh_p Pl Hd place mask)) psh pp pw ps XS s) (i := place) cd72_83 ((sh_go D Ol).trans (mv_gs Ol.1)) rfl (by omega) (by decide) (by unfold sh_W; rw [sh_so D Ol, mv_ss Ol.1]; rfl) ?_
  refine sy_ildn cd72_84 rfl rfl ?_
  refine sy_ifne_f cd72_85 (by decide) rfl ?_
  refine sy_aldn cd72_88 rfl rfl ?_
  refine sy_gf cd72_89 gvf72_purse rfl ((sh_go D Ox).trans ((mv_gn Ol.1 Ox.1 dx).trans cx)) rfl x3 ?_
  refine sy_aldn cd72_92 rfl rfl ?_
  refine sy_gf cd72_93 gvf72_parcel rfl ((sh_go D Ox).trans ((mv_gn Ol.1 Ox.1 dx).trans cx)) rfl x2 ?_
  refine sy_callG (kd := 3) (as := [(2, pu, 0), (2, pl, 0)]) (S0 := []) (ret := [(0, gh_a Id (gh_T Dg I (gh_p Pl Hd place mask) s), 0)]) cd72_96 (sy_calV (as := [(2, pu, 0), (2, pl, 0)]) (S0 := []) ml72_231 rfl rfl) rfl rfl (sy_rcvm mci75g ((sh_go D Ou).trans ((mv_gn Ol.1 Ou.1 hd.2.2.1).trans cu))) rfl (sy_oka (sy_oks_cons (sy_ok2 Ou.1) (sy_oks_cons (sy_ok2 Ol.1) sy_oks_nil)) rfl mL75) (gh_take (gh_Pset H0 Ol.1 hd) Ol (Ne.symm hd.1) (Ne.symm hd.2.1) (mv_gs Ol.1) (by decide) (by decide) hG) (by decide) (by rw [mL75]; decide) ?_
  simp only [List.nil_append, List.cons_append]
  exact sy_refl
end GI
