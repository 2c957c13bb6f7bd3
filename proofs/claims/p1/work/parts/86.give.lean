/-! THE CLASS: blockAt, copyRow, copyPart, findKnown, symbolically -/
theorem gvf53_blockCount : tt_fl 53 44 = (1, 8, 3) := by decide +kernel
theorem gvf53_blocks : tt_fl 53 13 = (1, 8, 2) := by decide +kernel
theorem cd53_0 : tt_cd 53 0 = (1, .iload_n 1, 1) := by decide +kernel
theorem cd53_1 : tt_cd 53 1 = (5, .ifCond .lt 11, 3) := by decide +kernel
theorem cd53_4 : tt_cd 53 4 = (1, .iload_n 1, 1) := by decide +kernel
theorem cd53_5 : tt_cd 53 5 = (1, .aload_n 0, 1) := by decide +kernel
theorem cd53_6 : tt_cd 53 6 = (3, .getfield 44, 3) := by decide +kernel
theorem cd53_9 : tt_cd 53 9 = (5, .if_icmp .lt 7, 3) := by decide +kernel
theorem cd53_16 : tt_cd 53 16 = (1, .aload_n 0, 1) := by decide +kernel
theorem cd53_17 : tt_cd 53 17 = (3, .getfield 13, 3) := by decide +kernel
theorem cd53_20 : tt_cd 53 20 = (1, .iload_n 1, 1) := by decide +kernel
theorem cd53_21 : tt_cd 53 21 = (3, .aaload, 1) := by decide +kernel
theorem cd53_22 : tt_cd 53 22 = (9, .areturn, 1) := by decide +kernel
theorem mL53 : tt_mL 53 = 2 := by decide +kernel
theorem mr53 : tt_mr 53 = 3 := by decide +kernel
theorem cd74_0 : tt_cd 74 0 = (1, .iload_n 1, 1) := by decide +kernel
theorem cd74_1 : tt_cd 74 1 = (1, .aload_n 0, 1) := by decide +kernel
theorem cd74_2 : tt_cd 74 2 = (3, .arraylength, 1) := by decide +kernel
theorem cd74_3 : tt_cd 74 3 = (5, .if_icmp .gt 11, 3) := by decide +kernel
theorem cd74_6 : tt_cd 74 6 = (1, .iload_n 3, 1) := by decide +kernel
theorem cd74_7 : tt_cd 74 7 = (1, .aload_n 2, 1) := by decide +kernel
theorem cd74_8 : tt_cd 74 8 = (3, .arraylength, 1) := by decide +kernel
theorem cd74_9 : tt_cd 74 9 = (1, .iload_n 1, 1) := by decide +kernel
theorem cd74_10 : tt_cd 74 10 = (2, .isub, 1) := by decide +kernel
theorem cd74_11 : tt_cd 74 11 = (5, .if_icmp .le 5, 3) := by decide +kernel
theorem cd74_16 : tt_cd 74 16 = (1, .aload_n 0, 1) := by decide +kernel
theorem cd74_17 : tt_cd 74 17 = (2, .iconst 0, 1) := by decide +kernel
theorem cd74_18 : tt_cd 74 18 = (1, .aload_n 2, 1) := by decide +kernel
theorem cd74_19 : tt_cd 74 19 = (1, .iload_n 3, 1) := by decide +kernel
theorem cd74_20 : tt_cd 74 20 = (1, .iload_n 1, 1) := by decide +kernel
theorem cd74_21 : tt_cd 74 21 = (10, .invokestatic 39, 3) := by decide +kernel
theorem cd74_24 : tt_cd 74 24 = (1, .iload_n 3, 1) := by decide +kernel
theorem cd74_25 : tt_cd 74 25 = (1, .iload_n 1, 1) := by decide +kernel
theorem cd74_26 : tt_cd 74 26 = (2, .iadd, 1) := by decide +kernel
theorem cd74_27 : tt_cd 74 27 = (9, .ireturn, 1) := by decide +kernel
theorem mL74 : tt_mL 74 = 4 := by decide +kernel
theorem ml74_39 : tt_ml 74 39 = (8, 0, 5) := by decide +kernel
theorem mr74 : tt_mr 74 = 1 := by decide +kernel
theorem gvf73_header : tt_fl 73 11 = (1, 9, 4) := by decide +kernel
theorem cd73_0 : tt_cd 73 0 = (1, .iload_n 1, 1) := by decide +kernel
theorem cd73_1 : tt_cd 73 1 = (5, .ifCond .ne 15, 3) := by decide +kernel
theorem cd73_4 : tt_cd 73 4 = (1, .aload_n 0, 1) := by decide +kernel
theorem cd73_5 : tt_cd 73 5 = (3, .getfield 11, 3) := by decide +kernel
theorem cd73_8 : tt_cd 73 8 = (4, .bipush 105, 2) := by decide +kernel
theorem cd73_10 : tt_cd 73 10 = (1, .aload_n 2, 1) := by decide +kernel
theorem cd73_11 : tt_cd 73 11 = (2, .iconst 0, 1) := by decide +kernel
theorem cd73_12 : tt_cd 73 12 = (10, .invokestatic 89, 3) := by decide +kernel
theorem cd73_15 : tt_cd 73 15 = (9, .ireturn, 1) := by decide +kernel
theorem mL73 : tt_mL 73 = 5 := by decide +kernel
theorem ml73_89 : tt_ml 73 89 = (1, 74, 4) := by decide +kernel
theorem mr73 : tt_mr 73 = 1 := by decide +kernel
theorem gvf76_knownCount : tt_fl 76 64 = (1, 11, 5) := by decide +kernel
theorem gvf76_known : tt_fl 76 15 = (1, 11, 2) := by decide +kernel
theorem gvf76_id : tt_fl 76 76 = (2, 9, 5) := by decide +kernel
theorem cd76_0 : tt_cd 76 0 = (2, .iconst 0, 1) := by decide +kernel
theorem cd76_1 : tt_cd 76 1 = (1, .istore_n 3, 1) := by decide +kernel
theorem cd76_2 : tt_cd 76 2 = (1, .iload_n 3, 1) := by decide +kernel
theorem cd76_3 : tt_cd 76 3 = (1, .aload_n 0, 1) := by decide +kernel
theorem cd76_4 : tt_cd 76 4 = (3, .getfield 64, 3) := by decide +kernel
theorem cd76_7 : tt_cd 76 7 = (5, .if_icmp .ge 31, 3) := by decide +kernel
theorem cd76_10 : tt_cd 76 10 = (1, .aload_n 0, 1) := by decide +kernel
theorem cd76_11 : tt_cd 76 11 = (3, .getfield 15, 3) := by decide +kernel
theorem cd76_14 : tt_cd 76 14 = (1, .iload_n 3, 1) := by decide +kernel
theorem cd76_15 : tt_cd 76 15 = (3, .aaload, 1) := by decide +kernel
theorem cd76_16 : tt_cd 76 16 = (3, .getfield 76, 3) := by decide +kernel
theorem cd76_19 : tt_cd 76 19 = (2, .iconst 0, 1) := by decide +kernel
theorem cd76_20 : tt_cd 76 20 = (1, .aload_n 1, 1) := by decide +kernel
theorem cd76_21 : tt_cd 76 21 = (1, .iload_n 2, 1) := by decide +kernel
theorem cd76_22 : tt_cd 76 22 = (4, .bipush 32, 2) := by decide +kernel
theorem cd76_24 : tt_cd 76 24 = (10, .invokestatic 79, 3) := by decide +kernel
theorem cd76_27 : tt_cd 76 27 = (5, .ifCond .eq 5, 3) := by decide +kernel
theorem cd76_30 : tt_cd 76 30 = (1, .iload_n 3, 1) := by decide +kernel
theorem cd76_31 : tt_cd 76 31 = (9, .ireturn, 1) := by decide +kernel
theorem cd76_32 : tt_cd 76 32 = (1, .iinc 3 1, 3) := by decide +kernel
theorem cd76_35 : tt_cd 76 35 = (5, .goto (-33), 3) := by decide +kernel
theorem cd76_38 : tt_cd 76 38 = (2, .iconst (-1), 1) := by decide +kernel
theorem cd76_39 : tt_cd 76 39 = (9, .ireturn, 1) := by decide +kernel
theorem mL76 : tt_mL 76 = 4 := by decide +kernel
theorem ml76_79 : tt_ml 76 79 = (2, 35, 5) := by decide +kernel
theorem mr76 : tt_mr 76 = 1 := by decide +kernel
section GV
variable {w : mv_T 10} {n pmk pbs pb pa qa ph pl pu pkn pid pf qf Xm Xb Xu cbs ckn Hd Pl Id Fc q m : Nat}
theorem gv_tB : tt_tl[6]? = some (.object "PurseHouse$Block") := by decide +kernel
theorem gv_blockAt (hp : pmk < 1024) (h1 : mv_get 10 w pmk = (0, 8, 11, Xm)) (h2 : mv_dec (mv_rd 136 Xm 3) = (0, 1, 0)) (h3 : mv_dec (mv_rd 136 Xm 2) = (2, pbs, 0)) (h4 : mv_get 10 w pbs = (3, 6, q, cbs)) (h5 : 0 < q) (h6 : q ≤ 2147483647) (h7 : mv_rd 32 cbs 0 = pb + 1) : sy_C 53 n 0 0 [(2, pmk, 0), (0, 0, 0)] w [(2, pb, 0)] w := by
  refine sy_Eof (us := []) (sy_oks_cons (sy_ok2 hp) (sy_oks_cons (sy_ok0 (by decide)) sy_oks_nil)) rfl rfl ?_
  refine sy_to (pc' := 22) (ls' := [(2, pmk, 0), (0, 0, 0)]) (S' := [(2, pb, 0)]) (w' := w) ?_ (sy_Ea cd53_22 mr53 rfl)
  show sy_R 53 n 0 0 0 [(2, pmk, 0), (0, 0, 0)] [] w 22 [(2, pmk, 0), (0, 0, 0)] [(2, pb, 0)] w
  refine sy_ildn cd53_0 rfl rfl ?_
  refine sy_iflt_f cd53_1 (by decide) (by decide) ?_
  refine sy_ildn cd53_4 rfl rfl ?_
  refine sy_aldn cd53_5 rfl rfl ?_
  refine sy_gf cd53_6 gvf53_blockCount rfl h1 rfl h2 ?_
  refine sy_icmplt_t (pc' := 16) cd53_9 (by decide) (by decide) (by decide) (by decide) ?_
  refine sy_aldn cd53_16 rfl rfl ?_
  refine sy_gf cd53_17 gvf53_blocks rfl h1 rfl h3 ?_
  refine sy_ildn cd53_20 rfl rfl ?_
  refine sy_aald (i := 0) cd53_21 h4 gv_tB rfl h5 h6 h7 ?_
  exact sy_refl
theorem gv_copyRow (hpa : pa < 1024) (hpl : pl < 1024) (h1 : mv_get 10 w pa = (1, 1, qa, Hd)) (h2 : mv_get 10 w pl = (1, 1, q, Pl)) (h3 : m ≤ qa) (h4 : m ≤ q) (h5 : qa ≤ 2147483647) (h6 : q ≤ 2147483647) (h7 : mv_ab Hd 0 m = true) : sy_C 74 n 1 18 [(2, pa, 0), (0, m, 0), (2, pl, 0), (0, 0, 0)] w [(0, mo_add 0 m, 0)] (mv_set 10 w pl (1, 1, q, mv_cw 32 Pl Hd 0 0 m)) := by
  refine sy_Eof (us := []) (sy_oks_cons (sy_ok2 hpa) (sy_oks_cons (sy_ok0 (by omega)) (sy_oks_cons (sy_ok2 hpl) (sy_oks_cons (sy_ok0 (by decide)) sy_oks_nil)))) rfl rfl ?_
  refine sy_to (pc' := 27) (ls' := [(2, pa, 0), (0, m, 0), (2, pl, 0), (0, 0, 0)]) (S' := [(0, mo_add 0 m, 0)]) (w' := mv_set 10 w pl (1, 1, q, mv_cw 32 Pl Hd 0 0 m)) ?_ (sy_Ei cd74_27 mr74 rfl)
  show sy_R 74 n 1 18 0 [(2, pa, 0), (0, m, 0), (2, pl, 0), (0, 0, 0)] [] w 27 [(2, pa, 0), (0, m, 0), (2, pl, 0), (0, 0, 0)] [(0, mo_add 0 m, 0)] (mv_set 10 w pl (1, 1, q, mv_cw 32 Pl Hd 0 0 m))
  refine sy_ildn cd74_0 rfl rfl ?_
  refine sy_aldn cd74_1 rfl rfl ?_
  refine sy_alen cd74_2 h1 rfl ?_
  refine sy_icmpgt_f cd74_3 (by decide) h3 (by omega) ?_
  refine sy_ildn cd74_6 rfl rfl ?_
  refine sy_aldn cd74_7 rfl rfl ?_
  refine sy_alen cd74_8 h2 rfl ?_
  refine sy_ildn cd74_9 rfl rfl ?_
  refine sy_isub cd74_10 ?_
  refine sy_icmple_t (pc' := 16) cd74_11 (by decide) (by unfold mo_sub; omega) (by unfold mo_sub; omega) (by decide) ?_
  refine sy_aldn cd74_16 rfl rfl ?_
  refine sy_iconst (v := 0) cd74_17 (by decide) ?_
  refine sy_aldn cd74_18 rfl rfl ?_
  refine sy_ildn cd74_19 rfl rfl ?_
  refine sy_ildn cd74_20 rfl rfl ?_
  refine sy_call8 (as := [(2, pa, 0), (0, 0, 0), (2, pl, 0), (0, 0, 0), (0, m, 0)]) (S0 := []) cd74_21 (sy_calS (as := [(2, pa, 0), (0, 0, 0), (2, pl, 0), (0, 0, 0), (0, m, 0)]) (S0 := []) ml74_39 rfl rfl) (sy_cpb h1 h2 (by omega) (by omega) h5 h6 h7) (by decide) (by decide) ?_
  refine sy_ildn cd74_24 rfl rfl ?_
  refine sy_ildn cd74_25 rfl rfl ?_
  refine sy_iadd cd74_26 ?_
  exact sy_refl
theorem gv_copyPart (hpb : pb < 1024) (hph : ph < 1024) (hpl : pl < 1024) (h1 : mv_get 10 w pb = (0, 9, 11, Xb)) (h2 : mv_dec (mv_rd 136 Xb 4) = (2, ph, 0)) (h3 : mv_get 10 w ph = (1, 1, 105, Hd)) (h4 : mv_get 10 w pl = (1, 1, q, Pl)) (h5 : 105 ≤ q) (h6 : q ≤ 2147483647) (h7 : mv_ab Hd 0 105 = true) : sy_C 73 n 2 41 [(2, pb, 0), (0, 0, 0), (2, pl, 0)] w [(0, mo_add 0 105, 0)] (mv_set 10 w pl (1, 1, q, mv_cw 32 Pl Hd 0 0 105)) := by
  refine sy_Eof (us := [(255, 0, 0), (255, 0, 0)]) (sy_oks_cons (sy_ok2 hpb) (sy_oks_cons (sy_ok0 (by decide)) (sy_oks_cons (sy_ok2 hpl) sy_oks_nil))) rfl rfl ?_
  refine sy_to (pc' := 15) (ls' := [(2, pb, 0), (0, 0, 0), (2, pl, 0), (255, 0, 0), (255, 0, 0)]) (S' := [(0, mo_add 0 105, 0)]) (w' := mv_set 10 w pl (1, 1, q, mv_cw 32 Pl Hd 0 0 105)) ?_ (sy_Ei cd73_15 mr73 rfl)
  show sy_R 73 n 2 41 0 [(2, pb, 0), (0, 0, 0), (2, pl, 0), (255, 0, 0), (255, 0, 0)] [] w 15 [(2, pb, 0), (0, 0, 0), (2, pl, 0), (255, 0, 0), (255, 0, 0)] [(0, mo_add 0 105, 0)] (mv_set 10 w pl (1, 1, q, mv_cw 32 Pl Hd 0 0 105))
  refine sy_ildn cd73_0 rfl rfl ?_
  refine sy_ifne_f cd73_1 (by decide) rfl ?_
  refine sy_aldn cd73_4 rfl rfl ?_
  refine sy_gf cd73_5 gvf73_header rfl h1 rfl h2 ?_
  refine sy_bipush (v := 105) cd73_8 (by decide) (by decide) ?_
  refine sy_aldn cd73_10 rfl rfl ?_
  refine sy_iconst (v := 0) cd73_11 (by decide) ?_
  refine sy_callG (kd := 1) (as := [(2, ph, 0), (0, 105, 0), (2, pl, 0), (0, 0, 0)]) (S0 := []) (ret := [(0, mo_add 0 105, 0)]) cd73_12 (sy_calS (as := [(2, ph, 0), (0, 105, 0), (2, pl, 0), (0, 0, 0)]) (S0 := []) ml73_89 rfl rfl) rfl rfl rfl rfl (sy_oka (sy_oks_cons (sy_ok2 hph) (sy_oks_cons (sy_ok0 (by decide)) (sy_oks_cons (sy_ok2 hpl) (sy_oks_cons (sy_ok0 (by decide)) sy_oks_nil)))) rfl mL74) (gv_copyRow hph hpl h3 h4 (by decide) h5 (by decide) h6 h7) (by decide) (by rw [mL74]; decide) ?_
  simp only [List.nil_append, List.cons_append]
  exact sy_refl
def gv_fk (Id Fc m : Nat) : Nat := bif sb_eq Id 0 Fc m 32 then 0 else 4294967295
theorem gv_find (hpu : pu < 1024) (hpf : pf < 1024) (hpid : pid < 1024) (h1 : mv_get 10 w pu = (0, 11, 19, Xu)) (h2 : mv_dec (mv_rd 136 Xu 5) = (0, 1, 0)) (h3 : mv_dec (mv_rd 136 Xu 2) = (2, pkn, 0)) (h4 : mv_get 10 w pkn = (3, 6, 60, ckn)) (h5 : mv_rd 32 ckn 0 = pb + 1) (h6 : mv_get 10 w pb = (0, 9, 11, Xb)) (h7 : mv_dec (mv_rd 136 Xb 5) = (2, pid, 0)) (h8 : mv_get 10 w pid = (1, 1, 32, Id)) (h9 : mv_get 10 w pf = (1, 1, qf, Fc)) (h10 : m + 32 ≤ qf) (h11 : qf ≤ 2147483647) : sy_C 76 n 1 25 [(2, pu, 0), (2, pf, 0), (0, m, 0)] w [(0, gv_fk Id Fc m, 0)] w := by
  refine sy_Eof (us := [(255, 0, 0)]) (sy_oks_cons (sy_ok2 hpu) (sy_oks_cons (sy_ok2 hpf) (sy_oks_cons (sy_ok0 (by omega)) sy_oks_nil))) rfl rfl ?_
  show sy_E 76 n 1 25 0 [(2, pu, 0), (2, pf, 0), (0, m, 0), (255, 0, 0)] [] w ([(0, gv_fk Id Fc m, 0)], n, w, 0, 0, 1, 25)
  cases hb : sb_eq Id 0 Fc m 32 with
  | true =>
    have hs : sb_n Id 0 Fc m 32 = 1 := by unfold sb_n; rw [hb]; rfl
    have e : gv_fk Id Fc m = 0 := by unfold gv_fk; rw [hb]; rfl
    rw [e]
    refine sy_to (pc' := 31) (ls' := [(2, pu, 0), (2, pf, 0), (0, m, 0), (0, 0, 0)]) (S' := [(0, 0, 0)]) (w' := w) ?_ (sy_Ei cd76_31 mr76 rfl)
    refine sy_iconst (v := 0) cd76_0 (by decide) ?_
    refine sy_istn (j := 3) cd76_1 rfl rfl (sy_ok0 (by decide)) (by rw [mL76]; rfl) rfl ?_
    simp only [List.set_cons_zero, List.set_cons_succ]
    refine sy_ildn cd76_2 rfl rfl ?_
    refine sy_aldn cd76_3 rfl rfl ?_
    refine sy_gf cd76_4 gvf76_knownCount rfl h1 rfl h2 ?_
    refine sy_ge_f cd76_7 (by decide) (by decide) (by decide) ?_
    refine sy_aldn cd76_10 rfl rfl ?_
    refine sy_gf cd76_11 gvf76_known rfl h1 rfl h3 ?_
    refine sy_ildn cd76_14 rfl rfl ?_
    refine sy_aald (i := 0) cd76_15 h4 gv_tB rfl (by decide) (by decide) h5 ?_
    refine sy_gf cd76_16 gvf76_id rfl h6 rfl h7 ?_
    refine sy_iconst (v := 0) cd76_19 (by decide) ?_
    refine sy_aldn cd76_20 rfl rfl ?_
    refine sy_ildn cd76_21 rfl rfl ?_
    refine sy_bipush (v := 32) cd76_22 (by decide) (by decide) ?_
    refine sy_callG (kd := 2) (as := [(2, pid, 0), (0, 0, 0), (2, pf, 0), (0, m, 0), (0, 32, 0)]) (S0 := []) (ret := [(0, sb_n Id 0 Fc m 32, 0)]) cd76_24 (sy_calS (as := [(2, pid, 0), (0, 0, 0), (2, pf, 0), (0, m, 0), (0, 32, 0)]) (S0 := []) ml76_79 rfl rfl) rfl rfl rfl rfl (sy_oka (sy_oks_cons (sy_ok2 hpid) (sy_oks_cons (sy_ok0 (by decide)) (sy_oks_cons (sy_ok2 hpf) (sy_oks_cons (sy_ok0 (by omega)) (sy_oks_cons (sy_ok0 (by decide)) sy_oks_nil))))) rfl mL35) (sbA_run hpid hpf h8 h9 (by decide) h10 (by decide) h11) (by decide) (by rw [mL35]; decide) ?_
    simp only [List.nil_append, List.cons_append]
    refine sy_ifeq_f cd76_27 (by decide) (by rw [hs]; decide) (by rw [hs]; decide) ?_
    refine sy_ildn cd76_30 rfl rfl ?_
    exact sy_refl
  | false =>
    have hs : sb_n Id 0 Fc m 32 = 0 := by unfold sb_n; rw [hb]; rfl
    have e : gv_fk Id Fc m = 4294967295 := by unfold gv_fk; rw [hb]; rfl
    rw [e]
    refine sy_to (pc' := 39) (ls' := [(2, pu, 0), (2, pf, 0), (0, m, 0), (255, 0, 0)]) (S' := [(0, 4294967295, 0)]) (w' := w) ?_ (sy_Ei cd76_39 mr76 rfl)
    refine sy_iconst (v := 0) cd76_0 (by decide) ?_
    refine sy_istn (j := 3) cd76_1 rfl rfl (sy_ok0 (by decide)) (by rw [mL76]; rfl) rfl ?_
    simp only [List.set_cons_zero, List.set_cons_succ]
    refine sy_ildn cd76_2 rfl rfl ?_
    refine sy_aldn cd76_3 rfl rfl ?_
    refine sy_gf cd76_4 gvf76_knownCount rfl h1 rfl h2 ?_
    refine sy_ge_f cd76_7 (by decide) (by decide) (by decide) ?_
    refine sy_aldn cd76_10 rfl rfl ?_
    refine sy_gf cd76_11 gvf76_known rfl h1 rfl h3 ?_
    refine sy_ildn cd76_14 rfl rfl ?_
    refine sy_aald (i := 0) cd76_15 h4 gv_tB rfl (by decide) (by decide) h5 ?_
    refine sy_gf cd76_16 gvf76_id rfl h6 rfl h7 ?_
    refine sy_iconst (v := 0) cd76_19 (by decide) ?_
    refine sy_aldn cd76_20 rfl rfl ?_
    refine sy_ildn cd76_21 rfl rfl ?_
    refine sy_bipush (v := 32) cd76_22 (by decide) (by decide) ?_
    refine sy_callG (kd := 2) (as := [(2, pid, 0), (0, 0, 0), (2, pf, 0), (0, m, 0), (0, 32, 0)]) (S0 := []) (ret := [(0, sb_n Id 0 Fc m 32, 0)]) cd76_24 (sy_calS (as := [(2, pid, 0), (0, 0, 0), (2, pf, 0), (0, m, 0), (0, 32, 0)]) (S0 := []) ml76_79 rfl rfl) rfl rfl rfl rfl (sy_oka (sy_oks_cons (sy_ok2 hpid) (sy_oks_cons (sy_ok0 (by decide)) (sy_oks_cons (sy_ok2 hpf) (sy_oks_cons (sy_ok0 (by omega)) (sy_oks_cons (sy_ok0 (by decide)) sy_oks_nil))))) rfl mL35) (sbA_run hpid hpf h8 h9 (by decide) h10 (by decide) h11) (by decide) (by rw [mL35]; decide) ?_
    simp only [List.nil_append, List.cons_append]
    refine sy_ifeq_t (pc' := 32) cd76_27 (by decide) hs (by decide) ?_
    refine sy_iinc (c := 1) cd76_32 rfl (by decide) (by rw [mL76]; rfl) rfl ?_
    simp only [List.set_cons_zero, List.set_cons_succ]
    refine sy_goto (pc' := 2) cd76_35 (by decide) (by decide) ?_
    rw [mo_inc (by decide)]
    refine sy_ildn cd76_2 rfl rfl ?_
    refine sy_aldn cd76_3 rfl rfl ?_
    refine sy_gf cd76_4 gvf76_knownCount rfl h1 rfl h2 ?_
    refine sy_ge_t (pc' := 38) cd76_7 (by decide) (by decide) (by decide) (by decide) ?_
    refine sy_iconst (v := 4294967295) cd76_38 (by decide) ?_
    exact sy_weak (sy_lw_ok (by simp only [sy_lw]; simp))
end GV
