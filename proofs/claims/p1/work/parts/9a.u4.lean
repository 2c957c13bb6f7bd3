/-! THE CLASS'S MINE, IV -/
theorem xc39_0 : tt_cd 39 0 = (1, .aload_n 1, 1) := by decide +kernel
theorem xc39_1 : tt_cd 39 1 = (2, .iconst 0, 1) := by decide +kernel
theorem xc39_2 : tt_cd 39 2 = (1, .aload_n 0, 1) := by decide +kernel
theorem xc39_3 : tt_cd 39 3 = (3, .getfield 9, 3) := by decide +kernel
theorem xf39_9 : tt_fl 39 9 = (1, 2, 0) := by decide +kernel
theorem xc39_6 : tt_cd 39 6 = (2, .iconst 0, 1) := by decide +kernel
theorem xc39_7 : tt_cd 39 7 = (4, .bipush 8, 2) := by decide +kernel
theorem xc39_9 : tt_cd 39 9 = (10, .invokestatic 43, 3) := by decide +kernel
theorem xm39_43 : tt_ml 39 43 = (8, 0, 5) := by decide +kernel
theorem xc39_12 : tt_cd 39 12 = (1, .aload_n 0, 1) := by decide +kernel
theorem xc39_13 : tt_cd 39 13 = (2, .iconst 0, 1) := by decide +kernel
theorem xc39_14 : tt_cd 39 14 = (6, .putfield 49, 3) := by decide +kernel
theorem xf39_49 : tt_fl 39 49 = (1, 2, 11) := by decide +kernel
theorem xh39_49 : (!(tt_ffin 2 11) || (tt_ini 39 && Nat.beq 1 1)) = true := by decide +kernel
theorem xt2_11 : tt_fty 2 11 = .int := by decide +kernel
theorem xc39_17 : tt_cd 39 17 = (1, .aload_n 0, 1) := by decide +kernel
theorem xc39_18 : tt_cd 39 18 = (4, .bipush 64, 2) := by decide +kernel
theorem xc39_20 : tt_cd 39 20 = (6, .putfield 53, 3) := by decide +kernel
theorem xf39_53 : tt_fl 39 53 = (1, 2, 12) := by decide +kernel
theorem xh39_53 : (!(tt_ffin 2 12) || (tt_ini 39 && Nat.beq 1 1)) = true := by decide +kernel
theorem xt2_12 : tt_fty 2 12 = .int := by decide +kernel
theorem xc39_23 : tt_cd 39 23 = (9, .return_, 1) := by decide +kernel
theorem xr39 : tt_mr 39 = 0 := by decide +kernel
theorem xc38_0 : tt_cd 38 0 = (2, .iconst 0, 1) := by decide +kernel
theorem xc38_1 : tt_cd 38 1 = (1, .istore_n 3, 1) := by decide +kernel
theorem xl38 : tt_mL 38 = 4 := by decide +kernel
theorem xc38_2 : tt_cd 38 2 = (1, .iload_n 3, 1) := by decide +kernel
theorem xc38_3 : tt_cd 38 3 = (4, .bipush 64, 2) := by decide +kernel
theorem xc38_5 : tt_cd 38 5 = (5, .if_icmp .ge 34, 3) := by decide +kernel
theorem xc38_8 : tt_cd 38 8 = (1, .aload_n 0, 1) := by decide +kernel
theorem xc38_9 : tt_cd 38 9 = (3, .getfield 18, 3) := by decide +kernel
theorem xf38_18 : tt_fl 38 18 = (1, 2, 2) := by decide +kernel
theorem xc38_12 : tt_cd 38 12 = (1, .iload_n 3, 1) := by decide +kernel
theorem xc38_13 : tt_cd 38 13 = (1, .iload_n 3, 1) := by decide +kernel
theorem xc38_14 : tt_cd 38 14 = (4, .bipush 32, 2) := by decide +kernel
theorem xc38_16 : tt_cd 38 16 = (5, .if_icmp .ge 14, 3) := by decide +kernel
theorem xc38_19 : tt_cd 38 19 = (1, .aload_n 0, 1) := by decide +kernel
theorem xc38_20 : tt_cd 38 20 = (3, .getfield 25, 3) := by decide +kernel
theorem xf38_25 : tt_fl 38 25 = (1, 2, 4) := by decide +kernel
theorem xc38_23 : tt_cd 38 23 = (1, .iload_n 3, 1) := by decide +kernel
theorem xc38_24 : tt_cd 38 24 = (3, .baload, 1) := by decide +kernel
theorem xc38_25 : tt_cd 38 25 = (1, .iload_n 1, 1) := by decide +kernel
theorem xc38_26 : tt_cd 38 26 = (2, .ixor, 1) := by decide +kernel
theorem xc38_27 : tt_cd 38 27 = (5, .goto 4, 3) := by decide +kernel
theorem xc38_31 : tt_cd 38 31 = (2, .i2b, 1) := by decide +kernel
theorem xc38_32 : tt_cd 38 32 = (6, .bastore, 1) := by decide +kernel
theorem xc38_33 : tt_cd 38 33 = (1, .iinc 3 1, 3) := by decide +kernel
theorem xc38_36 : tt_cd 38 36 = (5, .goto (-34), 3) := by decide +kernel
theorem xc38_30 : tt_cd 38 30 = (1, .iload_n 1, 1) := by decide +kernel
theorem xc38_39 : tt_cd 38 39 = (7, .getstatic 40, 3) := by decide +kernel
theorem xz38_40 : tt_sl 38 40 = 2 := by decide +kernel
theorem xc38_42 : tt_cd 38 42 = (2, .iconst 0, 1) := by decide +kernel
theorem xc38_43 : tt_cd 38 43 = (1, .aload_n 0, 1) := by decide +kernel
theorem xc38_44 : tt_cd 38 44 = (3, .getfield 9, 3) := by decide +kernel
theorem xf38_9 : tt_fl 38 9 = (1, 2, 0) := by decide +kernel
theorem xc38_47 : tt_cd 38 47 = (2, .iconst 0, 1) := by decide +kernel
theorem xc38_48 : tt_cd 38 48 = (4, .bipush 8, 2) := by decide +kernel
theorem xc38_50 : tt_cd 38 50 = (10, .invokestatic 43, 3) := by decide +kernel
theorem xm38_43 : tt_ml 38 43 = (8, 0, 5) := by decide +kernel
theorem xs1 : ((tt_stt 1).1, (tt_stt 1).2.1) = (0, 8) := by decide +kernel
theorem xc38_53 : tt_cd 38 53 = (1, .aload_n 0, 1) := by decide +kernel
theorem xc38_54 : tt_cd 38 54 = (10, .invokevirtual 56, 3) := by decide +kernel
theorem xm38_56 : tt_ml 38 56 = (3, 16, 0) := by decide +kernel
theorem xi16 : tt_mci 16 = 2 := by decide +kernel
theorem xl16 : tt_mL 16 = 14 := by decide +kernel
theorem xc38_57 : tt_cd 38 57 = (1, .aload_n 0, 1) := by decide +kernel
theorem xc38_58 : tt_cd 38 58 = (3, .getfield 9, 3) := by decide +kernel
theorem xc38_61 : tt_cd 38 61 = (2, .iconst 0, 1) := by decide +kernel
theorem xc38_62 : tt_cd 38 62 = (1, .aload_n 2, 1) := by decide +kernel
theorem xc38_63 : tt_cd 38 63 = (2, .iconst 0, 1) := by decide +kernel
theorem xc38_64 : tt_cd 38 64 = (4, .bipush 8, 2) := by decide +kernel
theorem xc38_66 : tt_cd 38 66 = (10, .invokestatic 43, 3) := by decide +kernel
theorem xc38_69 : tt_cd 38 69 = (9, .return_, 1) := by decide +kernel
theorem xr38 : tt_mr 38 = 0 := by decide +kernel
section EH
variable {n : Nat} {pl : Nat → Nat} {w0 w : mv_T 10} {cs : List mv_C} {vs : List mv_V} {X : Nat} {s : sh_T}
theorem we_put {jf qf C fa nn : Nat} (hw : wh 30 pl w0 w cs) (c10 : cs[10]? = some (0, 2, 13, X)) (c11 : cs[11]? = some (1, 1, 64, s.2.2.1)) (c12 : cs[12]? = some (1, 0, 64, s.2.2.2.1)) (c13 : cs[13]? = some (1, 0, 8, s.2.2.2.2)) (hX : fh X kS vs) (v0 : vs[0]? = some (2, pl 11, 0)) (v1 : vs[1]? = some (2, pl 12, 0)) (v2 : vs[2]? = some (2, pl 13, 0)) (v4 : vs[4]? = some (0, s.1, 0)) (v5 : vs[5]? = some (0, s.2.1, 0)) (hs : s.1 < 64) (hl : s.2.1 < 4294967296) (hjf : jf < 10 ∨ 13 < jf) (hjf2 : jf < 30) (cf : cs[jf]? = some (1, 1, qf, C)) (hqf : qf ≤ 2147483647) (hn : fa + nn ≤ qf) : ∃ (w' : mv_T 10) (X' P' W' S' u' l' : Nat), sy_C 15 n 1 33 [(2, pl 10, 0), (2, pl jf, 0), (0, fa, 0), (0, nn, 0)] w [] w' ∧ wh 30 pl w0 w' ((((cs.set 11 (1, 1, 64, P')).set 10 (0, 2, 13, X')).set 12 (1, 0, 64, W')).set 13 (1, 0, 8, S')) ∧ fh X' kS ((vs.set 4 (0, u', 0)).set 5 (0, l', 0)) ∧ u' < 64 ∧ l' < 4294967296 := by
  obtain ⟨w', X', h, h2, h3⟩ := wd_put (n := n) hw c10 c11 c12 c13 hX v0 v1 v2 v4 v5 hs hl hjf hjf2 cf hqf hn
  exact ⟨w', X', _, _, _, _, _, h, h2, h3, sh_p_ok hs, sh_p_l⟩
theorem we_cmp (hw : wh 30 pl w0 w cs) (c10 : cs[10]? = some (0, 2, 13, X)) (c11 : cs[11]? = some (1, 1, 64, s.2.2.1)) (c12 : cs[12]? = some (1, 0, 64, s.2.2.2.1)) (c13 : cs[13]? = some (1, 0, 8, s.2.2.2.2)) (hX : fh X kS vs) (v0 : vs[0]? = some (2, pl 11, 0)) (v1 : vs[1]? = some (2, pl 12, 0)) (v2 : vs[2]? = some (2, pl 13, 0)) (v4 : vs[4]? = some (0, s.1, 0)) (v5 : vs[5]? = some (0, s.2.1, 0)) (hl : s.2.1 < 4294967296) : ∃ (w' : mv_T 10) (X' P' W' S' u' l' : Nat), sy_C 16 n 0 0 [(2, pl 10, 0)] w [] w' ∧ wh 30 pl w0 w' ((((cs.set 11 (1, 1, 64, P')).set 10 (0, 2, 13, X')).set 12 (1, 0, 64, W')).set 13 (1, 0, 8, S')) ∧ fh X' kS ((vs.set 4 (0, u', 0)).set 5 (0, l', 0)) ∧ u' < 64 ∧ l' < 4294967296 := by
  obtain ⟨D, F, e⟩ := wd_W hw c10 c11 c12 c13 hX v0 v1 v2 v4 v5
  have h := sh_Cc (n := n) (w := w) (X := X) (u := s.1) (l := s.2.1) (P := s.2.2.1) (W := s.2.2.2.1) (St := s.2.2.2.2) D F
  have e' : sh_w w (pl 10) (pl 11) (pl 12) (pl 13) (sh_x X s.1 s.2.1) s.2.2.1 s.2.2.2.1 s.2.2.2.2 = w := e
  rw [e'] at h
  exact ⟨_, _, _, _, _, _, _, h, wd_wh (s' := (0, s.2.1, s.2.2.1, mc_Wf s.2.2.1 s.2.2.2.1, mc_Sf s.2.2.1 s.2.2.2.1 s.2.2.2.2)) hw, wd_fh hX (by show 0 < 4294967296; decide) hl, (by show 0 < 64; decide), hl⟩
theorem we_end {it q T at_ : Nat} (hw : wh 30 pl w0 w cs) (c10 : cs[10]? = some (0, 2, 13, X)) (c11 : cs[11]? = some (1, 1, 64, s.2.2.1)) (c12 : cs[12]? = some (1, 0, 64, s.2.2.2.1)) (c13 : cs[13]? = some (1, 0, 8, s.2.2.2.2)) (hX : fh X kS vs) (v0 : vs[0]? = some (2, pl 11, 0)) (v1 : vs[1]? = some (2, pl 12, 0)) (v2 : vs[2]? = some (2, pl 13, 0)) (v4 : vs[4]? = some (0, s.1, 0)) (v5 : vs[5]? = some (0, s.2.1, 0)) (hs : s.1 < 64) (hl : s.2.1 < 4294967296) (hit : it < 10 ∨ 13 < it) (hit2 : it < 30) (ct : cs[it]? = some (1, 1, q, T)) (hq : q ≤ 2147483647) (ha : at_ + 32 ≤ q) : ∃ (w' : mv_T 10) (X' P' W' S' u' l' T' : Nat), sy_C 18 n 2 46 [(2, pl 10, 0), (2, pl it, 0), (0, at_, 0)] w [] w' ∧ wh 30 pl w0 w' (((((cs.set it (1, 1, q, T')).set 11 (1, 1, 64, P')).set 10 (0, 2, 13, X')).set 12 (1, 0, 64, W')).set 13 (1, 0, 8, S')) ∧ fh X' kS ((vs.set 4 (0, u', 0)).set 5 (0, l', 0)) ∧ u' < 64 ∧ l' < 4294967296 := by
  obtain ⟨D, F, e⟩ := wd_W hw c10 c11 c12 c13 hX v0 v1 v2 v4 v5
  have h := sh_end (n := n) (s := s) (w := w) hs hl hq ha D F (wd_O hw it hit2 (by omega)) (wh_at hw it ct)
  rw [e] at h
  have hl2 : (sh_e s).1 < 64 ∧ (sh_e s).2.1 < 4294967296 := ⟨by rw [wc_eu]; decide, by rw [wc_el]; exact hl⟩
  generalize sh_e s = R at h hl2
  exact ⟨_, _, _, _, _, _, _, _, h, wd_wh (s' := R) (wh_set hw it hit2 _), wd_fh hX (by omega) hl2.2, hl2.1, hl2.2⟩
theorem sy_cpi {pa pb qa qb A B sp dp m : Nat} {S0 : List mv_V} (ha : mv_get 10 w pa = (1, 0, qa, A)) (hb : mv_get 10 w pb = (1, 0, qb, B)) (h1 : sp + m ≤ qa) (h2 : dp + m ≤ qb) (hqa : qa ≤ 2147483647) (hqb : qb ≤ 2147483647) : mv_c8 tt_tl tt_stt 0 [(2, pa, 0), (0, sp, 0), (2, pb, 0), (0, dp, 0), (0, m, 0)] S0 w = some (S0, mv_set 10 w pb (1, 0, qb, mv_cw 32 B A sp dp m)) := by
  show ((mv_cp tt_tl (mv_get 10 w pa) (mv_get 10 w pb) (0, sp, 0) (0, dp, 0) (0, m, 0)).map (fun z => mv_set 10 w pb z)).map (fun w' => (S0, w')) = _
  rw [ha, hb]
  have e : mv_cp tt_tl (1, 0, qa, A) (1, 0, qb, B) (0, sp, 0) (0, dp, 0) (0, m, 0) = some (1, 0, qb, mv_cw 32 B A sp dp m) := by
    unfold mv_cp
    dsimp only
    rw [show Nat.ble (sp + m) qa = true by simpa using h1, show Nat.ble (dp + m) qb = true by simpa using h2, show Nat.blt (sp + m) 2147483648 = true by simp only [Nat.blt_eq]; omega, show Nat.blt (dp + m) 2147483648 = true by simp only [Nat.blt_eq]; omega]
    rfl
  rw [e]
  rfl
theorem sy_cpsi {q pb qa qb B sp dp m : Nat} {S0 : List mv_V} (hs : ((tt_stt q).1, (tt_stt q).2.1) = (0, qa)) (hb : mv_get 10 w pb = (1, 0, qb, B)) (h1 : sp + m ≤ qa) (h2 : dp + m ≤ qb) (hqa : qa ≤ 2147483647) (hqb : qb ≤ 2147483647) : mv_c8 tt_tl tt_stt 0 [(6, q, 0), (0, sp, 0), (2, pb, 0), (0, dp, 0), (0, m, 0)] S0 w = some (S0, mv_set 10 w pb (1, 0, qb, mv_cw 32 B (tt_stt q).2.2 sp dp m)) := by
  have e1 : (tt_stt q).1 = 0 := congrArg Prod.fst hs
  have e2 : (tt_stt q).2.1 = qa := congrArg Prod.snd hs
  have a1 : Nat.ble (sp + m) (tt_stt q).2.1 = true := by rw [e2]; exact Nat.ble_eq_true_of_le h1
  have a2 : Nat.ble (dp + m) qb = true := Nat.ble_eq_true_of_le h2
  have a3 : Nat.blt (sp + m) 2147483648 = true := by rw [Nat.blt_eq]; omega
  have a4 : Nat.blt (dp + m) 2147483648 = true := by rw [Nat.blt_eq]; omega
  have e : mv_cp tt_tl (1, tt_stt q) (mv_get 10 w pb) (0, sp, 0) (0, dp, 0) (0, m, 0) = some (1, 0, qb, mv_cw 32 B (tt_stt q).2.2 sp dp m) := by
    rw [hb]
    unfold mv_cp
    dsimp only
    rw [e1, a1, a2, a3, a4]
    rfl
  show ((mv_cp tt_tl (1, tt_stt q) (mv_get 10 w pb) (0, sp, 0) (0, dp, 0) (0, m, 0)).map (fun z => mv_set 10 w pb z)).map (fun w' => (S0, w')) = _
  rw [e]
  rfl
end EH
section EM
variable {n : Nat} {pl : Nat → Nat} {w0 w : mv_T 10} {X0 X1 cbs X3 Hd Id Ids Ads Br Dg X10 Sp Sw Ss In Mk Is Os Ks Kp ac su sl kl : Nat} {X20 Bh Bd cps Mb Ti X26 Pr wk Nu : Nat}
theorem ce_go16  (hw : wh 30 pl w0 w [(0, 1, 13, X0), (0, 8, 11, X1), (3, 6, 40, cbs), (0, 9, 11, X3), (1, 1, 105, Hd), (1, 1, 32, Id), (1, 1, 128, Ids), (1, 1, 480, Ads), (1, 1, 32, Br), (1, 1, 32, Dg), (0, 2, 13, X10), (1, 1, 64, Sp), (1, 0, 64, Sw), (1, 0, 8, Ss), (1, 1, 32, In), (1, 1, 32, Mk), (1, 0, 8, Is), (1, 0, 8, Os), (1, 0, 8, Ks), (1, 1, 64, Kp), (0, 9, 11, X20), (1, 1, 105, Bh), (1, 1, 32, Bd), (3, 7, 4, cps), (1, 1, 28, Mb), (1, 1, 32, Ti), (0, 10, 6, X26), (1, 0, 4, Pr), (1, 0, 1, Nu)]) (hX0 : fh X0 kX [(2, pl 1, 0), (0, 0, 0)]) (hX1 : fh X1 kM [(0, 1, 0), (2, pl 2, 0), (0, 0, 0), (2, pl 10, 0), (2, pl 6, 0), (2, pl 7, 0), (0, ac, 0), (2, pl 8, 0), (2, pl 9, 0)]) (hX3 : fh X3 kB [(2, pl 5, 0), (2, pl 4, 0), (0, 0, 0), (0, 4, 0), (3, 0, 0)]) (hX10 : fh X10 kS [(2, pl 11, 0), (2, pl 12, 0), (2, pl 13, 0), (2, pl 14, 0), (0, su, 0), (0, sl, 0), (2, pl 15, 0), (2, pl 16, 0), (2, pl 17, 0), (0, 1, 0), (2, pl 18, 0), (2, pl 19, 0), (0, kl, 0)]) (hX20 : fh X20 kN [(2, pl 3, 0), (0, 1, 0), (0, 1, 0), (0, wk, 0), (2, pl 21, 0), (2, pl 22, 0), (2, pl 23, 0), (0, 1, 0), (3, 0, 0), (0, 0, 0), (3, 0, 0)]) (hX26 : fh X26 kP [(2, pl 24, 0), (0, 0, 0), (0, 1, 0), (0, 28, 0), (2, pl 25, 0), (2, pl 27, 0)])  : sy_D 39 n 1 18 [(2, pl 10, 0), (2, pl 16, 0)] w (fun ret w' => ret = [] ∧ ∃ Y10 : Nat, wh 30 pl w0 w' [(0, 1, 13, X0), (0, 8, 11, X1), (3, 6, 40, cbs), (0, 9, 11, X3), (1, 1, 105, Hd), (1, 1, 32, Id), (1, 1, 128, Ids), (1, 1, 480, Ads), (1, 1, 32, Br), (1, 1, 32, Dg), (0, 2, 13, Y10), (1, 1, 64, Sp), (1, 0, 64, Sw), (1, 0, 8, (mv_cw 32 Ss Is 0 0 8)), (1, 1, 32, In), (1, 1, 32, Mk), (1, 0, 8, Is), (1, 0, 8, Os), (1, 0, 8, Ks), (1, 1, 64, Kp), (0, 9, 11, X20), (1, 1, 105, Bh), (1, 1, 32, Bd), (3, 7, 4, cps), (1, 1, 28, Mb), (1, 1, 32, Ti), (0, 10, 6, X26), (1, 0, 4, Pr), (1, 0, 1, Nu)] ∧ fh Y10 kS [(2, pl 11, 0), (2, pl 12, 0), (2, pl 13, 0), (2, pl 14, 0), (0, 0, 0), (0, 64, 0), (2, pl 15, 0), (2, pl 16, 0), (2, pl 17, 0), (0, 1, 0), (2, pl 18, 0), (2, pl 19, 0), (0, kl, 0)]) := by
  refine sy_Dof (us := []) (sy_oks_cons (sy_ok2 (wh_lt hw 10 (by first | decide | assumption))) (sy_oks_cons (sy_ok2 (wh_lt hw 16 (by first | decide | assumption))) sy_oks_nil)) rfl rfl ?_
  show sy_F 39 n 1 18 0 [(2, pl 10, 0), (2, pl 16, 0)] [] w _
  refine sy_Fs (sy_aldn xc39_0 rfl rfl sy_refl) ?_
  refine sy_Fs (sy_iconst (v := 0) xc39_1 (by decide) sy_refl) ?_
  refine sy_Fs (sy_aldn xc39_2 rfl rfl sy_refl) ?_
  refine sy_Fs (sy_gf xc39_3 xf39_9 rfl (wh_at hw 10 rfl) rfl (fh_at hX10 2 rfl rfl) sy_refl) ?_
  refine sy_Fs (sy_iconst (v := 0) xc39_6 (by decide) sy_refl) ?_
  refine sy_Fs (sy_bipush (v := 8) xc39_7 (by decide) (by decide) sy_refl) ?_
  refine sy_Fw (i := 13) (x := (1, 0, 8, (mv_cw 32 Ss Is 0 0 8))) hw (by decide) (sy_call8 (as := [(2, pl 16, 0), (0, 0, 0), (2, pl 13, 0), (0, 0, 0), (0, 8, 0)]) (S0 := []) xc39_9 (sy_calS (as := [(2, pl 16, 0), (0, 0, 0), (2, pl 13, 0), (0, 0, 0), (0, 8, 0)]) (S0 := []) xm39_43 rfl rfl) (sy_cpi (wh_at hw 16 rfl) (wh_at hw 13 rfl) (by first | decide | assumption | omega) (by first | decide | assumption | omega) (by first | decide | assumption | omega) (by first | decide | assumption | omega)) (by decide) (by decide) sy_refl) ?_
  intro w hw
  simp only [List.set_cons_zero, List.set_cons_succ] at hw
  refine sy_Fs (sy_aldn xc39_12 rfl rfl sy_refl) ?_
  refine sy_Fs (sy_iconst (v := 0) xc39_13 (by decide) sy_refl) ?_
  refine sy_Ff (i := 10) (q := 4) (v := (0, 0, 0)) hw hX10 (by decide) (by decide) rfl (sy_ok0 (by first | decide | assumption | omega | exact mo_rd_lt _ _ | exact mo_add_lt _ _ | exact mo_sub_lt _ _ | exact mo_mul_lt _ _ | exact mo_shl_lt _ _ | exact mo_ushr_lt _ _ | exact mo_or_lt (by decide) (mo_and_lt (mo_rd_lt _ _)) | exact mo_or_lt (mo_shl_lt _ _) (mo_and_lt (mo_rd_lt _ _)))) (sx_pf xc39_14 xf39_49 rfl (xg_int xt2_11) xh39_49 (wh_at hw 10 rfl) rfl (sy_ok0 (by first | decide | assumption | omega | exact mo_rd_lt _ _ | exact mo_add_lt _ _ | exact mo_sub_lt _ _ | exact mo_mul_lt _ _ | exact mo_shl_lt _ _ | exact mo_ushr_lt _ _ | exact mo_or_lt (by decide) (mo_and_lt (mo_rd_lt _ _)) | exact mo_or_lt (mo_shl_lt _ _) (mo_and_lt (mo_rd_lt _ _)))) rfl sy_refl) ?_
  intro w X10 hw hX10
  simp only [List.set_cons_zero, List.set_cons_succ] at hw hX10
  refine sy_Fs (sy_aldn xc39_17 rfl rfl sy_refl) ?_
  refine sy_Fs (sy_bipush (v := 64) xc39_18 (by decide) (by decide) sy_refl) ?_
  refine sy_Ff (i := 10) (q := 5) (v := (0, 64, 0)) hw hX10 (by decide) (by decide) rfl (sy_ok0 (by first | decide | assumption | omega | exact mo_rd_lt _ _ | exact mo_add_lt _ _ | exact mo_sub_lt _ _ | exact mo_mul_lt _ _ | exact mo_shl_lt _ _ | exact mo_ushr_lt _ _ | exact mo_or_lt (by decide) (mo_and_lt (mo_rd_lt _ _)) | exact mo_or_lt (mo_shl_lt _ _) (mo_and_lt (mo_rd_lt _ _)))) (sx_pf xc39_20 xf39_53 rfl (xg_int xt2_12) xh39_53 (wh_at hw 10 rfl) rfl (sy_ok0 (by first | decide | assumption | omega | exact mo_rd_lt _ _ | exact mo_add_lt _ _ | exact mo_sub_lt _ _ | exact mo_mul_lt _ _ | exact mo_shl_lt _ _ | exact mo_ushr_lt _ _ | exact mo_or_lt (by decide) (mo_and_lt (mo_rd_lt _ _)) | exact mo_or_lt (mo_shl_lt _ _) (mo_and_lt (mo_rd_lt _ _)))) rfl sy_refl) ?_
  intro w X10 hw hX10
  simp only [List.set_cons_zero, List.set_cons_succ] at hw hX10
  exact sy_Fv xc39_23 xr39 ⟨rfl, X10, hw, hX10⟩
theorem ce_go17  (hw : wh 30 pl w0 w [(0, 1, 13, X0), (0, 8, 11, X1), (3, 6, 40, cbs), (0, 9, 11, X3), (1, 1, 105, Hd), (1, 1, 32, Id), (1, 1, 128, Ids), (1, 1, 480, Ads), (1, 1, 32, Br), (1, 1, 32, Dg), (0, 2, 13, X10), (1, 1, 64, Sp), (1, 0, 64, Sw), (1, 0, 8, Ss), (1, 1, 32, In), (1, 1, 32, Mk), (1, 0, 8, Is), (1, 0, 8, Os), (1, 0, 8, Ks), (1, 1, 64, Kp), (0, 9, 11, X20), (1, 1, 105, Bh), (1, 1, 32, Bd), (3, 7, 4, cps), (1, 1, 28, Mb), (1, 1, 32, Ti), (0, 10, 6, X26), (1, 0, 4, Pr), (1, 0, 1, Nu)]) (hX0 : fh X0 kX [(2, pl 1, 0), (0, 0, 0)]) (hX1 : fh X1 kM [(0, 1, 0), (2, pl 2, 0), (0, 0, 0), (2, pl 10, 0), (2, pl 6, 0), (2, pl 7, 0), (0, ac, 0), (2, pl 8, 0), (2, pl 9, 0)]) (hX3 : fh X3 kB [(2, pl 5, 0), (2, pl 4, 0), (0, 0, 0), (0, 4, 0), (3, 0, 0)]) (hX10 : fh X10 kS [(2, pl 11, 0), (2, pl 12, 0), (2, pl 13, 0), (2, pl 14, 0), (0, su, 0), (0, sl, 0), (2, pl 15, 0), (2, pl 16, 0), (2, pl 17, 0), (0, 1, 0), (2, pl 18, 0), (2, pl 19, 0), (0, kl, 0)]) (hX20 : fh X20 kN [(2, pl 3, 0), (0, 1, 0), (0, 1, 0), (0, wk, 0), (2, pl 21, 0), (2, pl 22, 0), (2, pl 23, 0), (0, 1, 0), (3, 0, 0), (0, 0, 0), (3, 0, 0)]) (hX26 : fh X26 kP [(2, pl 24, 0), (0, 0, 0), (0, 1, 0), (0, 28, 0), (2, pl 25, 0), (2, pl 27, 0)])  : sy_D 39 n 1 18 [(2, pl 10, 0), (2, pl 17, 0)] w (fun ret w' => ret = [] ∧ ∃ Y10 : Nat, wh 30 pl w0 w' [(0, 1, 13, X0), (0, 8, 11, X1), (3, 6, 40, cbs), (0, 9, 11, X3), (1, 1, 105, Hd), (1, 1, 32, Id), (1, 1, 128, Ids), (1, 1, 480, Ads), (1, 1, 32, Br), (1, 1, 32, Dg), (0, 2, 13, Y10), (1, 1, 64, Sp), (1, 0, 64, Sw), (1, 0, 8, (mv_cw 32 Ss Os 0 0 8)), (1, 1, 32, In), (1, 1, 32, Mk), (1, 0, 8, Is), (1, 0, 8, Os), (1, 0, 8, Ks), (1, 1, 64, Kp), (0, 9, 11, X20), (1, 1, 105, Bh), (1, 1, 32, Bd), (3, 7, 4, cps), (1, 1, 28, Mb), (1, 1, 32, Ti), (0, 10, 6, X26), (1, 0, 4, Pr), (1, 0, 1, Nu)] ∧ fh Y10 kS [(2, pl 11, 0), (2, pl 12, 0), (2, pl 13, 0), (2, pl 14, 0), (0, 0, 0), (0, 64, 0), (2, pl 15, 0), (2, pl 16, 0), (2, pl 17, 0), (0, 1, 0), (2, pl 18, 0), (2, pl 19, 0), (0, kl, 0)]) := by
  refine sy_Dof (us := []) (sy_oks_cons (sy_ok2 (wh_lt hw 10 (by first | decide | assumption))) (sy_oks_cons (sy_ok2 (wh_lt hw 17 (by first | decide | assumption))) sy_oks_nil)) rfl rfl ?_
  show sy_F 39 n 1 18 0 [(2, pl 10, 0), (2, pl 17, 0)] [] w _
  refine sy_Fs (sy_aldn xc39_0 rfl rfl sy_refl) ?_
  refine sy_Fs (sy_iconst (v := 0) xc39_1 (by decide) sy_refl) ?_
  refine sy_Fs (sy_aldn xc39_2 rfl rfl sy_refl) ?_
  refine sy_Fs (sy_gf xc39_3 xf39_9 rfl (wh_at hw 10 rfl) rfl (fh_at hX10 2 rfl rfl) sy_refl) ?_
  refine sy_Fs (sy_iconst (v := 0) xc39_6 (by decide) sy_refl) ?_
  refine sy_Fs (sy_bipush (v := 8) xc39_7 (by decide) (by decide) sy_refl) ?_
  refine sy_Fw (i := 13) (x := (1, 0, 8, (mv_cw 32 Ss Os 0 0 8))) hw (by decide) (sy_call8 (as := [(2, pl 17, 0), (0, 0, 0), (2, pl 13, 0), (0, 0, 0), (0, 8, 0)]) (S0 := []) xc39_9 (sy_calS (as := [(2, pl 17, 0), (0, 0, 0), (2, pl 13, 0), (0, 0, 0), (0, 8, 0)]) (S0 := []) xm39_43 rfl rfl) (sy_cpi (wh_at hw 17 rfl) (wh_at hw 13 rfl) (by first | decide | assumption | omega) (by first | decide | assumption | omega) (by first | decide | assumption | omega) (by first | decide | assumption | omega)) (by decide) (by decide) sy_refl) ?_
  intro w hw
  simp only [List.set_cons_zero, List.set_cons_succ] at hw
  refine sy_Fs (sy_aldn xc39_12 rfl rfl sy_refl) ?_
  refine sy_Fs (sy_iconst (v := 0) xc39_13 (by decide) sy_refl) ?_
  refine sy_Ff (i := 10) (q := 4) (v := (0, 0, 0)) hw hX10 (by decide) (by decide) rfl (sy_ok0 (by first | decide | assumption | omega | exact mo_rd_lt _ _ | exact mo_add_lt _ _ | exact mo_sub_lt _ _ | exact mo_mul_lt _ _ | exact mo_shl_lt _ _ | exact mo_ushr_lt _ _ | exact mo_or_lt (by decide) (mo_and_lt (mo_rd_lt _ _)) | exact mo_or_lt (mo_shl_lt _ _) (mo_and_lt (mo_rd_lt _ _)))) (sx_pf xc39_14 xf39_49 rfl (xg_int xt2_11) xh39_49 (wh_at hw 10 rfl) rfl (sy_ok0 (by first | decide | assumption | omega | exact mo_rd_lt _ _ | exact mo_add_lt _ _ | exact mo_sub_lt _ _ | exact mo_mul_lt _ _ | exact mo_shl_lt _ _ | exact mo_ushr_lt _ _ | exact mo_or_lt (by decide) (mo_and_lt (mo_rd_lt _ _)) | exact mo_or_lt (mo_shl_lt _ _) (mo_and_lt (mo_rd_lt _ _)))) rfl sy_refl) ?_
  intro w X10 hw hX10
  simp only [List.set_cons_zero, List.set_cons_succ] at hw hX10
  refine sy_Fs (sy_aldn xc39_17 rfl rfl sy_refl) ?_
  refine sy_Fs (sy_bipush (v := 64) xc39_18 (by decide) (by decide) sy_refl) ?_
  refine sy_Ff (i := 10) (q := 5) (v := (0, 64, 0)) hw hX10 (by decide) (by decide) rfl (sy_ok0 (by first | decide | assumption | omega | exact mo_rd_lt _ _ | exact mo_add_lt _ _ | exact mo_sub_lt _ _ | exact mo_mul_lt _ _ | exact mo_shl_lt _ _ | exact mo_ushr_lt _ _ | exact mo_or_lt (by decide) (mo_and_lt (mo_rd_lt _ _)) | exact mo_or_lt (mo_shl_lt _ _) (mo_and_lt (mo_rd_lt _ _)))) (sx_pf xc39_20 xf39_53 rfl (xg_int xt2_12) xh39_53 (wh_at hw 10 rfl) rfl (sy_ok0 (by first | decide | assumption | omega | exact mo_rd_lt _ _ | exact mo_add_lt _ _ | exact mo_sub_lt _ _ | exact mo_mul_lt _ _ | exact mo_shl_lt _ _ | exact mo_ushr_lt _ _ | exact mo_or_lt (by decide) (mo_and_lt (mo_rd_lt _ _)) | exact mo_or_lt (mo_shl_lt _ _) (mo_and_lt (mo_rd_lt _ _)))) rfl sy_refl) ?_
  intro w X10 hw hX10
  simp only [List.set_cons_zero, List.set_cons_succ] at hw hX10
  exact sy_Fv xc39_23 xr39 ⟨rfl, X10, hw, hX10⟩
def pk (P M v : Nat) : Nat → Nat
  | 0 => P
  | k + 1 => mv_wr 32 (pk P M v k) k (mn_b (mn_b (if k < 32 then mo_xor (mv_rd 32 M k) v else v)))
theorem ce_pad16  (hw : wh 30 pl w0 w [(0, 1, 13, X0), (0, 8, 11, X1), (3, 6, 40, cbs), (0, 9, 11, X3), (1, 1, 105, Hd), (1, 1, 32, Id), (1, 1, 128, Ids), (1, 1, 480, Ads), (1, 1, 32, Br), (1, 1, 32, Dg), (0, 2, 13, X10), (1, 1, 64, Sp), (1, 0, 64, Sw), (1, 0, 8, Ss), (1, 1, 32, In), (1, 1, 32, Mk), (1, 0, 8, Is), (1, 0, 8, Os), (1, 0, 8, Ks), (1, 1, 64, Kp), (0, 9, 11, X20), (1, 1, 105, Bh), (1, 1, 32, Bd), (3, 7, 4, cps), (1, 1, 28, Mb), (1, 1, 32, Ti), (0, 10, 6, X26), (1, 0, 4, Pr), (1, 0, 1, Nu)]) (hX0 : fh X0 kX [(2, pl 1, 0), (0, 0, 0)]) (hX1 : fh X1 kM [(0, 1, 0), (2, pl 2, 0), (0, 0, 0), (2, pl 10, 0), (2, pl 6, 0), (2, pl 7, 0), (0, ac, 0), (2, pl 8, 0), (2, pl 9, 0)]) (hX3 : fh X3 kB [(2, pl 5, 0), (2, pl 4, 0), (0, 0, 0), (0, 4, 0), (3, 0, 0)]) (hX10 : fh X10 kS [(2, pl 11, 0), (2, pl 12, 0), (2, pl 13, 0), (2, pl 14, 0), (0, su, 0), (0, sl, 0), (2, pl 15, 0), (2, pl 16, 0), (2, pl 17, 0), (0, 1, 0), (2, pl 18, 0), (2, pl 19, 0), (0, kl, 0)]) (hX20 : fh X20 kN [(2, pl 3, 0), (0, 1, 0), (0, 1, 0), (0, wk, 0), (2, pl 21, 0), (2, pl 22, 0), (2, pl 23, 0), (0, 1, 0), (3, 0, 0), (0, 0, 0), (3, 0, 0)]) (hX26 : fh X26 kP [(2, pl 24, 0), (0, 0, 0), (0, 1, 0), (0, 28, 0), (2, pl 25, 0), (2, pl 27, 0)]) {v : Nat} (hv : v < 4294967296) (hsu : su < 64) (hsl : sl < 4294967296) : sy_D 38 n 1 33 [(2, pl 10, 0), (0, v, 0), (2, pl 16, 0)] w (fun ret w' => ret = [] ∧ ∃ Y10 Y11 Y12 Y13 Y16 yu yl : Nat, (yu < 64 ∧ yl < 4294967296) ∧ wh 30 pl w0 w' [(0, 1, 13, X0), (0, 8, 11, X1), (3, 6, 40, cbs), (0, 9, 11, X3), (1, 1, 105, Hd), (1, 1, 32, Id), (1, 1, 128, Ids), (1, 1, 480, Ads), (1, 1, 32, Br), (1, 1, 32, Dg), (0, 2, 13, Y10), (1, 1, 64, Y11), (1, 0, 64, Y12), (1, 0, 8, Y13), (1, 1, 32, In), (1, 1, 32, Mk), (1, 0, 8, Y16), (1, 0, 8, Os), (1, 0, 8, Ks), (1, 1, 64, Kp), (0, 9, 11, X20), (1, 1, 105, Bh), (1, 1, 32, Bd), (3, 7, 4, cps), (1, 1, 28, Mb), (1, 1, 32, Ti), (0, 10, 6, X26), (1, 0, 4, Pr), (1, 0, 1, Nu)] ∧ fh Y10 kS [(2, pl 11, 0), (2, pl 12, 0), (2, pl 13, 0), (2, pl 14, 0), (0, yu, 0), (0, yl, 0), (2, pl 15, 0), (2, pl 16, 0), (2, pl 17, 0), (0, 1, 0), (2, pl 18, 0), (2, pl 19, 0), (0, kl, 0)]) := by
  refine sy_Dof (us := [(255, 0, 0)]) (sy_oks_cons (sy_ok2 (wh_lt hw 10 (by first | decide | assumption))) (sy_oks_cons (sy_ok0 (by first | decide | assumption | omega | exact mo_rd_lt _ _ | exact mo_add_lt _ _ | exact mo_sub_lt _ _ | exact mo_mul_lt _ _ | exact mo_shl_lt _ _ | exact mo_ushr_lt _ _ | exact mo_or_lt (by decide) (mo_and_lt (mo_rd_lt _ _)) | exact mo_or_lt (mo_shl_lt _ _) (mo_and_lt (mo_rd_lt _ _)))) (sy_oks_cons (sy_ok2 (wh_lt hw 16 (by first | decide | assumption))) sy_oks_nil))) rfl rfl ?_
  show sy_F 38 n 1 33 0 [(2, pl 10, 0), (0, v, 0), (2, pl 16, 0), (255, 0, 0)] [] w _
  refine sy_Fs (sy_iconst (v := 0) xc38_0 (by decide) sy_refl) ?_
  refine sy_Fs (sx_istn (j := 3) (ls' := [(2, pl 10, 0), (0, v, 0), (2, pl 16, 0), (0, 0, 0)]) xc38_1 rfl rfl (sy_ok0 (by first | decide | assumption | omega | exact mo_rd_lt _ _ | exact mo_add_lt _ _ | exact mo_sub_lt _ _ | exact mo_mul_lt _ _ | exact mo_shl_lt _ _ | exact mo_ushr_lt _ _ | exact mo_or_lt (by decide) (mo_and_lt (mo_rd_lt _ _)) | exact mo_or_lt (mo_shl_lt _ _) (mo_and_lt (mo_rd_lt _ _)))) (by rw [xl38]; rfl) rfl rfl) ?_
  refine sy_Fs (sy_ildn xc38_2 rfl rfl sy_refl) ?_
  refine sy_Fs (sy_bipush (v := 64) xc38_3 (by decide) (by decide) sy_refl) ?_
  refine sy_Fs (sy_ge_f xc38_5 (by decide) (by decide) (by decide) sy_refl) ?_
  refine sy_Fs (sy_aldn xc38_8 rfl rfl sy_refl) ?_
  refine sy_Fs (sy_gf xc38_9 xf38_18 rfl (wh_at hw 10 rfl) rfl (fh_at hX10 0 rfl rfl) sy_refl) ?_
  refine sy_Fs (sy_ildn xc38_12 rfl rfl sy_refl) ?_
  refine sy_Fs (sy_ildn xc38_13 rfl rfl sy_refl) ?_
  refine sy_Fs (sy_bipush (v := 32) xc38_14 (by decide) (by decide) sy_refl) ?_
  refine sy_Fs (sy_ge_f xc38_16 (by decide) (by decide) (by decide) sy_refl) ?_
  refine sy_Fs (sy_aldn xc38_19 rfl rfl sy_refl) ?_
  refine sy_Fs (sy_gf xc38_20 xf38_25 rfl (wh_at hw 10 rfl) rfl (fh_at hX10 6 rfl rfl) sy_refl) ?_
  refine sy_Fs (sy_ildn xc38_23 rfl rfl sy_refl) ?_
  refine sy_Fs (sx_bal (z := (mv_rd 32 Mk 0)) xc38_24 (wh_at hw 15 rfl) (by decide) (by decide) rfl) ?_
  refine sy_Fs (sy_ildn xc38_25 rfl rfl sy_refl) ?_
  refine sy_Fs (sx_ixor (z := (mo_xor (mv_rd 32 Mk 0) v)) xc38_26 rfl) ?_
  refine sy_Fs (sy_goto (pc' := 31) xc38_27 (by decide) (by decide) sy_refl) ?_
  refine sy_Fs (sx_i2b (z := (mn_b (mo_xor (mv_rd 32 Mk 0) v))) xc38_31 rfl) ?_
  refine sy_Fw (i := 11) (x := (1, 1, 64, (pk Sp Mk v 1))) hw (by decide) (sy_bas (i := 0) xc38_32 (wh_at hw 11 rfl) rfl (by decide) (by decide) rfl sy_refl) ?_
  intro w hw
  simp only [List.set_cons_zero, List.set_cons_succ] at hw
  refine sy_Fs (sx_iinc (c := 1) (z := 1) (ls' := [(2, pl 10, 0), (0, v, 0), (2, pl 16, 0), (0, 1, 0)]) xc38_33 rfl (by decide) (by rw [xl38]; rfl) rfl (by decide) rfl) ?_
  refine sy_Fs (sy_goto (pc' := 2) xc38_36 (by decide) (by decide) sy_refl) ?_
  refine sy_Fs (sy_ildn xc38_2 rfl rfl sy_refl) ?_
  refine sy_Fs (sy_bipush (v := 64) xc38_3 (by decide) (by decide) sy_refl) ?_
  refine sy_Fs (sy_ge_f xc38_5 (by decide) (by decide) (by decide) sy_refl) ?_
  refine sy_Fs (sy_aldn xc38_8 rfl rfl sy_refl) ?_
  refine sy_Fs (sy_gf xc38_9 xf38_18 rfl (wh_at hw 10 rfl) rfl (fh_at hX10 0 rfl rfl) sy_refl) ?_
  refine sy_Fs (sy_ildn xc38_12 rfl rfl sy_refl) ?_
  refine sy_Fs (sy_ildn xc38_13 rfl rfl sy_refl) ?_
  refine sy_Fs (sy_bipush (v := 32) xc38_14 (by decide) (by decide) sy_refl) ?_
  refine sy_Fs (sy_ge_f xc38_16 (by decide) (by decide) (by decide) sy_refl) ?_
  refine sy_Fs (sy_aldn xc38_19 rfl rfl sy_refl) ?_
  refine sy_Fs (sy_gf xc38_20 xf38_25 rfl (wh_at hw 10 rfl) rfl (fh_at hX10 6 rfl rfl) sy_refl) ?_
  refine sy_Fs (sy_ildn xc38_23 rfl rfl sy_refl) ?_
  refine sy_Fs (sx_bal (z := (mv_rd 32 Mk 1)) xc38_24 (wh_at hw 15 rfl) (by decide) (by decide) rfl) ?_
  refine sy_Fs (sy_ildn xc38_25 rfl rfl sy_refl) ?_
  refine sy_Fs (sx_ixor (z := (mo_xor (mv_rd 32 Mk 1) v)) xc38_26 rfl) ?_
  refine sy_Fs (sy_goto (pc' := 31) xc38_27 (by decide) (by decide) sy_refl) ?_
  refine sy_Fs (sx_i2b (z := (mn_b (mo_xor (mv_rd 32 Mk 1) v))) xc38_31 rfl) ?_
  refine sy_Fw (i := 11) (x := (1, 1, 64, (pk Sp Mk v 2))) hw (by decide) (sy_bas (i := 1) xc38_32 (wh_at hw 11 rfl) rfl (by decide) (by decide) rfl sy_refl) ?_
  intro w hw
  simp only [List.set_cons_zero, List.set_cons_succ] at hw
  refine sy_Fs (sx_iinc (c := 1) (z := 2) (ls' := [(2, pl 10, 0), (0, v, 0), (2, pl 16, 0), (0, 2, 0)]) xc38_33 rfl (by decide) (by rw [xl38]; rfl) rfl (by decide) rfl) ?_
  refine sy_Fs (sy_goto (pc' := 2) xc38_36 (by decide) (by decide) sy_refl) ?_
  refine sy_Fs (sy_ildn xc38_2 rfl rfl sy_refl) ?_
  refine sy_Fs (sy_bipush (v := 64) xc38_3 (by decide) (by decide) sy_refl) ?_
  refine sy_Fs (sy_ge_f xc38_5 (by decide) (by decide) (by decide) sy_refl) ?_
  refine sy_Fs (sy_aldn xc38_8 rfl rfl sy_refl) ?_
  refine sy_Fs (sy_gf xc38_9 xf38_18 rfl (wh_at hw 10 rfl) rfl (fh_at hX10 0 rfl rfl) sy_refl) ?_
  refine sy_Fs (sy_ildn xc38_12 rfl rfl sy_refl) ?_
  refine sy_Fs (sy_ildn xc38_13 rfl rfl sy_refl) ?_
  refine sy_Fs (sy_bipush (v := 32) xc38_14 (by decide) (by decide) sy_refl) ?_
  refine sy_Fs (sy_ge_f xc38_16 (by decide) (by decide) (by decide) sy_refl) ?_
  refine sy_Fs (sy_aldn xc38_19 rfl rfl sy_refl) ?_
  refine sy_Fs (sy_gf xc38_20 xf38_25 rfl (wh_at hw 10 rfl) rfl (fh_at hX10 6 rfl rfl) sy_refl) ?_
  refine sy_Fs (sy_ildn xc38_23 rfl rfl sy_refl) ?_
  refine sy_Fs (sx_bal (z := (mv_rd 32 Mk 2)) xc38_24 (wh_at hw 15 rfl) (by decide) (by decide) rfl) ?_
  refine sy_Fs (sy_ildn xc38_25 rfl rfl sy_refl) ?_
  refine sy_Fs (sx_ixor (z := (mo_xor (mv_rd 32 Mk 2) v)) xc38_26 rfl) ?_
  refine sy_Fs (sy_goto (pc' := 31) xc38_27 (by decide) (by decide) sy_refl) ?_
  refine sy_Fs (sx_i2b (z := (mn_b (mo_xor (mv_rd 32 Mk 2) v))) xc38_31 rfl) ?_
  refine sy_Fw (i := 11) (x := (1, 1, 64, (pk Sp Mk v 3))) hw (by decide) (sy_bas (i := 2) xc38_32 (wh_at hw 11 rfl) rfl (by decide) (by decide) rfl sy_refl) ?_
  intro w hw
  simp only [List.set_cons_zero, List.set_cons_succ] at hw
  refine sy_Fs (sx_iinc (c := 1) (z := 3) (ls' := [(2, pl 10, 0), (0, v, 0), (2, pl 16, 0), (0, 3, 0)]) xc38_33 rfl (by decide) (by rw [xl38]; rfl) rfl (by decide) rfl) ?_
  refine sy_Fs (sy_goto (pc' := 2) xc38_36 (by decide) (by decide) sy_refl) ?_
  refine sy_Fs (sy_ildn xc38_2 rfl rfl sy_refl) ?_
  refine sy_Fs (sy_bipush (v := 64) xc38_3 (by decide) (by decide) sy_refl) ?_
  refine sy_Fs (sy_ge_f xc38_5 (by decide) (by decide) (by decide) sy_refl) ?_
  refine sy_Fs (sy_aldn xc38_8 rfl rfl sy_refl) ?_
  refine sy_Fs (sy_gf xc38_9 xf38_18 rfl (wh_at hw 10 rfl) rfl (fh_at hX10 0 rfl rfl) sy_refl) ?_
  refine sy_Fs (sy_ildn xc38_12 rfl rfl sy_refl) ?_
  refine sy_Fs (sy_ildn xc38_13 rfl rfl sy_refl) ?_
  refine sy_Fs (sy_bipush (v := 32) xc38_14 (by decide) (by decide) sy_refl) ?_
  refine sy_Fs (sy_ge_f xc38_16 (by decide) (by decide) (by decide) sy_refl) ?_
  refine sy_Fs (sy_aldn xc38_19 rfl rfl sy_refl) ?_
  refine sy_Fs (sy_gf xc38_20 xf38_25 rfl (wh_at hw 10 rfl) rfl (fh_at hX10 6 rfl rfl) sy_refl) ?_
  refine sy_Fs (sy_ildn xc38_23 rfl rfl sy_refl) ?_
  refine sy_Fs (sx_bal (z := (mv_rd 32 Mk 3)) xc38_24 (wh_at hw 15 rfl) (by decide) (by decide) rfl) ?_
  refine sy_Fs (sy_ildn xc38_25 rfl rfl sy_refl) ?_
  refine sy_Fs (sx_ixor (z := (mo_xor (mv_rd 32 Mk 3) v)) xc38_26 rfl) ?_
  refine sy_Fs (sy_goto (pc' := 31) xc38_27 (by decide) (by decide) sy_refl) ?_
  refine sy_Fs (sx_i2b (z := (mn_b (mo_xor (mv_rd 32 Mk 3) v))) xc38_31 rfl) ?_
  refine sy_Fw (i := 11) (x := (1, 1, 64, (pk Sp Mk v 4))) hw (by decide) (sy_bas (i := 3) xc38_32 (wh_at hw 11 rfl) rfl (by decide) (by decide) rfl sy_refl) ?_
  intro w hw
  simp only [List.set_cons_zero, List.set_cons_succ] at hw
  refine sy_Fs (sx_iinc (c := 1) (z := 4) (ls' := [(2, pl 10, 0), (0, v, 0), (2, pl 16, 0), (0, 4, 0)]) xc38_33 rfl (by decide) (by rw [xl38]; rfl) rfl (by decide) rfl) ?_
  refine sy_Fs (sy_goto (pc' := 2) xc38_36 (by decide) (by decide) sy_refl) ?_
  refine sy_Fs (sy_ildn xc38_2 rfl rfl sy_refl) ?_
  refine sy_Fs (sy_bipush (v := 64) xc38_3 (by decide) (by decide) sy_refl) ?_
  refine sy_Fs (sy_ge_f xc38_5 (by decide) (by decide) (by decide) sy_refl) ?_
  refine sy_Fs (sy_aldn xc38_8 rfl rfl sy_refl) ?_
  refine sy_Fs (sy_gf xc38_9 xf38_18 rfl (wh_at hw 10 rfl) rfl (fh_at hX10 0 rfl rfl) sy_refl) ?_
  refine sy_Fs (sy_ildn xc38_12 rfl rfl sy_refl) ?_
  refine sy_Fs (sy_ildn xc38_13 rfl rfl sy_refl) ?_
  refine sy_Fs (sy_bipush (v := 32) xc38_14 (by decide) (by decide) sy_refl) ?_
  refine sy_Fs (sy_ge_f xc38_16 (by decide) (by decide) (by decide) sy_refl) ?_
  refine sy_Fs (sy_aldn xc38_19 rfl rfl sy_refl) ?_
  refine sy_Fs (sy_gf xc38_20 xf38_25 rfl (wh_at hw 10 rfl) rfl (fh_at hX10 6 rfl rfl) sy_refl) ?_
  refine sy_Fs (sy_ildn xc38_23 rfl rfl sy_refl) ?_
  refine sy_Fs (sx_bal (z := (mv_rd 32 Mk 4)) xc38_24 (wh_at hw 15 rfl) (by decide) (by decide) rfl) ?_
  refine sy_Fs (sy_ildn xc38_25 rfl rfl sy_refl) ?_
  refine sy_Fs (sx_ixor (z := (mo_xor (mv_rd 32 Mk 4) v)) xc38_26 rfl) ?_
  refine sy_Fs (sy_goto (pc' := 31) xc38_27 (by decide) (by decide) sy_refl) ?_
  refine sy_Fs (sx_i2b (z := (mn_b (mo_xor (mv_rd 32 Mk 4) v))) xc38_31 rfl) ?_
  refine sy_Fw (i := 11) (x := (1, 1, 64, (pk Sp Mk v 5))) hw (by decide) (sy_bas (i := 4) xc38_32 (wh_at hw 11 rfl) rfl (by decide) (by decide) rfl sy_refl) ?_
  intro w hw
  simp only [List.set_cons_zero, List.set_cons_succ] at hw
  refine sy_Fs (sx_iinc (c := 1) (z := 5) (ls' := [(2, pl 10, 0), (0, v, 0), (2, pl 16, 0), (0, 5, 0)]) xc38_33 rfl (by decide) (by rw [xl38]; rfl) rfl (by decide) rfl) ?_
  refine sy_Fs (sy_goto (pc' := 2) xc38_36 (by decide) (by decide) sy_refl) ?_
  refine sy_Fs (sy_ildn xc38_2 rfl rfl sy_refl) ?_
  refine sy_Fs (sy_bipush (v := 64) xc38_3 (by decide) (by decide) sy_refl) ?_
  refine sy_Fs (sy_ge_f xc38_5 (by decide) (by decide) (by decide) sy_refl) ?_
  refine sy_Fs (sy_aldn xc38_8 rfl rfl sy_refl) ?_
  refine sy_Fs (sy_gf xc38_9 xf38_18 rfl (wh_at hw 10 rfl) rfl (fh_at hX10 0 rfl rfl) sy_refl) ?_
  refine sy_Fs (sy_ildn xc38_12 rfl rfl sy_refl) ?_
  refine sy_Fs (sy_ildn xc38_13 rfl rfl sy_refl) ?_
  refine sy_Fs (sy_bipush (v := 32) xc38_14 (by decide) (by decide) sy_refl) ?_
  refine sy_Fs (sy_ge_f xc38_16 (by decide) (by decide) (by decide) sy_refl) ?_
  refine sy_Fs (sy_aldn xc38_19 rfl rfl sy_refl) ?_
  refine sy_Fs (sy_gf xc38_20 xf38_25 rfl (wh_at hw 10 rfl) rfl (fh_at hX10 6 rfl rfl) sy_refl) ?_
  refine sy_Fs (sy_ildn xc38_23 rfl rfl sy_refl) ?_
  refine sy_Fs (sx_bal (z := (mv_rd 32 Mk 5)) xc38_24 (wh_at hw 15 rfl) (by decide) (by decide) rfl) ?_
  refine sy_Fs (sy_ildn xc38_25 rfl rfl sy_refl) ?_
  refine sy_Fs (sx_ixor (z := (mo_xor (mv_rd 32 Mk 5) v)) xc38_26 rfl) ?_
  refine sy_Fs (sy_goto (pc' := 31) xc38_27 (by decide) (by decide) sy_refl) ?_
  refine sy_Fs (sx_i2b (z := (mn_b (mo_xor (mv_rd 32 Mk 5) v))) xc38_31 rfl) ?_
  refine sy_Fw (i := 11) (x := (1, 1, 64, (pk Sp Mk v 6))) hw (by decide) (sy_bas (i := 5) xc38_32 (wh_at hw 11 rfl) rfl (by decide) (by decide) rfl sy_refl) ?_
  intro w hw
  simp only [List.set_cons_zero, List.set_cons_succ] at hw
  refine sy_Fs (sx_iinc (c := 1) (z := 6) (ls' := [(2, pl 10, 0), (0, v, 0), (2, pl 16, 0), (0, 6, 0)]) xc38_33 rfl (by decide) (by rw [xl38]; rfl) rfl (by decide) rfl) ?_
  refine sy_Fs (sy_goto (pc' := 2) xc38_36 (by decide) (by decide) sy_refl) ?_
  refine sy_Fs (sy_ildn xc38_2 rfl rfl sy_refl) ?_
  refine sy_Fs (sy_bipush (v := 64) xc38_3 (by decide) (by decide) sy_refl) ?_
  refine sy_Fs (sy_ge_f xc38_5 (by decide) (by decide) (by decide) sy_refl) ?_
  refine sy_Fs (sy_aldn xc38_8 rfl rfl sy_refl) ?_
  refine sy_Fs (sy_gf xc38_9 xf38_18 rfl (wh_at hw 10 rfl) rfl (fh_at hX10 0 rfl rfl) sy_refl) ?_
  refine sy_Fs (sy_ildn xc38_12 rfl rfl sy_refl) ?_
  refine sy_Fs (sy_ildn xc38_13 rfl rfl sy_refl) ?_
  refine sy_Fs (sy_bipush (v := 32) xc38_14 (by decide) (by decide) sy_refl) ?_
  refine sy_Fs (sy_ge_f xc38_16 (by decide) (by decide) (by decide) sy_refl) ?_
  refine sy_Fs (sy_aldn xc38_19 rfl rfl sy_refl) ?_
  refine sy_Fs (sy_gf xc38_20 xf38_25 rfl (wh_at hw 10 rfl) rfl (fh_at hX10 6 rfl rfl) sy_refl) ?_
  refine sy_Fs (sy_ildn xc38_23 rfl rfl sy_refl) ?_
  refine sy_Fs (sx_bal (z := (mv_rd 32 Mk 6)) xc38_24 (wh_at hw 15 rfl) (by decide) (by decide) rfl) ?_
  refine sy_Fs (sy_ildn xc38_25 rfl rfl sy_refl) ?_
  refine sy_Fs (sx_ixor (z := (mo_xor (mv_rd 32 Mk 6) v)) xc38_26 rfl) ?_
  refine sy_Fs (sy_goto (pc' := 31) xc38_27 (by decide) (by decide) sy_refl) ?_
  refine sy_Fs (sx_i2b (z := (mn_b (mo_xor (mv_rd 32 Mk 6) v))) xc38_31 rfl) ?_
  refine sy_Fw (i := 11) (x := (1, 1, 64, (pk Sp Mk v 7))) hw (by decide) (sy_bas (i := 6) xc38_32 (wh_at hw 11 rfl) rfl (by decide) (by decide) rfl sy_refl) ?_
  intro w hw
  simp only [List.set_cons_zero, List.set_cons_succ] at hw
  refine sy_Fs (sx_iinc (c := 1) (z := 7) (ls' := [(2, pl 10, 0), (0, v, 0), (2, pl 16, 0), (0, 7, 0)]) xc38_33 rfl (by decide) (by rw [xl38]; rfl) rfl (by decide) rfl) ?_
  refine sy_Fs (sy_goto (pc' := 2) xc38_36 (by decide) (by decide) sy_refl) ?_
  refine sy_Fs (sy_ildn xc38_2 rfl rfl sy_refl) ?_
  refine sy_Fs (sy_bipush (v := 64) xc38_3 (by decide) (by decide) sy_refl) ?_
  refine sy_Fs (sy_ge_f xc38_5 (by decide) (by decide) (by decide) sy_refl) ?_
  refine sy_Fs (sy_aldn xc38_8 rfl rfl sy_refl) ?_
  refine sy_Fs (sy_gf xc38_9 xf38_18 rfl (wh_at hw 10 rfl) rfl (fh_at hX10 0 rfl rfl) sy_refl) ?_
  refine sy_Fs (sy_ildn xc38_12 rfl rfl sy_refl) ?_
  refine sy_Fs (sy_ildn xc38_13 rfl rfl sy_refl) ?_
  refine sy_Fs (sy_bipush (v := 32) xc38_14 (by decide) (by decide) sy_refl) ?_
  refine sy_Fs (sy_ge_f xc38_16 (by decide) (by decide) (by decide) sy_refl) ?_
  refine sy_Fs (sy_aldn xc38_19 rfl rfl sy_refl) ?_
  refine sy_Fs (sy_gf xc38_20 xf38_25 rfl (wh_at hw 10 rfl) rfl (fh_at hX10 6 rfl rfl) sy_refl) ?_
  refine sy_Fs (sy_ildn xc38_23 rfl rfl sy_refl) ?_
  refine sy_Fs (sx_bal (z := (mv_rd 32 Mk 7)) xc38_24 (wh_at hw 15 rfl) (by decide) (by decide) rfl) ?_
  refine sy_Fs (sy_ildn xc38_25 rfl rfl sy_refl) ?_
  refine sy_Fs (sx_ixor (z := (mo_xor (mv_rd 32 Mk 7) v)) xc38_26 rfl) ?_
  refine sy_Fs (sy_goto (pc' := 31) xc38_27 (by decide) (by decide) sy_refl) ?_
  refine sy_Fs (sx_i2b (z := (mn_b (mo_xor (mv_rd 32 Mk 7) v))) xc38_31 rfl) ?_
  refine sy_Fw (i := 11) (x := (1, 1, 64, (pk Sp Mk v 8))) hw (by decide) (sy_bas (i := 7) xc38_32 (wh_at hw 11 rfl) rfl (by decide) (by decide) rfl sy_refl) ?_
  intro w hw
  simp only [List.set_cons_zero, List.set_cons_succ] at hw
  refine sy_Fs (sx_iinc (c := 1) (z := 8) (ls' := [(2, pl 10, 0), (0, v, 0), (2, pl 16, 0), (0, 8, 0)]) xc38_33 rfl (by decide) (by rw [xl38]; rfl) rfl (by decide) rfl) ?_
  refine sy_Fs (sy_goto (pc' := 2) xc38_36 (by decide) (by decide) sy_refl) ?_
  refine sy_Fs (sy_ildn xc38_2 rfl rfl sy_refl) ?_
  refine sy_Fs (sy_bipush (v := 64) xc38_3 (by decide) (by decide) sy_refl) ?_
  refine sy_Fs (sy_ge_f xc38_5 (by decide) (by decide) (by decide) sy_refl) ?_
  refine sy_Fs (sy_aldn xc38_8 rfl rfl sy_refl) ?_
  refine sy_Fs (sy_gf xc38_9 xf38_18 rfl (wh_at hw 10 rfl) rfl (fh_at hX10 0 rfl rfl) sy_refl) ?_
  refine sy_Fs (sy_ildn xc38_12 rfl rfl sy_refl) ?_
  refine sy_Fs (sy_ildn xc38_13 rfl rfl sy_refl) ?_
  refine sy_Fs (sy_bipush (v := 32) xc38_14 (by decide) (by decide) sy_refl) ?_
  refine sy_Fs (sy_ge_f xc38_16 (by decide) (by decide) (by decide) sy_refl) ?_
  refine sy_Fs (sy_aldn xc38_19 rfl rfl sy_refl) ?_
  refine sy_Fs (sy_gf xc38_20 xf38_25 rfl (wh_at hw 10 rfl) rfl (fh_at hX10 6 rfl rfl) sy_refl) ?_
  refine sy_Fs (sy_ildn xc38_23 rfl rfl sy_refl) ?_
  refine sy_Fs (sx_bal (z := (mv_rd 32 Mk 8)) xc38_24 (wh_at hw 15 rfl) (by decide) (by decide) rfl) ?_
  refine sy_Fs (sy_ildn xc38_25 rfl rfl sy_refl) ?_
  refine sy_Fs (sx_ixor (z := (mo_xor (mv_rd 32 Mk 8) v)) xc38_26 rfl) ?_
  refine sy_Fs (sy_goto (pc' := 31) xc38_27 (by decide) (by decide) sy_refl) ?_
  refine sy_Fs (sx_i2b (z := (mn_b (mo_xor (mv_rd 32 Mk 8) v))) xc38_31 rfl) ?_
  refine sy_Fw (i := 11) (x := (1, 1, 64, (pk Sp Mk v 9))) hw (by decide) (sy_bas (i := 8) xc38_32 (wh_at hw 11 rfl) rfl (by decide) (by decide) rfl sy_refl) ?_
  intro w hw
  simp only [List.set_cons_zero, List.set_cons_succ] at hw
  refine sy_Fs (sx_iinc (c := 1) (z := 9) (ls' := [(2, pl 10, 0), (0, v, 0), (2, pl 16, 0), (0, 9, 0)]) xc38_33 rfl (by decide) (by rw [xl38]; rfl) rfl (by decide) rfl) ?_
  refine sy_Fs (sy_goto (pc' := 2) xc38_36 (by decide) (by decide) sy_refl) ?_
  refine sy_Fs (sy_ildn xc38_2 rfl rfl sy_refl) ?_
  refine sy_Fs (sy_bipush (v := 64) xc38_3 (by decide) (by decide) sy_refl) ?_
  refine sy_Fs (sy_ge_f xc38_5 (by decide) (by decide) (by decide) sy_refl) ?_
  refine sy_Fs (sy_aldn xc38_8 rfl rfl sy_refl) ?_
  refine sy_Fs (sy_gf xc38_9 xf38_18 rfl (wh_at hw 10 rfl) rfl (fh_at hX10 0 rfl rfl) sy_refl) ?_
  refine sy_Fs (sy_ildn xc38_12 rfl rfl sy_refl) ?_
  refine sy_Fs (sy_ildn xc38_13 rfl rfl sy_refl) ?_
  refine sy_Fs (sy_bipush (v := 32) xc38_14 (by decide) (by decide) sy_refl) ?_
  refine sy_Fs (sy_ge_f xc38_16 (by decide) (by decide) (by decide) sy_refl) ?_
  refine sy_Fs (sy_aldn xc38_19 rfl rfl sy_refl) ?_
  refine sy_Fs (sy_gf xc38_20 xf38_25 rfl (wh_at hw 10 rfl) rfl (fh_at hX10 6 rfl rfl) sy_refl) ?_
  refine sy_Fs (sy_ildn xc38_23 rfl rfl sy_refl) ?_
  refine sy_Fs (sx_bal (z := (mv_rd 32 Mk 9)) xc38_24 (wh_at hw 15 rfl) (by decide) (by decide) rfl) ?_
  refine sy_Fs (sy_ildn xc38_25 rfl rfl sy_refl) ?_
  refine sy_Fs (sx_ixor (z := (mo_xor (mv_rd 32 Mk 9) v)) xc38_26 rfl) ?_
  refine sy_Fs (sy_goto (pc' := 31) xc38_27 (by decide) (by decide) sy_refl) ?_
  refine sy_Fs (sx_i2b (z := (mn_b (mo_xor (mv_rd 32 Mk 9) v))) xc38_31 rfl) ?_
  refine sy_Fw (i := 11) (x := (1, 1, 64, (pk Sp Mk v 10))) hw (by decide) (sy_bas (i := 9) xc38_32 (wh_at hw 11 rfl) rfl (by decide) (by decide) rfl sy_refl) ?_
  intro w hw
  simp only [List.set_cons_zero, List.set_cons_succ] at hw
  refine sy_Fs (sx_iinc (c := 1) (z := 10) (ls' := [(2, pl 10, 0), (0, v, 0), (2, pl 16, 0), (0, 10, 0)]) xc38_33 rfl (by decide) (by rw [xl38]; rfl) rfl (by decide) rfl) ?_
  refine sy_Fs (sy_goto (pc' := 2) xc38_36 (by decide) (by decide) sy_refl) ?_
  refine sy_Fs (sy_ildn xc38_2 rfl rfl sy_refl) ?_
  refine sy_Fs (sy_bipush (v := 64) xc38_3 (by decide) (by decide) sy_refl) ?_
  refine sy_Fs (sy_ge_f xc38_5 (by decide) (by decide) (by decide) sy_refl) ?_
  refine sy_Fs (sy_aldn xc38_8 rfl rfl sy_refl) ?_
  refine sy_Fs (sy_gf xc38_9 xf38_18 rfl (wh_at hw 10 rfl) rfl (fh_at hX10 0 rfl rfl) sy_refl) ?_
  refine sy_Fs (sy_ildn xc38_12 rfl rfl sy_refl) ?_
  refine sy_Fs (sy_ildn xc38_13 rfl rfl sy_refl) ?_
  refine sy_Fs (sy_bipush (v := 32) xc38_14 (by decide) (by decide) sy_refl) ?_
  refine sy_Fs (sy_ge_f xc38_16 (by decide) (by decide) (by decide) sy_refl) ?_
  refine sy_Fs (sy_aldn xc38_19 rfl rfl sy_refl) ?_
  refine sy_Fs (sy_gf xc38_20 xf38_25 rfl (wh_at hw 10 rfl) rfl (fh_at hX10 6 rfl rfl) sy_refl) ?_
  refine sy_Fs (sy_ildn xc38_23 rfl rfl sy_refl) ?_
  refine sy_Fs (sx_bal (z := (mv_rd 32 Mk 10)) xc38_24 (wh_at hw 15 rfl) (by decide) (by decide) rfl) ?_
  refine sy_Fs (sy_ildn xc38_25 rfl rfl sy_refl) ?_
  refine sy_Fs (sx_ixor (z := (mo_xor (mv_rd 32 Mk 10) v)) xc38_26 rfl) ?_
  refine sy_Fs (sy_goto (pc' := 31) xc38_27 (by decide) (by decide) sy_refl) ?_
  refine sy_Fs (sx_i2b (z := (mn_b (mo_xor (mv_rd 32 Mk 10) v))) xc38_31 rfl) ?_
  refine sy_Fw (i := 11) (x := (1, 1, 64, (pk Sp Mk v 11))) hw (by decide) (sy_bas (i := 10) xc38_32 (wh_at hw 11 rfl) rfl (by decide) (by decide) rfl sy_refl) ?_
  intro w hw
  simp only [List.set_cons_zero, List.set_cons_succ] at hw
  refine sy_Fs (sx_iinc (c := 1) (z := 11) (ls' := [(2, pl 10, 0), (0, v, 0), (2, pl 16, 0), (0, 11, 0)]) xc38_33 rfl (by decide) (by rw [xl38]; rfl) rfl (by decide) rfl) ?_
  refine sy_Fs (sy_goto (pc' := 2) xc38_36 (by decide) (by decide) sy_refl) ?_
  refine sy_Fs (sy_ildn xc38_2 rfl rfl sy_refl) ?_
  refine sy_Fs (sy_bipush (v := 64) xc38_3 (by decide) (by decide) sy_refl) ?_
  refine sy_Fs (sy_ge_f xc38_5 (by decide) (by decide) (by decide) sy_refl) ?_
  refine sy_Fs (sy_aldn xc38_8 rfl rfl sy_refl) ?_
  refine sy_Fs (sy_gf xc38_9 xf38_18 rfl (wh_at hw 10 rfl) rfl (fh_at hX10 0 rfl rfl) sy_refl) ?_
  refine sy_Fs (sy_ildn xc38_12 rfl rfl sy_refl) ?_
  refine sy_Fs (sy_ildn xc38_13 rfl rfl sy_refl) ?_
  refine sy_Fs (sy_bipush (v := 32) xc38_14 (by decide) (by decide) sy_refl) ?_
  refine sy_Fs (sy_ge_f xc38_16 (by decide) (by decide) (by decide) sy_refl) ?_
  refine sy_Fs (sy_aldn xc38_19 rfl rfl sy_refl) ?_
  refine sy_Fs (sy_gf xc38_20 xf38_25 rfl (wh_at hw 10 rfl) rfl (fh_at hX10 6 rfl rfl) sy_refl) ?_
  refine sy_Fs (sy_ildn xc38_23 rfl rfl sy_refl) ?_
  refine sy_Fs (sx_bal (z := (mv_rd 32 Mk 11)) xc38_24 (wh_at hw 15 rfl) (by decide) (by decide) rfl) ?_
  refine sy_Fs (sy_ildn xc38_25 rfl rfl sy_refl) ?_
  refine sy_Fs (sx_ixor (z := (mo_xor (mv_rd 32 Mk 11) v)) xc38_26 rfl) ?_
  refine sy_Fs (sy_goto (pc' := 31) xc38_27 (by decide) (by decide) sy_refl) ?_
  refine sy_Fs (sx_i2b (z := (mn_b (mo_xor (mv_rd 32 Mk 11) v))) xc38_31 rfl) ?_
  refine sy_Fw (i := 11) (x := (1, 1, 64, (pk Sp Mk v 12))) hw (by decide) (sy_bas (i := 11) xc38_32 (wh_at hw 11 rfl) rfl (by decide) (by decide) rfl sy_refl) ?_
  intro w hw
  simp only [List.set_cons_zero, List.set_cons_succ] at hw
  refine sy_Fs (sx_iinc (c := 1) (z := 12) (ls' := [(2, pl 10, 0), (0, v, 0), (2, pl 16, 0), (0, 12, 0)]) xc38_33 rfl (by decide) (by rw [xl38]; rfl) rfl (by decide) rfl) ?_
  refine sy_Fs (sy_goto (pc' := 2) xc38_36 (by decide) (by decide) sy_refl) ?_
  refine sy_Fs (sy_ildn xc38_2 rfl rfl sy_refl) ?_
  refine sy_Fs (sy_bipush (v := 64) xc38_3 (by decide) (by decide) sy_refl) ?_
  refine sy_Fs (sy_ge_f xc38_5 (by decide) (by decide) (by decide) sy_refl) ?_
  refine sy_Fs (sy_aldn xc38_8 rfl rfl sy_refl) ?_
  refine sy_Fs (sy_gf xc38_9 xf38_18 rfl (wh_at hw 10 rfl) rfl (fh_at hX10 0 rfl rfl) sy_refl) ?_
  refine sy_Fs (sy_ildn xc38_12 rfl rfl sy_refl) ?_
  refine sy_Fs (sy_ildn xc38_13 rfl rfl sy_refl) ?_
  refine sy_Fs (sy_bipush (v := 32) xc38_14 (by decide) (by decide) sy_refl) ?_
  refine sy_Fs (sy_ge_f xc38_16 (by decide) (by decide) (by decide) sy_refl) ?_
  refine sy_Fs (sy_aldn xc38_19 rfl rfl sy_refl) ?_
  refine sy_Fs (sy_gf xc38_20 xf38_25 rfl (wh_at hw 10 rfl) rfl (fh_at hX10 6 rfl rfl) sy_refl) ?_
  refine sy_Fs (sy_ildn xc38_23 rfl rfl sy_refl) ?_
  refine sy_Fs (sx_bal (z := (mv_rd 32 Mk 12)) xc38_24 (wh_at hw 15 rfl) (by decide) (by decide) rfl) ?_
  refine sy_Fs (sy_ildn xc38_25 rfl rfl sy_refl) ?_
  refine sy_Fs (sx_ixor (z := (mo_xor (mv_rd 32 Mk 12) v)) xc38_26 rfl) ?_
  refine sy_Fs (sy_goto (pc' := 31) xc38_27 (by decide) (by decide) sy_refl) ?_
  refine sy_Fs (sx_i2b (z := (mn_b (mo_xor (mv_rd 32 Mk 12) v))) xc38_31 rfl) ?_
  refine sy_Fw (i := 11) (x := (1, 1, 64, (pk Sp Mk v 13))) hw (by decide) (sy_bas (i := 12) xc38_32 (wh_at hw 11 rfl) rfl (by decide) (by decide) rfl sy_refl) ?_
  intro w hw
  simp only [List.set_cons_zero, List.set_cons_succ] at hw
  refine sy_Fs (sx_iinc (c := 1) (z := 13) (ls' := [(2, pl 10, 0), (0, v, 0), (2, pl 16, 0), (0, 13, 0)]) xc38_33 rfl (by decide) (by rw [xl38]; rfl) rfl (by decide) rfl) ?_
  refine sy_Fs (sy_goto (pc' := 2) xc38_36 (by decide) (by decide) sy_refl) ?_
  refine sy_Fs (sy_ildn xc38_2 rfl rfl sy_refl) ?_
  refine sy_Fs (sy_bipush (v := 64) xc38_3 (by decide) (by decide) sy_refl) ?_
  refine sy_Fs (sy_ge_f xc38_5 (by decide) (by decide) (by decide) sy_refl) ?_
  refine sy_Fs (sy_aldn xc38_8 rfl rfl sy_refl) ?_
  refine sy_Fs (sy_gf xc38_9 xf38_18 rfl (wh_at hw 10 rfl) rfl (fh_at hX10 0 rfl rfl) sy_refl) ?_
  refine sy_Fs (sy_ildn xc38_12 rfl rfl sy_refl) ?_
  refine sy_Fs (sy_ildn xc38_13 rfl rfl sy_refl) ?_
  refine sy_Fs (sy_bipush (v := 32) xc38_14 (by decide) (by decide) sy_refl) ?_
  refine sy_Fs (sy_ge_f xc38_16 (by decide) (by decide) (by decide) sy_refl) ?_
  refine sy_Fs (sy_aldn xc38_19 rfl rfl sy_refl) ?_
  refine sy_Fs (sy_gf xc38_20 xf38_25 rfl (wh_at hw 10 rfl) rfl (fh_at hX10 6 rfl rfl) sy_refl) ?_
  refine sy_Fs (sy_ildn xc38_23 rfl rfl sy_refl) ?_
  refine sy_Fs (sx_bal (z := (mv_rd 32 Mk 13)) xc38_24 (wh_at hw 15 rfl) (by decide) (by decide) rfl) ?_
  refine sy_Fs (sy_ildn xc38_25 rfl rfl sy_refl) ?_
  refine sy_Fs (sx_ixor (z := (mo_xor (mv_rd 32 Mk 13) v)) xc38_26 rfl) ?_
  refine sy_Fs (sy_goto (pc' := 31) xc38_27 (by decide) (by decide) sy_refl) ?_
  refine sy_Fs (sx_i2b (z := (mn_b (mo_xor (mv_rd 32 Mk 13) v))) xc38_31 rfl) ?_
  refine sy_Fw (i := 11) (x := (1, 1, 64, (pk Sp Mk v 14))) hw (by decide) (sy_bas (i := 13) xc38_32 (wh_at hw 11 rfl) rfl (by decide) (by decide) rfl sy_refl) ?_
  intro w hw
  simp only [List.set_cons_zero, List.set_cons_succ] at hw
  refine sy_Fs (sx_iinc (c := 1) (z := 14) (ls' := [(2, pl 10, 0), (0, v, 0), (2, pl 16, 0), (0, 14, 0)]) xc38_33 rfl (by decide) (by rw [xl38]; rfl) rfl (by decide) rfl) ?_
  refine sy_Fs (sy_goto (pc' := 2) xc38_36 (by decide) (by decide) sy_refl) ?_
  refine sy_Fs (sy_ildn xc38_2 rfl rfl sy_refl) ?_
  refine sy_Fs (sy_bipush (v := 64) xc38_3 (by decide) (by decide) sy_refl) ?_
  refine sy_Fs (sy_ge_f xc38_5 (by decide) (by decide) (by decide) sy_refl) ?_
  refine sy_Fs (sy_aldn xc38_8 rfl rfl sy_refl) ?_
  refine sy_Fs (sy_gf xc38_9 xf38_18 rfl (wh_at hw 10 rfl) rfl (fh_at hX10 0 rfl rfl) sy_refl) ?_
  refine sy_Fs (sy_ildn xc38_12 rfl rfl sy_refl) ?_
  refine sy_Fs (sy_ildn xc38_13 rfl rfl sy_refl) ?_
  refine sy_Fs (sy_bipush (v := 32) xc38_14 (by decide) (by decide) sy_refl) ?_
  refine sy_Fs (sy_ge_f xc38_16 (by decide) (by decide) (by decide) sy_refl) ?_
  refine sy_Fs (sy_aldn xc38_19 rfl rfl sy_refl) ?_
  refine sy_Fs (sy_gf xc38_20 xf38_25 rfl (wh_at hw 10 rfl) rfl (fh_at hX10 6 rfl rfl) sy_refl) ?_
  refine sy_Fs (sy_ildn xc38_23 rfl rfl sy_refl) ?_
  refine sy_Fs (sx_bal (z := (mv_rd 32 Mk 14)) xc38_24 (wh_at hw 15 rfl) (by decide) (by decide) rfl) ?_
  refine sy_Fs (sy_ildn xc38_25 rfl rfl sy_refl) ?_
  refine sy_Fs (sx_ixor (z := (mo_xor (mv_rd 32 Mk 14) v)) xc38_26 rfl) ?_
  refine sy_Fs (sy_goto (pc' := 31) xc38_27 (by decide) (by decide) sy_refl) ?_
  refine sy_Fs (sx_i2b (z := (mn_b (mo_xor (mv_rd 32 Mk 14) v))) xc38_31 rfl) ?_
  refine sy_Fw (i := 11) (x := (1, 1, 64, (pk Sp Mk v 15))) hw (by decide) (sy_bas (i := 14) xc38_32 (wh_at hw 11 rfl) rfl (by decide) (by decide) rfl sy_refl) ?_
  intro w hw
  simp only [List.set_cons_zero, List.set_cons_succ] at hw
  refine sy_Fs (sx_iinc (c := 1) (z := 15) (ls' := [(2, pl 10, 0), (0, v, 0), (2, pl 16, 0), (0, 15, 0)]) xc38_33 rfl (by decide) (by rw [xl38]; rfl) rfl (by decide) rfl) ?_
  refine sy_Fs (sy_goto (pc' := 2) xc38_36 (by decide) (by decide) sy_refl) ?_
  refine sy_Fs (sy_ildn xc38_2 rfl rfl sy_refl) ?_
  refine sy_Fs (sy_bipush (v := 64) xc38_3 (by decide) (by decide) sy_refl) ?_
  refine sy_Fs (sy_ge_f xc38_5 (by decide) (by decide) (by decide) sy_refl) ?_
  refine sy_Fs (sy_aldn xc38_8 rfl rfl sy_refl) ?_
  refine sy_Fs (sy_gf xc38_9 xf38_18 rfl (wh_at hw 10 rfl) rfl (fh_at hX10 0 rfl rfl) sy_refl) ?_
  refine sy_Fs (sy_ildn xc38_12 rfl rfl sy_refl) ?_
  refine sy_Fs (sy_ildn xc38_13 rfl rfl sy_refl) ?_
  refine sy_Fs (sy_bipush (v := 32) xc38_14 (by decide) (by decide) sy_refl) ?_
  refine sy_Fs (sy_ge_f xc38_16 (by decide) (by decide) (by decide) sy_refl) ?_
  refine sy_Fs (sy_aldn xc38_19 rfl rfl sy_refl) ?_
  refine sy_Fs (sy_gf xc38_20 xf38_25 rfl (wh_at hw 10 rfl) rfl (fh_at hX10 6 rfl rfl) sy_refl) ?_
  refine sy_Fs (sy_ildn xc38_23 rfl rfl sy_refl) ?_
  refine sy_Fs (sx_bal (z := (mv_rd 32 Mk 15)) xc38_24 (wh_at hw 15 rfl) (by decide) (by decide) rfl) ?_
  refine sy_Fs (sy_ildn xc38_25 rfl rfl sy_refl) ?_
  refine sy_Fs (sx_ixor (z := (mo_xor (mv_rd 32 Mk 15) v)) xc38_26 rfl) ?_
  refine sy_Fs (sy_goto (pc' := 31) xc38_27 (by decide) (by decide) sy_refl) ?_
  refine sy_Fs (sx_i2b (z := (mn_b (mo_xor (mv_rd 32 Mk 15) v))) xc38_31 rfl) ?_
  refine sy_Fw (i := 11) (x := (1, 1, 64, (pk Sp Mk v 16))) hw (by decide) (sy_bas (i := 15) xc38_32 (wh_at hw 11 rfl) rfl (by decide) (by decide) rfl sy_refl) ?_
  intro w hw
  simp only [List.set_cons_zero, List.set_cons_succ] at hw
  refine sy_Fs (sx_iinc (c := 1) (z := 16) (ls' := [(2, pl 10, 0), (0, v, 0), (2, pl 16, 0), (0, 16, 0)]) xc38_33 rfl (by decide) (by rw [xl38]; rfl) rfl (by decide) rfl) ?_
  refine sy_Fs (sy_goto (pc' := 2) xc38_36 (by decide) (by decide) sy_refl) ?_
  refine sy_Fs (sy_ildn xc38_2 rfl rfl sy_refl) ?_
  refine sy_Fs (sy_bipush (v := 64) xc38_3 (by decide) (by decide) sy_refl) ?_
  refine sy_Fs (sy_ge_f xc38_5 (by decide) (by decide) (by decide) sy_refl) ?_
  refine sy_Fs (sy_aldn xc38_8 rfl rfl sy_refl) ?_
  refine sy_Fs (sy_gf xc38_9 xf38_18 rfl (wh_at hw 10 rfl) rfl (fh_at hX10 0 rfl rfl) sy_refl) ?_
  refine sy_Fs (sy_ildn xc38_12 rfl rfl sy_refl) ?_
  refine sy_Fs (sy_ildn xc38_13 rfl rfl sy_refl) ?_
  refine sy_Fs (sy_bipush (v := 32) xc38_14 (by decide) (by decide) sy_refl) ?_
  refine sy_Fs (sy_ge_f xc38_16 (by decide) (by decide) (by decide) sy_refl) ?_
  refine sy_Fs (sy_aldn xc38_19 rfl rfl sy_refl) ?_
  refine sy_Fs (sy_gf xc38_20 xf38_25 rfl (wh_at hw 10 rfl) rfl (fh_at hX10 6 rfl rfl) sy_refl) ?_
  refine sy_Fs (sy_ildn xc38_23 rfl rfl sy_refl) ?_
  refine sy_Fs (sx_bal (z := (mv_rd 32 Mk 16)) xc38_24 (wh_at hw 15 rfl) (by decide) (by decide) rfl) ?_
  refine sy_Fs (sy_ildn xc38_25 rfl rfl sy_refl) ?_
  refine sy_Fs (sx_ixor (z := (mo_xor (mv_rd 32 Mk 16) v)) xc38_26 rfl) ?_
  refine sy_Fs (sy_goto (pc' := 31) xc38_27 (by decide) (by decide) sy_refl) ?_
  refine sy_Fs (sx_i2b (z := (mn_b (mo_xor (mv_rd 32 Mk 16) v))) xc38_31 rfl) ?_
  refine sy_Fw (i := 11) (x := (1, 1, 64, (pk Sp Mk v 17))) hw (by decide) (sy_bas (i := 16) xc38_32 (wh_at hw 11 rfl) rfl (by decide) (by decide) rfl sy_refl) ?_
  intro w hw
  simp only [List.set_cons_zero, List.set_cons_succ] at hw
  refine sy_Fs (sx_iinc (c := 1) (z := 17) (ls' := [(2, pl 10, 0), (0, v, 0), (2, pl 16, 0), (0, 17, 0)]) xc38_33 rfl (by decide) (by rw [xl38]; rfl) rfl (by decide) rfl) ?_
  refine sy_Fs (sy_goto (pc' := 2) xc38_36 (by decide) (by decide) sy_refl) ?_
  refine sy_Fs (sy_ildn xc38_2 rfl rfl sy_refl) ?_
  refine sy_Fs (sy_bipush (v := 64) xc38_3 (by decide) (by decide) sy_refl) ?_
  refine sy_Fs (sy_ge_f xc38_5 (by decide) (by decide) (by decide) sy_refl) ?_
  refine sy_Fs (sy_aldn xc38_8 rfl rfl sy_refl) ?_
  refine sy_Fs (sy_gf xc38_9 xf38_18 rfl (wh_at hw 10 rfl) rfl (fh_at hX10 0 rfl rfl) sy_refl) ?_
  refine sy_Fs (sy_ildn xc38_12 rfl rfl sy_refl) ?_
  refine sy_Fs (sy_ildn xc38_13 rfl rfl sy_refl) ?_
  refine sy_Fs (sy_bipush (v := 32) xc38_14 (by decide) (by decide) sy_refl) ?_
  refine sy_Fs (sy_ge_f xc38_16 (by decide) (by decide) (by decide) sy_refl) ?_
  refine sy_Fs (sy_aldn xc38_19 rfl rfl sy_refl) ?_
  refine sy_Fs (sy_gf xc38_20 xf38_25 rfl (wh_at hw 10 rfl) rfl (fh_at hX10 6 rfl rfl) sy_refl) ?_
  refine sy_Fs (sy_ildn xc38_23 rfl rfl sy_refl) ?_
  refine sy_Fs (sx_bal (z := (mv_rd 32 Mk 17)) xc38_24 (wh_at hw 15 rfl) (by decide) (by decide) rfl) ?_
  refine sy_Fs (sy_ildn xc38_25 rfl rfl sy_refl) ?_
  refine sy_Fs (sx_ixor (z := (mo_xor (mv_rd 32 Mk 17) v)) xc38_26 rfl) ?_
  refine sy_Fs (sy_goto (pc' := 31) xc38_27 (by decide) (by decide) sy_refl) ?_
  refine sy_Fs (sx_i2b (z := (mn_b (mo_xor (mv_rd 32 Mk 17) v))) xc38_31 rfl) ?_
  refine sy_Fw (i := 11) (x := (1, 1, 64, (pk Sp Mk v 18))) hw (by decide) (sy_bas (i := 17) xc38_32 (wh_at hw 11 rfl) rfl (by decide) (by decide) rfl sy_refl) ?_
  intro w hw
  simp only [List.set_cons_zero, List.set_cons_succ] at hw
  refine sy_Fs (sx_iinc (c := 1) (z := 18) (ls' := [(2, pl 10, 0), (0, v, 0), (2, pl 16, 0), (0, 18, 0)]) xc38_33 rfl (by decide) (by rw [xl38]; rfl) rfl (by decide) rfl) ?_
  refine sy_Fs (sy_goto (pc' := 2) xc38_36 (by decide) (by decide) sy_refl) ?_
  refine sy_Fs (sy_ildn xc38_2 rfl rfl sy_refl) ?_
  refine sy_Fs (sy_bipush (v := 64) xc38_3 (by decide) (by decide) sy_refl) ?_
  refine sy_Fs (sy_ge_f xc38_5 (by decide) (by decide) (by decide) sy_refl) ?_
  refine sy_Fs (sy_aldn xc38_8 rfl rfl sy_refl) ?_
  refine sy_Fs (sy_gf xc38_9 xf38_18 rfl (wh_at hw 10 rfl) rfl (fh_at hX10 0 rfl rfl) sy_refl) ?_
  refine sy_Fs (sy_ildn xc38_12 rfl rfl sy_refl) ?_
  refine sy_Fs (sy_ildn xc38_13 rfl rfl sy_refl) ?_
  refine sy_Fs (sy_bipush (v := 32) xc38_14 (by decide) (by decide) sy_refl) ?_
  refine sy_Fs (sy_ge_f xc38_16 (by decide) (by decide) (by decide) sy_refl) ?_
  refine sy_Fs (sy_aldn xc38_19 rfl rfl sy_refl) ?_
  refine sy_Fs (sy_gf xc38_20 xf38_25 rfl (wh_at hw 10 rfl) rfl (fh_at hX10 6 rfl rfl) sy_refl) ?_
  refine sy_Fs (sy_ildn xc38_23 rfl rfl sy_refl) ?_
  refine sy_Fs (sx_bal (z := (mv_rd 32 Mk 18)) xc38_24 (wh_at hw 15 rfl) (by decide) (by decide) rfl) ?_
  refine sy_Fs (sy_ildn xc38_25 rfl rfl sy_refl) ?_
  refine sy_Fs (sx_ixor (z := (mo_xor (mv_rd 32 Mk 18) v)) xc38_26 rfl) ?_
  refine sy_Fs (sy_goto (pc' := 31) xc38_27 (by decide) (by decide) sy_refl) ?_
  refine sy_Fs (sx_i2b (z := (mn_b (mo_xor (mv_rd 32 Mk 18) v))) xc38_31 rfl) ?_
  refine sy_Fw (i := 11) (x := (1, 1, 64, (pk Sp Mk v 19))) hw (by decide) (sy_bas (i := 18) xc38_32 (wh_at hw 11 rfl) rfl (by decide) (by decide) rfl sy_refl) ?_
  intro w hw
  simp only [List.set_cons_zero, List.set_cons_succ] at hw
  refine sy_Fs (sx_iinc (c := 1) (z := 19) (ls' := [(2, pl 10, 0), (0, v, 0), (2, pl 16, 0), (0, 19, 0)]) xc38_33 rfl (by decide) (by rw [xl38]; rfl) rfl (by decide) rfl) ?_
  refine sy_Fs (sy_goto (pc' := 2) xc38_36 (by decide) (by decide) sy_refl) ?_
  refine sy_Fs (sy_ildn xc38_2 rfl rfl sy_refl) ?_
  refine sy_Fs (sy_bipush (v := 64) xc38_3 (by decide) (by decide) sy_refl) ?_
  refine sy_Fs (sy_ge_f xc38_5 (by decide) (by decide) (by decide) sy_refl) ?_
  refine sy_Fs (sy_aldn xc38_8 rfl rfl sy_refl) ?_
  refine sy_Fs (sy_gf xc38_9 xf38_18 rfl (wh_at hw 10 rfl) rfl (fh_at hX10 0 rfl rfl) sy_refl) ?_
  refine sy_Fs (sy_ildn xc38_12 rfl rfl sy_refl) ?_
  refine sy_Fs (sy_ildn xc38_13 rfl rfl sy_refl) ?_
  refine sy_Fs (sy_bipush (v := 32) xc38_14 (by decide) (by decide) sy_refl) ?_
  refine sy_Fs (sy_ge_f xc38_16 (by decide) (by decide) (by decide) sy_refl) ?_
  refine sy_Fs (sy_aldn xc38_19 rfl rfl sy_refl) ?_
  refine sy_Fs (sy_gf xc38_20 xf38_25 rfl (wh_at hw 10 rfl) rfl (fh_at hX10 6 rfl rfl) sy_refl) ?_
  refine sy_Fs (sy_ildn xc38_23 rfl rfl sy_refl) ?_
  refine sy_Fs (sx_bal (z := (mv_rd 32 Mk 19)) xc38_24 (wh_at hw 15 rfl) (by decide) (by decide) rfl) ?_
  refine sy_Fs (sy_ildn xc38_25 rfl rfl sy_refl) ?_
  refine sy_Fs (sx_ixor (z := (mo_xor (mv_rd 32 Mk 19) v)) xc38_26 rfl) ?_
  refine sy_Fs (sy_goto (pc' := 31) xc38_27 (by decide) (by decide) sy_refl) ?_
  refine sy_Fs (sx_i2b (z := (mn_b (mo_xor (mv_rd 32 Mk 19) v))) xc38_31 rfl) ?_
  refine sy_Fw (i := 11) (x := (1, 1, 64, (pk Sp Mk v 20))) hw (by decide) (sy_bas (i := 19) xc38_32 (wh_at hw 11 rfl) rfl (by decide) (by decide) rfl sy_refl) ?_
  intro w hw
  simp only [List.set_cons_zero, List.set_cons_succ] at hw
  refine sy_Fs (sx_iinc (c := 1) (z := 20) (ls' := [(2, pl 10, 0), (0, v, 0), (2, pl 16, 0), (0, 20, 0)]) xc38_33 rfl (by decide) (by rw [xl38]; rfl) rfl (by decide) rfl) ?_
  refine sy_Fs (sy_goto (pc' := 2) xc38_36 (by decide) (by decide) sy_refl) ?_
  refine sy_Fs (sy_ildn xc38_2 rfl rfl sy_refl) ?_
  refine sy_Fs (sy_bipush (v := 64) xc38_3 (by decide) (by decide) sy_refl) ?_
  refine sy_Fs (sy_ge_f xc38_5 (by decide) (by decide) (by decide) sy_refl) ?_
  refine sy_Fs (sy_aldn xc38_8 rfl rfl sy_refl) ?_
  refine sy_Fs (sy_gf xc38_9 xf38_18 rfl (wh_at hw 10 rfl) rfl (fh_at hX10 0 rfl rfl) sy_refl) ?_
  refine sy_Fs (sy_ildn xc38_12 rfl rfl sy_refl) ?_
  refine sy_Fs (sy_ildn xc38_13 rfl rfl sy_refl) ?_
  refine sy_Fs (sy_bipush (v := 32) xc38_14 (by decide) (by decide) sy_refl) ?_
  refine sy_Fs (sy_ge_f xc38_16 (by decide) (by decide) (by decide) sy_refl) ?_
  refine sy_Fs (sy_aldn xc38_19 rfl rfl sy_refl) ?_
  refine sy_Fs (sy_gf xc38_20 xf38_25 rfl (wh_at hw 10 rfl) rfl (fh_at hX10 6 rfl rfl) sy_refl) ?_
  refine sy_Fs (sy_ildn xc38_23 rfl rfl sy_refl) ?_
  refine sy_Fs (sx_bal (z := (mv_rd 32 Mk 20)) xc38_24 (wh_at hw 15 rfl) (by decide) (by decide) rfl) ?_
  refine sy_Fs (sy_ildn xc38_25 rfl rfl sy_refl) ?_
  refine sy_Fs (sx_ixor (z := (mo_xor (mv_rd 32 Mk 20) v)) xc38_26 rfl) ?_
  refine sy_Fs (sy_goto (pc' := 31) xc38_27 (by decide) (by decide) sy_refl) ?_
  refine sy_Fs (sx_i2b (z := (mn_b (mo_xor (mv_rd 32 Mk 20) v))) xc38_31 rfl) ?_
  refine sy_Fw (i := 11) (x := (1, 1, 64, (pk Sp Mk v 21))) hw (by decide) (sy_bas (i := 20) xc38_32 (wh_at hw 11 rfl) rfl (by decide) (by decide) rfl sy_refl) ?_
  intro w hw
  simp only [List.set_cons_zero, List.set_cons_succ] at hw
  refine sy_Fs (sx_iinc (c := 1) (z := 21) (ls' := [(2, pl 10, 0), (0, v, 0), (2, pl 16, 0), (0, 21, 0)]) xc38_33 rfl (by decide) (by rw [xl38]; rfl) rfl (by decide) rfl) ?_
  refine sy_Fs (sy_goto (pc' := 2) xc38_36 (by decide) (by decide) sy_refl) ?_
  refine sy_Fs (sy_ildn xc38_2 rfl rfl sy_refl) ?_
  refine sy_Fs (sy_bipush (v := 64) xc38_3 (by decide) (by decide) sy_refl) ?_
  refine sy_Fs (sy_ge_f xc38_5 (by decide) (by decide) (by decide) sy_refl) ?_
  refine sy_Fs (sy_aldn xc38_8 rfl rfl sy_refl) ?_
  refine sy_Fs (sy_gf xc38_9 xf38_18 rfl (wh_at hw 10 rfl) rfl (fh_at hX10 0 rfl rfl) sy_refl) ?_
  refine sy_Fs (sy_ildn xc38_12 rfl rfl sy_refl) ?_
  refine sy_Fs (sy_ildn xc38_13 rfl rfl sy_refl) ?_
  refine sy_Fs (sy_bipush (v := 32) xc38_14 (by decide) (by decide) sy_refl) ?_
  refine sy_Fs (sy_ge_f xc38_16 (by decide) (by decide) (by decide) sy_refl) ?_
  refine sy_Fs (sy_aldn xc38_19 rfl rfl sy_refl) ?_
  refine sy_Fs (sy_gf xc38_20 xf38_25 rfl (wh_at hw 10 rfl) rfl (fh_at hX10 6 rfl rfl) sy_refl) ?_
  refine sy_Fs (sy_ildn xc38_23 rfl rfl sy_refl) ?_
  refine sy_Fs (sx_bal (z := (mv_rd 32 Mk 21)) xc38_24 (wh_at hw 15 rfl) (by decide) (by decide) rfl) ?_
  refine sy_Fs (sy_ildn xc38_25 rfl rfl sy_refl) ?_
  refine sy_Fs (sx_ixor (z := (mo_xor (mv_rd 32 Mk 21) v)) xc38_26 rfl) ?_
  refine sy_Fs (sy_goto (pc' := 31) xc38_27 (by decide) (by decide) sy_refl) ?_
  refine sy_Fs (sx_i2b (z := (mn_b (mo_xor (mv_rd 32 Mk 21) v))) xc38_31 rfl) ?_
  refine sy_Fw (i := 11) (x := (1, 1, 64, (pk Sp Mk v 22))) hw (by decide) (sy_bas (i := 21) xc38_32 (wh_at hw 11 rfl) rfl (by decide) (by decide) rfl sy_refl) ?_
  intro w hw
  simp only [List.set_cons_zero, List.set_cons_succ] at hw
  refine sy_Fs (sx_iinc (c := 1) (z := 22) (ls' := [(2, pl 10, 0), (0, v, 0), (2, pl 16, 0), (0, 22, 0)]) xc38_33 rfl (by decide) (by rw [xl38]; rfl) rfl (by decide) rfl) ?_
  refine sy_Fs (sy_goto (pc' := 2) xc38_36 (by decide) (by decide) sy_refl) ?_
  refine sy_Fs (sy_ildn xc38_2 rfl rfl sy_refl) ?_
  refine sy_Fs (sy_bipush (v := 64) xc38_3 (by decide) (by decide) sy_refl) ?_
  refine sy_Fs (sy_ge_f xc38_5 (by decide) (by decide) (by decide) sy_refl) ?_
  refine sy_Fs (sy_aldn xc38_8 rfl rfl sy_refl) ?_
  refine sy_Fs (sy_gf xc38_9 xf38_18 rfl (wh_at hw 10 rfl) rfl (fh_at hX10 0 rfl rfl) sy_refl) ?_
  refine sy_Fs (sy_ildn xc38_12 rfl rfl sy_refl) ?_
  refine sy_Fs (sy_ildn xc38_13 rfl rfl sy_refl) ?_
  refine sy_Fs (sy_bipush (v := 32) xc38_14 (by decide) (by decide) sy_refl) ?_
  refine sy_Fs (sy_ge_f xc38_16 (by decide) (by decide) (by decide) sy_refl) ?_
  refine sy_Fs (sy_aldn xc38_19 rfl rfl sy_refl) ?_
  refine sy_Fs (sy_gf xc38_20 xf38_25 rfl (wh_at hw 10 rfl) rfl (fh_at hX10 6 rfl rfl) sy_refl) ?_
  refine sy_Fs (sy_ildn xc38_23 rfl rfl sy_refl) ?_
  refine sy_Fs (sx_bal (z := (mv_rd 32 Mk 22)) xc38_24 (wh_at hw 15 rfl) (by decide) (by decide) rfl) ?_
  refine sy_Fs (sy_ildn xc38_25 rfl rfl sy_refl) ?_
  refine sy_Fs (sx_ixor (z := (mo_xor (mv_rd 32 Mk 22) v)) xc38_26 rfl) ?_
  refine sy_Fs (sy_goto (pc' := 31) xc38_27 (by decide) (by decide) sy_refl) ?_
  refine sy_Fs (sx_i2b (z := (mn_b (mo_xor (mv_rd 32 Mk 22) v))) xc38_31 rfl) ?_
  refine sy_Fw (i := 11) (x := (1, 1, 64, (pk Sp Mk v 23))) hw (by decide) (sy_bas (i := 22) xc38_32 (wh_at hw 11 rfl) rfl (by decide) (by decide) rfl sy_refl) ?_
  intro w hw
  simp only [List.set_cons_zero, List.set_cons_succ] at hw
  refine sy_Fs (sx_iinc (c := 1) (z := 23) (ls' := [(2, pl 10, 0), (0, v, 0), (2, pl 16, 0), (0, 23, 0)]) xc38_33 rfl (by decide) (by rw [xl38]; rfl) rfl (by decide) rfl) ?_
  refine sy_Fs (sy_goto (pc' := 2) xc38_36 (by decide) (by decide) sy_refl) ?_
  refine sy_Fs (sy_ildn xc38_2 rfl rfl sy_refl) ?_
  refine sy_Fs (sy_bipush (v := 64) xc38_3 (by decide) (by decide) sy_refl) ?_
  refine sy_Fs (sy_ge_f xc38_5 (by decide) (by decide) (by decide) sy_refl) ?_
  refine sy_Fs (sy_aldn xc38_8 rfl rfl sy_refl) ?_
  refine sy_Fs (sy_gf xc38_9 xf38_18 rfl (wh_at hw 10 rfl) rfl (fh_at hX10 0 rfl rfl) sy_refl) ?_
  refine sy_Fs (sy_ildn xc38_12 rfl rfl sy_refl) ?_
  refine sy_Fs (sy_ildn xc38_13 rfl rfl sy_refl) ?_
  refine sy_Fs (sy_bipush (v := 32) xc38_14 (by decide) (by decide) sy_refl) ?_
  refine sy_Fs (sy_ge_f xc38_16 (by decide) (by decide) (by decide) sy_refl) ?_
  refine sy_Fs (sy_aldn xc38_19 rfl rfl sy_refl) ?_
  refine sy_Fs (sy_gf xc38_20 xf38_25 rfl (wh_at hw 10 rfl) rfl (fh_at hX10 6 rfl rfl) sy_refl) ?_
  refine sy_Fs (sy_ildn xc38_23 rfl rfl sy_refl) ?_
  refine sy_Fs (sx_bal (z := (mv_rd 32 Mk 23)) xc38_24 (wh_at hw 15 rfl) (by decide) (by decide) rfl) ?_
  refine sy_Fs (sy_ildn xc38_25 rfl rfl sy_refl) ?_
  refine sy_Fs (sx_ixor (z := (mo_xor (mv_rd 32 Mk 23) v)) xc38_26 rfl) ?_
  refine sy_Fs (sy_goto (pc' := 31) xc38_27 (by decide) (by decide) sy_refl) ?_
  refine sy_Fs (sx_i2b (z := (mn_b (mo_xor (mv_rd 32 Mk 23) v))) xc38_31 rfl) ?_
  refine sy_Fw (i := 11) (x := (1, 1, 64, (pk Sp Mk v 24))) hw (by decide) (sy_bas (i := 23) xc38_32 (wh_at hw 11 rfl) rfl (by decide) (by decide) rfl sy_refl) ?_
  intro w hw
  simp only [List.set_cons_zero, List.set_cons_succ] at hw
  refine sy_Fs (sx_iinc (c := 1) (z := 24) (ls' := [(2, pl 10, 0), (0, v, 0), (2, pl 16, 0), (0, 24, 0)]) xc38_33 rfl (by decide) (by rw [xl38]; rfl) rfl (by decide) rfl) ?_
  refine sy_Fs (sy_goto (pc' := 2) xc38_36 (by decide) (by decide) sy_refl) ?_
  refine sy_Fs (sy_ildn xc38_2 rfl rfl sy_refl) ?_
  refine sy_Fs (sy_bipush (v := 64) xc38_3 (by decide) (by decide) sy_refl) ?_
  refine sy_Fs (sy_ge_f xc38_5 (by decide) (by decide) (by decide) sy_refl) ?_
  refine sy_Fs (sy_aldn xc38_8 rfl rfl sy_refl) ?_
  refine sy_Fs (sy_gf xc38_9 xf38_18 rfl (wh_at hw 10 rfl) rfl (fh_at hX10 0 rfl rfl) sy_refl) ?_
  refine sy_Fs (sy_ildn xc38_12 rfl rfl sy_refl) ?_
  refine sy_Fs (sy_ildn xc38_13 rfl rfl sy_refl) ?_
  refine sy_Fs (sy_bipush (v := 32) xc38_14 (by decide) (by decide) sy_refl) ?_
  refine sy_Fs (sy_ge_f xc38_16 (by decide) (by decide) (by decide) sy_refl) ?_
  refine sy_Fs (sy_aldn xc38_19 rfl rfl sy_refl) ?_
  refine sy_Fs (sy_gf xc38_20 xf38_25 rfl (wh_at hw 10 rfl) rfl (fh_at hX10 6 rfl rfl) sy_refl) ?_
  refine sy_Fs (sy_ildn xc38_23 rfl rfl sy_refl) ?_
  refine sy_Fs (sx_bal (z := (mv_rd 32 Mk 24)) xc38_24 (wh_at hw 15 rfl) (by decide) (by decide) rfl) ?_
  refine sy_Fs (sy_ildn xc38_25 rfl rfl sy_refl) ?_
  refine sy_Fs (sx_ixor (z := (mo_xor (mv_rd 32 Mk 24) v)) xc38_26 rfl) ?_
  refine sy_Fs (sy_goto (pc' := 31) xc38_27 (by decide) (by decide) sy_refl) ?_
  refine sy_Fs (sx_i2b (z := (mn_b (mo_xor (mv_rd 32 Mk 24) v))) xc38_31 rfl) ?_
  refine sy_Fw (i := 11) (x := (1, 1, 64, (pk Sp Mk v 25))) hw (by decide) (sy_bas (i := 24) xc38_32 (wh_at hw 11 rfl) rfl (by decide) (by decide) rfl sy_refl) ?_
  intro w hw
  simp only [List.set_cons_zero, List.set_cons_succ] at hw
  refine sy_Fs (sx_iinc (c := 1) (z := 25) (ls' := [(2, pl 10, 0), (0, v, 0), (2, pl 16, 0), (0, 25, 0)]) xc38_33 rfl (by decide) (by rw [xl38]; rfl) rfl (by decide) rfl) ?_
  refine sy_Fs (sy_goto (pc' := 2) xc38_36 (by decide) (by decide) sy_refl) ?_
  refine sy_Fs (sy_ildn xc38_2 rfl rfl sy_refl) ?_
  refine sy_Fs (sy_bipush (v := 64) xc38_3 (by decide) (by decide) sy_refl) ?_
  refine sy_Fs (sy_ge_f xc38_5 (by decide) (by decide) (by decide) sy_refl) ?_
  refine sy_Fs (sy_aldn xc38_8 rfl rfl sy_refl) ?_
  refine sy_Fs (sy_gf xc38_9 xf38_18 rfl (wh_at hw 10 rfl) rfl (fh_at hX10 0 rfl rfl) sy_refl) ?_
  refine sy_Fs (sy_ildn xc38_12 rfl rfl sy_refl) ?_
  refine sy_Fs (sy_ildn xc38_13 rfl rfl sy_refl) ?_
  refine sy_Fs (sy_bipush (v := 32) xc38_14 (by decide) (by decide) sy_refl) ?_
  refine sy_Fs (sy_ge_f xc38_16 (by decide) (by decide) (by decide) sy_refl) ?_
  refine sy_Fs (sy_aldn xc38_19 rfl rfl sy_refl) ?_
  refine sy_Fs (sy_gf xc38_20 xf38_25 rfl (wh_at hw 10 rfl) rfl (fh_at hX10 6 rfl rfl) sy_refl) ?_
  refine sy_Fs (sy_ildn xc38_23 rfl rfl sy_refl) ?_
  refine sy_Fs (sx_bal (z := (mv_rd 32 Mk 25)) xc38_24 (wh_at hw 15 rfl) (by decide) (by decide) rfl) ?_
  refine sy_Fs (sy_ildn xc38_25 rfl rfl sy_refl) ?_
  refine sy_Fs (sx_ixor (z := (mo_xor (mv_rd 32 Mk 25) v)) xc38_26 rfl) ?_
  refine sy_Fs (sy_goto (pc' := 31) xc38_27 (by decide) (by decide) sy_refl) ?_
  refine sy_Fs (sx_i2b (z := (mn_b (mo_xor (mv_rd 32 Mk 25) v))) xc38_31 rfl) ?_
  refine sy_Fw (i := 11) (x := (1, 1, 64, (pk Sp Mk v 26))) hw (by decide) (sy_bas (i := 25) xc38_32 (wh_at hw 11 rfl) rfl (by decide) (by decide) rfl sy_refl) ?_
  intro w hw
  simp only [List.set_cons_zero, List.set_cons_succ] at hw
  refine sy_Fs (sx_iinc (c := 1) (z := 26) (ls' := [(2, pl 10, 0), (0, v, 0), (2, pl 16, 0), (0, 26, 0)]) xc38_33 rfl (by decide) (by rw [xl38]; rfl) rfl (by decide) rfl) ?_
  refine sy_Fs (sy_goto (pc' := 2) xc38_36 (by decide) (by decide) sy_refl) ?_
  refine sy_Fs (sy_ildn xc38_2 rfl rfl sy_refl) ?_
  refine sy_Fs (sy_bipush (v := 64) xc38_3 (by decide) (by decide) sy_refl) ?_
  refine sy_Fs (sy_ge_f xc38_5 (by decide) (by decide) (by decide) sy_refl) ?_
  refine sy_Fs (sy_aldn xc38_8 rfl rfl sy_refl) ?_
  refine sy_Fs (sy_gf xc38_9 xf38_18 rfl (wh_at hw 10 rfl) rfl (fh_at hX10 0 rfl rfl) sy_refl) ?_
  refine sy_Fs (sy_ildn xc38_12 rfl rfl sy_refl) ?_
  refine sy_Fs (sy_ildn xc38_13 rfl rfl sy_refl) ?_
  refine sy_Fs (sy_bipush (v := 32) xc38_14 (by decide) (by decide) sy_refl) ?_
  refine sy_Fs (sy_ge_f xc38_16 (by decide) (by decide) (by decide) sy_refl) ?_
  refine sy_Fs (sy_aldn xc38_19 rfl rfl sy_refl) ?_
  refine sy_Fs (sy_gf xc38_20 xf38_25 rfl (wh_at hw 10 rfl) rfl (fh_at hX10 6 rfl rfl) sy_refl) ?_
  refine sy_Fs (sy_ildn xc38_23 rfl rfl sy_refl) ?_
  refine sy_Fs (sx_bal (z := (mv_rd 32 Mk 26)) xc38_24 (wh_at hw 15 rfl) (by decide) (by decide) rfl) ?_
  refine sy_Fs (sy_ildn xc38_25 rfl rfl sy_refl) ?_
  refine sy_Fs (sx_ixor (z := (mo_xor (mv_rd 32 Mk 26) v)) xc38_26 rfl) ?_
  refine sy_Fs (sy_goto (pc' := 31) xc38_27 (by decide) (by decide) sy_refl) ?_
  refine sy_Fs (sx_i2b (z := (mn_b (mo_xor (mv_rd 32 Mk 26) v))) xc38_31 rfl) ?_
  refine sy_Fw (i := 11) (x := (1, 1, 64, (pk Sp Mk v 27))) hw (by decide) (sy_bas (i := 26) xc38_32 (wh_at hw 11 rfl) rfl (by decide) (by decide) rfl sy_refl) ?_
  intro w hw
  simp only [List.set_cons_zero, List.set_cons_succ] at hw
  refine sy_Fs (sx_iinc (c := 1) (z := 27) (ls' := [(2, pl 10, 0), (0, v, 0), (2, pl 16, 0), (0, 27, 0)]) xc38_33 rfl (by decide) (by rw [xl38]; rfl) rfl (by decide) rfl) ?_
  refine sy_Fs (sy_goto (pc' := 2) xc38_36 (by decide) (by decide) sy_refl) ?_
  refine sy_Fs (sy_ildn xc38_2 rfl rfl sy_refl) ?_
  refine sy_Fs (sy_bipush (v := 64) xc38_3 (by decide) (by decide) sy_refl) ?_
  refine sy_Fs (sy_ge_f xc38_5 (by decide) (by decide) (by decide) sy_refl) ?_
  refine sy_Fs (sy_aldn xc38_8 rfl rfl sy_refl) ?_
  refine sy_Fs (sy_gf xc38_9 xf38_18 rfl (wh_at hw 10 rfl) rfl (fh_at hX10 0 rfl rfl) sy_refl) ?_
  refine sy_Fs (sy_ildn xc38_12 rfl rfl sy_refl) ?_
  refine sy_Fs (sy_ildn xc38_13 rfl rfl sy_refl) ?_
  refine sy_Fs (sy_bipush (v := 32) xc38_14 (by decide) (by decide) sy_refl) ?_
  refine sy_Fs (sy_ge_f xc38_16 (by decide) (by decide) (by decide) sy_refl) ?_
  refine sy_Fs (sy_aldn xc38_19 rfl rfl sy_refl) ?_
  refine sy_Fs (sy_gf xc38_20 xf38_25 rfl (wh_at hw 10 rfl) rfl (fh_at hX10 6 rfl rfl) sy_refl) ?_
  refine sy_Fs (sy_ildn xc38_23 rfl rfl sy_refl) ?_
  refine sy_Fs (sx_bal (z := (mv_rd 32 Mk 27)) xc38_24 (wh_at hw 15 rfl) (by decide) (by decide) rfl) ?_
  refine sy_Fs (sy_ildn xc38_25 rfl rfl sy_refl) ?_
  refine sy_Fs (sx_ixor (z := (mo_xor (mv_rd 32 Mk 27) v)) xc38_26 rfl) ?_
  refine sy_Fs (sy_goto (pc' := 31) xc38_27 (by decide) (by decide) sy_refl) ?_
  refine sy_Fs (sx_i2b (z := (mn_b (mo_xor (mv_rd 32 Mk 27) v))) xc38_31 rfl) ?_
  refine sy_Fw (i := 11) (x := (1, 1, 64, (pk Sp Mk v 28))) hw (by decide) (sy_bas (i := 27) xc38_32 (wh_at hw 11 rfl) rfl (by decide) (by decide) rfl sy_refl) ?_
  intro w hw
  simp only [List.set_cons_zero, List.set_cons_succ] at hw
  refine sy_Fs (sx_iinc (c := 1) (z := 28) (ls' := [(2, pl 10, 0), (0, v, 0), (2, pl 16, 0), (0, 28, 0)]) xc38_33 rfl (by decide) (by rw [xl38]; rfl) rfl (by decide) rfl) ?_
  refine sy_Fs (sy_goto (pc' := 2) xc38_36 (by decide) (by decide) sy_refl) ?_
  refine sy_Fs (sy_ildn xc38_2 rfl rfl sy_refl) ?_
  refine sy_Fs (sy_bipush (v := 64) xc38_3 (by decide) (by decide) sy_refl) ?_
  refine sy_Fs (sy_ge_f xc38_5 (by decide) (by decide) (by decide) sy_refl) ?_
  refine sy_Fs (sy_aldn xc38_8 rfl rfl sy_refl) ?_
  refine sy_Fs (sy_gf xc38_9 xf38_18 rfl (wh_at hw 10 rfl) rfl (fh_at hX10 0 rfl rfl) sy_refl) ?_
  refine sy_Fs (sy_ildn xc38_12 rfl rfl sy_refl) ?_
  refine sy_Fs (sy_ildn xc38_13 rfl rfl sy_refl) ?_
  refine sy_Fs (sy_bipush (v := 32) xc38_14 (by decide) (by decide) sy_refl) ?_
  refine sy_Fs (sy_ge_f xc38_16 (by decide) (by decide) (by decide) sy_refl) ?_
  refine sy_Fs (sy_aldn xc38_19 rfl rfl sy_refl) ?_
  refine sy_Fs (sy_gf xc38_20 xf38_25 rfl (wh_at hw 10 rfl) rfl (fh_at hX10 6 rfl rfl) sy_refl) ?_
  refine sy_Fs (sy_ildn xc38_23 rfl rfl sy_refl) ?_
  refine sy_Fs (sx_bal (z := (mv_rd 32 Mk 28)) xc38_24 (wh_at hw 15 rfl) (by decide) (by decide) rfl) ?_
  refine sy_Fs (sy_ildn xc38_25 rfl rfl sy_refl) ?_
  refine sy_Fs (sx_ixor (z := (mo_xor (mv_rd 32 Mk 28) v)) xc38_26 rfl) ?_
  refine sy_Fs (sy_goto (pc' := 31) xc38_27 (by decide) (by decide) sy_refl) ?_
  refine sy_Fs (sx_i2b (z := (mn_b (mo_xor (mv_rd 32 Mk 28) v))) xc38_31 rfl) ?_
  refine sy_Fw (i := 11) (x := (1, 1, 64, (pk Sp Mk v 29))) hw (by decide) (sy_bas (i := 28) xc38_32 (wh_at hw 11 rfl) rfl (by decide) (by decide) rfl sy_refl) ?_
  intro w hw
  simp only [List.set_cons_zero, List.set_cons_succ] at hw
  refine sy_Fs (sx_iinc (c := 1) (z := 29) (ls' := [(2, pl 10, 0), (0, v, 0), (2, pl 16, 0), (0, 29, 0)]) xc38_33 rfl (by decide) (by rw [xl38]; rfl) rfl (by decide) rfl) ?_
  refine sy_Fs (sy_goto (pc' := 2) xc38_36 (by decide) (by decide) sy_refl) ?_
  refine sy_Fs (sy_ildn xc38_2 rfl rfl sy_refl) ?_
  refine sy_Fs (sy_bipush (v := 64) xc38_3 (by decide) (by decide) sy_refl) ?_
  refine sy_Fs (sy_ge_f xc38_5 (by decide) (by decide) (by decide) sy_refl) ?_
  refine sy_Fs (sy_aldn xc38_8 rfl rfl sy_refl) ?_
  refine sy_Fs (sy_gf xc38_9 xf38_18 rfl (wh_at hw 10 rfl) rfl (fh_at hX10 0 rfl rfl) sy_refl) ?_
  refine sy_Fs (sy_ildn xc38_12 rfl rfl sy_refl) ?_
  refine sy_Fs (sy_ildn xc38_13 rfl rfl sy_refl) ?_
  refine sy_Fs (sy_bipush (v := 32) xc38_14 (by decide) (by decide) sy_refl) ?_
  refine sy_Fs (sy_ge_f xc38_16 (by decide) (by decide) (by decide) sy_refl) ?_
  refine sy_Fs (sy_aldn xc38_19 rfl rfl sy_refl) ?_
  refine sy_Fs (sy_gf xc38_20 xf38_25 rfl (wh_at hw 10 rfl) rfl (fh_at hX10 6 rfl rfl) sy_refl) ?_
  refine sy_Fs (sy_ildn xc38_23 rfl rfl sy_refl) ?_
  refine sy_Fs (sx_bal (z := (mv_rd 32 Mk 29)) xc38_24 (wh_at hw 15 rfl) (by decide) (by decide) rfl) ?_
  refine sy_Fs (sy_ildn xc38_25 rfl rfl sy_refl) ?_
  refine sy_Fs (sx_ixor (z := (mo_xor (mv_rd 32 Mk 29) v)) xc38_26 rfl) ?_
  refine sy_Fs (sy_goto (pc' := 31) xc38_27 (by decide) (by decide) sy_refl) ?_
  refine sy_Fs (sx_i2b (z := (mn_b (mo_xor (mv_rd 32 Mk 29) v))) xc38_31 rfl) ?_
  refine sy_Fw (i := 11) (x := (1, 1, 64, (pk Sp Mk v 30))) hw (by decide) (sy_bas (i := 29) xc38_32 (wh_at hw 11 rfl) rfl (by decide) (by decide) rfl sy_refl) ?_
  intro w hw
  simp only [List.set_cons_zero, List.set_cons_succ] at hw
  refine sy_Fs (sx_iinc (c := 1) (z := 30) (ls' := [(2, pl 10, 0), (0, v, 0), (2, pl 16, 0), (0, 30, 0)]) xc38_33 rfl (by decide) (by rw [xl38]; rfl) rfl (by decide) rfl) ?_
  refine sy_Fs (sy_goto (pc' := 2) xc38_36 (by decide) (by decide) sy_refl) ?_
  refine sy_Fs (sy_ildn xc38_2 rfl rfl sy_refl) ?_
  refine sy_Fs (sy_bipush (v := 64) xc38_3 (by decide) (by decide) sy_refl) ?_
  refine sy_Fs (sy_ge_f xc38_5 (by decide) (by decide) (by decide) sy_refl) ?_
  refine sy_Fs (sy_aldn xc38_8 rfl rfl sy_refl) ?_
  refine sy_Fs (sy_gf xc38_9 xf38_18 rfl (wh_at hw 10 rfl) rfl (fh_at hX10 0 rfl rfl) sy_refl) ?_
  refine sy_Fs (sy_ildn xc38_12 rfl rfl sy_refl) ?_
  refine sy_Fs (sy_ildn xc38_13 rfl rfl sy_refl) ?_
  refine sy_Fs (sy_bipush (v := 32) xc38_14 (by decide) (by decide) sy_refl) ?_
  refine sy_Fs (sy_ge_f xc38_16 (by decide) (by decide) (by decide) sy_refl) ?_
  refine sy_Fs (sy_aldn xc38_19 rfl rfl sy_refl) ?_
  refine sy_Fs (sy_gf xc38_20 xf38_25 rfl (wh_at hw 10 rfl) rfl (fh_at hX10 6 rfl rfl) sy_refl) ?_
  refine sy_Fs (sy_ildn xc38_23 rfl rfl sy_refl) ?_
  refine sy_Fs (sx_bal (z := (mv_rd 32 Mk 30)) xc38_24 (wh_at hw 15 rfl) (by decide) (by decide) rfl) ?_
  refine sy_Fs (sy_ildn xc38_25 rfl rfl sy_refl) ?_
  refine sy_Fs (sx_ixor (z := (mo_xor (mv_rd 32 Mk 30) v)) xc38_26 rfl) ?_
  refine sy_Fs (sy_goto (pc' := 31) xc38_27 (by decide) (by decide) sy_refl) ?_
  refine sy_Fs (sx_i2b (z := (mn_b (mo_xor (mv_rd 32 Mk 30) v))) xc38_31 rfl) ?_
  refine sy_Fw (i := 11) (x := (1, 1, 64, (pk Sp Mk v 31))) hw (by decide) (sy_bas (i := 30) xc38_32 (wh_at hw 11 rfl) rfl (by decide) (by decide) rfl sy_refl) ?_
  intro w hw
  simp only [List.set_cons_zero, List.set_cons_succ] at hw
  refine sy_Fs (sx_iinc (c := 1) (z := 31) (ls' := [(2, pl 10, 0), (0, v, 0), (2, pl 16, 0), (0, 31, 0)]) xc38_33 rfl (by decide) (by rw [xl38]; rfl) rfl (by decide) rfl) ?_
  refine sy_Fs (sy_goto (pc' := 2) xc38_36 (by decide) (by decide) sy_refl) ?_
  refine sy_Fs (sy_ildn xc38_2 rfl rfl sy_refl) ?_
  refine sy_Fs (sy_bipush (v := 64) xc38_3 (by decide) (by decide) sy_refl) ?_
  refine sy_Fs (sy_ge_f xc38_5 (by decide) (by decide) (by decide) sy_refl) ?_
  refine sy_Fs (sy_aldn xc38_8 rfl rfl sy_refl) ?_
  refine sy_Fs (sy_gf xc38_9 xf38_18 rfl (wh_at hw 10 rfl) rfl (fh_at hX10 0 rfl rfl) sy_refl) ?_
  refine sy_Fs (sy_ildn xc38_12 rfl rfl sy_refl) ?_
  refine sy_Fs (sy_ildn xc38_13 rfl rfl sy_refl) ?_
  refine sy_Fs (sy_bipush (v := 32) xc38_14 (by decide) (by decide) sy_refl) ?_
  refine sy_Fs (sy_ge_f xc38_16 (by decide) (by decide) (by decide) sy_refl) ?_
  refine sy_Fs (sy_aldn xc38_19 rfl rfl sy_refl) ?_
  refine sy_Fs (sy_gf xc38_20 xf38_25 rfl (wh_at hw 10 rfl) rfl (fh_at hX10 6 rfl rfl) sy_refl) ?_
  refine sy_Fs (sy_ildn xc38_23 rfl rfl sy_refl) ?_
  refine sy_Fs (sx_bal (z := (mv_rd 32 Mk 31)) xc38_24 (wh_at hw 15 rfl) (by decide) (by decide) rfl) ?_
  refine sy_Fs (sy_ildn xc38_25 rfl rfl sy_refl) ?_
  refine sy_Fs (sx_ixor (z := (mo_xor (mv_rd 32 Mk 31) v)) xc38_26 rfl) ?_
  refine sy_Fs (sy_goto (pc' := 31) xc38_27 (by decide) (by decide) sy_refl) ?_
  refine sy_Fs (sx_i2b (z := (mn_b (mo_xor (mv_rd 32 Mk 31) v))) xc38_31 rfl) ?_
  refine sy_Fw (i := 11) (x := (1, 1, 64, (pk Sp Mk v 32))) hw (by decide) (sy_bas (i := 31) xc38_32 (wh_at hw 11 rfl) rfl (by decide) (by decide) rfl sy_refl) ?_
  intro w hw
  simp only [List.set_cons_zero, List.set_cons_succ] at hw
  refine sy_Fs (sx_iinc (c := 1) (z := 32) (ls' := [(2, pl 10, 0), (0, v, 0), (2, pl 16, 0), (0, 32, 0)]) xc38_33 rfl (by decide) (by rw [xl38]; rfl) rfl (by decide) rfl) ?_
  refine sy_Fs (sy_goto (pc' := 2) xc38_36 (by decide) (by decide) sy_refl) ?_
  refine sy_Fs (sy_ildn xc38_2 rfl rfl sy_refl) ?_
  refine sy_Fs (sy_bipush (v := 64) xc38_3 (by decide) (by decide) sy_refl) ?_
  refine sy_Fs (sy_ge_f xc38_5 (by decide) (by decide) (by decide) sy_refl) ?_
  refine sy_Fs (sy_aldn xc38_8 rfl rfl sy_refl) ?_
  refine sy_Fs (sy_gf xc38_9 xf38_18 rfl (wh_at hw 10 rfl) rfl (fh_at hX10 0 rfl rfl) sy_refl) ?_
  refine sy_Fs (sy_ildn xc38_12 rfl rfl sy_refl) ?_
  refine sy_Fs (sy_ildn xc38_13 rfl rfl sy_refl) ?_
  refine sy_Fs (sy_bipush (v := 32) xc38_14 (by decide) (by decide) sy_refl) ?_
  refine sy_Fs (sy_ge_t (pc' := 30) xc38_16 (by decide) (by decide) (by decide) (by decide) sy_refl) ?_
  refine sy_Fs (sy_ildn xc38_30 rfl rfl sy_refl) ?_
  refine sy_Fs (sx_i2b (z := (mn_b v)) xc38_31 rfl) ?_
  refine sy_Fw (i := 11) (x := (1, 1, 64, (pk Sp Mk v 33))) hw (by decide) (sy_bas (i := 32) xc38_32 (wh_at hw 11 rfl) rfl (by decide) (by decide) rfl sy_refl) ?_
  intro w hw
  simp only [List.set_cons_zero, List.set_cons_succ] at hw
  refine sy_Fs (sx_iinc (c := 1) (z := 33) (ls' := [(2, pl 10, 0), (0, v, 0), (2, pl 16, 0), (0, 33, 0)]) xc38_33 rfl (by decide) (by rw [xl38]; rfl) rfl (by decide) rfl) ?_
  refine sy_Fs (sy_goto (pc' := 2) xc38_36 (by decide) (by decide) sy_refl) ?_
  refine sy_Fs (sy_ildn xc38_2 rfl rfl sy_refl) ?_
  refine sy_Fs (sy_bipush (v := 64) xc38_3 (by decide) (by decide) sy_refl) ?_
  refine sy_Fs (sy_ge_f xc38_5 (by decide) (by decide) (by decide) sy_refl) ?_
  refine sy_Fs (sy_aldn xc38_8 rfl rfl sy_refl) ?_
  refine sy_Fs (sy_gf xc38_9 xf38_18 rfl (wh_at hw 10 rfl) rfl (fh_at hX10 0 rfl rfl) sy_refl) ?_
  refine sy_Fs (sy_ildn xc38_12 rfl rfl sy_refl) ?_
  refine sy_Fs (sy_ildn xc38_13 rfl rfl sy_refl) ?_
  refine sy_Fs (sy_bipush (v := 32) xc38_14 (by decide) (by decide) sy_refl) ?_
  refine sy_Fs (sy_ge_t (pc' := 30) xc38_16 (by decide) (by decide) (by decide) (by decide) sy_refl) ?_
  refine sy_Fs (sy_ildn xc38_30 rfl rfl sy_refl) ?_
  refine sy_Fs (sx_i2b (z := (mn_b v)) xc38_31 rfl) ?_
  refine sy_Fw (i := 11) (x := (1, 1, 64, (pk Sp Mk v 34))) hw (by decide) (sy_bas (i := 33) xc38_32 (wh_at hw 11 rfl) rfl (by decide) (by decide) rfl sy_refl) ?_
  intro w hw
  simp only [List.set_cons_zero, List.set_cons_succ] at hw
  refine sy_Fs (sx_iinc (c := 1) (z := 34) (ls' := [(2, pl 10, 0), (0, v, 0), (2, pl 16, 0), (0, 34, 0)]) xc38_33 rfl (by decide) (by rw [xl38]; rfl) rfl (by decide) rfl) ?_
  refine sy_Fs (sy_goto (pc' := 2) xc38_36 (by decide) (by decide) sy_refl) ?_
  refine sy_Fs (sy_ildn xc38_2 rfl rfl sy_refl) ?_
  refine sy_Fs (sy_bipush (v := 64) xc38_3 (by decide) (by decide) sy_refl) ?_
  refine sy_Fs (sy_ge_f xc38_5 (by decide) (by decide) (by decide) sy_refl) ?_
  refine sy_Fs (sy_aldn xc38_8 rfl rfl sy_refl) ?_
  refine sy_Fs (sy_gf xc38_9 xf38_18 rfl (wh_at hw 10 rfl) rfl (fh_at hX10 0 rfl rfl) sy_refl) ?_
  refine sy_Fs (sy_ildn xc38_12 rfl rfl sy_refl) ?_
  refine sy_Fs (sy_ildn xc38_13 rfl rfl sy_refl) ?_
  refine sy_Fs (sy_bipush (v := 32) xc38_14 (by decide) (by decide) sy_refl) ?_
  refine sy_Fs (sy_ge_t (pc' := 30) xc38_16 (by decide) (by decide) (by decide) (by decide) sy_refl) ?_
  refine sy_Fs (sy_ildn xc38_30 rfl rfl sy_refl) ?_
  refine sy_Fs (sx_i2b (z := (mn_b v)) xc38_31 rfl) ?_
  refine sy_Fw (i := 11) (x := (1, 1, 64, (pk Sp Mk v 35))) hw (by decide) (sy_bas (i := 34) xc38_32 (wh_at hw 11 rfl) rfl (by decide) (by decide) rfl sy_refl) ?_
  intro w hw
  simp only [List.set_cons_zero, List.set_cons_succ] at hw
  refine sy_Fs (sx_iinc (c := 1) (z := 35) (ls' := [(2, pl 10, 0), (0, v, 0), (2, pl 16, 0), (0, 35, 0)]) xc38_33 rfl (by decide) (by rw [xl38]; rfl) rfl (by decide) rfl) ?_
  refine sy_Fs (sy_goto (pc' := 2) xc38_36 (by decide) (by decide) sy_refl) ?_
  refine sy_Fs (sy_ildn xc38_2 rfl rfl sy_refl) ?_
  refine sy_Fs (sy_bipush (v := 64) xc38_3 (by decide) (by decide) sy_refl) ?_
  refine sy_Fs (sy_ge_f xc38_5 (by decide) (by decide) (by decide) sy_refl) ?_
  refine sy_Fs (sy_aldn xc38_8 rfl rfl sy_refl) ?_
  refine sy_Fs (sy_gf xc38_9 xf38_18 rfl (wh_at hw 10 rfl) rfl (fh_at hX10 0 rfl rfl) sy_refl) ?_
  refine sy_Fs (sy_ildn xc38_12 rfl rfl sy_refl) ?_
  refine sy_Fs (sy_ildn xc38_13 rfl rfl sy_refl) ?_
  refine sy_Fs (sy_bipush (v := 32) xc38_14 (by decide) (by decide) sy_refl) ?_
  refine sy_Fs (sy_ge_t (pc' := 30) xc38_16 (by decide) (by decide) (by decide) (by decide) sy_refl) ?_
  refine sy_Fs (sy_ildn xc38_30 rfl rfl sy_refl) ?_
  refine sy_Fs (sx_i2b (z := (mn_b v)) xc38_31 rfl) ?_
  refine sy_Fw (i := 11) (x := (1, 1, 64, (pk Sp Mk v 36))) hw (by decide) (sy_bas (i := 35) xc38_32 (wh_at hw 11 rfl) rfl (by decide) (by decide) rfl sy_refl) ?_
  intro w hw
  simp only [List.set_cons_zero, List.set_cons_succ] at hw
  refine sy_Fs (sx_iinc (c := 1) (z := 36) (ls' := [(2, pl 10, 0), (0, v, 0), (2, pl 16, 0), (0, 36, 0)]) xc38_33 rfl (by decide) (by rw [xl38]; rfl) rfl (by decide) rfl) ?_
  refine sy_Fs (sy_goto (pc' := 2) xc38_36 (by decide) (by decide) sy_refl) ?_
  refine sy_Fs (sy_ildn xc38_2 rfl rfl sy_refl) ?_
  refine sy_Fs (sy_bipush (v := 64) xc38_3 (by decide) (by decide) sy_refl) ?_
  refine sy_Fs (sy_ge_f xc38_5 (by decide) (by decide) (by decide) sy_refl) ?_
  refine sy_Fs (sy_aldn xc38_8 rfl rfl sy_refl) ?_
  refine sy_Fs (sy_gf xc38_9 xf38_18 rfl (wh_at hw 10 rfl) rfl (fh_at hX10 0 rfl rfl) sy_refl) ?_
  refine sy_Fs (sy_ildn xc38_12 rfl rfl sy_refl) ?_
  refine sy_Fs (sy_ildn xc38_13 rfl rfl sy_refl) ?_
  refine sy_Fs (sy_bipush (v := 32) xc38_14 (by decide) (by decide) sy_refl) ?_
  refine sy_Fs (sy_ge_t (pc' := 30) xc38_16 (by decide) (by decide) (by decide) (by decide) sy_refl) ?_
  refine sy_Fs (sy_ildn xc38_30 rfl rfl sy_refl) ?_
  refine sy_Fs (sx_i2b (z := (mn_b v)) xc38_31 rfl) ?_
  refine sy_Fw (i := 11) (x := (1, 1, 64, (pk Sp Mk v 37))) hw (by decide) (sy_bas (i := 36) xc38_32 (wh_at hw 11 rfl) rfl (by decide) (by decide) rfl sy_refl) ?_
  intro w hw
  simp only [List.set_cons_zero, List.set_cons_succ] at hw
  refine sy_Fs (sx_iinc (c := 1) (z := 37) (ls' := [(2, pl 10, 0), (0, v, 0), (2, pl 16, 0), (0, 37, 0)]) xc38_33 rfl (by decide) (by rw [xl38]; rfl) rfl (by decide) rfl) ?_
  refine sy_Fs (sy_goto (pc' := 2) xc38_36 (by decide) (by decide) sy_refl) ?_
  refine sy_Fs (sy_ildn xc38_2 rfl rfl sy_refl) ?_
  refine sy_Fs (sy_bipush (v := 64) xc38_3 (by decide) (by decide) sy_refl) ?_
  refine sy_Fs (sy_ge_f xc38_5 (by decide) (by decide) (by decide) sy_refl) ?_
  refine sy_Fs (sy_aldn xc38_8 rfl rfl sy_refl) ?_
  refine sy_Fs (sy_gf xc38_9 xf38_18 rfl (wh_at hw 10 rfl) rfl (fh_at hX10 0 rfl rfl) sy_refl) ?_
  refine sy_Fs (sy_ildn xc38_12 rfl rfl sy_refl) ?_
  refine sy_Fs (sy_ildn xc38_13 rfl rfl sy_refl) ?_
  refine sy_Fs (sy_bipush (v := 32) xc38_14 (by decide) (by decide) sy_refl) ?_
  refine sy_Fs (sy_ge_t (pc' := 30) xc38_16 (by decide) (by decide) (by decide) (by decide) sy_refl) ?_
  refine sy_Fs (sy_ildn xc38_30 rfl rfl sy_refl) ?_
  refine sy_Fs (sx_i2b (z := (mn_b v)) xc38_31 rfl) ?_
  refine sy_Fw (i := 11) (x := (1, 1, 64, (pk Sp Mk v 38))) hw (by decide) (sy_bas (i := 37) xc38_32 (wh_at hw 11 rfl) rfl (by decide) (by decide) rfl sy_refl) ?_
  intro w hw
  simp only [List.set_cons_zero, List.set_cons_succ] at hw
  refine sy_Fs (sx_iinc (c := 1) (z := 38) (ls' := [(2, pl 10, 0), (0, v, 0), (2, pl 16, 0), (0, 38, 0)]) xc38_33 rfl (by decide) (by rw [xl38]; rfl) rfl (by decide) rfl) ?_
  refine sy_Fs (sy_goto (pc' := 2) xc38_36 (by decide) (by decide) sy_refl) ?_
  refine sy_Fs (sy_ildn xc38_2 rfl rfl sy_refl) ?_
  refine sy_Fs (sy_bipush (v := 64) xc38_3 (by decide) (by decide) sy_refl) ?_
  refine sy_Fs (sy_ge_f xc38_5 (by decide) (by decide) (by decide) sy_refl) ?_
  refine sy_Fs (sy_aldn xc38_8 rfl rfl sy_refl) ?_
  refine sy_Fs (sy_gf xc38_9 xf38_18 rfl (wh_at hw 10 rfl) rfl (fh_at hX10 0 rfl rfl) sy_refl) ?_
  refine sy_Fs (sy_ildn xc38_12 rfl rfl sy_refl) ?_
  refine sy_Fs (sy_ildn xc38_13 rfl rfl sy_refl) ?_
  refine sy_Fs (sy_bipush (v := 32) xc38_14 (by decide) (by decide) sy_refl) ?_
  refine sy_Fs (sy_ge_t (pc' := 30) xc38_16 (by decide) (by decide) (by decide) (by decide) sy_refl) ?_
  refine sy_Fs (sy_ildn xc38_30 rfl rfl sy_refl) ?_
  refine sy_Fs (sx_i2b (z := (mn_b v)) xc38_31 rfl) ?_
  refine sy_Fw (i := 11) (x := (1, 1, 64, (pk Sp Mk v 39))) hw (by decide) (sy_bas (i := 38) xc38_32 (wh_at hw 11 rfl) rfl (by decide) (by decide) rfl sy_refl) ?_
  intro w hw
  simp only [List.set_cons_zero, List.set_cons_succ] at hw
  refine sy_Fs (sx_iinc (c := 1) (z := 39) (ls' := [(2, pl 10, 0), (0, v, 0), (2, pl 16, 0), (0, 39, 0)]) xc38_33 rfl (by decide) (by rw [xl38]; rfl) rfl (by decide) rfl) ?_
  refine sy_Fs (sy_goto (pc' := 2) xc38_36 (by decide) (by decide) sy_refl) ?_
  refine sy_Fs (sy_ildn xc38_2 rfl rfl sy_refl) ?_
  refine sy_Fs (sy_bipush (v := 64) xc38_3 (by decide) (by decide) sy_refl) ?_
  refine sy_Fs (sy_ge_f xc38_5 (by decide) (by decide) (by decide) sy_refl) ?_
  refine sy_Fs (sy_aldn xc38_8 rfl rfl sy_refl) ?_
  refine sy_Fs (sy_gf xc38_9 xf38_18 rfl (wh_at hw 10 rfl) rfl (fh_at hX10 0 rfl rfl) sy_refl) ?_
  refine sy_Fs (sy_ildn xc38_12 rfl rfl sy_refl) ?_
  refine sy_Fs (sy_ildn xc38_13 rfl rfl sy_refl) ?_
  refine sy_Fs (sy_bipush (v := 32) xc38_14 (by decide) (by decide) sy_refl) ?_
  refine sy_Fs (sy_ge_t (pc' := 30) xc38_16 (by decide) (by decide) (by decide) (by decide) sy_refl) ?_
  refine sy_Fs (sy_ildn xc38_30 rfl rfl sy_refl) ?_
  refine sy_Fs (sx_i2b (z := (mn_b v)) xc38_31 rfl) ?_
  refine sy_Fw (i := 11) (x := (1, 1, 64, (pk Sp Mk v 40))) hw (by decide) (sy_bas (i := 39) xc38_32 (wh_at hw 11 rfl) rfl (by decide) (by decide) rfl sy_refl) ?_
  intro w hw
  simp only [List.set_cons_zero, List.set_cons_succ] at hw
  refine sy_Fs (sx_iinc (c := 1) (z := 40) (ls' := [(2, pl 10, 0), (0, v, 0), (2, pl 16, 0), (0, 40, 0)]) xc38_33 rfl (by decide) (by rw [xl38]; rfl) rfl (by decide) rfl) ?_
  refine sy_Fs (sy_goto (pc' := 2) xc38_36 (by decide) (by decide) sy_refl) ?_
  refine sy_Fs (sy_ildn xc38_2 rfl rfl sy_refl) ?_
  refine sy_Fs (sy_bipush (v := 64) xc38_3 (by decide) (by decide) sy_refl) ?_
  refine sy_Fs (sy_ge_f xc38_5 (by decide) (by decide) (by decide) sy_refl) ?_
  refine sy_Fs (sy_aldn xc38_8 rfl rfl sy_refl) ?_
  refine sy_Fs (sy_gf xc38_9 xf38_18 rfl (wh_at hw 10 rfl) rfl (fh_at hX10 0 rfl rfl) sy_refl) ?_
  refine sy_Fs (sy_ildn xc38_12 rfl rfl sy_refl) ?_
  refine sy_Fs (sy_ildn xc38_13 rfl rfl sy_refl) ?_
  refine sy_Fs (sy_bipush (v := 32) xc38_14 (by decide) (by decide) sy_refl) ?_
  refine sy_Fs (sy_ge_t (pc' := 30) xc38_16 (by decide) (by decide) (by decide) (by decide) sy_refl) ?_
  refine sy_Fs (sy_ildn xc38_30 rfl rfl sy_refl) ?_
  refine sy_Fs (sx_i2b (z := (mn_b v)) xc38_31 rfl) ?_
  refine sy_Fw (i := 11) (x := (1, 1, 64, (pk Sp Mk v 41))) hw (by decide) (sy_bas (i := 40) xc38_32 (wh_at hw 11 rfl) rfl (by decide) (by decide) rfl sy_refl) ?_
  intro w hw
  simp only [List.set_cons_zero, List.set_cons_succ] at hw
  refine sy_Fs (sx_iinc (c := 1) (z := 41) (ls' := [(2, pl 10, 0), (0, v, 0), (2, pl 16, 0), (0, 41, 0)]) xc38_33 rfl (by decide) (by rw [xl38]; rfl) rfl (by decide) rfl) ?_
  refine sy_Fs (sy_goto (pc' := 2) xc38_36 (by decide) (by decide) sy_refl) ?_
  refine sy_Fs (sy_ildn xc38_2 rfl rfl sy_refl) ?_
  refine sy_Fs (sy_bipush (v := 64) xc38_3 (by decide) (by decide) sy_refl) ?_
  refine sy_Fs (sy_ge_f xc38_5 (by decide) (by decide) (by decide) sy_refl) ?_
  refine sy_Fs (sy_aldn xc38_8 rfl rfl sy_refl) ?_
  refine sy_Fs (sy_gf xc38_9 xf38_18 rfl (wh_at hw 10 rfl) rfl (fh_at hX10 0 rfl rfl) sy_refl) ?_
  refine sy_Fs (sy_ildn xc38_12 rfl rfl sy_refl) ?_
  refine sy_Fs (sy_ildn xc38_13 rfl rfl sy_refl) ?_
  refine sy_Fs (sy_bipush (v := 32) xc38_14 (by decide) (by decide) sy_refl) ?_
  refine sy_Fs (sy_ge_t (pc' := 30) xc38_16 (by decide) (by decide) (by decide) (by decide) sy_refl) ?_
  refine sy_Fs (sy_ildn xc38_30 rfl rfl sy_refl) ?_
  refine sy_Fs (sx_i2b (z := (mn_b v)) xc38_31 rfl) ?_
  refine sy_Fw (i := 11) (x := (1, 1, 64, (pk Sp Mk v 42))) hw (by decide) (sy_bas (i := 41) xc38_32 (wh_at hw 11 rfl) rfl (by decide) (by decide) rfl sy_refl) ?_
  intro w hw
  simp only [List.set_cons_zero, List.set_cons_succ] at hw
  refine sy_Fs (sx_iinc (c := 1) (z := 42) (ls' := [(2, pl 10, 0), (0, v, 0), (2, pl 16, 0), (0, 42, 0)]) xc38_33 rfl (by decide) (by rw [xl38]; rfl) rfl (by decide) rfl) ?_
  refine sy_Fs (sy_goto (pc' := 2) xc38_36 (by decide) (by decide) sy_refl) ?_
  refine sy_Fs (sy_ildn xc38_2 rfl rfl sy_refl) ?_
  refine sy_Fs (sy_bipush (v := 64) xc38_3 (by decide) (by decide) sy_refl) ?_
  refine sy_Fs (sy_ge_f xc38_5 (by decide) (by decide) (by decide) sy_refl) ?_
  refine sy_Fs (sy_aldn xc38_8 rfl rfl sy_refl) ?_
  refine sy_Fs (sy_gf xc38_9 xf38_18 rfl (wh_at hw 10 rfl) rfl (fh_at hX10 0 rfl rfl) sy_refl) ?_
  refine sy_Fs (sy_ildn xc38_12 rfl rfl sy_refl) ?_
  refine sy_Fs (sy_ildn xc38_13 rfl rfl sy_refl) ?_
  refine sy_Fs (sy_bipush (v := 32) xc38_14 (by decide) (by decide) sy_refl) ?_
  refine sy_Fs (sy_ge_t (pc' := 30) xc38_16 (by decide) (by decide) (by decide) (by decide) sy_refl) ?_
  refine sy_Fs (sy_ildn xc38_30 rfl rfl sy_refl) ?_
  refine sy_Fs (sx_i2b (z := (mn_b v)) xc38_31 rfl) ?_
  refine sy_Fw (i := 11) (x := (1, 1, 64, (pk Sp Mk v 43))) hw (by decide) (sy_bas (i := 42) xc38_32 (wh_at hw 11 rfl) rfl (by decide) (by decide) rfl sy_refl) ?_
  intro w hw
  simp only [List.set_cons_zero, List.set_cons_succ] at hw
  refine sy_Fs (sx_iinc (c := 1) (z := 43) (ls' := [(2, pl 10, 0), (0, v, 0), (2, pl 16, 0), (0, 43, 0)]) xc38_33 rfl (by decide) (by rw [xl38]; rfl) rfl (by decide) rfl) ?_
  refine sy_Fs (sy_goto (pc' := 2) xc38_36 (by decide) (by decide) sy_refl) ?_
  refine sy_Fs (sy_ildn xc38_2 rfl rfl sy_refl) ?_
  refine sy_Fs (sy_bipush (v := 64) xc38_3 (by decide) (by decide) sy_refl) ?_
  refine sy_Fs (sy_ge_f xc38_5 (by decide) (by decide) (by decide) sy_refl) ?_
  refine sy_Fs (sy_aldn xc38_8 rfl rfl sy_refl) ?_
  refine sy_Fs (sy_gf xc38_9 xf38_18 rfl (wh_at hw 10 rfl) rfl (fh_at hX10 0 rfl rfl) sy_refl) ?_
  refine sy_Fs (sy_ildn xc38_12 rfl rfl sy_refl) ?_
  refine sy_Fs (sy_ildn xc38_13 rfl rfl sy_refl) ?_
  refine sy_Fs (sy_bipush (v := 32) xc38_14 (by decide) (by decide) sy_refl) ?_
  refine sy_Fs (sy_ge_t (pc' := 30) xc38_16 (by decide) (by decide) (by decide) (by decide) sy_refl) ?_
  refine sy_Fs (sy_ildn xc38_30 rfl rfl sy_refl) ?_
  refine sy_Fs (sx_i2b (z := (mn_b v)) xc38_31 rfl) ?_
  refine sy_Fw (i := 11) (x := (1, 1, 64, (pk Sp Mk v 44))) hw (by decide) (sy_bas (i := 43) xc38_32 (wh_at hw 11 rfl) rfl (by decide) (by decide) rfl sy_refl) ?_
  intro w hw
  simp only [List.set_cons_zero, List.set_cons_succ] at hw
  refine sy_Fs (sx_iinc (c := 1) (z := 44) (ls' := [(2, pl 10, 0), (0, v, 0), (2, pl 16, 0), (0, 44, 0)]) xc38_33 rfl (by decide) (by rw [xl38]; rfl) rfl (by decide) rfl) ?_
  refine sy_Fs (sy_goto (pc' := 2) xc38_36 (by decide) (by decide) sy_refl) ?_
  refine sy_Fs (sy_ildn xc38_2 rfl rfl sy_refl) ?_
  refine sy_Fs (sy_bipush (v := 64) xc38_3 (by decide) (by decide) sy_refl) ?_
  refine sy_Fs (sy_ge_f xc38_5 (by decide) (by decide) (by decide) sy_refl) ?_
  refine sy_Fs (sy_aldn xc38_8 rfl rfl sy_refl) ?_
  refine sy_Fs (sy_gf xc38_9 xf38_18 rfl (wh_at hw 10 rfl) rfl (fh_at hX10 0 rfl rfl) sy_refl) ?_
  refine sy_Fs (sy_ildn xc38_12 rfl rfl sy_refl) ?_
  refine sy_Fs (sy_ildn xc38_13 rfl rfl sy_refl) ?_
  refine sy_Fs (sy_bipush (v := 32) xc38_14 (by decide) (by decide) sy_refl) ?_
  refine sy_Fs (sy_ge_t (pc' := 30) xc38_16 (by decide) (by decide) (by decide) (by decide) sy_refl) ?_
  refine sy_Fs (sy_ildn xc38_30 rfl rfl sy_refl) ?_
  refine sy_Fs (sx_i2b (z := (mn_b v)) xc38_31 rfl) ?_
  refine sy_Fw (i := 11) (x := (1, 1, 64, (pk Sp Mk v 45))) hw (by decide) (sy_bas (i := 44) xc38_32 (wh_at hw 11 rfl) rfl (by decide) (by decide) rfl sy_refl) ?_
  intro w hw
  simp only [List.set_cons_zero, List.set_cons_succ] at hw
  refine sy_Fs (sx_iinc (c := 1) (z := 45) (ls' := [(2, pl 10, 0), (0, v, 0), (2, pl 16, 0), (0, 45, 0)]) xc38_33 rfl (by decide) (by rw [xl38]; rfl) rfl (by decide) rfl) ?_
  refine sy_Fs (sy_goto (pc' := 2) xc38_36 (by decide) (by decide) sy_refl) ?_
  refine sy_Fs (sy_ildn xc38_2 rfl rfl sy_refl) ?_
  refine sy_Fs (sy_bipush (v := 64) xc38_3 (by decide) (by decide) sy_refl) ?_
  refine sy_Fs (sy_ge_f xc38_5 (by decide) (by decide) (by decide) sy_refl) ?_
  refine sy_Fs (sy_aldn xc38_8 rfl rfl sy_refl) ?_
  refine sy_Fs (sy_gf xc38_9 xf38_18 rfl (wh_at hw 10 rfl) rfl (fh_at hX10 0 rfl rfl) sy_refl) ?_
  refine sy_Fs (sy_ildn xc38_12 rfl rfl sy_refl) ?_
  refine sy_Fs (sy_ildn xc38_13 rfl rfl sy_refl) ?_
  refine sy_Fs (sy_bipush (v := 32) xc38_14 (by decide) (by decide) sy_refl) ?_
  refine sy_Fs (sy_ge_t (pc' := 30) xc38_16 (by decide) (by decide) (by decide) (by decide) sy_refl) ?_
  refine sy_Fs (sy_ildn xc38_30 rfl rfl sy_refl) ?_
  refine sy_Fs (sx_i2b (z := (mn_b v)) xc38_31 rfl) ?_
  refine sy_Fw (i := 11) (x := (1, 1, 64, (pk Sp Mk v 46))) hw (by decide) (sy_bas (i := 45) xc38_32 (wh_at hw 11 rfl) rfl (by decide) (by decide) rfl sy_refl) ?_
  intro w hw
  simp only [List.set_cons_zero, List.set_cons_succ] at hw
  refine sy_Fs (sx_iinc (c := 1) (z := 46) (ls' := [(2, pl 10, 0), (0, v, 0), (2, pl 16, 0), (0, 46, 0)]) xc38_33 rfl (by decide) (by rw [xl38]; rfl) rfl (by decide) rfl) ?_
  refine sy_Fs (sy_goto (pc' := 2) xc38_36 (by decide) (by decide) sy_refl) ?_
  refine sy_Fs (sy_ildn xc38_2 rfl rfl sy_refl) ?_
  refine sy_Fs (sy_bipush (v := 64) xc38_3 (by decide) (by decide) sy_refl) ?_
  refine sy_Fs (sy_ge_f xc38_5 (by decide) (by decide) (by decide) sy_refl) ?_
  refine sy_Fs (sy_aldn xc38_8 rfl rfl sy_refl) ?_
  refine sy_Fs (sy_gf xc38_9 xf38_18 rfl (wh_at hw 10 rfl) rfl (fh_at hX10 0 rfl rfl) sy_refl) ?_
  refine sy_Fs (sy_ildn xc38_12 rfl rfl sy_refl) ?_
  refine sy_Fs (sy_ildn xc38_13 rfl rfl sy_refl) ?_
  refine sy_Fs (sy_bipush (v := 32) xc38_14 (by decide) (by decide) sy_refl) ?_
  refine sy_Fs (sy_ge_t (pc' := 30) xc38_16 (by decide) (by decide) (by decide) (by decide) sy_refl) ?_
  refine sy_Fs (sy_ildn xc38_30 rfl rfl sy_refl) ?_
  refine sy_Fs (sx_i2b (z := (mn_b v)) xc38_31 rfl) ?_
  refine sy_Fw (i := 11) (x := (1, 1, 64, (pk Sp Mk v 47))) hw (by decide) (sy_bas (i := 46) xc38_32 (wh_at hw 11 rfl) rfl (by decide) (by decide) rfl sy_refl) ?_
  intro w hw
  simp only [List.set_cons_zero, List.set_cons_succ] at hw
  refine sy_Fs (sx_iinc (c := 1) (z := 47) (ls' := [(2, pl 10, 0), (0, v, 0), (2, pl 16, 0), (0, 47, 0)]) xc38_33 rfl (by decide) (by rw [xl38]; rfl) rfl (by decide) rfl) ?_
  refine sy_Fs (sy_goto (pc' := 2) xc38_36 (by decide) (by decide) sy_refl) ?_
  refine sy_Fs (sy_ildn xc38_2 rfl rfl sy_refl) ?_
  refine sy_Fs (sy_bipush (v := 64) xc38_3 (by decide) (by decide) sy_refl) ?_
  refine sy_Fs (sy_ge_f xc38_5 (by decide) (by decide) (by decide) sy_refl) ?_
  refine sy_Fs (sy_aldn xc38_8 rfl rfl sy_refl) ?_
  refine sy_Fs (sy_gf xc38_9 xf38_18 rfl (wh_at hw 10 rfl) rfl (fh_at hX10 0 rfl rfl) sy_refl) ?_
  refine sy_Fs (sy_ildn xc38_12 rfl rfl sy_refl) ?_
  refine sy_Fs (sy_ildn xc38_13 rfl rfl sy_refl) ?_
  refine sy_Fs (sy_bipush (v := 32) xc38_14 (by decide) (by decide) sy_refl) ?_
  refine sy_Fs (sy_ge_t (pc' := 30) xc38_16 (by decide) (by decide) (by decide) (by decide) sy_refl) ?_
  refine sy_Fs (sy_ildn xc38_30 rfl rfl sy_refl) ?_
  refine sy_Fs (sx_i2b (z := (mn_b v)) xc38_31 rfl) ?_
  refine sy_Fw (i := 11) (x := (1, 1, 64, (pk Sp Mk v 48))) hw (by decide) (sy_bas (i := 47) xc38_32 (wh_at hw 11 rfl) rfl (by decide) (by decide) rfl sy_refl) ?_
  intro w hw
  simp only [List.set_cons_zero, List.set_cons_succ] at hw
  refine sy_Fs (sx_iinc (c := 1) (z := 48) (ls' := [(2, pl 10, 0), (0, v, 0), (2, pl 16, 0), (0, 48, 0)]) xc38_33 rfl (by decide) (by rw [xl38]; rfl) rfl (by decide) rfl) ?_
  refine sy_Fs (sy_goto (pc' := 2) xc38_36 (by decide) (by decide) sy_refl) ?_
  refine sy_Fs (sy_ildn xc38_2 rfl rfl sy_refl) ?_
  refine sy_Fs (sy_bipush (v := 64) xc38_3 (by decide) (by decide) sy_refl) ?_
  refine sy_Fs (sy_ge_f xc38_5 (by decide) (by decide) (by decide) sy_refl) ?_
  refine sy_Fs (sy_aldn xc38_8 rfl rfl sy_refl) ?_
  refine sy_Fs (sy_gf xc38_9 xf38_18 rfl (wh_at hw 10 rfl) rfl (fh_at hX10 0 rfl rfl) sy_refl) ?_
  refine sy_Fs (sy_ildn xc38_12 rfl rfl sy_refl) ?_
  refine sy_Fs (sy_ildn xc38_13 rfl rfl sy_refl) ?_
  refine sy_Fs (sy_bipush (v := 32) xc38_14 (by decide) (by decide) sy_refl) ?_
  refine sy_Fs (sy_ge_t (pc' := 30) xc38_16 (by decide) (by decide) (by decide) (by decide) sy_refl) ?_
  refine sy_Fs (sy_ildn xc38_30 rfl rfl sy_refl) ?_
  refine sy_Fs (sx_i2b (z := (mn_b v)) xc38_31 rfl) ?_
  refine sy_Fw (i := 11) (x := (1, 1, 64, (pk Sp Mk v 49))) hw (by decide) (sy_bas (i := 48) xc38_32 (wh_at hw 11 rfl) rfl (by decide) (by decide) rfl sy_refl) ?_
  intro w hw
  simp only [List.set_cons_zero, List.set_cons_succ] at hw
  refine sy_Fs (sx_iinc (c := 1) (z := 49) (ls' := [(2, pl 10, 0), (0, v, 0), (2, pl 16, 0), (0, 49, 0)]) xc38_33 rfl (by decide) (by rw [xl38]; rfl) rfl (by decide) rfl) ?_
  refine sy_Fs (sy_goto (pc' := 2) xc38_36 (by decide) (by decide) sy_refl) ?_
  refine sy_Fs (sy_ildn xc38_2 rfl rfl sy_refl) ?_
  refine sy_Fs (sy_bipush (v := 64) xc38_3 (by decide) (by decide) sy_refl) ?_
  refine sy_Fs (sy_ge_f xc38_5 (by decide) (by decide) (by decide) sy_refl) ?_
  refine sy_Fs (sy_aldn xc38_8 rfl rfl sy_refl) ?_
  refine sy_Fs (sy_gf xc38_9 xf38_18 rfl (wh_at hw 10 rfl) rfl (fh_at hX10 0 rfl rfl) sy_refl) ?_
  refine sy_Fs (sy_ildn xc38_12 rfl rfl sy_refl) ?_
  refine sy_Fs (sy_ildn xc38_13 rfl rfl sy_refl) ?_
  refine sy_Fs (sy_bipush (v := 32) xc38_14 (by decide) (by decide) sy_refl) ?_
  refine sy_Fs (sy_ge_t (pc' := 30) xc38_16 (by decide) (by decide) (by decide) (by decide) sy_refl) ?_
  refine sy_Fs (sy_ildn xc38_30 rfl rfl sy_refl) ?_
  refine sy_Fs (sx_i2b (z := (mn_b v)) xc38_31 rfl) ?_
  refine sy_Fw (i := 11) (x := (1, 1, 64, (pk Sp Mk v 50))) hw (by decide) (sy_bas (i := 49) xc38_32 (wh_at hw 11 rfl) rfl (by decide) (by decide) rfl sy_refl) ?_
  intro w hw
  simp only [List.set_cons_zero, List.set_cons_succ] at hw
  refine sy_Fs (sx_iinc (c := 1) (z := 50) (ls' := [(2, pl 10, 0), (0, v, 0), (2, pl 16, 0), (0, 50, 0)]) xc38_33 rfl (by decide) (by rw [xl38]; rfl) rfl (by decide) rfl) ?_
  refine sy_Fs (sy_goto (pc' := 2) xc38_36 (by decide) (by decide) sy_refl) ?_
  refine sy_Fs (sy_ildn xc38_2 rfl rfl sy_refl) ?_
  refine sy_Fs (sy_bipush (v := 64) xc38_3 (by decide) (by decide) sy_refl) ?_
  refine sy_Fs (sy_ge_f xc38_5 (by decide) (by decide) (by decide) sy_refl) ?_
  refine sy_Fs (sy_aldn xc38_8 rfl rfl sy_refl) ?_
  refine sy_Fs (sy_gf xc38_9 xf38_18 rfl (wh_at hw 10 rfl) rfl (fh_at hX10 0 rfl rfl) sy_refl) ?_
  refine sy_Fs (sy_ildn xc38_12 rfl rfl sy_refl) ?_
  refine sy_Fs (sy_ildn xc38_13 rfl rfl sy_refl) ?_
  refine sy_Fs (sy_bipush (v := 32) xc38_14 (by decide) (by decide) sy_refl) ?_
  refine sy_Fs (sy_ge_t (pc' := 30) xc38_16 (by decide) (by decide) (by decide) (by decide) sy_refl) ?_
  refine sy_Fs (sy_ildn xc38_30 rfl rfl sy_refl) ?_
  refine sy_Fs (sx_i2b (z := (mn_b v)) xc38_31 rfl) ?_
  refine sy_Fw (i := 11) (x := (1, 1, 64, (pk Sp Mk v 51))) hw (by decide) (sy_bas (i := 50) xc38_32 (wh_at hw 11 rfl) rfl (by decide) (by decide) rfl sy_refl) ?_
  intro w hw
  simp only [List.set_cons_zero, List.set_cons_succ] at hw
  refine sy_Fs (sx_iinc (c := 1) (z := 51) (ls' := [(2, pl 10, 0), (0, v, 0), (2, pl 16, 0), (0, 51, 0)]) xc38_33 rfl (by decide) (by rw [xl38]; rfl) rfl (by decide) rfl) ?_
  refine sy_Fs (sy_goto (pc' := 2) xc38_36 (by decide) (by decide) sy_refl) ?_
  refine sy_Fs (sy_ildn xc38_2 rfl rfl sy_refl) ?_
  refine sy_Fs (sy_bipush (v := 64) xc38_3 (by decide) (by decide) sy_refl) ?_
  refine sy_Fs (sy_ge_f xc38_5 (by decide) (by decide) (by decide) sy_refl) ?_
  refine sy_Fs (sy_aldn xc38_8 rfl rfl sy_refl) ?_
  refine sy_Fs (sy_gf xc38_9 xf38_18 rfl (wh_at hw 10 rfl) rfl (fh_at hX10 0 rfl rfl) sy_refl) ?_
  refine sy_Fs (sy_ildn xc38_12 rfl rfl sy_refl) ?_
  refine sy_Fs (sy_ildn xc38_13 rfl rfl sy_refl) ?_
  refine sy_Fs (sy_bipush (v := 32) xc38_14 (by decide) (by decide) sy_refl) ?_
  refine sy_Fs (sy_ge_t (pc' := 30) xc38_16 (by decide) (by decide) (by decide) (by decide) sy_refl) ?_
  refine sy_Fs (sy_ildn xc38_30 rfl rfl sy_refl) ?_
  refine sy_Fs (sx_i2b (z := (mn_b v)) xc38_31 rfl) ?_
  refine sy_Fw (i := 11) (x := (1, 1, 64, (pk Sp Mk v 52))) hw (by decide) (sy_bas (i := 51) xc38_32 (wh_at hw 11 rfl) rfl (by decide) (by decide) rfl sy_refl) ?_
  intro w hw
  simp only [List.set_cons_zero, List.set_cons_succ] at hw
  refine sy_Fs (sx_iinc (c := 1) (z := 52) (ls' := [(2, pl 10, 0), (0, v, 0), (2, pl 16, 0), (0, 52, 0)]) xc38_33 rfl (by decide) (by rw [xl38]; rfl) rfl (by decide) rfl) ?_
  refine sy_Fs (sy_goto (pc' := 2) xc38_36 (by decide) (by decide) sy_refl) ?_
  refine sy_Fs (sy_ildn xc38_2 rfl rfl sy_refl) ?_
  refine sy_Fs (sy_bipush (v := 64) xc38_3 (by decide) (by decide) sy_refl) ?_
  refine sy_Fs (sy_ge_f xc38_5 (by decide) (by decide) (by decide) sy_refl) ?_
  refine sy_Fs (sy_aldn xc38_8 rfl rfl sy_refl) ?_
  refine sy_Fs (sy_gf xc38_9 xf38_18 rfl (wh_at hw 10 rfl) rfl (fh_at hX10 0 rfl rfl) sy_refl) ?_
  refine sy_Fs (sy_ildn xc38_12 rfl rfl sy_refl) ?_
  refine sy_Fs (sy_ildn xc38_13 rfl rfl sy_refl) ?_
  refine sy_Fs (sy_bipush (v := 32) xc38_14 (by decide) (by decide) sy_refl) ?_
  refine sy_Fs (sy_ge_t (pc' := 30) xc38_16 (by decide) (by decide) (by decide) (by decide) sy_refl) ?_
  refine sy_Fs (sy_ildn xc38_30 rfl rfl sy_refl) ?_
  refine sy_Fs (sx_i2b (z := (mn_b v)) xc38_31 rfl) ?_
  refine sy_Fw (i := 11) (x := (1, 1, 64, (pk Sp Mk v 53))) hw (by decide) (sy_bas (i := 52) xc38_32 (wh_at hw 11 rfl) rfl (by decide) (by decide) rfl sy_refl) ?_
  intro w hw
  simp only [List.set_cons_zero, List.set_cons_succ] at hw
  refine sy_Fs (sx_iinc (c := 1) (z := 53) (ls' := [(2, pl 10, 0), (0, v, 0), (2, pl 16, 0), (0, 53, 0)]) xc38_33 rfl (by decide) (by rw [xl38]; rfl) rfl (by decide) rfl) ?_
  refine sy_Fs (sy_goto (pc' := 2) xc38_36 (by decide) (by decide) sy_refl) ?_
  refine sy_Fs (sy_ildn xc38_2 rfl rfl sy_refl) ?_
  refine sy_Fs (sy_bipush (v := 64) xc38_3 (by decide) (by decide) sy_refl) ?_
  refine sy_Fs (sy_ge_f xc38_5 (by decide) (by decide) (by decide) sy_refl) ?_
  refine sy_Fs (sy_aldn xc38_8 rfl rfl sy_refl) ?_
  refine sy_Fs (sy_gf xc38_9 xf38_18 rfl (wh_at hw 10 rfl) rfl (fh_at hX10 0 rfl rfl) sy_refl) ?_
  refine sy_Fs (sy_ildn xc38_12 rfl rfl sy_refl) ?_
  refine sy_Fs (sy_ildn xc38_13 rfl rfl sy_refl) ?_
  refine sy_Fs (sy_bipush (v := 32) xc38_14 (by decide) (by decide) sy_refl) ?_
  refine sy_Fs (sy_ge_t (pc' := 30) xc38_16 (by decide) (by decide) (by decide) (by decide) sy_refl) ?_
  refine sy_Fs (sy_ildn xc38_30 rfl rfl sy_refl) ?_
  refine sy_Fs (sx_i2b (z := (mn_b v)) xc38_31 rfl) ?_
  refine sy_Fw (i := 11) (x := (1, 1, 64, (pk Sp Mk v 54))) hw (by decide) (sy_bas (i := 53) xc38_32 (wh_at hw 11 rfl) rfl (by decide) (by decide) rfl sy_refl) ?_
  intro w hw
  simp only [List.set_cons_zero, List.set_cons_succ] at hw
  refine sy_Fs (sx_iinc (c := 1) (z := 54) (ls' := [(2, pl 10, 0), (0, v, 0), (2, pl 16, 0), (0, 54, 0)]) xc38_33 rfl (by decide) (by rw [xl38]; rfl) rfl (by decide) rfl) ?_
  refine sy_Fs (sy_goto (pc' := 2) xc38_36 (by decide) (by decide) sy_refl) ?_
  refine sy_Fs (sy_ildn xc38_2 rfl rfl sy_refl) ?_
  refine sy_Fs (sy_bipush (v := 64) xc38_3 (by decide) (by decide) sy_refl) ?_
  refine sy_Fs (sy_ge_f xc38_5 (by decide) (by decide) (by decide) sy_refl) ?_
  refine sy_Fs (sy_aldn xc38_8 rfl rfl sy_refl) ?_
  refine sy_Fs (sy_gf xc38_9 xf38_18 rfl (wh_at hw 10 rfl) rfl (fh_at hX10 0 rfl rfl) sy_refl) ?_
  refine sy_Fs (sy_ildn xc38_12 rfl rfl sy_refl) ?_
  refine sy_Fs (sy_ildn xc38_13 rfl rfl sy_refl) ?_
  refine sy_Fs (sy_bipush (v := 32) xc38_14 (by decide) (by decide) sy_refl) ?_
  refine sy_Fs (sy_ge_t (pc' := 30) xc38_16 (by decide) (by decide) (by decide) (by decide) sy_refl) ?_
  refine sy_Fs (sy_ildn xc38_30 rfl rfl sy_refl) ?_
  refine sy_Fs (sx_i2b (z := (mn_b v)) xc38_31 rfl) ?_
  refine sy_Fw (i := 11) (x := (1, 1, 64, (pk Sp Mk v 55))) hw (by decide) (sy_bas (i := 54) xc38_32 (wh_at hw 11 rfl) rfl (by decide) (by decide) rfl sy_refl) ?_
  intro w hw
  simp only [List.set_cons_zero, List.set_cons_succ] at hw
  refine sy_Fs (sx_iinc (c := 1) (z := 55) (ls' := [(2, pl 10, 0), (0, v, 0), (2, pl 16, 0), (0, 55, 0)]) xc38_33 rfl (by decide) (by rw [xl38]; rfl) rfl (by decide) rfl) ?_
  refine sy_Fs (sy_goto (pc' := 2) xc38_36 (by decide) (by decide) sy_refl) ?_
  refine sy_Fs (sy_ildn xc38_2 rfl rfl sy_refl) ?_
  refine sy_Fs (sy_bipush (v := 64) xc38_3 (by decide) (by decide) sy_refl) ?_
  refine sy_Fs (sy_ge_f xc38_5 (by decide) (by decide) (by decide) sy_refl) ?_
  refine sy_Fs (sy_aldn xc38_8 rfl rfl sy_refl) ?_
  refine sy_Fs (sy_gf xc38_9 xf38_18 rfl (wh_at hw 10 rfl) rfl (fh_at hX10 0 rfl rfl) sy_refl) ?_
  refine sy_Fs (sy_ildn xc38_12 rfl rfl sy_refl) ?_
  refine sy_Fs (sy_ildn xc38_13 rfl rfl sy_refl) ?_
  refine sy_Fs (sy_bipush (v := 32) xc38_14 (by decide) (by decide) sy_refl) ?_
  refine sy_Fs (sy_ge_t (pc' := 30) xc38_16 (by decide) (by decide) (by decide) (by decide) sy_refl) ?_
  refine sy_Fs (sy_ildn xc38_30 rfl rfl sy_refl) ?_
  refine sy_Fs (sx_i2b (z := (mn_b v)) xc38_31 rfl) ?_
  refine sy_Fw (i := 11) (x := (1, 1, 64, (pk Sp Mk v 56))) hw (by decide) (sy_bas (i := 55) xc38_32 (wh_at hw 11 rfl) rfl (by decide) (by decide) rfl sy_refl) ?_
  intro w hw
  simp only [List.set_cons_zero, List.set_cons_succ] at hw
  refine sy_Fs (sx_iinc (c := 1) (z := 56) (ls' := [(2, pl 10, 0), (0, v, 0), (2, pl 16, 0), (0, 56, 0)]) xc38_33 rfl (by decide) (by rw [xl38]; rfl) rfl (by decide) rfl) ?_
  refine sy_Fs (sy_goto (pc' := 2) xc38_36 (by decide) (by decide) sy_refl) ?_
  refine sy_Fs (sy_ildn xc38_2 rfl rfl sy_refl) ?_
  refine sy_Fs (sy_bipush (v := 64) xc38_3 (by decide) (by decide) sy_refl) ?_
  refine sy_Fs (sy_ge_f xc38_5 (by decide) (by decide) (by decide) sy_refl) ?_
  refine sy_Fs (sy_aldn xc38_8 rfl rfl sy_refl) ?_
  refine sy_Fs (sy_gf xc38_9 xf38_18 rfl (wh_at hw 10 rfl) rfl (fh_at hX10 0 rfl rfl) sy_refl) ?_
  refine sy_Fs (sy_ildn xc38_12 rfl rfl sy_refl) ?_
  refine sy_Fs (sy_ildn xc38_13 rfl rfl sy_refl) ?_
  refine sy_Fs (sy_bipush (v := 32) xc38_14 (by decide) (by decide) sy_refl) ?_
  refine sy_Fs (sy_ge_t (pc' := 30) xc38_16 (by decide) (by decide) (by decide) (by decide) sy_refl) ?_
  refine sy_Fs (sy_ildn xc38_30 rfl rfl sy_refl) ?_
  refine sy_Fs (sx_i2b (z := (mn_b v)) xc38_31 rfl) ?_
  refine sy_Fw (i := 11) (x := (1, 1, 64, (pk Sp Mk v 57))) hw (by decide) (sy_bas (i := 56) xc38_32 (wh_at hw 11 rfl) rfl (by decide) (by decide) rfl sy_refl) ?_
  intro w hw
  simp only [List.set_cons_zero, List.set_cons_succ] at hw
  refine sy_Fs (sx_iinc (c := 1) (z := 57) (ls' := [(2, pl 10, 0), (0, v, 0), (2, pl 16, 0), (0, 57, 0)]) xc38_33 rfl (by decide) (by rw [xl38]; rfl) rfl (by decide) rfl) ?_
  refine sy_Fs (sy_goto (pc' := 2) xc38_36 (by decide) (by decide) sy_refl) ?_
  refine sy_Fs (sy_ildn xc38_2 rfl rfl sy_refl) ?_
  refine sy_Fs (sy_bipush (v := 64) xc38_3 (by decide) (by decide) sy_refl) ?_
  refine sy_Fs (sy_ge_f xc38_5 (by decide) (by decide) (by decide) sy_refl) ?_
  refine sy_Fs (sy_aldn xc38_8 rfl rfl sy_refl) ?_
  refine sy_Fs (sy_gf xc38_9 xf38_18 rfl (wh_at hw 10 rfl) rfl (fh_at hX10 0 rfl rfl) sy_refl) ?_
  refine sy_Fs (sy_ildn xc38_12 rfl rfl sy_refl) ?_
  refine sy_Fs (sy_ildn xc38_13 rfl rfl sy_refl) ?_
  refine sy_Fs (sy_bipush (v := 32) xc38_14 (by decide) (by decide) sy_refl) ?_
  refine sy_Fs (sy_ge_t (pc' := 30) xc38_16 (by decide) (by decide) (by decide) (by decide) sy_refl) ?_
  refine sy_Fs (sy_ildn xc38_30 rfl rfl sy_refl) ?_
  refine sy_Fs (sx_i2b (z := (mn_b v)) xc38_31 rfl) ?_
  refine sy_Fw (i := 11) (x := (1, 1, 64, (pk Sp Mk v 58))) hw (by decide) (sy_bas (i := 57) xc38_32 (wh_at hw 11 rfl) rfl (by decide) (by decide) rfl sy_refl) ?_
  intro w hw
  simp only [List.set_cons_zero, List.set_cons_succ] at hw
  refine sy_Fs (sx_iinc (c := 1) (z := 58) (ls' := [(2, pl 10, 0), (0, v, 0), (2, pl 16, 0), (0, 58, 0)]) xc38_33 rfl (by decide) (by rw [xl38]; rfl) rfl (by decide) rfl) ?_
  refine sy_Fs (sy_goto (pc' := 2) xc38_36 (by decide) (by decide) sy_refl) ?_
  refine sy_Fs (sy_ildn xc38_2 rfl rfl sy_refl) ?_
  refine sy_Fs (sy_bipush (v := 64) xc38_3 (by decide) (by decide) sy_refl) ?_
  refine sy_Fs (sy_ge_f xc38_5 (by decide) (by decide) (by decide) sy_refl) ?_
  refine sy_Fs (sy_aldn xc38_8 rfl rfl sy_refl) ?_
  refine sy_Fs (sy_gf xc38_9 xf38_18 rfl (wh_at hw 10 rfl) rfl (fh_at hX10 0 rfl rfl) sy_refl) ?_
  refine sy_Fs (sy_ildn xc38_12 rfl rfl sy_refl) ?_
  refine sy_Fs (sy_ildn xc38_13 rfl rfl sy_refl) ?_
  refine sy_Fs (sy_bipush (v := 32) xc38_14 (by decide) (by decide) sy_refl) ?_
  refine sy_Fs (sy_ge_t (pc' := 30) xc38_16 (by decide) (by decide) (by decide) (by decide) sy_refl) ?_
  refine sy_Fs (sy_ildn xc38_30 rfl rfl sy_refl) ?_
  refine sy_Fs (sx_i2b (z := (mn_b v)) xc38_31 rfl) ?_
  refine sy_Fw (i := 11) (x := (1, 1, 64, (pk Sp Mk v 59))) hw (by decide) (sy_bas (i := 58) xc38_32 (wh_at hw 11 rfl) rfl (by decide) (by decide) rfl sy_refl) ?_
  intro w hw
  simp only [List.set_cons_zero, List.set_cons_succ] at hw
  refine sy_Fs (sx_iinc (c := 1) (z := 59) (ls' := [(2, pl 10, 0), (0, v, 0), (2, pl 16, 0), (0, 59, 0)]) xc38_33 rfl (by decide) (by rw [xl38]; rfl) rfl (by decide) rfl) ?_
  refine sy_Fs (sy_goto (pc' := 2) xc38_36 (by decide) (by decide) sy_refl) ?_
  refine sy_Fs (sy_ildn xc38_2 rfl rfl sy_refl) ?_
  refine sy_Fs (sy_bipush (v := 64) xc38_3 (by decide) (by decide) sy_refl) ?_
  refine sy_Fs (sy_ge_f xc38_5 (by decide) (by decide) (by decide) sy_refl) ?_
  refine sy_Fs (sy_aldn xc38_8 rfl rfl sy_refl) ?_
  refine sy_Fs (sy_gf xc38_9 xf38_18 rfl (wh_at hw 10 rfl) rfl (fh_at hX10 0 rfl rfl) sy_refl) ?_
  refine sy_Fs (sy_ildn xc38_12 rfl rfl sy_refl) ?_
  refine sy_Fs (sy_ildn xc38_13 rfl rfl sy_refl) ?_
  refine sy_Fs (sy_bipush (v := 32) xc38_14 (by decide) (by decide) sy_refl) ?_
  refine sy_Fs (sy_ge_t (pc' := 30) xc38_16 (by decide) (by decide) (by decide) (by decide) sy_refl) ?_
  refine sy_Fs (sy_ildn xc38_30 rfl rfl sy_refl) ?_
  refine sy_Fs (sx_i2b (z := (mn_b v)) xc38_31 rfl) ?_
  refine sy_Fw (i := 11) (x := (1, 1, 64, (pk Sp Mk v 60))) hw (by decide) (sy_bas (i := 59) xc38_32 (wh_at hw 11 rfl) rfl (by decide) (by decide) rfl sy_refl) ?_
  intro w hw
  simp only [List.set_cons_zero, List.set_cons_succ] at hw
  refine sy_Fs (sx_iinc (c := 1) (z := 60) (ls' := [(2, pl 10, 0), (0, v, 0), (2, pl 16, 0), (0, 60, 0)]) xc38_33 rfl (by decide) (by rw [xl38]; rfl) rfl (by decide) rfl) ?_
  refine sy_Fs (sy_goto (pc' := 2) xc38_36 (by decide) (by decide) sy_refl) ?_
  refine sy_Fs (sy_ildn xc38_2 rfl rfl sy_refl) ?_
  refine sy_Fs (sy_bipush (v := 64) xc38_3 (by decide) (by decide) sy_refl) ?_
  refine sy_Fs (sy_ge_f xc38_5 (by decide) (by decide) (by decide) sy_refl) ?_
  refine sy_Fs (sy_aldn xc38_8 rfl rfl sy_refl) ?_
  refine sy_Fs (sy_gf xc38_9 xf38_18 rfl (wh_at hw 10 rfl) rfl (fh_at hX10 0 rfl rfl) sy_refl) ?_
  refine sy_Fs (sy_ildn xc38_12 rfl rfl sy_refl) ?_
  refine sy_Fs (sy_ildn xc38_13 rfl rfl sy_refl) ?_
  refine sy_Fs (sy_bipush (v := 32) xc38_14 (by decide) (by decide) sy_refl) ?_
  refine sy_Fs (sy_ge_t (pc' := 30) xc38_16 (by decide) (by decide) (by decide) (by decide) sy_refl) ?_
  refine sy_Fs (sy_ildn xc38_30 rfl rfl sy_refl) ?_
  refine sy_Fs (sx_i2b (z := (mn_b v)) xc38_31 rfl) ?_
  refine sy_Fw (i := 11) (x := (1, 1, 64, (pk Sp Mk v 61))) hw (by decide) (sy_bas (i := 60) xc38_32 (wh_at hw 11 rfl) rfl (by decide) (by decide) rfl sy_refl) ?_
  intro w hw
  simp only [List.set_cons_zero, List.set_cons_succ] at hw
  refine sy_Fs (sx_iinc (c := 1) (z := 61) (ls' := [(2, pl 10, 0), (0, v, 0), (2, pl 16, 0), (0, 61, 0)]) xc38_33 rfl (by decide) (by rw [xl38]; rfl) rfl (by decide) rfl) ?_
  refine sy_Fs (sy_goto (pc' := 2) xc38_36 (by decide) (by decide) sy_refl) ?_
  refine sy_Fs (sy_ildn xc38_2 rfl rfl sy_refl) ?_
  refine sy_Fs (sy_bipush (v := 64) xc38_3 (by decide) (by decide) sy_refl) ?_
  refine sy_Fs (sy_ge_f xc38_5 (by decide) (by decide) (by decide) sy_refl) ?_
  refine sy_Fs (sy_aldn xc38_8 rfl rfl sy_refl) ?_
  refine sy_Fs (sy_gf xc38_9 xf38_18 rfl (wh_at hw 10 rfl) rfl (fh_at hX10 0 rfl rfl) sy_refl) ?_
  refine sy_Fs (sy_ildn xc38_12 rfl rfl sy_refl) ?_
  refine sy_Fs (sy_ildn xc38_13 rfl rfl sy_refl) ?_
  refine sy_Fs (sy_bipush (v := 32) xc38_14 (by decide) (by decide) sy_refl) ?_
  refine sy_Fs (sy_ge_t (pc' := 30) xc38_16 (by decide) (by decide) (by decide) (by decide) sy_refl) ?_
  refine sy_Fs (sy_ildn xc38_30 rfl rfl sy_refl) ?_
  refine sy_Fs (sx_i2b (z := (mn_b v)) xc38_31 rfl) ?_
  refine sy_Fw (i := 11) (x := (1, 1, 64, (pk Sp Mk v 62))) hw (by decide) (sy_bas (i := 61) xc38_32 (wh_at hw 11 rfl) rfl (by decide) (by decide) rfl sy_refl) ?_
  intro w hw
  simp only [List.set_cons_zero, List.set_cons_succ] at hw
  refine sy_Fs (sx_iinc (c := 1) (z := 62) (ls' := [(2, pl 10, 0), (0, v, 0), (2, pl 16, 0), (0, 62, 0)]) xc38_33 rfl (by decide) (by rw [xl38]; rfl) rfl (by decide) rfl) ?_
  refine sy_Fs (sy_goto (pc' := 2) xc38_36 (by decide) (by decide) sy_refl) ?_
  refine sy_Fs (sy_ildn xc38_2 rfl rfl sy_refl) ?_
  refine sy_Fs (sy_bipush (v := 64) xc38_3 (by decide) (by decide) sy_refl) ?_
  refine sy_Fs (sy_ge_f xc38_5 (by decide) (by decide) (by decide) sy_refl) ?_
  refine sy_Fs (sy_aldn xc38_8 rfl rfl sy_refl) ?_
  refine sy_Fs (sy_gf xc38_9 xf38_18 rfl (wh_at hw 10 rfl) rfl (fh_at hX10 0 rfl rfl) sy_refl) ?_
  refine sy_Fs (sy_ildn xc38_12 rfl rfl sy_refl) ?_
  refine sy_Fs (sy_ildn xc38_13 rfl rfl sy_refl) ?_
  refine sy_Fs (sy_bipush (v := 32) xc38_14 (by decide) (by decide) sy_refl) ?_
  refine sy_Fs (sy_ge_t (pc' := 30) xc38_16 (by decide) (by decide) (by decide) (by decide) sy_refl) ?_
  refine sy_Fs (sy_ildn xc38_30 rfl rfl sy_refl) ?_
  refine sy_Fs (sx_i2b (z := (mn_b v)) xc38_31 rfl) ?_
  refine sy_Fw (i := 11) (x := (1, 1, 64, (pk Sp Mk v 63))) hw (by decide) (sy_bas (i := 62) xc38_32 (wh_at hw 11 rfl) rfl (by decide) (by decide) rfl sy_refl) ?_
  intro w hw
  simp only [List.set_cons_zero, List.set_cons_succ] at hw
  refine sy_Fs (sx_iinc (c := 1) (z := 63) (ls' := [(2, pl 10, 0), (0, v, 0), (2, pl 16, 0), (0, 63, 0)]) xc38_33 rfl (by decide) (by rw [xl38]; rfl) rfl (by decide) rfl) ?_
  refine sy_Fs (sy_goto (pc' := 2) xc38_36 (by decide) (by decide) sy_refl) ?_
  refine sy_Fs (sy_ildn xc38_2 rfl rfl sy_refl) ?_
  refine sy_Fs (sy_bipush (v := 64) xc38_3 (by decide) (by decide) sy_refl) ?_
  refine sy_Fs (sy_ge_f xc38_5 (by decide) (by decide) (by decide) sy_refl) ?_
  refine sy_Fs (sy_aldn xc38_8 rfl rfl sy_refl) ?_
  refine sy_Fs (sy_gf xc38_9 xf38_18 rfl (wh_at hw 10 rfl) rfl (fh_at hX10 0 rfl rfl) sy_refl) ?_
  refine sy_Fs (sy_ildn xc38_12 rfl rfl sy_refl) ?_
  refine sy_Fs (sy_ildn xc38_13 rfl rfl sy_refl) ?_
  refine sy_Fs (sy_bipush (v := 32) xc38_14 (by decide) (by decide) sy_refl) ?_
  refine sy_Fs (sy_ge_t (pc' := 30) xc38_16 (by decide) (by decide) (by decide) (by decide) sy_refl) ?_
  refine sy_Fs (sy_ildn xc38_30 rfl rfl sy_refl) ?_
  refine sy_Fs (sx_i2b (z := (mn_b v)) xc38_31 rfl) ?_
  refine sy_Fw (i := 11) (x := (1, 1, 64, (pk Sp Mk v 64))) hw (by decide) (sy_bas (i := 63) xc38_32 (wh_at hw 11 rfl) rfl (by decide) (by decide) rfl sy_refl) ?_
  intro w hw
  simp only [List.set_cons_zero, List.set_cons_succ] at hw
  refine sy_Fs (sx_iinc (c := 1) (z := 64) (ls' := [(2, pl 10, 0), (0, v, 0), (2, pl 16, 0), (0, 64, 0)]) xc38_33 rfl (by decide) (by rw [xl38]; rfl) rfl (by decide) rfl) ?_
  refine sy_Fs (sy_goto (pc' := 2) xc38_36 (by decide) (by decide) sy_refl) ?_
  refine sy_Fs (sy_ildn xc38_2 rfl rfl sy_refl) ?_
  refine sy_Fs (sy_bipush (v := 64) xc38_3 (by decide) (by decide) sy_refl) ?_
  refine sy_Fs (sy_ge_t (pc' := 39) xc38_5 (by decide) (by decide) (by decide) (by decide) sy_refl) ?_
  refine sy_Fs (sy_gst (q := 1) xc38_39 xz38_40 sy_refl) ?_
  refine sy_Fs (sy_iconst (v := 0) xc38_42 (by decide) sy_refl) ?_
  refine sy_Fs (sy_aldn xc38_43 rfl rfl sy_refl) ?_
  refine sy_Fs (sy_gf xc38_44 xf38_9 rfl (wh_at hw 10 rfl) rfl (fh_at hX10 2 rfl rfl) sy_refl) ?_
  refine sy_Fs (sy_iconst (v := 0) xc38_47 (by decide) sy_refl) ?_
  refine sy_Fs (sy_bipush (v := 8) xc38_48 (by decide) (by decide) sy_refl) ?_
  refine sy_Fw (i := 13) (x := (1, 0, 8, (mv_cw 32 Ss (tt_stt 1).2.2 0 0 8))) hw (by decide) (sy_call8 (as := [(6, 1, 0), (0, 0, 0), (2, pl 13, 0), (0, 0, 0), (0, 8, 0)]) (S0 := []) xc38_50 (sy_calS (as := [(6, 1, 0), (0, 0, 0), (2, pl 13, 0), (0, 0, 0), (0, 8, 0)]) (S0 := []) xm38_43 rfl rfl) (sy_cpsi xs1 (wh_at hw 13 rfl) (by first | decide | assumption | omega) (by first | decide | assumption | omega) (by first | decide | assumption | omega) (by first | decide | assumption | omega)) (by decide) (by decide) sy_refl) ?_
  intro w hw
  simp only [List.set_cons_zero, List.set_cons_succ] at hw
  refine sy_Fs (sy_aldn xc38_53 rfl rfl sy_refl) ?_
  obtain ⟨w, X10, Pq1, Wq1, Sq1, uq1, lq1, hC, hwq1, hXq1x, hsu, hsl⟩ := we_cmp (n := n) (s := (su, sl, (pk Sp Mk v 64), Sw, (mv_cw 32 Ss (tt_stt 1).2.2 0 0 8)))  hw rfl rfl rfl rfl hX10 rfl rfl rfl rfl rfl hsl
  refine sy_Fs (sy_callG (kd := 3) (as := [(2, pl 10, 0)]) (S0 := []) (ret := []) xc38_54 (sy_calV (as := [(2, pl 10, 0)]) (S0 := []) xm38_56 rfl rfl) rfl rfl (sy_rcvm xi16 (wh_at hw 10 rfl)) rfl (sy_oka (sy_oks_cons (sy_ok2 (wh_lt hw 10 (by first | decide | assumption))) sy_oks_nil) rfl xl16) hC (by decide) (by rw [xl16]; decide) sy_refl) ?_
  replace hw := hwq1
  replace hX10 := hXq1x
  simp only [List.set_cons_zero, List.set_cons_succ] at hw hX10
  refine sy_Fs (sy_aldn xc38_57 rfl rfl sy_refl) ?_
  refine sy_Fs (sy_gf xc38_58 xf38_9 rfl (wh_at hw 10 rfl) rfl (fh_at hX10 2 rfl rfl) sy_refl) ?_
  refine sy_Fs (sy_iconst (v := 0) xc38_61 (by decide) sy_refl) ?_
  refine sy_Fs (sy_aldn xc38_62 rfl rfl sy_refl) ?_
  refine sy_Fs (sy_iconst (v := 0) xc38_63 (by decide) sy_refl) ?_
  refine sy_Fs (sy_bipush (v := 8) xc38_64 (by decide) (by decide) sy_refl) ?_
  refine sy_Fw (i := 16) (x := (1, 0, 8, (mv_cw 32 Is Sq1 0 0 8))) hw (by decide) (sy_call8 (as := [(2, pl 13, 0), (0, 0, 0), (2, pl 16, 0), (0, 0, 0), (0, 8, 0)]) (S0 := []) xc38_66 (sy_calS (as := [(2, pl 13, 0), (0, 0, 0), (2, pl 16, 0), (0, 0, 0), (0, 8, 0)]) (S0 := []) xm38_43 rfl rfl) (sy_cpi (wh_at hw 13 rfl) (wh_at hw 16 rfl) (by first | decide | assumption | omega) (by first | decide | assumption | omega) (by first | decide | assumption | omega) (by first | decide | assumption | omega)) (by decide) (by decide) sy_refl) ?_
  intro w hw
  simp only [List.set_cons_zero, List.set_cons_succ] at hw
  exact sy_Fv xc38_69 xr38 ⟨rfl, _, _, _, _, _, _, _, ⟨hsu, hsl⟩, hw, hX10⟩
theorem ce_pad17  (hw : wh 30 pl w0 w [(0, 1, 13, X0), (0, 8, 11, X1), (3, 6, 40, cbs), (0, 9, 11, X3), (1, 1, 105, Hd), (1, 1, 32, Id), (1, 1, 128, Ids), (1, 1, 480, Ads), (1, 1, 32, Br), (1, 1, 32, Dg), (0, 2, 13, X10), (1, 1, 64, Sp), (1, 0, 64, Sw), (1, 0, 8, Ss), (1, 1, 32, In), (1, 1, 32, Mk), (1, 0, 8, Is), (1, 0, 8, Os), (1, 0, 8, Ks), (1, 1, 64, Kp), (0, 9, 11, X20), (1, 1, 105, Bh), (1, 1, 32, Bd), (3, 7, 4, cps), (1, 1, 28, Mb), (1, 1, 32, Ti), (0, 10, 6, X26), (1, 0, 4, Pr), (1, 0, 1, Nu)]) (hX0 : fh X0 kX [(2, pl 1, 0), (0, 0, 0)]) (hX1 : fh X1 kM [(0, 1, 0), (2, pl 2, 0), (0, 0, 0), (2, pl 10, 0), (2, pl 6, 0), (2, pl 7, 0), (0, ac, 0), (2, pl 8, 0), (2, pl 9, 0)]) (hX3 : fh X3 kB [(2, pl 5, 0), (2, pl 4, 0), (0, 0, 0), (0, 4, 0), (3, 0, 0)]) (hX10 : fh X10 kS [(2, pl 11, 0), (2, pl 12, 0), (2, pl 13, 0), (2, pl 14, 0), (0, su, 0), (0, sl, 0), (2, pl 15, 0), (2, pl 16, 0), (2, pl 17, 0), (0, 1, 0), (2, pl 18, 0), (2, pl 19, 0), (0, kl, 0)]) (hX20 : fh X20 kN [(2, pl 3, 0), (0, 1, 0), (0, 1, 0), (0, wk, 0), (2, pl 21, 0), (2, pl 22, 0), (2, pl 23, 0), (0, 1, 0), (3, 0, 0), (0, 0, 0), (3, 0, 0)]) (hX26 : fh X26 kP [(2, pl 24, 0), (0, 0, 0), (0, 1, 0), (0, 28, 0), (2, pl 25, 0), (2, pl 27, 0)]) {v : Nat} (hv : v < 4294967296) (hsu : su < 64) (hsl : sl < 4294967296) : sy_D 38 n 1 33 [(2, pl 10, 0), (0, v, 0), (2, pl 17, 0)] w (fun ret w' => ret = [] ∧ ∃ Y10 Y11 Y12 Y13 Y17 yu yl : Nat, (yu < 64 ∧ yl < 4294967296) ∧ wh 30 pl w0 w' [(0, 1, 13, X0), (0, 8, 11, X1), (3, 6, 40, cbs), (0, 9, 11, X3), (1, 1, 105, Hd), (1, 1, 32, Id), (1, 1, 128, Ids), (1, 1, 480, Ads), (1, 1, 32, Br), (1, 1, 32, Dg), (0, 2, 13, Y10), (1, 1, 64, Y11), (1, 0, 64, Y12), (1, 0, 8, Y13), (1, 1, 32, In), (1, 1, 32, Mk), (1, 0, 8, Is), (1, 0, 8, Y17), (1, 0, 8, Ks), (1, 1, 64, Kp), (0, 9, 11, X20), (1, 1, 105, Bh), (1, 1, 32, Bd), (3, 7, 4, cps), (1, 1, 28, Mb), (1, 1, 32, Ti), (0, 10, 6, X26), (1, 0, 4, Pr), (1, 0, 1, Nu)] ∧ fh Y10 kS [(2, pl 11, 0), (2, pl 12, 0), (2, pl 13, 0), (2, pl 14, 0), (0, yu, 0), (0, yl, 0), (2, pl 15, 0), (2, pl 16, 0), (2, pl 17, 0), (0, 1, 0), (2, pl 18, 0), (2, pl 19, 0), (0, kl, 0)]) := by
  refine sy_Dof (us := [(255, 0, 0)]) (sy_oks_cons (sy_ok2 (wh_lt hw 10 (by first | decide | assumption))) (sy_oks_cons (sy_ok0 (by first | decide | assumption | omega | exact mo_rd_lt _ _ | exact mo_add_lt _ _ | exact mo_sub_lt _ _ | exact mo_mul_lt _ _ | exact mo_shl_lt _ _ | exact mo_ushr_lt _ _ | exact mo_or_lt (by decide) (mo_and_lt (mo_rd_lt _ _)) | exact mo_or_lt (mo_shl_lt _ _) (mo_and_lt (mo_rd_lt _ _)))) (sy_oks_cons (sy_ok2 (wh_lt hw 17 (by first | decide | assumption))) sy_oks_nil))) rfl rfl ?_
  show sy_F 38 n 1 33 0 [(2, pl 10, 0), (0, v, 0), (2, pl 17, 0), (255, 0, 0)] [] w _
  refine sy_Fs (sy_iconst (v := 0) xc38_0 (by decide) sy_refl) ?_
  refine sy_Fs (sx_istn (j := 3) (ls' := [(2, pl 10, 0), (0, v, 0), (2, pl 17, 0), (0, 0, 0)]) xc38_1 rfl rfl (sy_ok0 (by first | decide | assumption | omega | exact mo_rd_lt _ _ | exact mo_add_lt _ _ | exact mo_sub_lt _ _ | exact mo_mul_lt _ _ | exact mo_shl_lt _ _ | exact mo_ushr_lt _ _ | exact mo_or_lt (by decide) (mo_and_lt (mo_rd_lt _ _)) | exact mo_or_lt (mo_shl_lt _ _) (mo_and_lt (mo_rd_lt _ _)))) (by rw [xl38]; rfl) rfl rfl) ?_
  refine sy_Fs (sy_ildn xc38_2 rfl rfl sy_refl) ?_
  refine sy_Fs (sy_bipush (v := 64) xc38_3 (by decide) (by decide) sy_refl) ?_
  refine sy_Fs (sy_ge_f xc38_5 (by decide) (by decide) (by decide) sy_refl) ?_
  refine sy_Fs (sy_aldn xc38_8 rfl rfl sy_refl) ?_
  refine sy_Fs (sy_gf xc38_9 xf38_18 rfl (wh_at hw 10 rfl) rfl (fh_at hX10 0 rfl rfl) sy_refl) ?_
  refine sy_Fs (sy_ildn xc38_12 rfl rfl sy_refl) ?_
  refine sy_Fs (sy_ildn xc38_13 rfl rfl sy_refl) ?_
  refine sy_Fs (sy_bipush (v := 32) xc38_14 (by decide) (by decide) sy_refl) ?_
  refine sy_Fs (sy_ge_f xc38_16 (by decide) (by decide) (by decide) sy_refl) ?_
  refine sy_Fs (sy_aldn xc38_19 rfl rfl sy_refl) ?_
  refine sy_Fs (sy_gf xc38_20 xf38_25 rfl (wh_at hw 10 rfl) rfl (fh_at hX10 6 rfl rfl) sy_refl) ?_
  refine sy_Fs (sy_ildn xc38_23 rfl rfl sy_refl) ?_
  refine sy_Fs (sx_bal (z := (mv_rd 32 Mk 0)) xc38_24 (wh_at hw 15 rfl) (by decide) (by decide) rfl) ?_
  refine sy_Fs (sy_ildn xc38_25 rfl rfl sy_refl) ?_
  refine sy_Fs (sx_ixor (z := (mo_xor (mv_rd 32 Mk 0) v)) xc38_26 rfl) ?_
  refine sy_Fs (sy_goto (pc' := 31) xc38_27 (by decide) (by decide) sy_refl) ?_
  refine sy_Fs (sx_i2b (z := (mn_b (mo_xor (mv_rd 32 Mk 0) v))) xc38_31 rfl) ?_
  refine sy_Fw (i := 11) (x := (1, 1, 64, (pk Sp Mk v 1))) hw (by decide) (sy_bas (i := 0) xc38_32 (wh_at hw 11 rfl) rfl (by decide) (by decide) rfl sy_refl) ?_
  intro w hw
  simp only [List.set_cons_zero, List.set_cons_succ] at hw
  refine sy_Fs (sx_iinc (c := 1) (z := 1) (ls' := [(2, pl 10, 0), (0, v, 0), (2, pl 17, 0), (0, 1, 0)]) xc38_33 rfl (by decide) (by rw [xl38]; rfl) rfl (by decide) rfl) ?_
  refine sy_Fs (sy_goto (pc' := 2) xc38_36 (by decide) (by decide) sy_refl) ?_
  refine sy_Fs (sy_ildn xc38_2 rfl rfl sy_refl) ?_
  refine sy_Fs (sy_bipush (v := 64) xc38_3 (by decide) (by decide) sy_refl) ?_
  refine sy_Fs (sy_ge_f xc38_5 (by decide) (by decide) (by decide) sy_refl) ?_
  refine sy_Fs (sy_aldn xc38_8 rfl rfl sy_refl) ?_
  refine sy_Fs (sy_gf xc38_9 xf38_18 rfl (wh_at hw 10 rfl) rfl (fh_at hX10 0 rfl rfl) sy_refl) ?_
  refine sy_Fs (sy_ildn xc38_12 rfl rfl sy_refl) ?_
  refine sy_Fs (sy_ildn xc38_13 rfl rfl sy_refl) ?_
  refine sy_Fs (sy_bipush (v := 32) xc38_14 (by decide) (by decide) sy_refl) ?_
  refine sy_Fs (sy_ge_f xc38_16 (by decide) (by decide) (by decide) sy_refl) ?_
  refine sy_Fs (sy_aldn xc38_19 rfl rfl sy_refl) ?_
  refine sy_Fs (sy_gf xc38_20 xf38_25 rfl (wh_at hw 10 rfl) rfl (fh_at hX10 6 rfl rfl) sy_refl) ?_
  refine sy_Fs (sy_ildn xc38_23 rfl rfl sy_refl) ?_
  refine sy_Fs (sx_bal (z := (mv_rd 32 Mk 1)) xc38_24 (wh_at hw 15 rfl) (by decide) (by decide) rfl) ?_
  refine sy_Fs (sy_ildn xc38_25 rfl rfl sy_refl) ?_
  refine sy_Fs (sx_ixor (z := (mo_xor (mv_rd 32 Mk 1) v)) xc38_26 rfl) ?_
  refine sy_Fs (sy_goto (pc' := 31) xc38_27 (by decide) (by decide) sy_refl) ?_
  refine sy_Fs (sx_i2b (z := (mn_b (mo_xor (mv_rd 32 Mk 1) v))) xc38_31 rfl) ?_
  refine sy_Fw (i := 11) (x := (1, 1, 64, (pk Sp Mk v 2))) hw (by decide) (sy_bas (i := 1) xc38_32 (wh_at hw 11 rfl) rfl (by decide) (by decide) rfl sy_refl) ?_
  intro w hw
  simp only [List.set_cons_zero, List.set_cons_succ] at hw
  refine sy_Fs (sx_iinc (c := 1) (z := 2) (ls' := [(2, pl 10, 0), (0, v, 0), (2, pl 17, 0), (0, 2, 0)]) xc38_33 rfl (by decide) (by rw [xl38]; rfl) rfl (by decide) rfl) ?_
  refine sy_Fs (sy_goto (pc' := 2) xc38_36 (by decide) (by decide) sy_refl) ?_
  refine sy_Fs (sy_ildn xc38_2 rfl rfl sy_refl) ?_
  refine sy_Fs (sy_bipush (v := 64) xc38_3 (by decide) (by decide) sy_refl) ?_
  refine sy_Fs (sy_ge_f xc38_5 (by decide) (by decide) (by decide) sy_refl) ?_
  refine sy_Fs (sy_aldn xc38_8 rfl rfl sy_refl) ?_
  refine sy_Fs (sy_gf xc38_9 xf38_18 rfl (wh_at hw 10 rfl) rfl (fh_at hX10 0 rfl rfl) sy_refl) ?_
  refine sy_Fs (sy_ildn xc38_12 rfl rfl sy_refl) ?_
  refine sy_Fs (sy_ildn xc38_13 rfl rfl sy_refl) ?_
  refine sy_Fs (sy_bipush (v := 32) xc38_14 (by decide) (by decide) sy_refl) ?_
  refine sy_Fs (sy_ge_f xc38_16 (by decide) (by decide) (by decide) sy_refl) ?_
  refine sy_Fs (sy_aldn xc38_19 rfl rfl sy_refl) ?_
  refine sy_Fs (sy_gf xc38_20 xf38_25 rfl (wh_at hw 10 rfl) rfl (fh_at hX10 6 rfl rfl) sy_refl) ?_
  refine sy_Fs (sy_ildn xc38_23 rfl rfl sy_refl) ?_
  refine sy_Fs (sx_bal (z := (mv_rd 32 Mk 2)) xc38_24 (wh_at hw 15 rfl) (by decide) (by decide) rfl) ?_
  refine sy_Fs (sy_ildn xc38_25 rfl rfl sy_refl) ?_
  refine sy_Fs (sx_ixor (z := (mo_xor (mv_rd 32 Mk 2) v)) xc38_26 rfl) ?_
  refine sy_Fs (sy_goto (pc' := 31) xc38_27 (by decide) (by decide) sy_refl) ?_
  refine sy_Fs (sx_i2b (z := (mn_b (mo_xor (mv_rd 32 Mk 2) v))) xc38_31 rfl) ?_
  refine sy_Fw (i := 11) (x := (1, 1, 64, (pk Sp Mk v 3))) hw (by decide) (sy_bas (i := 2) xc38_32 (wh_at hw 11 rfl) rfl (by decide) (by decide) rfl sy_refl) ?_
  intro w hw
  simp only [List.set_cons_zero, List.set_cons_succ] at hw
  refine sy_Fs (sx_iinc (c := 1) (z := 3) (ls' := [(2, pl 10, 0), (0, v, 0), (2, pl 17, 0), (0, 3, 0)]) xc38_33 rfl (by decide) (by rw [xl38]; rfl) rfl (by decide) rfl) ?_
  refine sy_Fs (sy_goto (pc' := 2) xc38_36 (by decide) (by decide) sy_refl) ?_
  refine sy_Fs (sy_ildn xc38_2 rfl rfl sy_refl) ?_
  refine sy_Fs (sy_bipush (v := 64) xc38_3 (by decide) (by decide) sy_refl) ?_
  refine sy_Fs (sy_ge_f xc38_5 (by decide) (by decide) (by decide) sy_refl) ?_
  refine sy_Fs (sy_aldn xc38_8 rfl rfl sy_refl) ?_
  refine sy_Fs (sy_gf xc38_9 xf38_18 rfl (wh_at hw 10 rfl) rfl (fh_at hX10 0 rfl rfl) sy_refl) ?_
  refine sy_Fs (sy_ildn xc38_12 rfl rfl sy_refl) ?_
  refine sy_Fs (sy_ildn xc38_13 rfl rfl sy_refl) ?_
  refine sy_Fs (sy_bipush (v := 32) xc38_14 (by decide) (by decide) sy_refl) ?_
  refine sy_Fs (sy_ge_f xc38_16 (by decide) (by decide) (by decide) sy_refl) ?_
  refine sy_Fs (sy_aldn xc38_19 rfl rfl sy_refl) ?_
  refine sy_Fs (sy_gf xc38_20 xf38_25 rfl (wh_at hw 10 rfl) rfl (fh_at hX10 6 rfl rfl) sy_refl) ?_
  refine sy_Fs (sy_ildn xc38_23 rfl rfl sy_refl) ?_
  refine sy_Fs (sx_bal (z := (mv_rd 32 Mk 3)) xc38_24 (wh_at hw 15 rfl) (by decide) (by decide) rfl) ?_
  refine sy_Fs (sy_ildn xc38_25 rfl rfl sy_refl) ?_
  refine sy_Fs (sx_ixor (z := (mo_xor (mv_rd 32 Mk 3) v)) xc38_26 rfl) ?_
  refine sy_Fs (sy_goto (pc' := 31) xc38_27 (by decide) (by decide) sy_refl) ?_
  refine sy_Fs (sx_i2b (z := (mn_b (mo_xor (mv_rd 32 Mk 3) v))) xc38_31 rfl) ?_
  refine sy_Fw (i := 11) (x := (1, 1, 64, (pk Sp Mk v 4))) hw (by decide) (sy_bas (i := 3) xc38_32 (wh_at hw 11 rfl) rfl (by decide) (by decide) rfl sy_refl) ?_
  intro w hw
  simp only [List.set_cons_zero, List.set_cons_succ] at hw
  refine sy_Fs (sx_iinc (c := 1) (z := 4) (ls' := [(2, pl 10, 0), (0, v, 0), (2, pl 17, 0), (0, 4, 0)]) xc38_33 rfl (by decide) (by rw [xl38]; rfl) rfl (by decide) rfl) ?_
  refine sy_Fs (sy_goto (pc' := 2) xc38_36 (by decide) (by decide) sy_refl) ?_
  refine sy_Fs (sy_ildn xc38_2 rfl rfl sy_refl) ?_
  refine sy_Fs (sy_bipush (v := 64) xc38_3 (by decide) (by decide) sy_refl) ?_
  refine sy_Fs (sy_ge_f xc38_5 (by decide) (by decide) (by decide) sy_refl) ?_
  refine sy_Fs (sy_aldn xc38_8 rfl rfl sy_refl) ?_
  refine sy_Fs (sy_gf xc38_9 xf38_18 rfl (wh_at hw 10 rfl) rfl (fh_at hX10 0 rfl rfl) sy_refl) ?_
  refine sy_Fs (sy_ildn xc38_12 rfl rfl sy_refl) ?_
  refine sy_Fs (sy_ildn xc38_13 rfl rfl sy_refl) ?_
  refine sy_Fs (sy_bipush (v := 32) xc38_14 (by decide) (by decide) sy_refl) ?_
  refine sy_Fs (sy_ge_f xc38_16 (by decide) (by decide) (by decide) sy_refl) ?_
  refine sy_Fs (sy_aldn xc38_19 rfl rfl sy_refl) ?_
  refine sy_Fs (sy_gf xc38_20 xf38_25 rfl (wh_at hw 10 rfl) rfl (fh_at hX10 6 rfl rfl) sy_refl) ?_
  refine sy_Fs (sy_ildn xc38_23 rfl rfl sy_refl) ?_
  refine sy_Fs (sx_bal (z := (mv_rd 32 Mk 4)) xc38_24 (wh_at hw 15 rfl) (by decide) (by decide) rfl) ?_
  refine sy_Fs (sy_ildn xc38_25 rfl rfl sy_refl) ?_
  refine sy_Fs (sx_ixor (z := (mo_xor (mv_rd 32 Mk 4) v)) xc38_26 rfl) ?_
  refine sy_Fs (sy_goto (pc' := 31) xc38_27 (by decide) (by decide) sy_refl) ?_
  refine sy_Fs (sx_i2b (z := (mn_b (mo_xor (mv_rd 32 Mk 4) v))) xc38_31 rfl) ?_
  refine sy_Fw (i := 11) (x := (1, 1, 64, (pk Sp Mk v 5))) hw (by decide) (sy_bas (i := 4) xc38_32 (wh_at hw 11 rfl) rfl (by decide) (by decide) rfl sy_refl) ?_
  intro w hw
  simp only [List.set_cons_zero, List.set_cons_succ] at hw
  refine sy_Fs (sx_iinc (c := 1) (z := 5) (ls' := [(2, pl 10, 0), (0, v, 0), (2, pl 17, 0), (0, 5, 0)]) xc38_33 rfl (by decide) (by rw [xl38]; rfl) rfl (by decide) rfl) ?_
  refine sy_Fs (sy_goto (pc' := 2) xc38_36 (by decide) (by decide) sy_refl) ?_
  refine sy_Fs (sy_ildn xc38_2 rfl rfl sy_refl) ?_
  refine sy_Fs (sy_bipush (v := 64) xc38_3 (by decide) (by decide) sy_refl) ?_
  refine sy_Fs (sy_ge_f xc38_5 (by decide) (by decide) (by decide) sy_refl) ?_
  refine sy_Fs (sy_aldn xc38_8 rfl rfl sy_refl) ?_
  refine sy_Fs (sy_gf xc38_9 xf38_18 rfl (wh_at hw 10 rfl) rfl (fh_at hX10 0 rfl rfl) sy_refl) ?_
  refine sy_Fs (sy_ildn xc38_12 rfl rfl sy_refl) ?_
  refine sy_Fs (sy_ildn xc38_13 rfl rfl sy_refl) ?_
  refine sy_Fs (sy_bipush (v := 32) xc38_14 (by decide) (by decide) sy_refl) ?_
  refine sy_Fs (sy_ge_f xc38_16 (by decide) (by decide) (by decide) sy_refl) ?_
  refine sy_Fs (sy_aldn xc38_19 rfl rfl sy_refl) ?_
  refine sy_Fs (sy_gf xc38_20 xf38_25 rfl (wh_at hw 10 rfl) rfl (fh_at hX10 6 rfl rfl) sy_refl) ?_
  refine sy_Fs (sy_ildn xc38_23 rfl rfl sy_refl) ?_
  refine sy_Fs (sx_bal (z := (mv_rd 32 Mk 5)) xc38_24 (wh_at hw 15 rfl) (by decide) (by decide) rfl) ?_
  refine sy_Fs (sy_ildn xc38_25 rfl rfl sy_refl) ?_
  refine sy_Fs (sx_ixor (z := (mo_xor (mv_rd 32 Mk 5) v)) xc38_26 rfl) ?_
  refine sy_Fs (sy_goto (pc' := 31) xc38_27 (by decide) (by decide) sy_refl) ?_
  refine sy_Fs (sx_i2b (z := (mn_b (mo_xor (mv_rd 32 Mk 5) v))) xc38_31 rfl) ?_
  refine sy_Fw (i := 11) (x := (1, 1, 64, (pk Sp Mk v 6))) hw (by decide) (sy_bas (i := 5) xc38_32 (wh_at hw 11 rfl) rfl (by decide) (by decide) rfl sy_refl) ?_
  intro w hw
  simp only [List.set_cons_zero, List.set_cons_succ] at hw
  refine sy_Fs (sx_iinc (c := 1) (z := 6) (ls' := [(2, pl 10, 0), (0, v, 0), (2, pl 17, 0), (0, 6, 0)]) xc38_33 rfl (by decide) (by rw [xl38]; rfl) rfl (by decide) rfl) ?_
  refine sy_Fs (sy_goto (pc' := 2) xc38_36 (by decide) (by decide) sy_refl) ?_
  refine sy_Fs (sy_ildn xc38_2 rfl rfl sy_refl) ?_
  refine sy_Fs (sy_bipush (v := 64) xc38_3 (by decide) (by decide) sy_refl) ?_
  refine sy_Fs (sy_ge_f xc38_5 (by decide) (by decide) (by decide) sy_refl) ?_
  refine sy_Fs (sy_aldn xc38_8 rfl rfl sy_refl) ?_
  refine sy_Fs (sy_gf xc38_9 xf38_18 rfl (wh_at hw 10 rfl) rfl (fh_at hX10 0 rfl rfl) sy_refl) ?_
  refine sy_Fs (sy_ildn xc38_12 rfl rfl sy_refl) ?_
  refine sy_Fs (sy_ildn xc38_13 rfl rfl sy_refl) ?_
  refine sy_Fs (sy_bipush (v := 32) xc38_14 (by decide) (by decide) sy_refl) ?_
  refine sy_Fs (sy_ge_f xc38_16 (by decide) (by decide) (by decide) sy_refl) ?_
  refine sy_Fs (sy_aldn xc38_19 rfl rfl sy_refl) ?_
  refine sy_Fs (sy_gf xc38_20 xf38_25 rfl (wh_at hw 10 rfl) rfl (fh_at hX10 6 rfl rfl) sy_refl) ?_
  refine sy_Fs (sy_ildn xc38_23 rfl rfl sy_refl) ?_
  refine sy_Fs (sx_bal (z := (mv_rd 32 Mk 6)) xc38_24 (wh_at hw 15 rfl) (by decide) (by decide) rfl) ?_
  refine sy_Fs (sy_ildn xc38_25 rfl rfl sy_refl) ?_
  refine sy_Fs (sx_ixor (z := (mo_xor (mv_rd 32 Mk 6) v)) xc38_26 rfl) ?_
  refine sy_Fs (sy_goto (pc' := 31) xc38_27 (by decide) (by decide) sy_refl) ?_
  refine sy_Fs (sx_i2b (z := (mn_b (mo_xor (mv_rd 32 Mk 6) v))) xc38_31 rfl) ?_
  refine sy_Fw (i := 11) (x := (1, 1, 64, (pk Sp Mk v 7))) hw (by decide) (sy_bas (i := 6) xc38_32 (wh_at hw 11 rfl) rfl (by decide) (by decide) rfl sy_refl) ?_
  intro w hw
  simp only [List.set_cons_zero, List.set_cons_succ] at hw
  refine sy_Fs (sx_iinc (c := 1) (z := 7) (ls' := [(2, pl 10, 0), (0, v, 0), (2, pl 17, 0), (0, 7, 0)]) xc38_33 rfl (by decide) (by rw [xl38]; rfl) rfl (by decide) rfl) ?_
  refine sy_Fs (sy_goto (pc' := 2) xc38_36 (by decide) (by decide) sy_refl) ?_
  refine sy_Fs (sy_ildn xc38_2 rfl rfl sy_refl) ?_
  refine sy_Fs (sy_bipush (v := 64) xc38_3 (by decide) (by decide) sy_refl) ?_
  refine sy_Fs (sy_ge_f xc38_5 (by decide) (by decide) (by decide) sy_refl) ?_
  refine sy_Fs (sy_aldn xc38_8 rfl rfl sy_refl) ?_
  refine sy_Fs (sy_gf xc38_9 xf38_18 rfl (wh_at hw 10 rfl) rfl (fh_at hX10 0 rfl rfl) sy_refl) ?_
  refine sy_Fs (sy_ildn xc38_12 rfl rfl sy_refl) ?_
  refine sy_Fs (sy_ildn xc38_13 rfl rfl sy_refl) ?_
  refine sy_Fs (sy_bipush (v := 32) xc38_14 (by decide) (by decide) sy_refl) ?_
  refine sy_Fs (sy_ge_f xc38_16 (by decide) (by decide) (by decide) sy_refl) ?_
  refine sy_Fs (sy_aldn xc38_19 rfl rfl sy_refl) ?_
  refine sy_Fs (sy_gf xc38_20 xf38_25 rfl (wh_at hw 10 rfl) rfl (fh_at hX10 6 rfl rfl) sy_refl) ?_
  refine sy_Fs (sy_ildn xc38_23 rfl rfl sy_refl) ?_
  refine sy_Fs (sx_bal (z := (mv_rd 32 Mk 7)) xc38_24 (wh_at hw 15 rfl) (by decide) (by decide) rfl) ?_
  refine sy_Fs (sy_ildn xc38_25 rfl rfl sy_refl) ?_
  refine sy_Fs (sx_ixor (z := (mo_xor (mv_rd 32 Mk 7) v)) xc38_26 rfl) ?_
  refine sy_Fs (sy_goto (pc' := 31) xc38_27 (by decide) (by decide) sy_refl) ?_
  refine sy_Fs (sx_i2b (z := (mn_b (mo_xor (mv_rd 32 Mk 7) v))) xc38_31 rfl) ?_
  refine sy_Fw (i := 11) (x := (1, 1, 64, (pk Sp Mk v 8))) hw (by decide) (sy_bas (i := 7) xc38_32 (wh_at hw 11 rfl) rfl (by decide) (by decide) rfl sy_refl) ?_
  intro w hw
  simp only [List.set_cons_zero, List.set_cons_succ] at hw
  refine sy_Fs (sx_iinc (c := 1) (z := 8) (ls' := [(2, pl 10, 0), (0, v, 0), (2, pl 17, 0), (0, 8, 0)]) xc38_33 rfl (by decide) (by rw [xl38]; rfl) rfl (by decide) rfl) ?_
  refine sy_Fs (sy_goto (pc' := 2) xc38_36 (by decide) (by decide) sy_refl) ?_
  refine sy_Fs (sy_ildn xc38_2 rfl rfl sy_refl) ?_
  refine sy_Fs (sy_bipush (v := 64) xc38_3 (by decide) (by decide) sy_refl) ?_
  refine sy_Fs (sy_ge_f xc38_5 (by decide) (by decide) (by decide) sy_refl) ?_
  refine sy_Fs (sy_aldn xc38_8 rfl rfl sy_refl) ?_
  refine sy_Fs (sy_gf xc38_9 xf38_18 rfl (wh_at hw 10 rfl) rfl (fh_at hX10 0 rfl rfl) sy_refl) ?_
  refine sy_Fs (sy_ildn xc38_12 rfl rfl sy_refl) ?_
  refine sy_Fs (sy_ildn xc38_13 rfl rfl sy_refl) ?_
  refine sy_Fs (sy_bipush (v := 32) xc38_14 (by decide) (by decide) sy_refl) ?_
  refine sy_Fs (sy_ge_f xc38_16 (by decide) (by decide) (by decide) sy_refl) ?_
  refine sy_Fs (sy_aldn xc38_19 rfl rfl sy_refl) ?_
  refine sy_Fs (sy_gf xc38_20 xf38_25 rfl (wh_at hw 10 rfl) rfl (fh_at hX10 6 rfl rfl) sy_refl) ?_
  refine sy_Fs (sy_ildn xc38_23 rfl rfl sy_refl) ?_
  refine sy_Fs (sx_bal (z := (mv_rd 32 Mk 8)) xc38_24 (wh_at hw 15 rfl) (by decide) (by decide) rfl) ?_
  refine sy_Fs (sy_ildn xc38_25 rfl rfl sy_refl) ?_
  refine sy_Fs (sx_ixor (z := (mo_xor (mv_rd 32 Mk 8) v)) xc38_26 rfl) ?_
  refine sy_Fs (sy_goto (pc' := 31) xc38_27 (by decide) (by decide) sy_refl) ?_
  refine sy_Fs (sx_i2b (z := (mn_b (mo_xor (mv_rd 32 Mk 8) v))) xc38_31 rfl) ?_
  refine sy_Fw (i := 11) (x := (1, 1, 64, (pk Sp Mk v 9))) hw (by decide) (sy_bas (i := 8) xc38_32 (wh_at hw 11 rfl) rfl (by decide) (by decide) rfl sy_refl) ?_
  intro w hw
  simp only [List.set_cons_zero, List.set_cons_succ] at hw
  refine sy_Fs (sx_iinc (c := 1) (z := 9) (ls' := [(2, pl 10, 0), (0, v, 0), (2, pl 17, 0), (0, 9, 0)]) xc38_33 rfl (by decide) (by rw [xl38]; rfl) rfl (by decide) rfl) ?_
  refine sy_Fs (sy_goto (pc' := 2) xc38_36 (by decide) (by decide) sy_refl) ?_
  refine sy_Fs (sy_ildn xc38_2 rfl rfl sy_refl) ?_
  refine sy_Fs (sy_bipush (v := 64) xc38_3 (by decide) (by decide) sy_refl) ?_
  refine sy_Fs (sy_ge_f xc38_5 (by decide) (by decide) (by decide) sy_refl) ?_
  refine sy_Fs (sy_aldn xc38_8 rfl rfl sy_refl) ?_
  refine sy_Fs (sy_gf xc38_9 xf38_18 rfl (wh_at hw 10 rfl) rfl (fh_at hX10 0 rfl rfl) sy_refl) ?_
  refine sy_Fs (sy_ildn xc38_12 rfl rfl sy_refl) ?_
  refine sy_Fs (sy_ildn xc38_13 rfl rfl sy_refl) ?_
  refine sy_Fs (sy_bipush (v := 32) xc38_14 (by decide) (by decide) sy_refl) ?_
  refine sy_Fs (sy_ge_f xc38_16 (by decide) (by decide) (by decide) sy_refl) ?_
  refine sy_Fs (sy_aldn xc38_19 rfl rfl sy_refl) ?_
  refine sy_Fs (sy_gf xc38_20 xf38_25 rfl (wh_at hw 10 rfl) rfl (fh_at hX10 6 rfl rfl) sy_refl) ?_
  refine sy_Fs (sy_ildn xc38_23 rfl rfl sy_refl) ?_
  refine sy_Fs (sx_bal (z := (mv_rd 32 Mk 9)) xc38_24 (wh_at hw 15 rfl) (by decide) (by decide) rfl) ?_
  refine sy_Fs (sy_ildn xc38_25 rfl rfl sy_refl) ?_
  refine sy_Fs (sx_ixor (z := (mo_xor (mv_rd 32 Mk 9) v)) xc38_26 rfl) ?_
  refine sy_Fs (sy_goto (pc' := 31) xc38_27 (by decide) (by decide) sy_refl) ?_
  refine sy_Fs (sx_i2b (z := (mn_b (mo_xor (mv_rd 32 Mk 9) v))) xc38_31 rfl) ?_
  refine sy_Fw (i := 11) (x := (1, 1, 64, (pk Sp Mk v 10))) hw (by decide) (sy_bas (i := 9) xc38_32 (wh_at hw 11 rfl) rfl (by decide) (by decide) rfl sy_refl) ?_
  intro w hw
  simp only [List.set_cons_zero, List.set_cons_succ] at hw
  refine sy_Fs (sx_iinc (c := 1) (z := 10) (ls' := [(2, pl 10, 0), (0, v, 0), (2, pl 17, 0), (0, 10, 0)]) xc38_33 rfl (by decide) (by rw [xl38]; rfl) rfl (by decide) rfl) ?_
  refine sy_Fs (sy_goto (pc' := 2) xc38_36 (by decide) (by decide) sy_refl) ?_
  refine sy_Fs (sy_ildn xc38_2 rfl rfl sy_refl) ?_
  refine sy_Fs (sy_bipush (v := 64) xc38_3 (by decide) (by decide) sy_refl) ?_
  refine sy_Fs (sy_ge_f xc38_5 (by decide) (by decide) (by decide) sy_refl) ?_
  refine sy_Fs (sy_aldn xc38_8 rfl rfl sy_refl) ?_
  refine sy_Fs (sy_gf xc38_9 xf38_18 rfl (wh_at hw 10 rfl) rfl (fh_at hX10 0 rfl rfl) sy_refl) ?_
  refine sy_Fs (sy_ildn xc38_12 rfl rfl sy_refl) ?_
  refine sy_Fs (sy_ildn xc38_13 rfl rfl sy_refl) ?_
  refine sy_Fs (sy_bipush (v := 32) xc38_14 (by decide) (by decide) sy_refl) ?_
  refine sy_Fs (sy_ge_f xc38_16 (by decide) (by decide) (by decide) sy_refl) ?_
  refine sy_Fs (sy_aldn xc38_19 rfl rfl sy_refl) ?_
  refine sy_Fs (sy_gf xc38_20 xf38_25 rfl (wh_at hw 10 rfl) rfl (fh_at hX10 6 rfl rfl) sy_refl) ?_
  refine sy_Fs (sy_ildn xc38_23 rfl rfl sy_refl) ?_
  refine sy_Fs (sx_bal (z := (mv_rd 32 Mk 10)) xc38_24 (wh_at hw 15 rfl) (by decide) (by decide) rfl) ?_
  refine sy_Fs (sy_ildn xc38_25 rfl rfl sy_refl) ?_
  refine sy_Fs (sx_ixor (z := (mo_xor (mv_rd 32 Mk 10) v)) xc38_26 rfl) ?_
  refine sy_Fs (sy_goto (pc' := 31) xc38_27 (by decide) (by decide) sy_refl) ?_
  refine sy_Fs (sx_i2b (z := (mn_b (mo_xor (mv_rd 32 Mk 10) v))) xc38_31 rfl) ?_
  refine sy_Fw (i := 11) (x := (1, 1, 64, (pk Sp Mk v 11))) hw (by decide) (sy_bas (i := 10) xc38_32 (wh_at hw 11 rfl) rfl (by decide) (by decide) rfl sy_refl) ?_
  intro w hw
  simp only [List.set_cons_zero, List.set_cons_succ] at hw
  refine sy_Fs (sx_iinc (c := 1) (z := 11) (ls' := [(2, pl 10, 0), (0, v, 0), (2, pl 17, 0), (0, 11, 0)]) xc38_33 rfl (by decide) (by rw [xl38]; rfl) rfl (by decide) rfl) ?_
  refine sy_Fs (sy_goto (pc' := 2) xc38_36 (by decide) (by decide) sy_refl) ?_
  refine sy_Fs (sy_ildn xc38_2 rfl rfl sy_refl) ?_
  refine sy_Fs (sy_bipush (v := 64) xc38_3 (by decide) (by decide) sy_refl) ?_
  refine sy_Fs (sy_ge_f xc38_5 (by decide) (by decide) (by decide) sy_refl) ?_
  refine sy_Fs (sy_aldn xc38_8 rfl rfl sy_refl) ?_
  refine sy_Fs (sy_gf xc38_9 xf38_18 rfl (wh_at hw 10 rfl) rfl (fh_at hX10 0 rfl rfl) sy_refl) ?_
  refine sy_Fs (sy_ildn xc38_12 rfl rfl sy_refl) ?_
  refine sy_Fs (sy_ildn xc38_13 rfl rfl sy_refl) ?_
  refine sy_Fs (sy_bipush (v := 32) xc38_14 (by decide) (by decide) sy_refl) ?_
  refine sy_Fs (sy_ge_f xc38_16 (by decide) (by decide) (by decide) sy_refl) ?_
  refine sy_Fs (sy_aldn xc38_19 rfl rfl sy_refl) ?_
  refine sy_Fs (sy_gf xc38_20 xf38_25 rfl (wh_at hw 10 rfl) rfl (fh_at hX10 6 rfl rfl) sy_refl) ?_
  refine sy_Fs (sy_ildn xc38_23 rfl rfl sy_refl) ?_
  refine sy_Fs (sx_bal (z := (mv_rd 32 Mk 11)) xc38_24 (wh_at hw 15 rfl) (by decide) (by decide) rfl) ?_
  refine sy_Fs (sy_ildn xc38_25 rfl rfl sy_refl) ?_
  refine sy_Fs (sx_ixor (z := (mo_xor (mv_rd 32 Mk 11) v)) xc38_26 rfl) ?_
  refine sy_Fs (sy_goto (pc' := 31) xc38_27 (by decide) (by decide) sy_refl) ?_
  refine sy_Fs (sx_i2b (z := (mn_b (mo_xor (mv_rd 32 Mk 11) v))) xc38_31 rfl) ?_
  refine sy_Fw (i := 11) (x := (1, 1, 64, (pk Sp Mk v 12))) hw (by decide) (sy_bas (i := 11) xc38_32 (wh_at hw 11 rfl) rfl (by decide) (by decide) rfl sy_refl) ?_
  intro w hw
  simp only [List.set_cons_zero, List.set_cons_succ] at hw
  refine sy_Fs (sx_iinc (c := 1) (z := 12) (ls' := [(2, pl 10, 0), (0, v, 0), (2, pl 17, 0), (0, 12, 0)]) xc38_33 rfl (by decide) (by rw [xl38]; rfl) rfl (by decide) rfl) ?_
  refine sy_Fs (sy_goto (pc' := 2) xc38_36 (by decide) (by decide) sy_refl) ?_
  refine sy_Fs (sy_ildn xc38_2 rfl rfl sy_refl) ?_
  refine sy_Fs (sy_bipush (v := 64) xc38_3 (by decide) (by decide) sy_refl) ?_
  refine sy_Fs (sy_ge_f xc38_5 (by decide) (by decide) (by decide) sy_refl) ?_
  refine sy_Fs (sy_aldn xc38_8 rfl rfl sy_refl) ?_
  refine sy_Fs (sy_gf xc38_9 xf38_18 rfl (wh_at hw 10 rfl) rfl (fh_at hX10 0 rfl rfl) sy_refl) ?_
  refine sy_Fs (sy_ildn xc38_12 rfl rfl sy_refl) ?_
  refine sy_Fs (sy_ildn xc38_13 rfl rfl sy_refl) ?_
  refine sy_Fs (sy_bipush (v := 32) xc38_14 (by decide) (by decide) sy_refl) ?_
  refine sy_Fs (sy_ge_f xc38_16 (by decide) (by decide) (by decide) sy_refl) ?_
  refine sy_Fs (sy_aldn xc38_19 rfl rfl sy_refl) ?_
  refine sy_Fs (sy_gf xc38_20 xf38_25 rfl (wh_at hw 10 rfl) rfl (fh_at hX10 6 rfl rfl) sy_refl) ?_
  refine sy_Fs (sy_ildn xc38_23 rfl rfl sy_refl) ?_
  refine sy_Fs (sx_bal (z := (mv_rd 32 Mk 12)) xc38_24 (wh_at hw 15 rfl) (by decide) (by decide) rfl) ?_
  refine sy_Fs (sy_ildn xc38_25 rfl rfl sy_refl) ?_
  refine sy_Fs (sx_ixor (z := (mo_xor (mv_rd 32 Mk 12) v)) xc38_26 rfl) ?_
  refine sy_Fs (sy_goto (pc' := 31) xc38_27 (by decide) (by decide) sy_refl) ?_
  refine sy_Fs (sx_i2b (z := (mn_b (mo_xor (mv_rd 32 Mk 12) v))) xc38_31 rfl) ?_
  refine sy_Fw (i := 11) (x := (1, 1, 64, (pk Sp Mk v 13))) hw (by decide) (sy_bas (i := 12) xc38_32 (wh_at hw 11 rfl) rfl (by decide) (by decide) rfl sy_refl) ?_
  intro w hw
  simp only [List.set_cons_zero, List.set_cons_succ] at hw
  refine sy_Fs (sx_iinc (c := 1) (z := 13) (ls' := [(2, pl 10, 0), (0, v, 0), (2, pl 17, 0), (0, 13, 0)]) xc38_33 rfl (by decide) (by rw [xl38]; rfl) rfl (by decide) rfl) ?_
  refine sy_Fs (sy_goto (pc' := 2) xc38_36 (by decide) (by decide) sy_refl) ?_
  refine sy_Fs (sy_ildn xc38_2 rfl rfl sy_refl) ?_
  refine sy_Fs (sy_bipush (v := 64) xc38_3 (by decide) (by decide) sy_refl) ?_
  refine sy_Fs (sy_ge_f xc38_5 (by decide) (by decide) (by decide) sy_refl) ?_
  refine sy_Fs (sy_aldn xc38_8 rfl rfl sy_refl) ?_
  refine sy_Fs (sy_gf xc38_9 xf38_18 rfl (wh_at hw 10 rfl) rfl (fh_at hX10 0 rfl rfl) sy_refl) ?_
  refine sy_Fs (sy_ildn xc38_12 rfl rfl sy_refl) ?_
  refine sy_Fs (sy_ildn xc38_13 rfl rfl sy_refl) ?_
  refine sy_Fs (sy_bipush (v := 32) xc38_14 (by decide) (by decide) sy_refl) ?_
  refine sy_Fs (sy_ge_f xc38_16 (by decide) (by decide) (by decide) sy_refl) ?_
  refine sy_Fs (sy_aldn xc38_19 rfl rfl sy_refl) ?_
  refine sy_Fs (sy_gf xc38_20 xf38_25 rfl (wh_at hw 10 rfl) rfl (fh_at hX10 6 rfl rfl) sy_refl) ?_
  refine sy_Fs (sy_ildn xc38_23 rfl rfl sy_refl) ?_
  refine sy_Fs (sx_bal (z := (mv_rd 32 Mk 13)) xc38_24 (wh_at hw 15 rfl) (by decide) (by decide) rfl) ?_
  refine sy_Fs (sy_ildn xc38_25 rfl rfl sy_refl) ?_
  refine sy_Fs (sx_ixor (z := (mo_xor (mv_rd 32 Mk 13) v)) xc38_26 rfl) ?_
  refine sy_Fs (sy_goto (pc' := 31) xc38_27 (by decide) (by decide) sy_refl) ?_
  refine sy_Fs (sx_i2b (z := (mn_b (mo_xor (mv_rd 32 Mk 13) v))) xc38_31 rfl) ?_
  refine sy_Fw (i := 11) (x := (1, 1, 64, (pk Sp Mk v 14))) hw (by decide) (sy_bas (i := 13) xc38_32 (wh_at hw 11 rfl) rfl (by decide) (by decide) rfl sy_refl) ?_
  intro w hw
  simp only [List.set_cons_zero, List.set_cons_succ] at hw
  refine sy_Fs (sx_iinc (c := 1) (z := 14) (ls' := [(2, pl 10, 0), (0, v, 0), (2, pl 17, 0), (0, 14, 0)]) xc38_33 rfl (by decide) (by rw [xl38]; rfl) rfl (by decide) rfl) ?_
  refine sy_Fs (sy_goto (pc' := 2) xc38_36 (by decide) (by decide) sy_refl) ?_
  refine sy_Fs (sy_ildn xc38_2 rfl rfl sy_refl) ?_
  refine sy_Fs (sy_bipush (v := 64) xc38_3 (by decide) (by decide) sy_refl) ?_
  refine sy_Fs (sy_ge_f xc38_5 (by decide) (by decide) (by decide) sy_refl) ?_
  refine sy_Fs (sy_aldn xc38_8 rfl rfl sy_refl) ?_
  refine sy_Fs (sy_gf xc38_9 xf38_18 rfl (wh_at hw 10 rfl) rfl (fh_at hX10 0 rfl rfl) sy_refl) ?_
  refine sy_Fs (sy_ildn xc38_12 rfl rfl sy_refl) ?_
  refine sy_Fs (sy_ildn xc38_13 rfl rfl sy_refl) ?_
  refine sy_Fs (sy_bipush (v := 32) xc38_14 (by decide) (by decide) sy_refl) ?_
  refine sy_Fs (sy_ge_f xc38_16 (by decide) (by decide) (by decide) sy_refl) ?_
  refine sy_Fs (sy_aldn xc38_19 rfl rfl sy_refl) ?_
  refine sy_Fs (sy_gf xc38_20 xf38_25 rfl (wh_at hw 10 rfl) rfl (fh_at hX10 6 rfl rfl) sy_refl) ?_
  refine sy_Fs (sy_ildn xc38_23 rfl rfl sy_refl) ?_
  refine sy_Fs (sx_bal (z := (mv_rd 32 Mk 14)) xc38_24 (wh_at hw 15 rfl) (by decide) (by decide) rfl) ?_
  refine sy_Fs (sy_ildn xc38_25 rfl rfl sy_refl) ?_
  refine sy_Fs (sx_ixor (z := (mo_xor (mv_rd 32 Mk 14) v)) xc38_26 rfl) ?_
  refine sy_Fs (sy_goto (pc' := 31) xc38_27 (by decide) (by decide) sy_refl) ?_
  refine sy_Fs (sx_i2b (z := (mn_b (mo_xor (mv_rd 32 Mk 14) v))) xc38_31 rfl) ?_
  refine sy_Fw (i := 11) (x := (1, 1, 64, (pk Sp Mk v 15))) hw (by decide) (sy_bas (i := 14) xc38_32 (wh_at hw 11 rfl) rfl (by decide) (by decide) rfl sy_refl) ?_
  intro w hw
  simp only [List.set_cons_zero, List.set_cons_succ] at hw
  refine sy_Fs (sx_iinc (c := 1) (z := 15) (ls' := [(2, pl 10, 0), (0, v, 0), (2, pl 17, 0), (0, 15, 0)]) xc38_33 rfl (by decide) (by rw [xl38]; rfl) rfl (by decide) rfl) ?_
  refine sy_Fs (sy_goto (pc' := 2) xc38_36 (by decide) (by decide) sy_refl) ?_
  refine sy_Fs (sy_ildn xc38_2 rfl rfl sy_refl) ?_
  refine sy_Fs (sy_bipush (v := 64) xc38_3 (by decide) (by decide) sy_refl) ?_
  refine sy_Fs (sy_ge_f xc38_5 (by decide) (by decide) (by decide) sy_refl) ?_
  refine sy_Fs (sy_aldn xc38_8 rfl rfl sy_refl) ?_
  refine sy_Fs (sy_gf xc38_9 xf38_18 rfl (wh_at hw 10 rfl) rfl (fh_at hX10 0 rfl rfl) sy_refl) ?_
  refine sy_Fs (sy_ildn xc38_12 rfl rfl sy_refl) ?_
  refine sy_Fs (sy_ildn xc38_13 rfl rfl sy_refl) ?_
  refine sy_Fs (sy_bipush (v := 32) xc38_14 (by decide) (by decide) sy_refl) ?_
  refine sy_Fs (sy_ge_f xc38_16 (by decide) (by decide) (by decide) sy_refl) ?_
  refine sy_Fs (sy_aldn xc38_19 rfl rfl sy_refl) ?_
  refine sy_Fs (sy_gf xc38_20 xf38_25 rfl (wh_at hw 10 rfl) rfl (fh_at hX10 6 rfl rfl) sy_refl) ?_
  refine sy_Fs (sy_ildn xc38_23 rfl rfl sy_refl) ?_
  refine sy_Fs (sx_bal (z := (mv_rd 32 Mk 15)) xc38_24 (wh_at hw 15 rfl) (by decide) (by decide) rfl) ?_
  refine sy_Fs (sy_ildn xc38_25 rfl rfl sy_refl) ?_
  refine sy_Fs (sx_ixor (z := (mo_xor (mv_rd 32 Mk 15) v)) xc38_26 rfl) ?_
  refine sy_Fs (sy_goto (pc' := 31) xc38_27 (by decide) (by decide) sy_refl) ?_
  refine sy_Fs (sx_i2b (z := (mn_b (mo_xor (mv_rd 32 Mk 15) v))) xc38_31 rfl) ?_
  refine sy_Fw (i := 11) (x := (1, 1, 64, (pk Sp Mk v 16))) hw (by decide) (sy_bas (i := 15) xc38_32 (wh_at hw 11 rfl) rfl (by decide) (by decide) rfl sy_refl) ?_
  intro w hw
  simp only [List.set_cons_zero, List.set_cons_succ] at hw
  refine sy_Fs (sx_iinc (c := 1) (z := 16) (ls' := [(2, pl 10, 0), (0, v, 0), (2, pl 17, 0), (0, 16, 0)]) xc38_33 rfl (by decide) (by rw [xl38]; rfl) rfl (by decide) rfl) ?_
  refine sy_Fs (sy_goto (pc' := 2) xc38_36 (by decide) (by decide) sy_refl) ?_
  refine sy_Fs (sy_ildn xc38_2 rfl rfl sy_refl) ?_
  refine sy_Fs (sy_bipush (v := 64) xc38_3 (by decide) (by decide) sy_refl) ?_
  refine sy_Fs (sy_ge_f xc38_5 (by decide) (by decide) (by decide) sy_refl) ?_
  refine sy_Fs (sy_aldn xc38_8 rfl rfl sy_refl) ?_
  refine sy_Fs (sy_gf xc38_9 xf38_18 rfl (wh_at hw 10 rfl) rfl (fh_at hX10 0 rfl rfl) sy_refl) ?_
  refine sy_Fs (sy_ildn xc38_12 rfl rfl sy_refl) ?_
  refine sy_Fs (sy_ildn xc38_13 rfl rfl sy_refl) ?_
  refine sy_Fs (sy_bipush (v := 32) xc38_14 (by decide) (by decide) sy_refl) ?_
  refine sy_Fs (sy_ge_f xc38_16 (by decide) (by decide) (by decide) sy_refl) ?_
  refine sy_Fs (sy_aldn xc38_19 rfl rfl sy_refl) ?_
  refine sy_Fs (sy_gf xc38_20 xf38_25 rfl (wh_at hw 10 rfl) rfl (fh_at hX10 6 rfl rfl) sy_refl) ?_
  refine sy_Fs (sy_ildn xc38_23 rfl rfl sy_refl) ?_
  refine sy_Fs (sx_bal (z := (mv_rd 32 Mk 16)) xc38_24 (wh_at hw 15 rfl) (by decide) (by decide) rfl) ?_
  refine sy_Fs (sy_ildn xc38_25 rfl rfl sy_refl) ?_
  refine sy_Fs (sx_ixor (z := (mo_xor (mv_rd 32 Mk 16) v)) xc38_26 rfl) ?_
  refine sy_Fs (sy_goto (pc' := 31) xc38_27 (by decide) (by decide) sy_refl) ?_
  refine sy_Fs (sx_i2b (z := (mn_b (mo_xor (mv_rd 32 Mk 16) v))) xc38_31 rfl) ?_
  refine sy_Fw (i := 11) (x := (1, 1, 64, (pk Sp Mk v 17))) hw (by decide) (sy_bas (i := 16) xc38_32 (wh_at hw 11 rfl) rfl (by decide) (by decide) rfl sy_refl) ?_
  intro w hw
  simp only [List.set_cons_zero, List.set_cons_succ] at hw
  refine sy_Fs (sx_iinc (c := 1) (z := 17) (ls' := [(2, pl 10, 0), (0, v, 0), (2, pl 17, 0), (0, 17, 0)]) xc38_33 rfl (by decide) (by rw [xl38]; rfl) rfl (by decide) rfl) ?_
  refine sy_Fs (sy_goto (pc' := 2) xc38_36 (by decide) (by decide) sy_refl) ?_
  refine sy_Fs (sy_ildn xc38_2 rfl rfl sy_refl) ?_
  refine sy_Fs (sy_bipush (v := 64) xc38_3 (by decide) (by decide) sy_refl) ?_
  refine sy_Fs (sy_ge_f xc38_5 (by decide) (by decide) (by decide) sy_refl) ?_
  refine sy_Fs (sy_aldn xc38_8 rfl rfl sy_refl) ?_
  refine sy_Fs (sy_gf xc38_9 xf38_18 rfl (wh_at hw 10 rfl) rfl (fh_at hX10 0 rfl rfl) sy_refl) ?_
  refine sy_Fs (sy_ildn xc38_12 rfl rfl sy_refl) ?_
  refine sy_Fs (sy_ildn xc38_13 rfl rfl sy_refl) ?_
  refine sy_Fs (sy_bipush (v := 32) xc38_14 (by decide) (by decide) sy_refl) ?_
  refine sy_Fs (sy_ge_f xc38_16 (by decide) (by decide) (by decide) sy_refl) ?_
  refine sy_Fs (sy_aldn xc38_19 rfl rfl sy_refl) ?_
  refine sy_Fs (sy_gf xc38_20 xf38_25 rfl (wh_at hw 10 rfl) rfl (fh_at hX10 6 rfl rfl) sy_refl) ?_
  refine sy_Fs (sy_ildn xc38_23 rfl rfl sy_refl) ?_
  refine sy_Fs (sx_bal (z := (mv_rd 32 Mk 17)) xc38_24 (wh_at hw 15 rfl) (by decide) (by decide) rfl) ?_
  refine sy_Fs (sy_ildn xc38_25 rfl rfl sy_refl) ?_
  refine sy_Fs (sx_ixor (z := (mo_xor (mv_rd 32 Mk 17) v)) xc38_26 rfl) ?_
  refine sy_Fs (sy_goto (pc' := 31) xc38_27 (by decide) (by decide) sy_refl) ?_
  refine sy_Fs (sx_i2b (z := (mn_b (mo_xor (mv_rd 32 Mk 17) v))) xc38_31 rfl) ?_
  refine sy_Fw (i := 11) (x := (1, 1, 64, (pk Sp Mk v 18))) hw (by decide) (sy_bas (i := 17) xc38_32 (wh_at hw 11 rfl) rfl (by decide) (by decide) rfl sy_refl) ?_
  intro w hw
  simp only [List.set_cons_zero, List.set_cons_succ] at hw
  refine sy_Fs (sx_iinc (c := 1) (z := 18) (ls' := [(2, pl 10, 0), (0, v, 0), (2, pl 17, 0), (0, 18, 0)]) xc38_33 rfl (by decide) (by rw [xl38]; rfl) rfl (by decide) rfl) ?_
  refine sy_Fs (sy_goto (pc' := 2) xc38_36 (by decide) (by decide) sy_refl) ?_
  refine sy_Fs (sy_ildn xc38_2 rfl rfl sy_refl) ?_
  refine sy_Fs (sy_bipush (v := 64) xc38_3 (by decide) (by decide) sy_refl) ?_
  refine sy_Fs (sy_ge_f xc38_5 (by decide) (by decide) (by decide) sy_refl) ?_
  refine sy_Fs (sy_aldn xc38_8 rfl rfl sy_refl) ?_
  refine sy_Fs (sy_gf xc38_9 xf38_18 rfl (wh_at hw 10 rfl) rfl (fh_at hX10 0 rfl rfl) sy_refl) ?_
  refine sy_Fs (sy_ildn xc38_12 rfl rfl sy_refl) ?_
  refine sy_Fs (sy_ildn xc38_13 rfl rfl sy_refl) ?_
  refine sy_Fs (sy_bipush (v := 32) xc38_14 (by decide) (by decide) sy_refl) ?_
  refine sy_Fs (sy_ge_f xc38_16 (by decide) (by decide) (by decide) sy_refl) ?_
  refine sy_Fs (sy_aldn xc38_19 rfl rfl sy_refl) ?_
  refine sy_Fs (sy_gf xc38_20 xf38_25 rfl (wh_at hw 10 rfl) rfl (fh_at hX10 6 rfl rfl) sy_refl) ?_
  refine sy_Fs (sy_ildn xc38_23 rfl rfl sy_refl) ?_
  refine sy_Fs (sx_bal (z := (mv_rd 32 Mk 18)) xc38_24 (wh_at hw 15 rfl) (by decide) (by decide) rfl) ?_
  refine sy_Fs (sy_ildn xc38_25 rfl rfl sy_refl) ?_
  refine sy_Fs (sx_ixor (z := (mo_xor (mv_rd 32 Mk 18) v)) xc38_26 rfl) ?_
  refine sy_Fs (sy_goto (pc' := 31) xc38_27 (by decide) (by decide) sy_refl) ?_
  refine sy_Fs (sx_i2b (z := (mn_b (mo_xor (mv_rd 32 Mk 18) v))) xc38_31 rfl) ?_
  refine sy_Fw (i := 11) (x := (1, 1, 64, (pk Sp Mk v 19))) hw (by decide) (sy_bas (i := 18) xc38_32 (wh_at hw 11 rfl) rfl (by decide) (by decide) rfl sy_refl) ?_
  intro w hw
  simp only [List.set_cons_zero, List.set_cons_succ] at hw
  refine sy_Fs (sx_iinc (c := 1) (z := 19) (ls' := [(2, pl 10, 0), (0, v, 0), (2, pl 17, 0), (0, 19, 0)]) xc38_33 rfl (by decide) (by rw [xl38]; rfl) rfl (by decide) rfl) ?_
  refine sy_Fs (sy_goto (pc' := 2) xc38_36 (by decide) (by decide) sy_refl) ?_
  refine sy_Fs (sy_ildn xc38_2 rfl rfl sy_refl) ?_
  refine sy_Fs (sy_bipush (v := 64) xc38_3 (by decide) (by decide) sy_refl) ?_
  refine sy_Fs (sy_ge_f xc38_5 (by decide) (by decide) (by decide) sy_refl) ?_
  refine sy_Fs (sy_aldn xc38_8 rfl rfl sy_refl) ?_
  refine sy_Fs (sy_gf xc38_9 xf38_18 rfl (wh_at hw 10 rfl) rfl (fh_at hX10 0 rfl rfl) sy_refl) ?_
  refine sy_Fs (sy_ildn xc38_12 rfl rfl sy_refl) ?_
  refine sy_Fs (sy_ildn xc38_13 rfl rfl sy_refl) ?_
  refine sy_Fs (sy_bipush (v := 32) xc38_14 (by decide) (by decide) sy_refl) ?_
  refine sy_Fs (sy_ge_f xc38_16 (by decide) (by decide) (by decide) sy_refl) ?_
  refine sy_Fs (sy_aldn xc38_19 rfl rfl sy_refl) ?_
  refine sy_Fs (sy_gf xc38_20 xf38_25 rfl (wh_at hw 10 rfl) rfl (fh_at hX10 6 rfl rfl) sy_refl) ?_
  refine sy_Fs (sy_ildn xc38_23 rfl rfl sy_refl) ?_
  refine sy_Fs (sx_bal (z := (mv_rd 32 Mk 19)) xc38_24 (wh_at hw 15 rfl) (by decide) (by decide) rfl) ?_
  refine sy_Fs (sy_ildn xc38_25 rfl rfl sy_refl) ?_
  refine sy_Fs (sx_ixor (z := (mo_xor (mv_rd 32 Mk 19) v)) xc38_26 rfl) ?_
  refine sy_Fs (sy_goto (pc' := 31) xc38_27 (by decide) (by decide) sy_refl) ?_
  refine sy_Fs (sx_i2b (z := (mn_b (mo_xor (mv_rd 32 Mk 19) v))) xc38_31 rfl) ?_
  refine sy_Fw (i := 11) (x := (1, 1, 64, (pk Sp Mk v 20))) hw (by decide) (sy_bas (i := 19) xc38_32 (wh_at hw 11 rfl) rfl (by decide) (by decide) rfl sy_refl) ?_
  intro w hw
  simp only [List.set_cons_zero, List.set_cons_succ] at hw
  refine sy_Fs (sx_iinc (c := 1) (z := 20) (ls' := [(2, pl 10, 0), (0, v, 0), (2, pl 17, 0), (0, 20, 0)]) xc38_33 rfl (by decide) (by rw [xl38]; rfl) rfl (by decide) rfl) ?_
  refine sy_Fs (sy_goto (pc' := 2) xc38_36 (by decide) (by decide) sy_refl) ?_
  refine sy_Fs (sy_ildn xc38_2 rfl rfl sy_refl) ?_
  refine sy_Fs (sy_bipush (v := 64) xc38_3 (by decide) (by decide) sy_refl) ?_
  refine sy_Fs (sy_ge_f xc38_5 (by decide) (by decide) (by decide) sy_refl) ?_
  refine sy_Fs (sy_aldn xc38_8 rfl rfl sy_refl) ?_
  refine sy_Fs (sy_gf xc38_9 xf38_18 rfl (wh_at hw 10 rfl) rfl (fh_at hX10 0 rfl rfl) sy_refl) ?_
  refine sy_Fs (sy_ildn xc38_12 rfl rfl sy_refl) ?_
  refine sy_Fs (sy_ildn xc38_13 rfl rfl sy_refl) ?_
  refine sy_Fs (sy_bipush (v := 32) xc38_14 (by decide) (by decide) sy_refl) ?_
  refine sy_Fs (sy_ge_f xc38_16 (by decide) (by decide) (by decide) sy_refl) ?_
  refine sy_Fs (sy_aldn xc38_19 rfl rfl sy_refl) ?_
  refine sy_Fs (sy_gf xc38_20 xf38_25 rfl (wh_at hw 10 rfl) rfl (fh_at hX10 6 rfl rfl) sy_refl) ?_
  refine sy_Fs (sy_ildn xc38_23 rfl rfl sy_refl) ?_
  refine sy_Fs (sx_bal (z := (mv_rd 32 Mk 20)) xc38_24 (wh_at hw 15 rfl) (by decide) (by decide) rfl) ?_
  refine sy_Fs (sy_ildn xc38_25 rfl rfl sy_refl) ?_
  refine sy_Fs (sx_ixor (z := (mo_xor (mv_rd 32 Mk 20) v)) xc38_26 rfl) ?_
  refine sy_Fs (sy_goto (pc' := 31) xc38_27 (by decide) (by decide) sy_refl) ?_
  refine sy_Fs (sx_i2b (z := (mn_b (mo_xor (mv_rd 32 Mk 20) v))) xc38_31 rfl) ?_
  refine sy_Fw (i := 11) (x := (1, 1, 64, (pk Sp Mk v 21))) hw (by decide) (sy_bas (i := 20) xc38_32 (wh_at hw 11 rfl) rfl (by decide) (by decide) rfl sy_refl) ?_
  intro w hw
  simp only [List.set_cons_zero, List.set_cons_succ] at hw
  refine sy_Fs (sx_iinc (c := 1) (z := 21) (ls' := [(2, pl 10, 0), (0, v, 0), (2, pl 17, 0), (0, 21, 0)]) xc38_33 rfl (by decide) (by rw [xl38]; rfl) rfl (by decide) rfl) ?_
  refine sy_Fs (sy_goto (pc' := 2) xc38_36 (by decide) (by decide) sy_refl) ?_
  refine sy_Fs (sy_ildn xc38_2 rfl rfl sy_refl) ?_
  refine sy_Fs (sy_bipush (v := 64) xc38_3 (by decide) (by decide) sy_refl) ?_
  refine sy_Fs (sy_ge_f xc38_5 (by decide) (by decide) (by decide) sy_refl) ?_
  refine sy_Fs (sy_aldn xc38_8 rfl rfl sy_refl) ?_
  refine sy_Fs (sy_gf xc38_9 xf38_18 rfl (wh_at hw 10 rfl) rfl (fh_at hX10 0 rfl rfl) sy_refl) ?_
  refine sy_Fs (sy_ildn xc38_12 rfl rfl sy_refl) ?_
  refine sy_Fs (sy_ildn xc38_13 rfl rfl sy_refl) ?_
  refine sy_Fs (sy_bipush (v := 32) xc38_14 (by decide) (by decide) sy_refl) ?_
  refine sy_Fs (sy_ge_f xc38_16 (by decide) (by decide) (by decide) sy_refl) ?_
  refine sy_Fs (sy_aldn xc38_19 rfl rfl sy_refl) ?_
  refine sy_Fs (sy_gf xc38_20 xf38_25 rfl (wh_at hw 10 rfl) rfl (fh_at hX10 6 rfl rfl) sy_refl) ?_
  refine sy_Fs (sy_ildn xc38_23 rfl rfl sy_refl) ?_
  refine sy_Fs (sx_bal (z := (mv_rd 32 Mk 21)) xc38_24 (wh_at hw 15 rfl) (by decide) (by decide) rfl) ?_
  refine sy_Fs (sy_ildn xc38_25 rfl rfl sy_refl) ?_
  refine sy_Fs (sx_ixor (z := (mo_xor (mv_rd 32 Mk 21) v)) xc38_26 rfl) ?_
  refine sy_Fs (sy_goto (pc' := 31) xc38_27 (by decide) (by decide) sy_refl) ?_
  refine sy_Fs (sx_i2b (z := (mn_b (mo_xor (mv_rd 32 Mk 21) v))) xc38_31 rfl) ?_
  refine sy_Fw (i := 11) (x := (1, 1, 64, (pk Sp Mk v 22))) hw (by decide) (sy_bas (i := 21) xc38_32 (wh_at hw 11 rfl) rfl (by decide) (by decide) rfl sy_refl) ?_
  intro w hw
  simp only [List.set_cons_zero, List.set_cons_succ] at hw
  refine sy_Fs (sx_iinc (c := 1) (z := 22) (ls' := [(2, pl 10, 0), (0, v, 0), (2, pl 17, 0), (0, 22, 0)]) xc38_33 rfl (by decide) (by rw [xl38]; rfl) rfl (by decide) rfl) ?_
  refine sy_Fs (sy_goto (pc' := 2) xc38_36 (by decide) (by decide) sy_refl) ?_
  refine sy_Fs (sy_ildn xc38_2 rfl rfl sy_refl) ?_
  refine sy_Fs (sy_bipush (v := 64) xc38_3 (by decide) (by decide) sy_refl) ?_
  refine sy_Fs (sy_ge_f xc38_5 (by decide) (by decide) (by decide) sy_refl) ?_
  refine sy_Fs (sy_aldn xc38_8 rfl rfl sy_refl) ?_
  refine sy_Fs (sy_gf xc38_9 xf38_18 rfl (wh_at hw 10 rfl) rfl (fh_at hX10 0 rfl rfl) sy_refl) ?_
  refine sy_Fs (sy_ildn xc38_12 rfl rfl sy_refl) ?_
  refine sy_Fs (sy_ildn xc38_13 rfl rfl sy_refl) ?_
  refine sy_Fs (sy_bipush (v := 32) xc38_14 (by decide) (by decide) sy_refl) ?_
  refine sy_Fs (sy_ge_f xc38_16 (by decide) (by decide) (by decide) sy_refl) ?_
  refine sy_Fs (sy_aldn xc38_19 rfl rfl sy_refl) ?_
  refine sy_Fs (sy_gf xc38_20 xf38_25 rfl (wh_at hw 10 rfl) rfl (fh_at hX10 6 rfl rfl) sy_refl) ?_
  refine sy_Fs (sy_ildn xc38_23 rfl rfl sy_refl) ?_
  refine sy_Fs (sx_bal (z := (mv_rd 32 Mk 22)) xc38_24 (wh_at hw 15 rfl) (by decide) (by decide) rfl) ?_
  refine sy_Fs (sy_ildn xc38_25 rfl rfl sy_refl) ?_
  refine sy_Fs (sx_ixor (z := (mo_xor (mv_rd 32 Mk 22) v)) xc38_26 rfl) ?_
  refine sy_Fs (sy_goto (pc' := 31) xc38_27 (by decide) (by decide) sy_refl) ?_
  refine sy_Fs (sx_i2b (z := (mn_b (mo_xor (mv_rd 32 Mk 22) v))) xc38_31 rfl) ?_
  refine sy_Fw (i := 11) (x := (1, 1, 64, (pk Sp Mk v 23))) hw (by decide) (sy_bas (i := 22) xc38_32 (wh_at hw 11 rfl) rfl (by decide) (by decide) rfl sy_refl) ?_
  intro w hw
  simp only [List.set_cons_zero, List.set_cons_succ] at hw
  refine sy_Fs (sx_iinc (c := 1) (z := 23) (ls' := [(2, pl 10, 0), (0, v, 0), (2, pl 17, 0), (0, 23, 0)]) xc38_33 rfl (by decide) (by rw [xl38]; rfl) rfl (by decide) rfl) ?_
  refine sy_Fs (sy_goto (pc' := 2) xc38_36 (by decide) (by decide) sy_refl) ?_
  refine sy_Fs (sy_ildn xc38_2 rfl rfl sy_refl) ?_
  refine sy_Fs (sy_bipush (v := 64) xc38_3 (by decide) (by decide) sy_refl) ?_
  refine sy_Fs (sy_ge_f xc38_5 (by decide) (by decide) (by decide) sy_refl) ?_
  refine sy_Fs (sy_aldn xc38_8 rfl rfl sy_refl) ?_
  refine sy_Fs (sy_gf xc38_9 xf38_18 rfl (wh_at hw 10 rfl) rfl (fh_at hX10 0 rfl rfl) sy_refl) ?_
  refine sy_Fs (sy_ildn xc38_12 rfl rfl sy_refl) ?_
  refine sy_Fs (sy_ildn xc38_13 rfl rfl sy_refl) ?_
  refine sy_Fs (sy_bipush (v := 32) xc38_14 (by decide) (by decide) sy_refl) ?_
  refine sy_Fs (sy_ge_f xc38_16 (by decide) (by decide) (by decide) sy_refl) ?_
  refine sy_Fs (sy_aldn xc38_19 rfl rfl sy_refl) ?_
  refine sy_Fs (sy_gf xc38_20 xf38_25 rfl (wh_at hw 10 rfl) rfl (fh_at hX10 6 rfl rfl) sy_refl) ?_
  refine sy_Fs (sy_ildn xc38_23 rfl rfl sy_refl) ?_
  refine sy_Fs (sx_bal (z := (mv_rd 32 Mk 23)) xc38_24 (wh_at hw 15 rfl) (by decide) (by decide) rfl) ?_
  refine sy_Fs (sy_ildn xc38_25 rfl rfl sy_refl) ?_
  refine sy_Fs (sx_ixor (z := (mo_xor (mv_rd 32 Mk 23) v)) xc38_26 rfl) ?_
  refine sy_Fs (sy_goto (pc' := 31) xc38_27 (by decide) (by decide) sy_refl) ?_
  refine sy_Fs (sx_i2b (z := (mn_b (mo_xor (mv_rd 32 Mk 23) v))) xc38_31 rfl) ?_
  refine sy_Fw (i := 11) (x := (1, 1, 64, (pk Sp Mk v 24))) hw (by decide) (sy_bas (i := 23) xc38_32 (wh_at hw 11 rfl) rfl (by decide) (by decide) rfl sy_refl) ?_
  intro w hw
  simp only [List.set_cons_zero, List.set_cons_succ] at hw
  refine sy_Fs (sx_iinc (c := 1) (z := 24) (ls' := [(2, pl 10, 0), (0, v, 0), (2, pl 17, 0), (0, 24, 0)]) xc38_33 rfl (by decide) (by rw [xl38]; rfl) rfl (by decide) rfl) ?_
  refine sy_Fs (sy_goto (pc' := 2) xc38_36 (by decide) (by decide) sy_refl) ?_
  refine sy_Fs (sy_ildn xc38_2 rfl rfl sy_refl) ?_
  refine sy_Fs (sy_bipush (v := 64) xc38_3 (by decide) (by decide) sy_refl) ?_
  refine sy_Fs (sy_ge_f xc38_5 (by decide) (by decide) (by decide) sy_refl) ?_
  refine sy_Fs (sy_aldn xc38_8 rfl rfl sy_refl) ?_
  refine sy_Fs (sy_gf xc38_9 xf38_18 rfl (wh_at hw 10 rfl) rfl (fh_at hX10 0 rfl rfl) sy_refl) ?_
  refine sy_Fs (sy_ildn xc38_12 rfl rfl sy_refl) ?_
  refine sy_Fs (sy_ildn xc38_13 rfl rfl sy_refl) ?_
  refine sy_Fs (sy_bipush (v := 32) xc38_14 (by decide) (by decide) sy_refl) ?_
  refine sy_Fs (sy_ge_f xc38_16 (by decide) (by decide) (by decide) sy_refl) ?_
  refine sy_Fs (sy_aldn xc38_19 rfl rfl sy_refl) ?_
  refine sy_Fs (sy_gf xc38_20 xf38_25 rfl (wh_at hw 10 rfl) rfl (fh_at hX10 6 rfl rfl) sy_refl) ?_
  refine sy_Fs (sy_ildn xc38_23 rfl rfl sy_refl) ?_
  refine sy_Fs (sx_bal (z := (mv_rd 32 Mk 24)) xc38_24 (wh_at hw 15 rfl) (by decide) (by decide) rfl) ?_
  refine sy_Fs (sy_ildn xc38_25 rfl rfl sy_refl) ?_
  refine sy_Fs (sx_ixor (z := (mo_xor (mv_rd 32 Mk 24) v)) xc38_26 rfl) ?_
  refine sy_Fs (sy_goto (pc' := 31) xc38_27 (by decide) (by decide) sy_refl) ?_
  refine sy_Fs (sx_i2b (z := (mn_b (mo_xor (mv_rd 32 Mk 24) v))) xc38_31 rfl) ?_
  refine sy_Fw (i := 11) (x := (1, 1, 64, (pk Sp Mk v 25))) hw (by decide) (sy_bas (i := 24) xc38_32 (wh_at hw 11 rfl) rfl (by decide) (by decide) rfl sy_refl) ?_
  intro w hw
  simp only [List.set_cons_zero, List.set_cons_succ] at hw
  refine sy_Fs (sx_iinc (c := 1) (z := 25) (ls' := [(2, pl 10, 0), (0, v, 0), (2, pl 17, 0), (0, 25, 0)]) xc38_33 rfl (by decide) (by rw [xl38]; rfl) rfl (by decide) rfl) ?_
  refine sy_Fs (sy_goto (pc' := 2) xc38_36 (by decide) (by decide) sy_refl) ?_
  refine sy_Fs (sy_ildn xc38_2 rfl rfl sy_refl) ?_
  refine sy_Fs (sy_bipush (v := 64) xc38_3 (by decide) (by decide) sy_refl) ?_
  refine sy_Fs (sy_ge_f xc38_5 (by decide) (by decide) (by decide) sy_refl) ?_
  refine sy_Fs (sy_aldn xc38_8 rfl rfl sy_refl) ?_
  refine sy_Fs (sy_gf xc38_9 xf38_18 rfl (wh_at hw 10 rfl) rfl (fh_at hX10 0 rfl rfl) sy_refl) ?_
  refine sy_Fs (sy_ildn xc38_12 rfl rfl sy_refl) ?_
  refine sy_Fs (sy_ildn xc38_13 rfl rfl sy_refl) ?_
  refine sy_Fs (sy_bipush (v := 32) xc38_14 (by decide) (by decide) sy_refl) ?_
  refine sy_Fs (sy_ge_f xc38_16 (by decide) (by decide) (by decide) sy_refl) ?_
  refine sy_Fs (sy_aldn xc38_19 rfl rfl sy_refl) ?_
  refine sy_Fs (sy_gf xc38_20 xf38_25 rfl (wh_at hw 10 rfl) rfl (fh_at hX10 6 rfl rfl) sy_refl) ?_
  refine sy_Fs (sy_ildn xc38_23 rfl rfl sy_refl) ?_
  refine sy_Fs (sx_bal (z := (mv_rd 32 Mk 25)) xc38_24 (wh_at hw 15 rfl) (by decide) (by decide) rfl) ?_
  refine sy_Fs (sy_ildn xc38_25 rfl rfl sy_refl) ?_
  refine sy_Fs (sx_ixor (z := (mo_xor (mv_rd 32 Mk 25) v)) xc38_26 rfl) ?_
  refine sy_Fs (sy_goto (pc' := 31) xc38_27 (by decide) (by decide) sy_refl) ?_
  refine sy_Fs (sx_i2b (z := (mn_b (mo_xor (mv_rd 32 Mk 25) v))) xc38_31 rfl) ?_
  refine sy_Fw (i := 11) (x := (1, 1, 64, (pk Sp Mk v 26))) hw (by decide) (sy_bas (i := 25) xc38_32 (wh_at hw 11 rfl) rfl (by decide) (by decide) rfl sy_refl) ?_
  intro w hw
  simp only [List.set_cons_zero, List.set_cons_succ] at hw
  refine sy_Fs (sx_iinc (c := 1) (z := 26) (ls' := [(2, pl 10, 0), (0, v, 0), (2, pl 17, 0), (0, 26, 0)]) xc38_33 rfl (by decide) (by rw [xl38]; rfl) rfl (by decide) rfl) ?_
  refine sy_Fs (sy_goto (pc' := 2) xc38_36 (by decide) (by decide) sy_refl) ?_
  refine sy_Fs (sy_ildn xc38_2 rfl rfl sy_refl) ?_
  refine sy_Fs (sy_bipush (v := 64) xc38_3 (by decide) (by decide) sy_refl) ?_
  refine sy_Fs (sy_ge_f xc38_5 (by decide) (by decide) (by decide) sy_refl) ?_
  refine sy_Fs (sy_aldn xc38_8 rfl rfl sy_refl) ?_
  refine sy_Fs (sy_gf xc38_9 xf38_18 rfl (wh_at hw 10 rfl) rfl (fh_at hX10 0 rfl rfl) sy_refl) ?_
  refine sy_Fs (sy_ildn xc38_12 rfl rfl sy_refl) ?_
  refine sy_Fs (sy_ildn xc38_13 rfl rfl sy_refl) ?_
  refine sy_Fs (sy_bipush (v := 32) xc38_14 (by decide) (by decide) sy_refl) ?_
  refine sy_Fs (sy_ge_f xc38_16 (by decide) (by decide) (by decide) sy_refl) ?_
  refine sy_Fs (sy_aldn xc38_19 rfl rfl sy_refl) ?_
  refine sy_Fs (sy_gf xc38_20 xf38_25 rfl (wh_at hw 10 rfl) rfl (fh_at hX10 6 rfl rfl) sy_refl) ?_
  refine sy_Fs (sy_ildn xc38_23 rfl rfl sy_refl) ?_
  refine sy_Fs (sx_bal (z := (mv_rd 32 Mk 26)) xc38_24 (wh_at hw 15 rfl) (by decide) (by decide) rfl) ?_
  refine sy_Fs (sy_ildn xc38_25 rfl rfl sy_refl) ?_
  refine sy_Fs (sx_ixor (z := (mo_xor (mv_rd 32 Mk 26) v)) xc38_26 rfl) ?_
  refine sy_Fs (sy_goto (pc' := 31) xc38_27 (by decide) (by decide) sy_refl) ?_
  refine sy_Fs (sx_i2b (z := (mn_b (mo_xor (mv_rd 32 Mk 26) v))) xc38_31 rfl) ?_
  refine sy_Fw (i := 11) (x := (1, 1, 64, (pk Sp Mk v 27))) hw (by decide) (sy_bas (i := 26) xc38_32 (wh_at hw 11 rfl) rfl (by decide) (by decide) rfl sy_refl) ?_
  intro w hw
  simp only [List.set_cons_zero, List.set_cons_succ] at hw
  refine sy_Fs (sx_iinc (c := 1) (z := 27) (ls' := [(2, pl 10, 0), (0, v, 0), (2, pl 17, 0), (0, 27, 0)]) xc38_33 rfl (by decide) (by rw [xl38]; rfl) rfl (by decide) rfl) ?_
  refine sy_Fs (sy_goto (pc' := 2) xc38_36 (by decide) (by decide) sy_refl) ?_
  refine sy_Fs (sy_ildn xc38_2 rfl rfl sy_refl) ?_
  refine sy_Fs (sy_bipush (v := 64) xc38_3 (by decide) (by decide) sy_refl) ?_
  refine sy_Fs (sy_ge_f xc38_5 (by decide) (by decide) (by decide) sy_refl) ?_
  refine sy_Fs (sy_aldn xc38_8 rfl rfl sy_refl) ?_
  refine sy_Fs (sy_gf xc38_9 xf38_18 rfl (wh_at hw 10 rfl) rfl (fh_at hX10 0 rfl rfl) sy_refl) ?_
  refine sy_Fs (sy_ildn xc38_12 rfl rfl sy_refl) ?_
  refine sy_Fs (sy_ildn xc38_13 rfl rfl sy_refl) ?_
  refine sy_Fs (sy_bipush (v := 32) xc38_14 (by decide) (by decide) sy_refl) ?_
  refine sy_Fs (sy_ge_f xc38_16 (by decide) (by decide) (by decide) sy_refl) ?_
  refine sy_Fs (sy_aldn xc38_19 rfl rfl sy_refl) ?_
  refine sy_Fs (sy_gf xc38_20 xf38_25 rfl (wh_at hw 10 rfl) rfl (fh_at hX10 6 rfl rfl) sy_refl) ?_
  refine sy_Fs (sy_ildn xc38_23 rfl rfl sy_refl) ?_
  refine sy_Fs (sx_bal (z := (mv_rd 32 Mk 27)) xc38_24 (wh_at hw 15 rfl) (by decide) (by decide) rfl) ?_
  refine sy_Fs (sy_ildn xc38_25 rfl rfl sy_refl) ?_
  refine sy_Fs (sx_ixor (z := (mo_xor (mv_rd 32 Mk 27) v)) xc38_26 rfl) ?_
  refine sy_Fs (sy_goto (pc' := 31) xc38_27 (by decide) (by decide) sy_refl) ?_
  refine sy_Fs (sx_i2b (z := (mn_b (mo_xor (mv_rd 32 Mk 27) v))) xc38_31 rfl) ?_
  refine sy_Fw (i := 11) (x := (1, 1, 64, (pk Sp Mk v 28))) hw (by decide) (sy_bas (i := 27) xc38_32 (wh_at hw 11 rfl) rfl (by decide) (by decide) rfl sy_refl) ?_
  intro w hw
  simp only [List.set_cons_zero, List.set_cons_succ] at hw
  refine sy_Fs (sx_iinc (c := 1) (z := 28) (ls' := [(2, pl 10, 0), (0, v, 0), (2, pl 17, 0), (0, 28, 0)]) xc38_33 rfl (by decide) (by rw [xl38]; rfl) rfl (by decide) rfl) ?_
  refine sy_Fs (sy_goto (pc' := 2) xc38_36 (by decide) (by decide) sy_refl) ?_
  refine sy_Fs (sy_ildn xc38_2 rfl rfl sy_refl) ?_
  refine sy_Fs (sy_bipush (v := 64) xc38_3 (by decide) (by decide) sy_refl) ?_
  refine sy_Fs (sy_ge_f xc38_5 (by decide) (by decide) (by decide) sy_refl) ?_
  refine sy_Fs (sy_aldn xc38_8 rfl rfl sy_refl) ?_
  refine sy_Fs (sy_gf xc38_9 xf38_18 rfl (wh_at hw 10 rfl) rfl (fh_at hX10 0 rfl rfl) sy_refl) ?_
  refine sy_Fs (sy_ildn xc38_12 rfl rfl sy_refl) ?_
  refine sy_Fs (sy_ildn xc38_13 rfl rfl sy_refl) ?_
  refine sy_Fs (sy_bipush (v := 32) xc38_14 (by decide) (by decide) sy_refl) ?_
  refine sy_Fs (sy_ge_f xc38_16 (by decide) (by decide) (by decide) sy_refl) ?_
  refine sy_Fs (sy_aldn xc38_19 rfl rfl sy_refl) ?_
  refine sy_Fs (sy_gf xc38_20 xf38_25 rfl (wh_at hw 10 rfl) rfl (fh_at hX10 6 rfl rfl) sy_refl) ?_
  refine sy_Fs (sy_ildn xc38_23 rfl rfl sy_refl) ?_
  refine sy_Fs (sx_bal (z := (mv_rd 32 Mk 28)) xc38_24 (wh_at hw 15 rfl) (by decide) (by decide) rfl) ?_
  refine sy_Fs (sy_ildn xc38_25 rfl rfl sy_refl) ?_
  refine sy_Fs (sx_ixor (z := (mo_xor (mv_rd 32 Mk 28) v)) xc38_26 rfl) ?_
  refine sy_Fs (sy_goto (pc' := 31) xc38_27 (by decide) (by decide) sy_refl) ?_
  refine sy_Fs (sx_i2b (z := (mn_b (mo_xor (mv_rd 32 Mk 28) v))) xc38_31 rfl) ?_
  refine sy_Fw (i := 11) (x := (1, 1, 64, (pk Sp Mk v 29))) hw (by decide) (sy_bas (i := 28) xc38_32 (wh_at hw 11 rfl) rfl (by decide) (by decide) rfl sy_refl) ?_
  intro w hw
  simp only [List.set_cons_zero, List.set_cons_succ] at hw
  refine sy_Fs (sx_iinc (c := 1) (z := 29) (ls' := [(2, pl 10, 0), (0, v, 0), (2, pl 17, 0), (0, 29, 0)]) xc38_33 rfl (by decide) (by rw [xl38]; rfl) rfl (by decide) rfl) ?_
  refine sy_Fs (sy_goto (pc' := 2) xc38_36 (by decide) (by decide) sy_refl) ?_
  refine sy_Fs (sy_ildn xc38_2 rfl rfl sy_refl) ?_
  refine sy_Fs (sy_bipush (v := 64) xc38_3 (by decide) (by decide) sy_refl) ?_
  refine sy_Fs (sy_ge_f xc38_5 (by decide) (by decide) (by decide) sy_refl) ?_
  refine sy_Fs (sy_aldn xc38_8 rfl rfl sy_refl) ?_
  refine sy_Fs (sy_gf xc38_9 xf38_18 rfl (wh_at hw 10 rfl) rfl (fh_at hX10 0 rfl rfl) sy_refl) ?_
  refine sy_Fs (sy_ildn xc38_12 rfl rfl sy_refl) ?_
  refine sy_Fs (sy_ildn xc38_13 rfl rfl sy_refl) ?_
  refine sy_Fs (sy_bipush (v := 32) xc38_14 (by decide) (by decide) sy_refl) ?_
  refine sy_Fs (sy_ge_f xc38_16 (by decide) (by decide) (by decide) sy_refl) ?_
  refine sy_Fs (sy_aldn xc38_19 rfl rfl sy_refl) ?_
  refine sy_Fs (sy_gf xc38_20 xf38_25 rfl (wh_at hw 10 rfl) rfl (fh_at hX10 6 rfl rfl) sy_refl) ?_
  refine sy_Fs (sy_ildn xc38_23 rfl rfl sy_refl) ?_
  refine sy_Fs (sx_bal (z := (mv_rd 32 Mk 29)) xc38_24 (wh_at hw 15 rfl) (by decide) (by decide) rfl) ?_
  refine sy_Fs (sy_ildn xc38_25 rfl rfl sy_refl) ?_
  refine sy_Fs (sx_ixor (z := (mo_xor (mv_rd 32 Mk 29) v)) xc38_26 rfl) ?_
  refine sy_Fs (sy_goto (pc' := 31) xc38_27 (by decide) (by decide) sy_refl) ?_
  refine sy_Fs (sx_i2b (z := (mn_b (mo_xor (mv_rd 32 Mk 29) v))) xc38_31 rfl) ?_
  refine sy_Fw (i := 11) (x := (1, 1, 64, (pk Sp Mk v 30))) hw (by decide) (sy_bas (i := 29) xc38_32 (wh_at hw 11 rfl) rfl (by decide) (by decide) rfl sy_refl) ?_
  intro w hw
  simp only [List.set_cons_zero, List.set_cons_succ] at hw
  refine sy_Fs (sx_iinc (c := 1) (z := 30) (ls' := [(2, pl 10, 0), (0, v, 0), (2, pl 17, 0), (0, 30, 0)]) xc38_33 rfl (by decide) (by rw [xl38]; rfl) rfl (by decide) rfl) ?_
  refine sy_Fs (sy_goto (pc' := 2) xc38_36 (by decide) (by decide) sy_refl) ?_
  refine sy_Fs (sy_ildn xc38_2 rfl rfl sy_refl) ?_
  refine sy_Fs (sy_bipush (v := 64) xc38_3 (by decide) (by decide) sy_refl) ?_
  refine sy_Fs (sy_ge_f xc38_5 (by decide) (by decide) (by decide) sy_refl) ?_
  refine sy_Fs (sy_aldn xc38_8 rfl rfl sy_refl) ?_
  refine sy_Fs (sy_gf xc38_9 xf38_18 rfl (wh_at hw 10 rfl) rfl (fh_at hX10 0 rfl rfl) sy_refl) ?_
  refine sy_Fs (sy_ildn xc38_12 rfl rfl sy_refl) ?_
  refine sy_Fs (sy_ildn xc38_13 rfl rfl sy_refl) ?_
  refine sy_Fs (sy_bipush (v := 32) xc38_14 (by decide) (by decide) sy_refl) ?_
  refine sy_Fs (sy_ge_f xc38_16 (by decide) (by decide) (by decide) sy_refl) ?_
  refine sy_Fs (sy_aldn xc38_19 rfl rfl sy_refl) ?_
  refine sy_Fs (sy_gf xc38_20 xf38_25 rfl (wh_at hw 10 rfl) rfl (fh_at hX10 6 rfl rfl) sy_refl) ?_
  refine sy_Fs (sy_ildn xc38_23 rfl rfl sy_refl) ?_
  refine sy_Fs (sx_bal (z := (mv_rd 32 Mk 30)) xc38_24 (wh_at hw 15 rfl) (by decide) (by decide) rfl) ?_
  refine sy_Fs (sy_ildn xc38_25 rfl rfl sy_refl) ?_
  refine sy_Fs (sx_ixor (z := (mo_xor (mv_rd 32 Mk 30) v)) xc38_26 rfl) ?_
  refine sy_Fs (sy_goto (pc' := 31) xc38_27 (by decide) (by decide) sy_refl) ?_
  refine sy_Fs (sx_i2b (z := (mn_b (mo_xor (mv_rd 32 Mk 30) v))) xc38_31 rfl) ?_
  refine sy_Fw (i := 11) (x := (1, 1, 64, (pk Sp Mk v 31))) hw (by decide) (sy_bas (i := 30) xc38_32 (wh_at hw 11 rfl) rfl (by decide) (by decide) rfl sy_refl) ?_
  intro w hw
  simp only [List.set_cons_zero, List.set_cons_succ] at hw
  refine sy_Fs (sx_iinc (c := 1) (z := 31) (ls' := [(2, pl 10, 0), (0, v, 0), (2, pl 17, 0), (0, 31, 0)]) xc38_33 rfl (by decide) (by rw [xl38]; rfl) rfl (by decide) rfl) ?_
  refine sy_Fs (sy_goto (pc' := 2) xc38_36 (by decide) (by decide) sy_refl) ?_
  refine sy_Fs (sy_ildn xc38_2 rfl rfl sy_refl) ?_
  refine sy_Fs (sy_bipush (v := 64) xc38_3 (by decide) (by decide) sy_refl) ?_
  refine sy_Fs (sy_ge_f xc38_5 (by decide) (by decide) (by decide) sy_refl) ?_
  refine sy_Fs (sy_aldn xc38_8 rfl rfl sy_refl) ?_
  refine sy_Fs (sy_gf xc38_9 xf38_18 rfl (wh_at hw 10 rfl) rfl (fh_at hX10 0 rfl rfl) sy_refl) ?_
  refine sy_Fs (sy_ildn xc38_12 rfl rfl sy_refl) ?_
  refine sy_Fs (sy_ildn xc38_13 rfl rfl sy_refl) ?_
  refine sy_Fs (sy_bipush (v := 32) xc38_14 (by decide) (by decide) sy_refl) ?_
  refine sy_Fs (sy_ge_f xc38_16 (by decide) (by decide) (by decide) sy_refl) ?_
  refine sy_Fs (sy_aldn xc38_19 rfl rfl sy_refl) ?_
  refine sy_Fs (sy_gf xc38_20 xf38_25 rfl (wh_at hw 10 rfl) rfl (fh_at hX10 6 rfl rfl) sy_refl) ?_
  refine sy_Fs (sy_ildn xc38_23 rfl rfl sy_refl) ?_
  refine sy_Fs (sx_bal (z := (mv_rd 32 Mk 31)) xc38_24 (wh_at hw 15 rfl) (by decide) (by decide) rfl) ?_
  refine sy_Fs (sy_ildn xc38_25 rfl rfl sy_refl) ?_
  refine sy_Fs (sx_ixor (z := (mo_xor (mv_rd 32 Mk 31) v)) xc38_26 rfl) ?_
  refine sy_Fs (sy_goto (pc' := 31) xc38_27 (by decide) (by decide) sy_refl) ?_
  refine sy_Fs (sx_i2b (z := (mn_b (mo_xor (mv_rd 32 Mk 31) v))) xc38_31 rfl) ?_
  refine sy_Fw (i := 11) (x := (1, 1, 64, (pk Sp Mk v 32))) hw (by decide) (sy_bas (i := 31) xc38_32 (wh_at hw 11 rfl) rfl (by decide) (by decide) rfl sy_refl) ?_
  intro w hw
  simp only [List.set_cons_zero, List.set_cons_succ] at hw
  refine sy_Fs (sx_iinc (c := 1) (z := 32) (ls' := [(2, pl 10, 0), (0, v, 0), (2, pl 17, 0), (0, 32, 0)]) xc38_33 rfl (by decide) (by rw [xl38]; rfl) rfl (by decide) rfl) ?_
  refine sy_Fs (sy_goto (pc' := 2) xc38_36 (by decide) (by decide) sy_refl) ?_
  refine sy_Fs (sy_ildn xc38_2 rfl rfl sy_refl) ?_
  refine sy_Fs (sy_bipush (v := 64) xc38_3 (by decide) (by decide) sy_refl) ?_
  refine sy_Fs (sy_ge_f xc38_5 (by decide) (by decide) (by decide) sy_refl) ?_
  refine sy_Fs (sy_aldn xc38_8 rfl rfl sy_refl) ?_
  refine sy_Fs (sy_gf xc38_9 xf38_18 rfl (wh_at hw 10 rfl) rfl (fh_at hX10 0 rfl rfl) sy_refl) ?_
  refine sy_Fs (sy_ildn xc38_12 rfl rfl sy_refl) ?_
  refine sy_Fs (sy_ildn xc38_13 rfl rfl sy_refl) ?_
  refine sy_Fs (sy_bipush (v := 32) xc38_14 (by decide) (by decide) sy_refl) ?_
  refine sy_Fs (sy_ge_t (pc' := 30) xc38_16 (by decide) (by decide) (by decide) (by decide) sy_refl) ?_
  refine sy_Fs (sy_ildn xc38_30 rfl rfl sy_refl) ?_
  refine sy_Fs (sx_i2b (z := (mn_b v)) xc38_31 rfl) ?_
  refine sy_Fw (i := 11) (x := (1, 1, 64, (pk Sp Mk v 33))) hw (by decide) (sy_bas (i := 32) xc38_32 (wh_at hw 11 rfl) rfl (by decide) (by decide) rfl sy_refl) ?_
  intro w hw
  simp only [List.set_cons_zero, List.set_cons_succ] at hw
  refine sy_Fs (sx_iinc (c := 1) (z := 33) (ls' := [(2, pl 10, 0), (0, v, 0), (2, pl 17, 0), (0, 33, 0)]) xc38_33 rfl (by decide) (by rw [xl38]; rfl) rfl (by decide) rfl) ?_
  refine sy_Fs (sy_goto (pc' := 2) xc38_36 (by decide) (by decide) sy_refl) ?_
  refine sy_Fs (sy_ildn xc38_2 rfl rfl sy_refl) ?_
  refine sy_Fs (sy_bipush (v := 64) xc38_3 (by decide) (by decide) sy_refl) ?_
  refine sy_Fs (sy_ge_f xc38_5 (by decide) (by decide) (by decide) sy_refl) ?_
  refine sy_Fs (sy_aldn xc38_8 rfl rfl sy_refl) ?_
  refine sy_Fs (sy_gf xc38_9 xf38_18 rfl (wh_at hw 10 rfl) rfl (fh_at hX10 0 rfl rfl) sy_refl) ?_
  refine sy_Fs (sy_ildn xc38_12 rfl rfl sy_refl) ?_
  refine sy_Fs (sy_ildn xc38_13 rfl rfl sy_refl) ?_
  refine sy_Fs (sy_bipush (v := 32) xc38_14 (by decide) (by decide) sy_refl) ?_
  refine sy_Fs (sy_ge_t (pc' := 30) xc38_16 (by decide) (by decide) (by decide) (by decide) sy_refl) ?_
  refine sy_Fs (sy_ildn xc38_30 rfl rfl sy_refl) ?_
  refine sy_Fs (sx_i2b (z := (mn_b v)) xc38_31 rfl) ?_
  refine sy_Fw (i := 11) (x := (1, 1, 64, (pk Sp Mk v 34))) hw (by decide) (sy_bas (i := 33) xc38_32 (wh_at hw 11 rfl) rfl (by decide) (by decide) rfl sy_refl) ?_
  intro w hw
  simp only [List.set_cons_zero, List.set_cons_succ] at hw
  refine sy_Fs (sx_iinc (c := 1) (z := 34) (ls' := [(2, pl 10, 0), (0, v, 0), (2, pl 17, 0), (0, 34, 0)]) xc38_33 rfl (by decide) (by rw [xl38]; rfl) rfl (by decide) rfl) ?_
  refine sy_Fs (sy_goto (pc' := 2) xc38_36 (by decide) (by decide) sy_refl) ?_
  refine sy_Fs (sy_ildn xc38_2 rfl rfl sy_refl) ?_
  refine sy_Fs (sy_bipush (v := 64) xc38_3 (by decide) (by decide) sy_refl) ?_
  refine sy_Fs (sy_ge_f xc38_5 (by decide) (by decide) (by decide) sy_refl) ?_
  refine sy_Fs (sy_aldn xc38_8 rfl rfl sy_refl) ?_
  refine sy_Fs (sy_gf xc38_9 xf38_18 rfl (wh_at hw 10 rfl) rfl (fh_at hX10 0 rfl rfl) sy_refl) ?_
  refine sy_Fs (sy_ildn xc38_12 rfl rfl sy_refl) ?_
  refine sy_Fs (sy_ildn xc38_13 rfl rfl sy_refl) ?_
  refine sy_Fs (sy_bipush (v := 32) xc38_14 (by decide) (by decide) sy_refl) ?_
  refine sy_Fs (sy_ge_t (pc' := 30) xc38_16 (by decide) (by decide) (by decide) (by decide) sy_refl) ?_
  refine sy_Fs (sy_ildn xc38_30 rfl rfl sy_refl) ?_
  refine sy_Fs (sx_i2b (z := (mn_b v)) xc38_31 rfl) ?_
  refine sy_Fw (i := 11) (x := (1, 1, 64, (pk Sp Mk v 35))) hw (by decide) (sy_bas (i := 34) xc38_32 (wh_at hw 11 rfl) rfl (by decide) (by decide) rfl sy_refl) ?_
  intro w hw
  simp only [List.set_cons_zero, List.set_cons_succ] at hw
  refine sy_Fs (sx_iinc (c := 1) (z := 35) (ls' := [(2, pl 10, 0), (0, v, 0), (2, pl 17, 0), (0, 35, 0)]) xc38_33 rfl (by decide) (by rw [xl38]; rfl) rfl (by decide) rfl) ?_
  refine sy_Fs (sy_goto (pc' := 2) xc38_36 (by decide) (by decide) sy_refl) ?_
  refine sy_Fs (sy_ildn xc38_2 rfl rfl sy_refl) ?_
  refine sy_Fs (sy_bipush (v := 64) xc38_3 (by decide) (by decide) sy_refl) ?_
  refine sy_Fs (sy_ge_f xc38_5 (by decide) (by decide) (by decide) sy_refl) ?_
  refine sy_Fs (sy_aldn xc38_8 rfl rfl sy_refl) ?_
  refine sy_Fs (sy_gf xc38_9 xf38_18 rfl (wh_at hw 10 rfl) rfl (fh_at hX10 0 rfl rfl) sy_refl) ?_
  refine sy_Fs (sy_ildn xc38_12 rfl rfl sy_refl) ?_
  refine sy_Fs (sy_ildn xc38_13 rfl rfl sy_refl) ?_
  refine sy_Fs (sy_bipush (v := 32) xc38_14 (by decide) (by decide) sy_refl) ?_
  refine sy_Fs (sy_ge_t (pc' := 30) xc38_16 (by decide) (by decide) (by decide) (by decide) sy_refl) ?_
  refine sy_Fs (sy_ildn xc38_30 rfl rfl sy_refl) ?_
  refine sy_Fs (sx_i2b (z := (mn_b v)) xc38_31 rfl) ?_
  refine sy_Fw (i := 11) (x := (1, 1, 64, (pk Sp Mk v 36))) hw (by decide) (sy_bas (i := 35) xc38_32 (wh_at hw 11 rfl) rfl (by decide) (by decide) rfl sy_refl) ?_
  intro w hw
  simp only [List.set_cons_zero, List.set_cons_succ] at hw
  refine sy_Fs (sx_iinc (c := 1) (z := 36) (ls' := [(2, pl 10, 0), (0, v, 0), (2, pl 17, 0), (0, 36, 0)]) xc38_33 rfl (by decide) (by rw [xl38]; rfl) rfl (by decide) rfl) ?_
  refine sy_Fs (sy_goto (pc' := 2) xc38_36 (by decide) (by decide) sy_refl) ?_
  refine sy_Fs (sy_ildn xc38_2 rfl rfl sy_refl) ?_
  refine sy_Fs (sy_bipush (v := 64) xc38_3 (by decide) (by decide) sy_refl) ?_
  refine sy_Fs (sy_ge_f xc38_5 (by decide) (by decide) (by decide) sy_refl) ?_
  refine sy_Fs (sy_aldn xc38_8 rfl rfl sy_refl) ?_
  refine sy_Fs (sy_gf xc38_9 xf38_18 rfl (wh_at hw 10 rfl) rfl (fh_at hX10 0 rfl rfl) sy_refl) ?_
  refine sy_Fs (sy_ildn xc38_12 rfl rfl sy_refl) ?_
  refine sy_Fs (sy_ildn xc38_13 rfl rfl sy_refl) ?_
  refine sy_Fs (sy_bipush (v := 32) xc38_14 (by decide) (by decide) sy_refl) ?_
  refine sy_Fs (sy_ge_t (pc' := 30) xc38_16 (by decide) (by decide) (by decide) (by decide) sy_refl) ?_
  refine sy_Fs (sy_ildn xc38_30 rfl rfl sy_refl) ?_
  refine sy_Fs (sx_i2b (z := (mn_b v)) xc38_31 rfl) ?_
  refine sy_Fw (i := 11) (x := (1, 1, 64, (pk Sp Mk v 37))) hw (by decide) (sy_bas (i := 36) xc38_32 (wh_at hw 11 rfl) rfl (by decide) (by decide) rfl sy_refl) ?_
  intro w hw
  simp only [List.set_cons_zero, List.set_cons_succ] at hw
  refine sy_Fs (sx_iinc (c := 1) (z := 37) (ls' := [(2, pl 10, 0), (0, v, 0), (2, pl 17, 0), (0, 37, 0)]) xc38_33 rfl (by decide) (by rw [xl38]; rfl) rfl (by decide) rfl) ?_
  refine sy_Fs (sy_goto (pc' := 2) xc38_36 (by decide) (by decide) sy_refl) ?_
  refine sy_Fs (sy_ildn xc38_2 rfl rfl sy_refl) ?_
  refine sy_Fs (sy_bipush (v := 64) xc38_3 (by decide) (by decide) sy_refl) ?_
  refine sy_Fs (sy_ge_f xc38_5 (by decide) (by decide) (by decide) sy_refl) ?_
  refine sy_Fs (sy_aldn xc38_8 rfl rfl sy_refl) ?_
  refine sy_Fs (sy_gf xc38_9 xf38_18 rfl (wh_at hw 10 rfl) rfl (fh_at hX10 0 rfl rfl) sy_refl) ?_
  refine sy_Fs (sy_ildn xc38_12 rfl rfl sy_refl) ?_
  refine sy_Fs (sy_ildn xc38_13 rfl rfl sy_refl) ?_
  refine sy_Fs (sy_bipush (v := 32) xc38_14 (by decide) (by decide) sy_refl) ?_
  refine sy_Fs (sy_ge_t (pc' := 30) xc38_16 (by decide) (by decide) (by decide) (by decide) sy_refl) ?_
  refine sy_Fs (sy_ildn xc38_30 rfl rfl sy_refl) ?_
  refine sy_Fs (sx_i2b (z := (mn_b v)) xc38_31 rfl) ?_
  refine sy_Fw (i := 11) (x := (1, 1, 64, (pk Sp Mk v 38))) hw (by decide) (sy_bas (i := 37) xc38_32 (wh_at hw 11 rfl) rfl (by decide) (by decide) rfl sy_refl) ?_
  intro w hw
  simp only [List.set_cons_zero, List.set_cons_succ] at hw
  refine sy_Fs (sx_iinc (c := 1) (z := 38) (ls' := [(2, pl 10, 0), (0, v, 0), (2, pl 17, 0), (0, 38, 0)]) xc38_33 rfl (by decide) (by rw [xl38]; rfl) rfl (by decide) rfl) ?_
  refine sy_Fs (sy_goto (pc' := 2) xc38_36 (by decide) (by decide) sy_refl) ?_
  refine sy_Fs (sy_ildn xc38_2 rfl rfl sy_refl) ?_
  refine sy_Fs (sy_bipush (v := 64) xc38_3 (by decide) (by decide) sy_refl) ?_
  refine sy_Fs (sy_ge_f xc38_5 (by decide) (by decide) (by decide) sy_refl) ?_
  refine sy_Fs (sy_aldn xc38_8 rfl rfl sy_refl) ?_
  refine sy_Fs (sy_gf xc38_9 xf38_18 rfl (wh_at hw 10 rfl) rfl (fh_at hX10 0 rfl rfl) sy_refl) ?_
  refine sy_Fs (sy_ildn xc38_12 rfl rfl sy_refl) ?_
  refine sy_Fs (sy_ildn xc38_13 rfl rfl sy_refl) ?_
  refine sy_Fs (sy_bipush (v := 32) xc38_14 (by decide) (by decide) sy_refl) ?_
  refine sy_Fs (sy_ge_t (pc' := 30) xc38_16 (by decide) (by decide) (by decide) (by decide) sy_refl) ?_
  refine sy_Fs (sy_ildn xc38_30 rfl rfl sy_refl) ?_
  refine sy_Fs (sx_i2b (z := (mn_b v)) xc38_31 rfl) ?_
  refine sy_Fw (i := 11) (x := (1, 1, 64, (pk Sp Mk v 39))) hw (by decide) (sy_bas (i := 38) xc38_32 (wh_at hw 11 rfl) rfl (by decide) (by decide) rfl sy_refl) ?_
  intro w hw
  simp only [List.set_cons_zero, List.set_cons_succ] at hw
  refine sy_Fs (sx_iinc (c := 1) (z := 39) (ls' := [(2, pl 10, 0), (0, v, 0), (2, pl 17, 0), (0, 39, 0)]) xc38_33 rfl (by decide) (by rw [xl38]; rfl) rfl (by decide) rfl) ?_
  refine sy_Fs (sy_goto (pc' := 2) xc38_36 (by decide) (by decide) sy_refl) ?_
  refine sy_Fs (sy_ildn xc38_2 rfl rfl sy_refl) ?_
  refine sy_Fs (sy_bipush (v := 64) xc38_3 (by decide) (by decide) sy_refl) ?_
  refine sy_Fs (sy_ge_f xc38_5 (by decide) (by decide) (by decide) sy_refl) ?_
  refine sy_Fs (sy_aldn xc38_8 rfl rfl sy_refl) ?_
  refine sy_Fs (sy_gf xc38_9 xf38_18 rfl (wh_at hw 10 rfl) rfl (fh_at hX10 0 rfl rfl) sy_refl) ?_
  refine sy_Fs (sy_ildn xc38_12 rfl rfl sy_refl) ?_
  refine sy_Fs (sy_ildn xc38_13 rfl rfl sy_refl) ?_
  refine sy_Fs (sy_bipush (v := 32) xc38_14 (by decide) (by decide) sy_refl) ?_
  refine sy_Fs (sy_ge_t (pc' := 30) xc38_16 (by decide) (by decide) (by decide) (by decide) sy_refl) ?_
  refine sy_Fs (sy_ildn xc38_30 rfl rfl sy_refl) ?_
  refine sy_Fs (sx_i2b (z := (mn_b v)) xc38_31 rfl) ?_
  refine sy_Fw (i := 11) (x := (1, 1, 64, (pk Sp Mk v 40))) hw (by decide) (sy_bas (i := 39) xc38_32 (wh_at hw 11 rfl) rfl (by decide) (by decide) rfl sy_refl) ?_
  intro w hw
  simp only [List.set_cons_zero, List.set_cons_succ] at hw
  refine sy_Fs (sx_iinc (c := 1) (z := 40) (ls' := [(2, pl 10, 0), (0, v, 0), (2, pl 17, 0), (0, 40, 0)]) xc38_33 rfl (by decide) (by rw [xl38]; rfl) rfl (by decide) rfl) ?_
  refine sy_Fs (sy_goto (pc' := 2) xc38_36 (by decide) (by decide) sy_refl) ?_
  refine sy_Fs (sy_ildn xc38_2 rfl rfl sy_refl) ?_
  refine sy_Fs (sy_bipush (v := 64) xc38_3 (by decide) (by decide) sy_refl) ?_
  refine sy_Fs (sy_ge_f xc38_5 (by decide) (by decide) (by decide) sy_refl) ?_
  refine sy_Fs (sy_aldn xc38_8 rfl rfl sy_refl) ?_
  refine sy_Fs (sy_gf xc38_9 xf38_18 rfl (wh_at hw 10 rfl) rfl (fh_at hX10 0 rfl rfl) sy_refl) ?_
  refine sy_Fs (sy_ildn xc38_12 rfl rfl sy_refl) ?_
  refine sy_Fs (sy_ildn xc38_13 rfl rfl sy_refl) ?_
  refine sy_Fs (sy_bipush (v := 32) xc38_14 (by decide) (by decide) sy_refl) ?_
  refine sy_Fs (sy_ge_t (pc' := 30) xc38_16 (by decide) (by decide) (by decide) (by decide) sy_refl) ?_
  refine sy_Fs (sy_ildn xc38_30 rfl rfl sy_refl) ?_
  refine sy_Fs (sx_i2b (z := (mn_b v)) xc38_31 rfl) ?_
  refine sy_Fw (i := 11) (x := (1, 1, 64, (pk Sp Mk v 41))) hw (by decide) (sy_bas (i := 40) xc38_32 (wh_at hw 11 rfl) rfl (by decide) (by decide) rfl sy_refl) ?_
  intro w hw
  simp only [List.set_cons_zero, List.set_cons_succ] at hw
  refine sy_Fs (sx_iinc (c := 1) (z := 41) (ls' := [(2, pl 10, 0), (0, v, 0), (2, pl 17, 0), (0, 41, 0)]) xc38_33 rfl (by decide) (by rw [xl38]; rfl) rfl (by decide) rfl) ?_
  refine sy_Fs (sy_goto (pc' := 2) xc38_36 (by decide) (by decide) sy_refl) ?_
  refine sy_Fs (sy_ildn xc38_2 rfl rfl sy_refl) ?_
  refine sy_Fs (sy_bipush (v := 64) xc38_3 (by decide) (by decide) sy_refl) ?_
  refine sy_Fs (sy_ge_f xc38_5 (by decide) (by decide) (by decide) sy_refl) ?_
  refine sy_Fs (sy_aldn xc38_8 rfl rfl sy_refl) ?_
  refine sy_Fs (sy_gf xc38_9 xf38_18 rfl (wh_at hw 10 rfl) rfl (fh_at hX10 0 rfl rfl) sy_refl) ?_
  refine sy_Fs (sy_ildn xc38_12 rfl rfl sy_refl) ?_
  refine sy_Fs (sy_ildn xc38_13 rfl rfl sy_refl) ?_
  refine sy_Fs (sy_bipush (v := 32) xc38_14 (by decide) (by decide) sy_refl) ?_
  refine sy_Fs (sy_ge_t (pc' := 30) xc38_16 (by decide) (by decide) (by decide) (by decide) sy_refl) ?_
  refine sy_Fs (sy_ildn xc38_30 rfl rfl sy_refl) ?_
  refine sy_Fs (sx_i2b (z := (mn_b v)) xc38_31 rfl) ?_
  refine sy_Fw (i := 11) (x := (1, 1, 64, (pk Sp Mk v 42))) hw (by decide) (sy_bas (i := 41) xc38_32 (wh_at hw 11 rfl) rfl (by decide) (by decide) rfl sy_refl) ?_
  intro w hw
  simp only [List.set_cons_zero, List.set_cons_succ] at hw
  refine sy_Fs (sx_iinc (c := 1) (z := 42) (ls' := [(2, pl 10, 0), (0, v, 0), (2, pl 17, 0), (0, 42, 0)]) xc38_33 rfl (by decide) (by rw [xl38]; rfl) rfl (by decide) rfl) ?_
  refine sy_Fs (sy_goto (pc' := 2) xc38_36 (by decide) (by decide) sy_refl) ?_
  refine sy_Fs (sy_ildn xc38_2 rfl rfl sy_refl) ?_
  refine sy_Fs (sy_bipush (v := 64) xc38_3 (by decide) (by decide) sy_refl) ?_
  refine sy_Fs (sy_ge_f xc38_5 (by decide) (by decide) (by decide) sy_refl) ?_
  refine sy_Fs (sy_aldn xc38_8 rfl rfl sy_refl) ?_
  refine sy_Fs (sy_gf xc38_9 xf38_18 rfl (wh_at hw 10 rfl) rfl (fh_at hX10 0 rfl rfl) sy_refl) ?_
  refine sy_Fs (sy_ildn xc38_12 rfl rfl sy_refl) ?_
  refine sy_Fs (sy_ildn xc38_13 rfl rfl sy_refl) ?_
  refine sy_Fs (sy_bipush (v := 32) xc38_14 (by decide) (by decide) sy_refl) ?_
  refine sy_Fs (sy_ge_t (pc' := 30) xc38_16 (by decide) (by decide) (by decide) (by decide) sy_refl) ?_
  refine sy_Fs (sy_ildn xc38_30 rfl rfl sy_refl) ?_
  refine sy_Fs (sx_i2b (z := (mn_b v)) xc38_31 rfl) ?_
  refine sy_Fw (i := 11) (x := (1, 1, 64, (pk Sp Mk v 43))) hw (by decide) (sy_bas (i := 42) xc38_32 (wh_at hw 11 rfl) rfl (by decide) (by decide) rfl sy_refl) ?_
  intro w hw
  simp only [List.set_cons_zero, List.set_cons_succ] at hw
  refine sy_Fs (sx_iinc (c := 1) (z := 43) (ls' := [(2, pl 10, 0), (0, v, 0), (2, pl 17, 0), (0, 43, 0)]) xc38_33 rfl (by decide) (by rw [xl38]; rfl) rfl (by decide) rfl) ?_
  refine sy_Fs (sy_goto (pc' := 2) xc38_36 (by decide) (by decide) sy_refl) ?_
  refine sy_Fs (sy_ildn xc38_2 rfl rfl sy_refl) ?_
  refine sy_Fs (sy_bipush (v := 64) xc38_3 (by decide) (by decide) sy_refl) ?_
  refine sy_Fs (sy_ge_f xc38_5 (by decide) (by decide) (by decide) sy_refl) ?_
  refine sy_Fs (sy_aldn xc38_8 rfl rfl sy_refl) ?_
  refine sy_Fs (sy_gf xc38_9 xf38_18 rfl (wh_at hw 10 rfl) rfl (fh_at hX10 0 rfl rfl) sy_refl) ?_
  refine sy_Fs (sy_ildn xc38_12 rfl rfl sy_refl) ?_
  refine sy_Fs (sy_ildn xc38_13 rfl rfl sy_refl) ?_
  refine sy_Fs (sy_bipush (v := 32) xc38_14 (by decide) (by decide) sy_refl) ?_
  refine sy_Fs (sy_ge_t (pc' := 30) xc38_16 (by decide) (by decide) (by decide) (by decide) sy_refl) ?_
  refine sy_Fs (sy_ildn xc38_30 rfl rfl sy_refl) ?_
  refine sy_Fs (sx_i2b (z := (mn_b v)) xc38_31 rfl) ?_
  refine sy_Fw (i := 11) (x := (1, 1, 64, (pk Sp Mk v 44))) hw (by decide) (sy_bas (i := 43) xc38_32 (wh_at hw 11 rfl) rfl (by decide) (by decide) rfl sy_refl) ?_
  intro w hw
  simp only [List.set_cons_zero, List.set_cons_succ] at hw
  refine sy_Fs (sx_iinc (c := 1) (z := 44) (ls' := [(2, pl 10, 0), (0, v, 0), (2, pl 17, 0), (0, 44, 0)]) xc38_33 rfl (by decide) (by rw [xl38]; rfl) rfl (by decide) rfl) ?_
  refine sy_Fs (sy_goto (pc' := 2) xc38_36 (by decide) (by decide) sy_refl) ?_
  refine sy_Fs (sy_ildn xc38_2 rfl rfl sy_refl) ?_
  refine sy_Fs (sy_bipush (v := 64) xc38_3 (by decide) (by decide) sy_refl) ?_
  refine sy_Fs (sy_ge_f xc38_5 (by decide) (by decide) (by decide) sy_refl) ?_
  refine sy_Fs (sy_aldn xc38_8 rfl rfl sy_refl) ?_
  refine sy_Fs (sy_gf xc38_9 xf38_18 rfl (wh_at hw 10 rfl) rfl (fh_at hX10 0 rfl rfl) sy_refl) ?_
  refine sy_Fs (sy_ildn xc38_12 rfl rfl sy_refl) ?_
  refine sy_Fs (sy_ildn xc38_13 rfl rfl sy_refl) ?_
  refine sy_Fs (sy_bipush (v := 32) xc38_14 (by decide) (by decide) sy_refl) ?_
  refine sy_Fs (sy_ge_t (pc' := 30) xc38_16 (by decide) (by decide) (by decide) (by decide) sy_refl) ?_
  refine sy_Fs (sy_ildn xc38_30 rfl rfl sy_refl) ?_
  refine sy_Fs (sx_i2b (z := (mn_b v)) xc38_31 rfl) ?_
  refine sy_Fw (i := 11) (x := (1, 1, 64, (pk Sp Mk v 45))) hw (by decide) (sy_bas (i := 44) xc38_32 (wh_at hw 11 rfl) rfl (by decide) (by decide) rfl sy_refl) ?_
  intro w hw
  simp only [List.set_cons_zero, List.set_cons_succ] at hw
  refine sy_Fs (sx_iinc (c := 1) (z := 45) (ls' := [(2, pl 10, 0), (0, v, 0), (2, pl 17, 0), (0, 45, 0)]) xc38_33 rfl (by decide) (by rw [xl38]; rfl) rfl (by decide) rfl) ?_
  refine sy_Fs (sy_goto (pc' := 2) xc38_36 (by decide) (by decide) sy_refl) ?_
  refine sy_Fs (sy_ildn xc38_2 rfl rfl sy_refl) ?_
  refine sy_Fs (sy_bipush (v := 64) xc38_3 (by decide) (by decide) sy_refl) ?_
  refine sy_Fs (sy_ge_f xc38_5 (by decide) (by decide) (by decide) sy_refl) ?_
  refine sy_Fs (sy_aldn xc38_8 rfl rfl sy_refl) ?_
  refine sy_Fs (sy_gf xc38_9 xf38_18 rfl (wh_at hw 10 rfl) rfl (fh_at hX10 0 rfl rfl) sy_refl) ?_
  refine sy_Fs (sy_ildn xc38_12 rfl rfl sy_refl) ?_
  refine sy_Fs (sy_ildn xc38_13 rfl rfl sy_refl) ?_
  refine sy_Fs (sy_bipush (v := 32) xc38_14 (by decide) (by decide) sy_refl) ?_
  refine sy_Fs (sy_ge_t (pc' := 30) xc38_16 (by decide) (by decide) (by decide) (by decide) sy_refl) ?_
  refine sy_Fs (sy_ildn xc38_30 rfl rfl sy_refl) ?_
  refine sy_Fs (sx_i2b (z := (mn_b v)) xc38_31 rfl) ?_
  refine sy_Fw (i := 11) (x := (1, 1, 64, (pk Sp Mk v 46))) hw (by decide) (sy_bas (i := 45) xc38_32 (wh_at hw 11 rfl) rfl (by decide) (by decide) rfl sy_refl) ?_
  intro w hw
  simp only [List.set_cons_zero, List.set_cons_succ] at hw
  refine sy_Fs (sx_iinc (c := 1) (z := 46) (ls' := [(2, pl 10, 0), (0, v, 0), (2, pl 17, 0), (0, 46, 0)]) xc38_33 rfl (by decide) (by rw [xl38]; rfl) rfl (by decide) rfl) ?_
  refine sy_Fs (sy_goto (pc' := 2) xc38_36 (by decide) (by decide) sy_refl) ?_
  refine sy_Fs (sy_ildn xc38_2 rfl rfl sy_refl) ?_
  refine sy_Fs (sy_bipush (v := 64) xc38_3 (by decide) (by decide) sy_refl) ?_
  refine sy_Fs (sy_ge_f xc38_5 (by decide) (by decide) (by decide) sy_refl) ?_
  refine sy_Fs (sy_aldn xc38_8 rfl rfl sy_refl) ?_
  refine sy_Fs (sy_gf xc38_9 xf38_18 rfl (wh_at hw 10 rfl) rfl (fh_at hX10 0 rfl rfl) sy_refl) ?_
  refine sy_Fs (sy_ildn xc38_12 rfl rfl sy_refl) ?_
  refine sy_Fs (sy_ildn xc38_13 rfl rfl sy_refl) ?_
  refine sy_Fs (sy_bipush (v := 32) xc38_14 (by decide) (by decide) sy_refl) ?_
  refine sy_Fs (sy_ge_t (pc' := 30) xc38_16 (by decide) (by decide) (by decide) (by decide) sy_refl) ?_
  refine sy_Fs (sy_ildn xc38_30 rfl rfl sy_refl) ?_
  refine sy_Fs (sx_i2b (z := (mn_b v)) xc38_31 rfl) ?_
  refine sy_Fw (i := 11) (x := (1, 1, 64, (pk Sp Mk v 47))) hw (by decide) (sy_bas (i := 46) xc38_32 (wh_at hw 11 rfl) rfl (by decide) (by decide) rfl sy_refl) ?_
  intro w hw
  simp only [List.set_cons_zero, List.set_cons_succ] at hw
  refine sy_Fs (sx_iinc (c := 1) (z := 47) (ls' := [(2, pl 10, 0), (0, v, 0), (2, pl 17, 0), (0, 47, 0)]) xc38_33 rfl (by decide) (by rw [xl38]; rfl) rfl (by decide) rfl) ?_
  refine sy_Fs (sy_goto (pc' := 2) xc38_36 (by decide) (by decide) sy_refl) ?_
  refine sy_Fs (sy_ildn xc38_2 rfl rfl sy_refl) ?_
  refine sy_Fs (sy_bipush (v := 64) xc38_3 (by decide) (by decide) sy_refl) ?_
  refine sy_Fs (sy_ge_f xc38_5 (by decide) (by decide) (by decide) sy_refl) ?_
  refine sy_Fs (sy_aldn xc38_8 rfl rfl sy_refl) ?_
  refine sy_Fs (sy_gf xc38_9 xf38_18 rfl (wh_at hw 10 rfl) rfl (fh_at hX10 0 rfl rfl) sy_refl) ?_
  refine sy_Fs (sy_ildn xc38_12 rfl rfl sy_refl) ?_
  refine sy_Fs (sy_ildn xc38_13 rfl rfl sy_refl) ?_
  refine sy_Fs (sy_bipush (v := 32) xc38_14 (by decide) (by decide) sy_refl) ?_
  refine sy_Fs (sy_ge_t (pc' := 30) xc38_16 (by decide) (by decide) (by decide) (by decide) sy_refl) ?_
  refine sy_Fs (sy_ildn xc38_30 rfl rfl sy_refl) ?_
  refine sy_Fs (sx_i2b (z := (mn_b v)) xc38_31 rfl) ?_
  refine sy_Fw (i := 11) (x := (1, 1, 64, (pk Sp Mk v 48))) hw (by decide) (sy_bas (i := 47) xc38_32 (wh_at hw 11 rfl) rfl (by decide) (by decide) rfl sy_refl) ?_
  intro w hw
  simp only [List.set_cons_zero, List.set_cons_succ] at hw
  refine sy_Fs (sx_iinc (c := 1) (z := 48) (ls' := [(2, pl 10, 0), (0, v, 0), (2, pl 17, 0), (0, 48, 0)]) xc38_33 rfl (by decide) (by rw [xl38]; rfl) rfl (by decide) rfl) ?_
  refine sy_Fs (sy_goto (pc' := 2) xc38_36 (by decide) (by decide) sy_refl) ?_
  refine sy_Fs (sy_ildn xc38_2 rfl rfl sy_refl) ?_
  refine sy_Fs (sy_bipush (v := 64) xc38_3 (by decide) (by decide) sy_refl) ?_
  refine sy_Fs (sy_ge_f xc38_5 (by decide) (by decide) (by decide) sy_refl) ?_
  refine sy_Fs (sy_aldn xc38_8 rfl rfl sy_refl) ?_
  refine sy_Fs (sy_gf xc38_9 xf38_18 rfl (wh_at hw 10 rfl) rfl (fh_at hX10 0 rfl rfl) sy_refl) ?_
  refine sy_Fs (sy_ildn xc38_12 rfl rfl sy_refl) ?_
  refine sy_Fs (sy_ildn xc38_13 rfl rfl sy_refl) ?_
  refine sy_Fs (sy_bipush (v := 32) xc38_14 (by decide) (by decide) sy_refl) ?_
  refine sy_Fs (sy_ge_t (pc' := 30) xc38_16 (by decide) (by decide) (by decide) (by decide) sy_refl) ?_
  refine sy_Fs (sy_ildn xc38_30 rfl rfl sy_refl) ?_
  refine sy_Fs (sx_i2b (z := (mn_b v)) xc38_31 rfl) ?_
  refine sy_Fw (i := 11) (x := (1, 1, 64, (pk Sp Mk v 49))) hw (by decide) (sy_bas (i := 48) xc38_32 (wh_at hw 11 rfl) rfl (by decide) (by decide) rfl sy_refl) ?_
  intro w hw
  simp only [List.set_cons_zero, List.set_cons_succ] at hw
  refine sy_Fs (sx_iinc (c := 1) (z := 49) (ls' := [(2, pl 10, 0), (0, v, 0), (2, pl 17, 0), (0, 49, 0)]) xc38_33 rfl (by decide) (by rw [xl38]; rfl) rfl (by decide) rfl) ?_
  refine sy_Fs (sy_goto (pc' := 2) xc38_36 (by decide) (by decide) sy_refl) ?_
  refine sy_Fs (sy_ildn xc38_2 rfl rfl sy_refl) ?_
  refine sy_Fs (sy_bipush (v := 64) xc38_3 (by decide) (by decide) sy_refl) ?_
  refine sy_Fs (sy_ge_f xc38_5 (by decide) (by decide) (by decide) sy_refl) ?_
  refine sy_Fs (sy_aldn xc38_8 rfl rfl sy_refl) ?_
  refine sy_Fs (sy_gf xc38_9 xf38_18 rfl (wh_at hw 10 rfl) rfl (fh_at hX10 0 rfl rfl) sy_refl) ?_
  refine sy_Fs (sy_ildn xc38_12 rfl rfl sy_refl) ?_
  refine sy_Fs (sy_ildn xc38_13 rfl rfl sy_refl) ?_
  refine sy_Fs (sy_bipush (v := 32) xc38_14 (by decide) (by decide) sy_refl) ?_
  refine sy_Fs (sy_ge_t (pc' := 30) xc38_16 (by decide) (by decide) (by decide) (by decide) sy_refl) ?_
  refine sy_Fs (sy_ildn xc38_30 rfl rfl sy_refl) ?_
  refine sy_Fs (sx_i2b (z := (mn_b v)) xc38_31 rfl) ?_
  refine sy_Fw (i := 11) (x := (1, 1, 64, (pk Sp Mk v 50))) hw (by decide) (sy_bas (i := 49) xc38_32 (wh_at hw 11 rfl) rfl (by decide) (by decide) rfl sy_refl) ?_
  intro w hw
  simp only [List.set_cons_zero, List.set_cons_succ] at hw
  refine sy_Fs (sx_iinc (c := 1) (z := 50) (ls' := [(2, pl 10, 0), (0, v, 0), (2, pl 17, 0), (0, 50, 0)]) xc38_33 rfl (by decide) (by rw [xl38]; rfl) rfl (by decide) rfl) ?_
  refine sy_Fs (sy_goto (pc' := 2) xc38_36 (by decide) (by decide) sy_refl) ?_
  refine sy_Fs (sy_ildn xc38_2 rfl rfl sy_refl) ?_
  refine sy_Fs (sy_bipush (v := 64) xc38_3 (by decide) (by decide) sy_refl) ?_
  refine sy_Fs (sy_ge_f xc38_5 (by decide) (by decide) (by decide) sy_refl) ?_
  refine sy_Fs (sy_aldn xc38_8 rfl rfl sy_refl) ?_
  refine sy_Fs (sy_gf xc38_9 xf38_18 rfl (wh_at hw 10 rfl) rfl (fh_at hX10 0 rfl rfl) sy_refl) ?_
  refine sy_Fs (sy_ildn xc38_12 rfl rfl sy_refl) ?_
  refine sy_Fs (sy_ildn xc38_13 rfl rfl sy_refl) ?_
  refine sy_Fs (sy_bipush (v := 32) xc38_14 (by decide) (by decide) sy_refl) ?_
  refine sy_Fs (sy_ge_t (pc' := 30) xc38_16 (by decide) (by decide) (by decide) (by decide) sy_refl) ?_
  refine sy_Fs (sy_ildn xc38_30 rfl rfl sy_refl) ?_
  refine sy_Fs (sx_i2b (z := (mn_b v)) xc38_31 rfl) ?_
  refine sy_Fw (i := 11) (x := (1, 1, 64, (pk Sp Mk v 51))) hw (by decide) (sy_bas (i := 50) xc38_32 (wh_at hw 11 rfl) rfl (by decide) (by decide) rfl sy_refl) ?_
  intro w hw
  simp only [List.set_cons_zero, List.set_cons_succ] at hw
  refine sy_Fs (sx_iinc (c := 1) (z := 51) (ls' := [(2, pl 10, 0), (0, v, 0), (2, pl 17, 0), (0, 51, 0)]) xc38_33 rfl (by decide) (by rw [xl38]; rfl) rfl (by decide) rfl) ?_
  refine sy_Fs (sy_goto (pc' := 2) xc38_36 (by decide) (by decide) sy_refl) ?_
  refine sy_Fs (sy_ildn xc38_2 rfl rfl sy_refl) ?_
  refine sy_Fs (sy_bipush (v := 64) xc38_3 (by decide) (by decide) sy_refl) ?_
  refine sy_Fs (sy_ge_f xc38_5 (by decide) (by decide) (by decide) sy_refl) ?_
  refine sy_Fs (sy_aldn xc38_8 rfl rfl sy_refl) ?_
  refine sy_Fs (sy_gf xc38_9 xf38_18 rfl (wh_at hw 10 rfl) rfl (fh_at hX10 0 rfl rfl) sy_refl) ?_
  refine sy_Fs (sy_ildn xc38_12 rfl rfl sy_refl) ?_
  refine sy_Fs (sy_ildn xc38_13 rfl rfl sy_refl) ?_
  refine sy_Fs (sy_bipush (v := 32) xc38_14 (by decide) (by decide) sy_refl) ?_
  refine sy_Fs (sy_ge_t (pc' := 30) xc38_16 (by decide) (by decide) (by decide) (by decide) sy_refl) ?_
  refine sy_Fs (sy_ildn xc38_30 rfl rfl sy_refl) ?_
  refine sy_Fs (sx_i2b (z := (mn_b v)) xc38_31 rfl) ?_
  refine sy_Fw (i := 11) (x := (1, 1, 64, (pk Sp Mk v 52))) hw (by decide) (sy_bas (i := 51) xc38_32 (wh_at hw 11 rfl) rfl (by decide) (by decide) rfl sy_refl) ?_
  intro w hw
  simp only [List.set_cons_zero, List.set_cons_succ] at hw
  refine sy_Fs (sx_iinc (c := 1) (z := 52) (ls' := [(2, pl 10, 0), (0, v, 0), (2, pl 17, 0), (0, 52, 0)]) xc38_33 rfl (by decide) (by rw [xl38]; rfl) rfl (by decide) rfl) ?_
  refine sy_Fs (sy_goto (pc' := 2) xc38_36 (by decide) (by decide) sy_refl) ?_
  refine sy_Fs (sy_ildn xc38_2 rfl rfl sy_refl) ?_
  refine sy_Fs (sy_bipush (v := 64) xc38_3 (by decide) (by decide) sy_refl) ?_
  refine sy_Fs (sy_ge_f xc38_5 (by decide) (by decide) (by decide) sy_refl) ?_
  refine sy_Fs (sy_aldn xc38_8 rfl rfl sy_refl) ?_
  refine sy_Fs (sy_gf xc38_9 xf38_18 rfl (wh_at hw 10 rfl) rfl (fh_at hX10 0 rfl rfl) sy_refl) ?_
  refine sy_Fs (sy_ildn xc38_12 rfl rfl sy_refl) ?_
  refine sy_Fs (sy_ildn xc38_13 rfl rfl sy_refl) ?_
  refine sy_Fs (sy_bipush (v := 32) xc38_14 (by decide) (by decide) sy_refl) ?_
  refine sy_Fs (sy_ge_t (pc' := 30) xc38_16 (by decide) (by decide) (by decide) (by decide) sy_refl) ?_
  refine sy_Fs (sy_ildn xc38_30 rfl rfl sy_refl) ?_
  refine sy_Fs (sx_i2b (z := (mn_b v)) xc38_31 rfl) ?_
  refine sy_Fw (i := 11) (x := (1, 1, 64, (pk Sp Mk v 53))) hw (by decide) (sy_bas (i := 52) xc38_32 (wh_at hw 11 rfl) rfl (by decide) (by decide) rfl sy_refl) ?_
  intro w hw
  simp only [List.set_cons_zero, List.set_cons_succ] at hw
  refine sy_Fs (sx_iinc (c := 1) (z := 53) (ls' := [(2, pl 10, 0), (0, v, 0), (2, pl 17, 0), (0, 53, 0)]) xc38_33 rfl (by decide) (by rw [xl38]; rfl) rfl (by decide) rfl) ?_
  refine sy_Fs (sy_goto (pc' := 2) xc38_36 (by decide) (by decide) sy_refl) ?_
  refine sy_Fs (sy_ildn xc38_2 rfl rfl sy_refl) ?_
  refine sy_Fs (sy_bipush (v := 64) xc38_3 (by decide) (by decide) sy_refl) ?_
  refine sy_Fs (sy_ge_f xc38_5 (by decide) (by decide) (by decide) sy_refl) ?_
  refine sy_Fs (sy_aldn xc38_8 rfl rfl sy_refl) ?_
  refine sy_Fs (sy_gf xc38_9 xf38_18 rfl (wh_at hw 10 rfl) rfl (fh_at hX10 0 rfl rfl) sy_refl) ?_
  refine sy_Fs (sy_ildn xc38_12 rfl rfl sy_refl) ?_
  refine sy_Fs (sy_ildn xc38_13 rfl rfl sy_refl) ?_
  refine sy_Fs (sy_bipush (v := 32) xc38_14 (by decide) (by decide) sy_refl) ?_
  refine sy_Fs (sy_ge_t (pc' := 30) xc38_16 (by decide) (by decide) (by decide) (by decide) sy_refl) ?_
  refine sy_Fs (sy_ildn xc38_30 rfl rfl sy_refl) ?_
  refine sy_Fs (sx_i2b (z := (mn_b v)) xc38_31 rfl) ?_
  refine sy_Fw (i := 11) (x := (1, 1, 64, (pk Sp Mk v 54))) hw (by decide) (sy_bas (i := 53) xc38_32 (wh_at hw 11 rfl) rfl (by decide) (by decide) rfl sy_refl) ?_
  intro w hw
  simp only [List.set_cons_zero, List.set_cons_succ] at hw
  refine sy_Fs (sx_iinc (c := 1) (z := 54) (ls' := [(2, pl 10, 0), (0, v, 0), (2, pl 17, 0), (0, 54, 0)]) xc38_33 rfl (by decide) (by rw [xl38]; rfl) rfl (by decide) rfl) ?_
  refine sy_Fs (sy_goto (pc' := 2) xc38_36 (by decide) (by decide) sy_refl) ?_
  refine sy_Fs (sy_ildn xc38_2 rfl rfl sy_refl) ?_
  refine sy_Fs (sy_bipush (v := 64) xc38_3 (by decide) (by decide) sy_refl) ?_
  refine sy_Fs (sy_ge_f xc38_5 (by decide) (by decide) (by decide) sy_refl) ?_
  refine sy_Fs (sy_aldn xc38_8 rfl rfl sy_refl) ?_
  refine sy_Fs (sy_gf xc38_9 xf38_18 rfl (wh_at hw 10 rfl) rfl (fh_at hX10 0 rfl rfl) sy_refl) ?_
  refine sy_Fs (sy_ildn xc38_12 rfl rfl sy_refl) ?_
  refine sy_Fs (sy_ildn xc38_13 rfl rfl sy_refl) ?_
  refine sy_Fs (sy_bipush (v := 32) xc38_14 (by decide) (by decide) sy_refl) ?_
  refine sy_Fs (sy_ge_t (pc' := 30) xc38_16 (by decide) (by decide) (by decide) (by decide) sy_refl) ?_
  refine sy_Fs (sy_ildn xc38_30 rfl rfl sy_refl) ?_
  refine sy_Fs (sx_i2b (z := (mn_b v)) xc38_31 rfl) ?_
  refine sy_Fw (i := 11) (x := (1, 1, 64, (pk Sp Mk v 55))) hw (by decide) (sy_bas (i := 54) xc38_32 (wh_at hw 11 rfl) rfl (by decide) (by decide) rfl sy_refl) ?_
  intro w hw
  simp only [List.set_cons_zero, List.set_cons_succ] at hw
  refine sy_Fs (sx_iinc (c := 1) (z := 55) (ls' := [(2, pl 10, 0), (0, v, 0), (2, pl 17, 0), (0, 55, 0)]) xc38_33 rfl (by decide) (by rw [xl38]; rfl) rfl (by decide) rfl) ?_
  refine sy_Fs (sy_goto (pc' := 2) xc38_36 (by decide) (by decide) sy_refl) ?_
  refine sy_Fs (sy_ildn xc38_2 rfl rfl sy_refl) ?_
  refine sy_Fs (sy_bipush (v := 64) xc38_3 (by decide) (by decide) sy_refl) ?_
  refine sy_Fs (sy_ge_f xc38_5 (by decide) (by decide) (by decide) sy_refl) ?_
  refine sy_Fs (sy_aldn xc38_8 rfl rfl sy_refl) ?_
  refine sy_Fs (sy_gf xc38_9 xf38_18 rfl (wh_at hw 10 rfl) rfl (fh_at hX10 0 rfl rfl) sy_refl) ?_
  refine sy_Fs (sy_ildn xc38_12 rfl rfl sy_refl) ?_
  refine sy_Fs (sy_ildn xc38_13 rfl rfl sy_refl) ?_
  refine sy_Fs (sy_bipush (v := 32) xc38_14 (by decide) (by decide) sy_refl) ?_
  refine sy_Fs (sy_ge_t (pc' := 30) xc38_16 (by decide) (by decide) (by decide) (by decide) sy_refl) ?_
  refine sy_Fs (sy_ildn xc38_30 rfl rfl sy_refl) ?_
  refine sy_Fs (sx_i2b (z := (mn_b v)) xc38_31 rfl) ?_
  refine sy_Fw (i := 11) (x := (1, 1, 64, (pk Sp Mk v 56))) hw (by decide) (sy_bas (i := 55) xc38_32 (wh_at hw 11 rfl) rfl (by decide) (by decide) rfl sy_refl) ?_
  intro w hw
  simp only [List.set_cons_zero, List.set_cons_succ] at hw
  refine sy_Fs (sx_iinc (c := 1) (z := 56) (ls' := [(2, pl 10, 0), (0, v, 0), (2, pl 17, 0), (0, 56, 0)]) xc38_33 rfl (by decide) (by rw [xl38]; rfl) rfl (by decide) rfl) ?_
  refine sy_Fs (sy_goto (pc' := 2) xc38_36 (by decide) (by decide) sy_refl) ?_
  refine sy_Fs (sy_ildn xc38_2 rfl rfl sy_refl) ?_
  refine sy_Fs (sy_bipush (v := 64) xc38_3 (by decide) (by decide) sy_refl) ?_
  refine sy_Fs (sy_ge_f xc38_5 (by decide) (by decide) (by decide) sy_refl) ?_
  refine sy_Fs (sy_aldn xc38_8 rfl rfl sy_refl) ?_
  refine sy_Fs (sy_gf xc38_9 xf38_18 rfl (wh_at hw 10 rfl) rfl (fh_at hX10 0 rfl rfl) sy_refl) ?_
  refine sy_Fs (sy_ildn xc38_12 rfl rfl sy_refl) ?_
  refine sy_Fs (sy_ildn xc38_13 rfl rfl sy_refl) ?_
  refine sy_Fs (sy_bipush (v := 32) xc38_14 (by decide) (by decide) sy_refl) ?_
  refine sy_Fs (sy_ge_t (pc' := 30) xc38_16 (by decide) (by decide) (by decide) (by decide) sy_refl) ?_
  refine sy_Fs (sy_ildn xc38_30 rfl rfl sy_refl) ?_
  refine sy_Fs (sx_i2b (z := (mn_b v)) xc38_31 rfl) ?_
  refine sy_Fw (i := 11) (x := (1, 1, 64, (pk Sp Mk v 57))) hw (by decide) (sy_bas (i := 56) xc38_32 (wh_at hw 11 rfl) rfl (by decide) (by decide) rfl sy_refl) ?_
  intro w hw
  simp only [List.set_cons_zero, List.set_cons_succ] at hw
  refine sy_Fs (sx_iinc (c := 1) (z := 57) (ls' := [(2, pl 10, 0), (0, v, 0), (2, pl 17, 0), (0, 57, 0)]) xc38_33 rfl (by decide) (by rw [xl38]; rfl) rfl (by decide) rfl) ?_
  refine sy_Fs (sy_goto (pc' := 2) xc38_36 (by decide) (by decide) sy_refl) ?_
  refine sy_Fs (sy_ildn xc38_2 rfl rfl sy_refl) ?_
  refine sy_Fs (sy_bipush (v := 64) xc38_3 (by decide) (by decide) sy_refl) ?_
  refine sy_Fs (sy_ge_f xc38_5 (by decide) (by decide) (by decide) sy_refl) ?_
  refine sy_Fs (sy_aldn xc38_8 rfl rfl sy_refl) ?_
  refine sy_Fs (sy_gf xc38_9 xf38_18 rfl (wh_at hw 10 rfl) rfl (fh_at hX10 0 rfl rfl) sy_refl) ?_
  refine sy_Fs (sy_ildn xc38_12 rfl rfl sy_refl) ?_
  refine sy_Fs (sy_ildn xc38_13 rfl rfl sy_refl) ?_
  refine sy_Fs (sy_bipush (v := 32) xc38_14 (by decide) (by decide) sy_refl) ?_
  refine sy_Fs (sy_ge_t (pc' := 30) xc38_16 (by decide) (by decide) (by decide) (by decide) sy_refl) ?_
  refine sy_Fs (sy_ildn xc38_30 rfl rfl sy_refl) ?_
  refine sy_Fs (sx_i2b (z := (mn_b v)) xc38_31 rfl) ?_
  refine sy_Fw (i := 11) (x := (1, 1, 64, (pk Sp Mk v 58))) hw (by decide) (sy_bas (i := 57) xc38_32 (wh_at hw 11 rfl) rfl (by decide) (by decide) rfl sy_refl) ?_
  intro w hw
  simp only [List.set_cons_zero, List.set_cons_succ] at hw
  refine sy_Fs (sx_iinc (c := 1) (z := 58) (ls' := [(2, pl 10, 0), (0, v, 0), (2, pl 17, 0), (0, 58, 0)]) xc38_33 rfl (by decide) (by rw [xl38]; rfl) rfl (by decide) rfl) ?_
  refine sy_Fs (sy_goto (pc' := 2) xc38_36 (by decide) (by decide) sy_refl) ?_
  refine sy_Fs (sy_ildn xc38_2 rfl rfl sy_refl) ?_
  refine sy_Fs (sy_bipush (v := 64) xc38_3 (by decide) (by decide) sy_refl) ?_
  refine sy_Fs (sy_ge_f xc38_5 (by decide) (by decide) (by decide) sy_refl) ?_
  refine sy_Fs (sy_aldn xc38_8 rfl rfl sy_refl) ?_
  refine sy_Fs (sy_gf xc38_9 xf38_18 rfl (wh_at hw 10 rfl) rfl (fh_at hX10 0 rfl rfl) sy_refl) ?_
  refine sy_Fs (sy_ildn xc38_12 rfl rfl sy_refl) ?_
  refine sy_Fs (sy_ildn xc38_13 rfl rfl sy_refl) ?_
  refine sy_Fs (sy_bipush (v := 32) xc38_14 (by decide) (by decide) sy_refl) ?_
  refine sy_Fs (sy_ge_t (pc' := 30) xc38_16 (by decide) (by decide) (by decide) (by decide) sy_refl) ?_
  refine sy_Fs (sy_ildn xc38_30 rfl rfl sy_refl) ?_
  refine sy_Fs (sx_i2b (z := (mn_b v)) xc38_31 rfl) ?_
  refine sy_Fw (i := 11) (x := (1, 1, 64, (pk Sp Mk v 59))) hw (by decide) (sy_bas (i := 58) xc38_32 (wh_at hw 11 rfl) rfl (by decide) (by decide) rfl sy_refl) ?_
  intro w hw
  simp only [List.set_cons_zero, List.set_cons_succ] at hw
  refine sy_Fs (sx_iinc (c := 1) (z := 59) (ls' := [(2, pl 10, 0), (0, v, 0), (2, pl 17, 0), (0, 59, 0)]) xc38_33 rfl (by decide) (by rw [xl38]; rfl) rfl (by decide) rfl) ?_
  refine sy_Fs (sy_goto (pc' := 2) xc38_36 (by decide) (by decide) sy_refl) ?_
  refine sy_Fs (sy_ildn xc38_2 rfl rfl sy_refl) ?_
  refine sy_Fs (sy_bipush (v := 64) xc38_3 (by decide) (by decide) sy_refl) ?_
  refine sy_Fs (sy_ge_f xc38_5 (by decide) (by decide) (by decide) sy_refl) ?_
  refine sy_Fs (sy_aldn xc38_8 rfl rfl sy_refl) ?_
  refine sy_Fs (sy_gf xc38_9 xf38_18 rfl (wh_at hw 10 rfl) rfl (fh_at hX10 0 rfl rfl) sy_refl) ?_
  refine sy_Fs (sy_ildn xc38_12 rfl rfl sy_refl) ?_
  refine sy_Fs (sy_ildn xc38_13 rfl rfl sy_refl) ?_
  refine sy_Fs (sy_bipush (v := 32) xc38_14 (by decide) (by decide) sy_refl) ?_
  refine sy_Fs (sy_ge_t (pc' := 30) xc38_16 (by decide) (by decide) (by decide) (by decide) sy_refl) ?_
  refine sy_Fs (sy_ildn xc38_30 rfl rfl sy_refl) ?_
  refine sy_Fs (sx_i2b (z := (mn_b v)) xc38_31 rfl) ?_
  refine sy_Fw (i := 11) (x := (1, 1, 64, (pk Sp Mk v 60))) hw (by decide) (sy_bas (i := 59) xc38_32 (wh_at hw 11 rfl) rfl (by decide) (by decide) rfl sy_refl) ?_
  intro w hw
  simp only [List.set_cons_zero, List.set_cons_succ] at hw
  refine sy_Fs (sx_iinc (c := 1) (z := 60) (ls' := [(2, pl 10, 0), (0, v, 0), (2, pl 17, 0), (0, 60, 0)]) xc38_33 rfl (by decide) (by rw [xl38]; rfl) rfl (by decide) rfl) ?_
  refine sy_Fs (sy_goto (pc' := 2) xc38_36 (by decide) (by decide) sy_refl) ?_
  refine sy_Fs (sy_ildn xc38_2 rfl rfl sy_refl) ?_
  refine sy_Fs (sy_bipush (v := 64) xc38_3 (by decide) (by decide) sy_refl) ?_
  refine sy_Fs (sy_ge_f xc38_5 (by decide) (by decide) (by decide) sy_refl) ?_
  refine sy_Fs (sy_aldn xc38_8 rfl rfl sy_refl) ?_
  refine sy_Fs (sy_gf xc38_9 xf38_18 rfl (wh_at hw 10 rfl) rfl (fh_at hX10 0 rfl rfl) sy_refl) ?_
  refine sy_Fs (sy_ildn xc38_12 rfl rfl sy_refl) ?_
  refine sy_Fs (sy_ildn xc38_13 rfl rfl sy_refl) ?_
  refine sy_Fs (sy_bipush (v := 32) xc38_14 (by decide) (by decide) sy_refl) ?_
  refine sy_Fs (sy_ge_t (pc' := 30) xc38_16 (by decide) (by decide) (by decide) (by decide) sy_refl) ?_
  refine sy_Fs (sy_ildn xc38_30 rfl rfl sy_refl) ?_
  refine sy_Fs (sx_i2b (z := (mn_b v)) xc38_31 rfl) ?_
  refine sy_Fw (i := 11) (x := (1, 1, 64, (pk Sp Mk v 61))) hw (by decide) (sy_bas (i := 60) xc38_32 (wh_at hw 11 rfl) rfl (by decide) (by decide) rfl sy_refl) ?_
  intro w hw
  simp only [List.set_cons_zero, List.set_cons_succ] at hw
  refine sy_Fs (sx_iinc (c := 1) (z := 61) (ls' := [(2, pl 10, 0), (0, v, 0), (2, pl 17, 0), (0, 61, 0)]) xc38_33 rfl (by decide) (by rw [xl38]; rfl) rfl (by decide) rfl) ?_
  refine sy_Fs (sy_goto (pc' := 2) xc38_36 (by decide) (by decide) sy_refl) ?_
  refine sy_Fs (sy_ildn xc38_2 rfl rfl sy_refl) ?_
  refine sy_Fs (sy_bipush (v := 64) xc38_3 (by decide) (by decide) sy_refl) ?_
  refine sy_Fs (sy_ge_f xc38_5 (by decide) (by decide) (by decide) sy_refl) ?_
  refine sy_Fs (sy_aldn xc38_8 rfl rfl sy_refl) ?_
  refine sy_Fs (sy_gf xc38_9 xf38_18 rfl (wh_at hw 10 rfl) rfl (fh_at hX10 0 rfl rfl) sy_refl) ?_
  refine sy_Fs (sy_ildn xc38_12 rfl rfl sy_refl) ?_
  refine sy_Fs (sy_ildn xc38_13 rfl rfl sy_refl) ?_
  refine sy_Fs (sy_bipush (v := 32) xc38_14 (by decide) (by decide) sy_refl) ?_
  refine sy_Fs (sy_ge_t (pc' := 30) xc38_16 (by decide) (by decide) (by decide) (by decide) sy_refl) ?_
  refine sy_Fs (sy_ildn xc38_30 rfl rfl sy_refl) ?_
  refine sy_Fs (sx_i2b (z := (mn_b v)) xc38_31 rfl) ?_
  refine sy_Fw (i := 11) (x := (1, 1, 64, (pk Sp Mk v 62))) hw (by decide) (sy_bas (i := 61) xc38_32 (wh_at hw 11 rfl) rfl (by decide) (by decide) rfl sy_refl) ?_
  intro w hw
  simp only [List.set_cons_zero, List.set_cons_succ] at hw
  refine sy_Fs (sx_iinc (c := 1) (z := 62) (ls' := [(2, pl 10, 0), (0, v, 0), (2, pl 17, 0), (0, 62, 0)]) xc38_33 rfl (by decide) (by rw [xl38]; rfl) rfl (by decide) rfl) ?_
  refine sy_Fs (sy_goto (pc' := 2) xc38_36 (by decide) (by decide) sy_refl) ?_
  refine sy_Fs (sy_ildn xc38_2 rfl rfl sy_refl) ?_
  refine sy_Fs (sy_bipush (v := 64) xc38_3 (by decide) (by decide) sy_refl) ?_
  refine sy_Fs (sy_ge_f xc38_5 (by decide) (by decide) (by decide) sy_refl) ?_
  refine sy_Fs (sy_aldn xc38_8 rfl rfl sy_refl) ?_
  refine sy_Fs (sy_gf xc38_9 xf38_18 rfl (wh_at hw 10 rfl) rfl (fh_at hX10 0 rfl rfl) sy_refl) ?_
  refine sy_Fs (sy_ildn xc38_12 rfl rfl sy_refl) ?_
  refine sy_Fs (sy_ildn xc38_13 rfl rfl sy_refl) ?_
  refine sy_Fs (sy_bipush (v := 32) xc38_14 (by decide) (by decide) sy_refl) ?_
  refine sy_Fs (sy_ge_t (pc' := 30) xc38_16 (by decide) (by decide) (by decide) (by decide) sy_refl) ?_
  refine sy_Fs (sy_ildn xc38_30 rfl rfl sy_refl) ?_
  refine sy_Fs (sx_i2b (z := (mn_b v)) xc38_31 rfl) ?_
  refine sy_Fw (i := 11) (x := (1, 1, 64, (pk Sp Mk v 63))) hw (by decide) (sy_bas (i := 62) xc38_32 (wh_at hw 11 rfl) rfl (by decide) (by decide) rfl sy_refl) ?_
  intro w hw
  simp only [List.set_cons_zero, List.set_cons_succ] at hw
  refine sy_Fs (sx_iinc (c := 1) (z := 63) (ls' := [(2, pl 10, 0), (0, v, 0), (2, pl 17, 0), (0, 63, 0)]) xc38_33 rfl (by decide) (by rw [xl38]; rfl) rfl (by decide) rfl) ?_
  refine sy_Fs (sy_goto (pc' := 2) xc38_36 (by decide) (by decide) sy_refl) ?_
  refine sy_Fs (sy_ildn xc38_2 rfl rfl sy_refl) ?_
  refine sy_Fs (sy_bipush (v := 64) xc38_3 (by decide) (by decide) sy_refl) ?_
  refine sy_Fs (sy_ge_f xc38_5 (by decide) (by decide) (by decide) sy_refl) ?_
  refine sy_Fs (sy_aldn xc38_8 rfl rfl sy_refl) ?_
  refine sy_Fs (sy_gf xc38_9 xf38_18 rfl (wh_at hw 10 rfl) rfl (fh_at hX10 0 rfl rfl) sy_refl) ?_
  refine sy_Fs (sy_ildn xc38_12 rfl rfl sy_refl) ?_
  refine sy_Fs (sy_ildn xc38_13 rfl rfl sy_refl) ?_
  refine sy_Fs (sy_bipush (v := 32) xc38_14 (by decide) (by decide) sy_refl) ?_
  refine sy_Fs (sy_ge_t (pc' := 30) xc38_16 (by decide) (by decide) (by decide) (by decide) sy_refl) ?_
  refine sy_Fs (sy_ildn xc38_30 rfl rfl sy_refl) ?_
  refine sy_Fs (sx_i2b (z := (mn_b v)) xc38_31 rfl) ?_
  refine sy_Fw (i := 11) (x := (1, 1, 64, (pk Sp Mk v 64))) hw (by decide) (sy_bas (i := 63) xc38_32 (wh_at hw 11 rfl) rfl (by decide) (by decide) rfl sy_refl) ?_
  intro w hw
  simp only [List.set_cons_zero, List.set_cons_succ] at hw
  refine sy_Fs (sx_iinc (c := 1) (z := 64) (ls' := [(2, pl 10, 0), (0, v, 0), (2, pl 17, 0), (0, 64, 0)]) xc38_33 rfl (by decide) (by rw [xl38]; rfl) rfl (by decide) rfl) ?_
  refine sy_Fs (sy_goto (pc' := 2) xc38_36 (by decide) (by decide) sy_refl) ?_
  refine sy_Fs (sy_ildn xc38_2 rfl rfl sy_refl) ?_
  refine sy_Fs (sy_bipush (v := 64) xc38_3 (by decide) (by decide) sy_refl) ?_
  refine sy_Fs (sy_ge_t (pc' := 39) xc38_5 (by decide) (by decide) (by decide) (by decide) sy_refl) ?_
  refine sy_Fs (sy_gst (q := 1) xc38_39 xz38_40 sy_refl) ?_
  refine sy_Fs (sy_iconst (v := 0) xc38_42 (by decide) sy_refl) ?_
  refine sy_Fs (sy_aldn xc38_43 rfl rfl sy_refl) ?_
  refine sy_Fs (sy_gf xc38_44 xf38_9 rfl (wh_at hw 10 rfl) rfl (fh_at hX10 2 rfl rfl) sy_refl) ?_
  refine sy_Fs (sy_iconst (v := 0) xc38_47 (by decide) sy_refl) ?_
  refine sy_Fs (sy_bipush (v := 8) xc38_48 (by decide) (by decide) sy_refl) ?_
  refine sy_Fw (i := 13) (x := (1, 0, 8, (mv_cw 32 Ss (tt_stt 1).2.2 0 0 8))) hw (by decide) (sy_call8 (as := [(6, 1, 0), (0, 0, 0), (2, pl 13, 0), (0, 0, 0), (0, 8, 0)]) (S0 := []) xc38_50 (sy_calS (as := [(6, 1, 0), (0, 0, 0), (2, pl 13, 0), (0, 0, 0), (0, 8, 0)]) (S0 := []) xm38_43 rfl rfl) (sy_cpsi xs1 (wh_at hw 13 rfl) (by first | decide | assumption | omega) (by first | decide | assumption | omega) (by first | decide | assumption | omega) (by first | decide | assumption | omega)) (by decide) (by decide) sy_refl) ?_
  intro w hw
  simp only [List.set_cons_zero, List.set_cons_succ] at hw
  refine sy_Fs (sy_aldn xc38_53 rfl rfl sy_refl) ?_
  obtain ⟨w, X10, Pq1, Wq1, Sq1, uq1, lq1, hC, hwq1, hXq1x, hsu, hsl⟩ := we_cmp (n := n) (s := (su, sl, (pk Sp Mk v 64), Sw, (mv_cw 32 Ss (tt_stt 1).2.2 0 0 8)))  hw rfl rfl rfl rfl hX10 rfl rfl rfl rfl rfl hsl
  refine sy_Fs (sy_callG (kd := 3) (as := [(2, pl 10, 0)]) (S0 := []) (ret := []) xc38_54 (sy_calV (as := [(2, pl 10, 0)]) (S0 := []) xm38_56 rfl rfl) rfl rfl (sy_rcvm xi16 (wh_at hw 10 rfl)) rfl (sy_oka (sy_oks_cons (sy_ok2 (wh_lt hw 10 (by first | decide | assumption))) sy_oks_nil) rfl xl16) hC (by decide) (by rw [xl16]; decide) sy_refl) ?_
  replace hw := hwq1
  replace hX10 := hXq1x
  simp only [List.set_cons_zero, List.set_cons_succ] at hw hX10
  refine sy_Fs (sy_aldn xc38_57 rfl rfl sy_refl) ?_
  refine sy_Fs (sy_gf xc38_58 xf38_9 rfl (wh_at hw 10 rfl) rfl (fh_at hX10 2 rfl rfl) sy_refl) ?_
  refine sy_Fs (sy_iconst (v := 0) xc38_61 (by decide) sy_refl) ?_
  refine sy_Fs (sy_aldn xc38_62 rfl rfl sy_refl) ?_
  refine sy_Fs (sy_iconst (v := 0) xc38_63 (by decide) sy_refl) ?_
  refine sy_Fs (sy_bipush (v := 8) xc38_64 (by decide) (by decide) sy_refl) ?_
  refine sy_Fw (i := 17) (x := (1, 0, 8, (mv_cw 32 Os Sq1 0 0 8))) hw (by decide) (sy_call8 (as := [(2, pl 13, 0), (0, 0, 0), (2, pl 17, 0), (0, 0, 0), (0, 8, 0)]) (S0 := []) xc38_66 (sy_calS (as := [(2, pl 13, 0), (0, 0, 0), (2, pl 17, 0), (0, 0, 0), (0, 8, 0)]) (S0 := []) xm38_43 rfl rfl) (sy_cpi (wh_at hw 13 rfl) (wh_at hw 17 rfl) (by first | decide | assumption | omega) (by first | decide | assumption | omega) (by first | decide | assumption | omega) (by first | decide | assumption | omega)) (by decide) (by decide) sy_refl) ?_
  intro w hw
  simp only [List.set_cons_zero, List.set_cons_succ] at hw
  exact sy_Fv xc38_69 xr38 ⟨rfl, _, _, _, _, _, _, _, ⟨hsu, hsl⟩, hw, hX10⟩
end EM
