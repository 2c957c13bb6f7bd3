/-! THE CLASS'S MINE, II -/
theorem xc21_0 : tt_cd 21 0 = (1, .aload_n 0, 1) := by decide +kernel
theorem xc21_1 : tt_cd 21 1 = (10, .invokespecial 3, 3) := by decide +kernel
theorem xm21_3 : tt_ml 21 3 = (7, 0, 0) := by decide +kernel
theorem xc21_4 : tt_cd 21 4 = (1, .aload_n 0, 1) := by decide +kernel
theorem xc21_5 : tt_cd 21 5 = (2, .iconst 4, 1) := by decide +kernel
theorem xc21_6 : tt_cd 21 6 = (7, .newarray .int, 2) := by decide +kernel
theorem xc21_8 : tt_cd 21 8 = (6, .putfield 9, 3) := by decide +kernel
theorem xf21_9 : tt_fl 21 9 = (1, 10, 5) := by decide +kernel
theorem xg10_5_2 : mv_fit (tt_fty 10 5) (2, 0, 0) = true := by decide +kernel
theorem xh21_9 : (!(tt_ffin 10 5) || (tt_ini 21 && Nat.beq 1 1)) = true := by decide +kernel
theorem xv10_5 : mv_fit (tt_fty 10 5) (2, 0, 0) = true := by decide +kernel
theorem xc21_11 : tt_cd 21 11 = (1, .aload_n 0, 1) := by decide +kernel
theorem xc21_12 : tt_cd 21 12 = (1, .aload_n 1, 1) := by decide +kernel
theorem xc21_13 : tt_cd 21 13 = (6, .putfield 15, 3) := by decide +kernel
theorem xf21_15 : tt_fl 21 15 = (1, 10, 0) := by decide +kernel
theorem xg10_0_2 : mv_fit (tt_fty 10 0) (2, 0, 0) = true := by decide +kernel
theorem xh21_15 : (!(tt_ffin 10 0) || (tt_ini 21 && Nat.beq 1 1)) = true := by decide +kernel
theorem xv10_0 : mv_fit (tt_fty 10 0) (2, 0, 0) = true := by decide +kernel
theorem xc21_16 : tt_cd 21 16 = (1, .aload_n 0, 1) := by decide +kernel
theorem xc21_17 : tt_cd 21 17 = (1, .iload_n 2, 1) := by decide +kernel
theorem xc21_18 : tt_cd 21 18 = (6, .putfield 19, 3) := by decide +kernel
theorem xf21_19 : tt_fl 21 19 = (1, 10, 3) := by decide +kernel
theorem xh21_19 : (!(tt_ffin 10 3) || (tt_ini 21 && Nat.beq 1 1)) = true := by decide +kernel
theorem xt10_3 : tt_fty 10 3 = .int := by decide +kernel
theorem xc21_21 : tt_cd 21 21 = (1, .aload_n 0, 1) := by decide +kernel
theorem xc21_22 : tt_cd 21 22 = (1, .aload_n 3, 1) := by decide +kernel
theorem xc21_23 : tt_cd 21 23 = (6, .putfield 23, 3) := by decide +kernel
theorem xf21_23 : tt_fl 21 23 = (1, 10, 4) := by decide +kernel
theorem xg10_4_2 : mv_fit (tt_fty 10 4) (2, 0, 0) = true := by decide +kernel
theorem xh21_23 : (!(tt_ffin 10 4) || (tt_ini 21 && Nat.beq 1 1)) = true := by decide +kernel
theorem xv10_4 : mv_fit (tt_fty 10 4) (2, 0, 0) = true := by decide +kernel
theorem xc21_26 : tt_cd 21 26 = (1, .aload_n 0, 1) := by decide +kernel
theorem xc21_27 : tt_cd 21 27 = (1, .aload_n 1, 1) := by decide +kernel
theorem xc21_28 : tt_cd 21 28 = (2, .iconst 0, 1) := by decide +kernel
theorem xc21_29 : tt_cd 21 29 = (3, .baload, 1) := by decide +kernel
theorem xc21_30 : tt_cd 21 30 = (6, .putfield 26, 3) := by decide +kernel
theorem xf21_26 : tt_fl 21 26 = (1, 10, 1) := by decide +kernel
theorem xh21_26 : (!(tt_ffin 10 1) || (tt_ini 21 && Nat.beq 1 1)) = true := by decide +kernel
theorem xt10_1 : tt_fty 10 1 = .int := by decide +kernel
theorem xc21_33 : tt_cd 21 33 = (1, .aload_n 0, 1) := by decide +kernel
theorem xc21_34 : tt_cd 21 34 = (1, .iload_n 2, 1) := by decide +kernel
theorem xc21_35 : tt_cd 21 35 = (1, .aload_n 0, 1) := by decide +kernel
theorem xc21_36 : tt_cd 21 36 = (3, .getfield 26, 3) := by decide +kernel
theorem xc21_39 : tt_cd 21 39 = (10, .invokestatic 29, 3) := by decide +kernel
theorem xm21_29 : tt_ml 21 29 = (1, 22, 1) := by decide +kernel
theorem xc21_42 : tt_cd 21 42 = (2, .isub, 1) := by decide +kernel
theorem xc21_43 : tt_cd 21 43 = (4, .bipush 24, 2) := by decide +kernel
theorem xc21_45 : tt_cd 21 45 = (2, .idiv, 1) := by decide +kernel
theorem xc21_46 : tt_cd 21 46 = (6, .putfield 33, 3) := by decide +kernel
theorem xf21_33 : tt_fl 21 33 = (1, 10, 2) := by decide +kernel
theorem xh21_33 : (!(tt_ffin 10 2) || (tt_ini 21 && Nat.beq 1 1)) = true := by decide +kernel
theorem xt10_2 : tt_fty 10 2 = .int := by decide +kernel
theorem xc21_49 : tt_cd 21 49 = (9, .return_, 1) := by decide +kernel
theorem xr21 : tt_mr 21 = 0 := by decide +kernel
theorem xc12_0 : tt_cd 12 0 = (4, .bipush 32, 2) := by decide +kernel
theorem xc12_2 : tt_cd 12 2 = (7, .newarray .byte, 2) := by decide +kernel
theorem xc12_4 : tt_cd 12 4 = (1, .astore_n 3, 1) := by decide +kernel
theorem xl12 : tt_mL 12 = 4 := by decide +kernel
theorem xc12_5 : tt_cd 12 5 = (1, .aload_n 2, 1) := by decide +kernel
theorem xc12_6 : tt_cd 12 6 = (1, .aload_n 0, 1) := by decide +kernel
theorem xc12_7 : tt_cd 12 7 = (2, .iconst 0, 1) := by decide +kernel
theorem xc12_8 : tt_cd 12 8 = (1, .iload_n 1, 1) := by decide +kernel
theorem xc12_9 : tt_cd 12 9 = (1, .aload_n 3, 1) := by decide +kernel
theorem xc12_10 : tt_cd 12 10 = (10, .invokevirtual 36, 3) := by decide +kernel
theorem xm12_36 : tt_ml 12 36 = (3, 13, 4) := by decide +kernel
theorem xc12_13 : tt_cd 12 13 = (7, .new 10, 3) := by decide +kernel
theorem xo12_10 : tt_nl 12 10 = (11, 6) := by decide +kernel
theorem xc12_16 : tt_cd 12 16 = (2, .dup, 1) := by decide +kernel
theorem xc12_17 : tt_cd 12 17 = (1, .aload_n 0, 1) := by decide +kernel
theorem xc12_18 : tt_cd 12 18 = (1, .iload_n 1, 1) := by decide +kernel
theorem xc12_19 : tt_cd 12 19 = (1, .aload_n 3, 1) := by decide +kernel
theorem xc12_20 : tt_cd 12 20 = (10, .invokespecial 42, 3) := by decide +kernel
theorem xm12_42 : tt_ml 12 42 = (5, 21, 3) := by decide +kernel
theorem xi21 : tt_mci 21 = 10 := by decide +kernel
theorem xl21 : tt_mL 21 = 4 := by decide +kernel
theorem xc12_23 : tt_cd 12 23 = (9, .areturn, 1) := by decide +kernel
theorem xr12 : tt_mr 12 = 3 := by decide +kernel
theorem xc10_0 : tt_cd 10 0 = (4, .bipush 28, 2) := by decide +kernel
theorem xc10_2 : tt_cd 10 2 = (7, .newarray .byte, 2) := by decide +kernel
theorem xc10_4 : tt_cd 10 4 = (1, .astore_n 3, 1) := by decide +kernel
theorem xl10 : tt_mL 10 = 4 := by decide +kernel
theorem xc10_5 : tt_cd 10 5 = (1, .aload_n 3, 1) := by decide +kernel
theorem xc10_6 : tt_cd 10 6 = (2, .iconst 1, 1) := by decide +kernel
theorem xc10_7 : tt_cd 10 7 = (1, .iload_n 1, 1) := by decide +kernel
theorem xc10_8 : tt_cd 10 8 = (4, .bipush 8, 2) := by decide +kernel
theorem xc10_10 : tt_cd 10 10 = (2, .ishr, 1) := by decide +kernel
theorem xc10_11 : tt_cd 10 11 = (2, .i2b, 1) := by decide +kernel
theorem xc10_12 : tt_cd 10 12 = (6, .bastore, 1) := by decide +kernel
theorem xc10_13 : tt_cd 10 13 = (1, .aload_n 3, 1) := by decide +kernel
theorem xc10_14 : tt_cd 10 14 = (2, .iconst 2, 1) := by decide +kernel
theorem xc10_15 : tt_cd 10 15 = (1, .iload_n 1, 1) := by decide +kernel
theorem xc10_16 : tt_cd 10 16 = (2, .i2b, 1) := by decide +kernel
theorem xc10_17 : tt_cd 10 17 = (6, .bastore, 1) := by decide +kernel
theorem xc10_18 : tt_cd 10 18 = (1, .aload_n 3, 1) := by decide +kernel
theorem xc10_19 : tt_cd 10 19 = (2, .iconst 3, 1) := by decide +kernel
theorem xc10_20 : tt_cd 10 20 = (2, .iconst 1, 1) := by decide +kernel
theorem xc10_21 : tt_cd 10 21 = (6, .bastore, 1) := by decide +kernel
theorem xc10_22 : tt_cd 10 22 = (4, .sipush 1000, 3) := by decide +kernel
theorem xc10_25 : tt_cd 10 25 = (1, .aload_n 3, 1) := by decide +kernel
theorem xc10_26 : tt_cd 10 26 = (2, .iconst 4, 1) := by decide +kernel
theorem xc10_27 : tt_cd 10 27 = (10, .invokestatic 108, 3) := by decide +kernel
theorem xm10_108 : tt_ml 10 108 = (2, 11, 3) := by decide +kernel
theorem xl11 : tt_mL 11 = 3 := by decide +kernel
theorem xc10_30 : tt_cd 10 30 = (1, .aload_n 2, 1) := by decide +kernel
theorem xc10_31 : tt_cd 10 31 = (2, .iconst 0, 1) := by decide +kernel
theorem xc10_32 : tt_cd 10 32 = (1, .aload_n 3, 1) := by decide +kernel
theorem xc10_33 : tt_cd 10 33 = (4, .bipush 8, 2) := by decide +kernel
theorem xc10_35 : tt_cd 10 35 = (4, .bipush 20, 2) := by decide +kernel
theorem xc10_37 : tt_cd 10 37 = (10, .invokestatic 98, 3) := by decide +kernel
theorem xm10_98 : tt_ml 10 98 = (8, 0, 5) := by decide +kernel
theorem xs0 : ((tt_stt 0).1, (tt_stt 0).2.1) = (1, 20) := by decide +kernel
theorem xc10_40 : tt_cd 10 40 = (1, .aload_n 3, 1) := by decide +kernel
theorem xc10_41 : tt_cd 10 41 = (4, .bipush 28, 2) := by decide +kernel
theorem xc10_43 : tt_cd 10 43 = (1, .aload_n 0, 1) := by decide +kernel
theorem xc10_44 : tt_cd 10 44 = (3, .getfield 36, 3) := by decide +kernel
theorem xf10_36 : tt_fl 10 36 = (1, 8, 0) := by decide +kernel
theorem xc10_47 : tt_cd 10 47 = (10, .invokestatic 62, 3) := by decide +kernel
theorem xm10_62 : tt_ml 10 62 = (1, 12, 3) := by decide +kernel
theorem xc10_50 : tt_cd 10 50 = (9, .areturn, 1) := by decide +kernel
theorem xr10 : tt_mr 10 = 3 := by decide +kernel
section AB
variable {k n fr lo pc : Nat} {ls S : List mv_V} {w : mv_T 10}
theorem sy_cps {q pb qa qb B sp dp m : Nat} {S0 : List mv_V} (hs : ((tt_stt q).1, (tt_stt q).2.1) = (1, qa)) (hb : mv_get 10 w pb = (1, 1, qb, B)) (h1 : sp + m ≤ qa) (h2 : dp + m ≤ qb) (hqa : qa ≤ 2147483647) (hqb : qb ≤ 2147483647) (hab : mv_ab (tt_stt q).2.2 sp m = true) : mv_c8 tt_tl tt_stt 0 [(6, q, 0), (0, sp, 0), (2, pb, 0), (0, dp, 0), (0, m, 0)] S0 w = some (S0, mv_set 10 w pb (1, 1, qb, mv_cw 32 B (tt_stt q).2.2 sp dp m)) := by
  have e1 : (tt_stt q).1 = 1 := congrArg Prod.fst hs
  have e2 : (tt_stt q).2.1 = qa := congrArg Prod.snd hs
  have a1 : Nat.ble (sp + m) (tt_stt q).2.1 = true := by rw [e2]; exact Nat.ble_eq_true_of_le h1
  have a2 : Nat.ble (dp + m) qb = true := Nat.ble_eq_true_of_le h2
  have a3 : Nat.blt (sp + m) 2147483648 = true := by rw [Nat.blt_eq]; omega
  have a4 : Nat.blt (dp + m) 2147483648 = true := by rw [Nat.blt_eq]; omega
  show (bif Nat.beq 0 0 then (bif Nat.beq 2 2 then (bif Nat.beq 6 2 then (mv_cp tt_tl (mv_get 10 w q) (mv_get 10 w pb) (0, sp, 0) (0, dp, 0) (0, m, 0)).map (fun z => mv_set 10 w pb z) else bif Nat.beq 6 6 then (mv_cp tt_tl (1, tt_stt q) (mv_get 10 w pb) (0, sp, 0) (0, dp, 0) (0, m, 0)).map (fun z => mv_set 10 w pb z) else none) else none).map (fun w' => (S0, w')) else _) = _
  have e : mv_cp tt_tl (1, tt_stt q) (mv_get 10 w pb) (0, sp, 0) (0, dp, 0) (0, m, 0) = some (1, 1, qb, mv_cw 32 B (tt_stt q).2.2 sp dp m) := by
    rw [hb]
    unfold mv_cp
    dsimp only
    rw [e1, a1, a2, a3, a4, hab]
    rfl
  show ((mv_cp tt_tl (1, tt_stt q) (mv_get 10 w pb) (0, sp, 0) (0, dp, 0) (0, m, 0)).map (fun z => mv_set 10 w pb z)).map (fun w' => (S0, w')) = _
  rw [e]
  rfl
theorem ab_of {T s : Nat} : ∀ m, (∀ j, j < m → mv_rd 32 T (s + j) < 128 ∨ 4294967168 ≤ mv_rd 32 T (s + j)) → mv_ab T s m = true
  | 0, _ => rfl
  | m + 1, h => by
    show ((Nat.blt (mv_rd 32 T (s + m)) 128 || Nat.ble 4294967168 (mv_rd 32 T (s + m))) && mv_ab T s m) = true
    rw [ab_of m (fun j hj => h j (by omega))]
    have := h m (by omega)
    simp only [Bool.and_true, Bool.or_eq_true, Nat.blt_eq, Nat.ble_eq]
    exact this
theorem bk_D_ok (St m : Nat) : bk_D St m < 128 ∨ 4294967168 ≤ bk_D St m := by
  unfold bk_D
  generalize mo_ushr (mv_rd 32 St (m / 4)) (24 - 8 * (m % 4)) = x
  unfold mn_b
  omega
theorem ab_D {T St : Nat} (h : ∀ j, j < 32 → mv_rd 32 T j = bk_D St j) : mv_ab T 0 32 = true := ab_of 32 (fun j hj => by rw [Nat.zero_add, h j hj]; exact bk_D_ok _ _)
end AB
section DB
variable {n : Nat} {pl : Nat → Nat} {w0 w : mv_T 10} {X0 X1 cbs X3 Hd Id Ids Ads Br Dg X10 Sp Sw Ss In Mk Is Os Ks Kp ac su sl kl : Nat}
theorem cd_hb : sy_D 22 n 0 0 [(0, 0, 0)] w (fun ret w' => ret = [(0, 4, 0)] ∧ w' = w) := by
  refine sy_Dof (us := []) (sy_oks_cons (sy_ok0 (by decide)) sy_oks_nil) rfl rfl ?_
  show sy_F 22 n 0 0 0 [(0, 0, 0)] [] w _
  refine sy_Fs (sy_ildn xc22_0 rfl rfl sy_refl) ?_
  refine sy_Fs (sy_ifne_f xc22_1 (by decide) (by decide) sy_refl) ?_
  refine sy_Fs (sy_iconst (v := 4) xc22_4 (by decide) sy_refl) ?_
  refine sy_Fs (sy_goto (pc' := 14) xc22_5 (by decide) (by decide) sy_refl) ?_
  exact sy_Fi xc22_14 xr22 rfl ⟨rfl, rfl⟩
theorem cd_pi {X20 X26 Mb Ti : Nat} (hw : wh 30 pl w0 w [(0, 1, 13, X0), (0, 8, 11, X1), (3, 6, 40, cbs), (0, 9, 11, X3), (1, 1, 105, Hd), (1, 1, 32, Id), (1, 1, 128, Ids), (1, 1, 480, Ads), (1, 1, 32, Br), (1, 1, 32, Dg), (0, 2, 13, X10), (1, 1, 64, Sp), (1, 0, 64, Sw), (1, 0, 8, Ss), (1, 1, 32, In), (1, 1, 32, Mk), (1, 0, 8, Is), (1, 0, 8, Os), (1, 0, 8, Ks), (1, 1, 64, Kp), (0, 9, 11, X20), (1, 1, 105, 0), (1, 1, 32, 0), (3, 7, 4, 0), (1, 1, 28, Mb), (1, 1, 32, Ti), (0, 10, 6, X26)]) (hX0 : fh X0 kX [(2, pl 1, 0), (0, 0, 0)]) (hX1 : fh X1 kM [(0, 1, 0), (2, pl 2, 0), (0, 0, 0), (2, pl 10, 0), (2, pl 6, 0), (2, pl 7, 0), (0, ac, 0), (2, pl 8, 0), (2, pl 9, 0)]) (hX3 : fh X3 kB [(2, pl 5, 0), (2, pl 4, 0), (0, 0, 0), (0, 4, 0), (3, 0, 0)]) (hX10 : fh X10 kS [(2, pl 11, 0), (2, pl 12, 0), (2, pl 13, 0), (2, pl 14, 0), (0, su, 0), (0, sl, 0), (2, pl 15, 0), (2, pl 16, 0), (2, pl 17, 0), (0, 1, 0), (2, pl 18, 0), (2, pl 19, 0), (0, kl, 0)]) (hX20 : fh X20 kN [(2, pl 3, 0), (0, 1, 0), (0, 1, 0), (0, 0, 0), (2, pl 21, 0), (2, pl 22, 0), (2, pl 23, 0), (0, 0, 0), (3, 0, 0), (0, 0, 0), (3, 0, 0)]) (hX26 : fh X26 kP [(3, 0, 0), (0, 0, 0), (0, 0, 0), (0, 0, 0), (3, 0, 0), (3, 0, 0)]) (hp20 : pl 20 + 1 = pl 21) (hp21 : pl 21 + 1 = pl 22) (hp22 : pl 22 + 1 = pl 23) (hp23 : pl 23 + 1 = pl 24) (hp24 : pl 24 + 1 = pl 25) (hp25 : pl 25 + 1 = pl 26) (hp26 : pl 26 + 1 = pl 27) (hp27 : pl 27 + 1 = pl 28) (hp28 : pl 28 + 1 = pl 29) (hp29 : pl 29 + 1 = pl 30) (hm0 : mv_rd 32 Mb 0 = 0) : ∃ ret n' w' dc ds, (ret = [] ∧ n' = pl 28 ∧ dc = 1 ∧ ds = 4 ∧ ∃ Y26 : Nat, wh 30 pl w0 w' [(0, 1, 13, X0), (0, 8, 11, X1), (3, 6, 40, cbs), (0, 9, 11, X3), (1, 1, 105, Hd), (1, 1, 32, Id), (1, 1, 128, Ids), (1, 1, 480, Ads), (1, 1, 32, Br), (1, 1, 32, Dg), (0, 2, 13, X10), (1, 1, 64, Sp), (1, 0, 64, Sw), (1, 0, 8, Ss), (1, 1, 32, In), (1, 1, 32, Mk), (1, 0, 8, Is), (1, 0, 8, Os), (1, 0, 8, Ks), (1, 1, 64, Kp), (0, 9, 11, X20), (1, 1, 105, 0), (1, 1, 32, 0), (3, 7, 4, 0), (1, 1, 28, Mb), (1, 1, 32, Ti), (0, 10, 6, Y26), (1, 0, 4, 0)] ∧ fh Y26 kP [(2, pl 24, 0), (0, 0, 0), (0, 1, 0), (0, 28, 0), (2, pl 25, 0), (2, pl 27, 0)]) ∧ sy_B 21 (pl 27) 1 20 [(2, pl 26, 0), (2, pl 24, 0), (0, 28, 0), (2, pl 25, 0)] w ret n' w' dc ds := by
  have key : sy_A 21 (pl 27) 1 20 0 [(2, pl 26, 0), (2, pl 24, 0), (0, 28, 0), (2, pl 25, 0)] [] w (fun ret n' w' dc ds => ret = [] ∧ n' = pl 28 ∧ dc = 1 ∧ ds = 4 ∧ ∃ Y26 : Nat, wh 30 pl w0 w' [(0, 1, 13, X0), (0, 8, 11, X1), (3, 6, 40, cbs), (0, 9, 11, X3), (1, 1, 105, Hd), (1, 1, 32, Id), (1, 1, 128, Ids), (1, 1, 480, Ads), (1, 1, 32, Br), (1, 1, 32, Dg), (0, 2, 13, X10), (1, 1, 64, Sp), (1, 0, 64, Sw), (1, 0, 8, Ss), (1, 1, 32, In), (1, 1, 32, Mk), (1, 0, 8, Is), (1, 0, 8, Os), (1, 0, 8, Ks), (1, 1, 64, Kp), (0, 9, 11, X20), (1, 1, 105, 0), (1, 1, 32, 0), (3, 7, 4, 0), (1, 1, 28, Mb), (1, 1, 32, Ti), (0, 10, 6, Y26), (1, 0, 4, 0)] ∧ fh Y26 kP [(2, pl 24, 0), (0, 0, 0), (0, 1, 0), (0, 28, 0), (2, pl 25, 0), (2, pl 27, 0)]) := by
    refine sy_As (sy_aldn xc21_0 rfl rfl sy_refl) ?_
    refine sy_As (sy_objI xc21_1 xm21_3 rfl (by decide) (by decide) sy_refl) ?_
    refine sy_As (sy_aldn xc21_4 rfl rfl sy_refl) ?_
    refine sy_As (sy_iconst (v := 4) xc21_5 (by decide) sy_refl) ?_
    refine ap_i (K := 27) hw rfl (by decide) hp27 xc21_6 (by decide) ?_
    intro w hw
    simp only [List.cons_append, List.nil_append] at hw
    refine sy_Af (i := 26) (q := 5) (v := (2, pl 27, 0)) hw hX26 (by decide) (by decide) rfl (sy_ok2 (wh_lt hw 27 (by first | decide | assumption))) (sx_pf xc21_8 xf21_9 rfl (xg_ref xv10_5) xh21_9 (wh_at hw 26 rfl) rfl (sy_ok2 (wh_lt hw 27 (by first | decide | assumption))) rfl sy_refl) ?_
    intro w X26 hw hX26
    simp only [List.set_cons_zero, List.set_cons_succ] at hw hX26
    refine sy_As (sy_aldn xc21_11 rfl rfl sy_refl) ?_
    refine sy_As (sy_aldn xc21_12 rfl rfl sy_refl) ?_
    refine sy_Af (i := 26) (q := 0) (v := (2, pl 24, 0)) hw hX26 (by decide) (by decide) rfl (sy_ok2 (wh_lt hw 24 (by first | decide | assumption))) (sx_pf xc21_13 xf21_15 rfl (xg_ref xv10_0) xh21_15 (wh_at hw 26 rfl) rfl (sy_ok2 (wh_lt hw 24 (by first | decide | assumption))) rfl sy_refl) ?_
    intro w X26 hw hX26
    simp only [List.set_cons_zero, List.set_cons_succ] at hw hX26
    refine sy_As (sy_aldn xc21_16 rfl rfl sy_refl) ?_
    refine sy_As (sy_ildn xc21_17 rfl rfl sy_refl) ?_
    refine sy_Af (i := 26) (q := 3) (v := (0, 28, 0)) hw hX26 (by decide) (by decide) rfl (sy_ok0 (by first | decide | assumption | omega | exact mo_rd_lt _ _ | exact mo_add_lt _ _ | exact mo_sub_lt _ _ | exact mo_mul_lt _ _ | exact mo_shl_lt _ _ | exact mo_ushr_lt _ _ | exact mo_or_lt (by decide) (mo_and_lt (mo_rd_lt _ _)) | exact mo_or_lt (mo_shl_lt _ _) (mo_and_lt (mo_rd_lt _ _)))) (sx_pf xc21_18 xf21_19 rfl (xg_int xt10_3) xh21_19 (wh_at hw 26 rfl) rfl (sy_ok0 (by first | decide | assumption | omega | exact mo_rd_lt _ _ | exact mo_add_lt _ _ | exact mo_sub_lt _ _ | exact mo_mul_lt _ _ | exact mo_shl_lt _ _ | exact mo_ushr_lt _ _ | exact mo_or_lt (by decide) (mo_and_lt (mo_rd_lt _ _)) | exact mo_or_lt (mo_shl_lt _ _) (mo_and_lt (mo_rd_lt _ _)))) rfl sy_refl) ?_
    intro w X26 hw hX26
    simp only [List.set_cons_zero, List.set_cons_succ] at hw hX26
    refine sy_As (sy_aldn xc21_21 rfl rfl sy_refl) ?_
    refine sy_As (sy_aldn xc21_22 rfl rfl sy_refl) ?_
    refine sy_Af (i := 26) (q := 4) (v := (2, pl 25, 0)) hw hX26 (by decide) (by decide) rfl (sy_ok2 (wh_lt hw 25 (by first | decide | assumption))) (sx_pf xc21_23 xf21_23 rfl (xg_ref xv10_4) xh21_23 (wh_at hw 26 rfl) rfl (sy_ok2 (wh_lt hw 25 (by first | decide | assumption))) rfl sy_refl) ?_
    intro w X26 hw hX26
    simp only [List.set_cons_zero, List.set_cons_succ] at hw hX26
    refine sy_As (sy_aldn xc21_26 rfl rfl sy_refl) ?_
    refine sy_As (sy_aldn xc21_27 rfl rfl sy_refl) ?_
    refine sy_As (sy_iconst (v := 0) xc21_28 (by decide) sy_refl) ?_
    refine sy_As (sx_bal (z := 0) xc21_29 (wh_at hw 24 rfl) (by decide) (by decide) hm0) ?_
    refine sy_Af (i := 26) (q := 1) (v := (0, 0, 0)) hw hX26 (by decide) (by decide) rfl (sy_ok0 (by first | decide | assumption | omega | exact mo_rd_lt _ _ | exact mo_add_lt _ _ | exact mo_sub_lt _ _ | exact mo_mul_lt _ _ | exact mo_shl_lt _ _ | exact mo_ushr_lt _ _ | exact mo_or_lt (by decide) (mo_and_lt (mo_rd_lt _ _)) | exact mo_or_lt (mo_shl_lt _ _) (mo_and_lt (mo_rd_lt _ _)))) (sx_pf xc21_30 xf21_26 rfl (xg_int xt10_1) xh21_26 (wh_at hw 26 rfl) rfl (sy_ok0 (by first | decide | assumption | omega | exact mo_rd_lt _ _ | exact mo_add_lt _ _ | exact mo_sub_lt _ _ | exact mo_mul_lt _ _ | exact mo_shl_lt _ _ | exact mo_ushr_lt _ _ | exact mo_or_lt (by decide) (mo_and_lt (mo_rd_lt _ _)) | exact mo_or_lt (mo_shl_lt _ _) (mo_and_lt (mo_rd_lt _ _)))) rfl sy_refl) ?_
    intro w X26 hw hX26
    simp only [List.set_cons_zero, List.set_cons_succ] at hw hX26
    refine sy_As (sy_aldn xc21_33 rfl rfl sy_refl) ?_
    refine sy_As (sy_ildn xc21_34 rfl rfl sy_refl) ?_
    refine sy_As (sy_aldn xc21_35 rfl rfl sy_refl) ?_
    refine sy_As (sy_gf xc21_36 xf21_26 rfl (wh_at hw 26 rfl) rfl (fh_at hX26 1 rfl rfl) sy_refl) ?_
    refine sy_As (sy_callG (kd := 1) (as := [(0, 0, 0)]) (S0 := [(0, 28, 0), (2, pl 26, 0)]) (ret := [(0, 4, 0)]) xc21_39 (sy_calS (as := [(0, 0, 0)]) (S0 := [(0, 28, 0), (2, pl 26, 0)]) xm21_29 rfl rfl) rfl rfl rfl rfl (sy_oka (sy_oks_cons (sy_ok0 (by first | decide | assumption | omega | exact mo_rd_lt _ _ | exact mo_add_lt _ _ | exact mo_sub_lt _ _ | exact mo_mul_lt _ _ | exact mo_shl_lt _ _ | exact mo_ushr_lt _ _ | exact mo_or_lt (by decide) (mo_and_lt (mo_rd_lt _ _)) | exact mo_or_lt (mo_shl_lt _ _) (mo_and_lt (mo_rd_lt _ _)))) sy_oks_nil) rfl xl22) (sy_Cw (cd_hb (n := pl 28))) (by decide) (by rw [xl22]; decide) sy_refl) ?_
    refine sy_As (sx_isub (z := 24) xc21_42 (by decide)) ?_
    refine sy_As (sy_bipush (v := 24) xc21_43 (by decide) (by decide) sy_refl) ?_
    refine sy_As (sx_idiv (z := 1) xc21_45 (by decide) (by decide)) ?_
    refine sy_Af (i := 26) (q := 2) (v := (0, 1, 0)) hw hX26 (by decide) (by decide) rfl (sy_ok0 (by first | decide | assumption | omega | exact mo_rd_lt _ _ | exact mo_add_lt _ _ | exact mo_sub_lt _ _ | exact mo_mul_lt _ _ | exact mo_shl_lt _ _ | exact mo_ushr_lt _ _ | exact mo_or_lt (by decide) (mo_and_lt (mo_rd_lt _ _)) | exact mo_or_lt (mo_shl_lt _ _) (mo_and_lt (mo_rd_lt _ _)))) (sx_pf xc21_46 xf21_33 rfl (xg_int xt10_2) xh21_33 (wh_at hw 26 rfl) rfl (sy_ok0 (by first | decide | assumption | omega | exact mo_rd_lt _ _ | exact mo_add_lt _ _ | exact mo_sub_lt _ _ | exact mo_mul_lt _ _ | exact mo_shl_lt _ _ | exact mo_ushr_lt _ _ | exact mo_or_lt (by decide) (mo_and_lt (mo_rd_lt _ _)) | exact mo_or_lt (mo_shl_lt _ _) (mo_and_lt (mo_rd_lt _ _)))) rfl sy_refl) ?_
    intro w X26 hw hX26
    simp only [List.set_cons_zero, List.set_cons_succ] at hw hX26
    exact sy_Av xc21_49 xr21 ⟨rfl, rfl, rfl, rfl, X26, hw, hX26⟩
  exact sy_Aof (us := []) (sy_oks_cons (sy_ok2 (wh_lt hw 26 (by first | decide | assumption))) (sy_oks_cons (sy_ok2 (wh_lt hw 24 (by first | decide | assumption))) (sy_oks_cons (sy_ok0 (by first | decide | assumption | omega | exact mo_rd_lt _ _ | exact mo_add_lt _ _ | exact mo_sub_lt _ _ | exact mo_mul_lt _ _ | exact mo_shl_lt _ _ | exact mo_ushr_lt _ _ | exact mo_or_lt (by decide) (mo_and_lt (mo_rd_lt _ _)) | exact mo_or_lt (mo_shl_lt _ _) (mo_and_lt (mo_rd_lt _ _)))) (sy_oks_cons (sy_ok2 (wh_lt hw 25 (by first | decide | assumption))) sy_oks_nil)))) rfl rfl key
theorem cd_of {X20 Mb : Nat} (hw : wh 30 pl w0 w [(0, 1, 13, X0), (0, 8, 11, X1), (3, 6, 40, cbs), (0, 9, 11, X3), (1, 1, 105, Hd), (1, 1, 32, Id), (1, 1, 128, Ids), (1, 1, 480, Ads), (1, 1, 32, Br), (1, 1, 32, Dg), (0, 2, 13, X10), (1, 1, 64, Sp), (1, 0, 64, Sw), (1, 0, 8, Ss), (1, 1, 32, In), (1, 1, 32, Mk), (1, 0, 8, Is), (1, 0, 8, Os), (1, 0, 8, Ks), (1, 1, 64, Kp), (0, 9, 11, X20), (1, 1, 105, 0), (1, 1, 32, 0), (3, 7, 4, 0), (1, 1, 28, Mb)]) (hX0 : fh X0 kX [(2, pl 1, 0), (0, 0, 0)]) (hX1 : fh X1 kM [(0, 1, 0), (2, pl 2, 0), (0, 0, 0), (2, pl 10, 0), (2, pl 6, 0), (2, pl 7, 0), (0, ac, 0), (2, pl 8, 0), (2, pl 9, 0)]) (hX3 : fh X3 kB [(2, pl 5, 0), (2, pl 4, 0), (0, 0, 0), (0, 4, 0), (3, 0, 0)]) (hX10 : fh X10 kS [(2, pl 11, 0), (2, pl 12, 0), (2, pl 13, 0), (2, pl 14, 0), (0, su, 0), (0, sl, 0), (2, pl 15, 0), (2, pl 16, 0), (2, pl 17, 0), (0, 1, 0), (2, pl 18, 0), (2, pl 19, 0), (0, kl, 0)]) (hX20 : fh X20 kN [(2, pl 3, 0), (0, 1, 0), (0, 1, 0), (0, 0, 0), (2, pl 21, 0), (2, pl 22, 0), (2, pl 23, 0), (0, 0, 0), (3, 0, 0), (0, 0, 0), (3, 0, 0)]) (hp20 : pl 20 + 1 = pl 21) (hp21 : pl 21 + 1 = pl 22) (hp22 : pl 22 + 1 = pl 23) (hp23 : pl 23 + 1 = pl 24) (hp24 : pl 24 + 1 = pl 25) (hp25 : pl 25 + 1 = pl 26) (hp26 : pl 26 + 1 = pl 27) (hp27 : pl 27 + 1 = pl 28) (hp28 : pl 28 + 1 = pl 29) (hp29 : pl 29 + 1 = pl 30) (hm0 : mv_rd 32 Mb 0 = 0) : ∃ ret n' w' dc ds, (ret = [(2, pl 26, 0)] ∧ n' = pl 28 ∧ dc = 3 ∧ ds = 42 ∧ ∃ X10 P1 W1 S1 I1 T1 X26 u1 l1 : Nat, (mv_ab T1 0 32 = true ∧ u1 < 64 ∧ l1 < 4294967296) ∧ wh 30 pl w0 w' [(0, 1, 13, X0), (0, 8, 11, X1), (3, 6, 40, cbs), (0, 9, 11, X3), (1, 1, 105, Hd), (1, 1, 32, Id), (1, 1, 128, Ids), (1, 1, 480, Ads), (1, 1, 32, Br), (1, 1, 32, Dg), (0, 2, 13, X10), (1, 1, 64, P1), (1, 0, 64, W1), (1, 0, 8, S1), (1, 1, 32, I1), (1, 1, 32, Mk), (1, 0, 8, Is), (1, 0, 8, Os), (1, 0, 8, Ks), (1, 1, 64, Kp), (0, 9, 11, X20), (1, 1, 105, 0), (1, 1, 32, 0), (3, 7, 4, 0), (1, 1, 28, Mb), (1, 1, 32, T1), (0, 10, 6, X26), (1, 0, 4, 0)] ∧ fh X10 kS [(2, pl 11, 0), (2, pl 12, 0), (2, pl 13, 0), (2, pl 14, 0), (0, u1, 0), (0, l1, 0), (2, pl 15, 0), (2, pl 16, 0), (2, pl 17, 0), (0, 1, 0), (2, pl 18, 0), (2, pl 19, 0), (0, kl, 0)] ∧ fh X26 kP [(2, pl 24, 0), (0, 0, 0), (0, 1, 0), (0, 28, 0), (2, pl 25, 0), (2, pl 27, 0)]) ∧ sy_B 12 (pl 25) 5 115 [(2, pl 24, 0), (0, 28, 0), (2, pl 10, 0)] w ret n' w' dc ds := by
  have key : sy_A 12 (pl 25) 5 115 0 [(2, pl 24, 0), (0, 28, 0), (2, pl 10, 0), (255, 0, 0)] [] w (fun ret n' w' dc ds => ret = [(2, pl 26, 0)] ∧ n' = pl 28 ∧ dc = 3 ∧ ds = 42 ∧ ∃ X10 P1 W1 S1 I1 T1 X26 u1 l1 : Nat, (mv_ab T1 0 32 = true ∧ u1 < 64 ∧ l1 < 4294967296) ∧ wh 30 pl w0 w' [(0, 1, 13, X0), (0, 8, 11, X1), (3, 6, 40, cbs), (0, 9, 11, X3), (1, 1, 105, Hd), (1, 1, 32, Id), (1, 1, 128, Ids), (1, 1, 480, Ads), (1, 1, 32, Br), (1, 1, 32, Dg), (0, 2, 13, X10), (1, 1, 64, P1), (1, 0, 64, W1), (1, 0, 8, S1), (1, 1, 32, I1), (1, 1, 32, Mk), (1, 0, 8, Is), (1, 0, 8, Os), (1, 0, 8, Ks), (1, 1, 64, Kp), (0, 9, 11, X20), (1, 1, 105, 0), (1, 1, 32, 0), (3, 7, 4, 0), (1, 1, 28, Mb), (1, 1, 32, T1), (0, 10, 6, X26), (1, 0, 4, 0)] ∧ fh X10 kS [(2, pl 11, 0), (2, pl 12, 0), (2, pl 13, 0), (2, pl 14, 0), (0, u1, 0), (0, l1, 0), (2, pl 15, 0), (2, pl 16, 0), (2, pl 17, 0), (0, 1, 0), (2, pl 18, 0), (2, pl 19, 0), (0, kl, 0)] ∧ fh X26 kP [(2, pl 24, 0), (0, 0, 0), (0, 1, 0), (0, 28, 0), (2, pl 25, 0), (2, pl 27, 0)]) := by
    refine sy_As (sy_bipush (v := 32) xc12_0 (by decide) (by decide) sy_refl) ?_
    refine ap_b (K := 25) hw rfl (by decide) hp25 xc12_2 (by decide) ?_
    intro w hw
    simp only [List.cons_append, List.nil_append] at hw
    refine sy_As (sx_astn (j := 3) (ls' := [(2, pl 24, 0), (0, 28, 0), (2, pl 10, 0), (2, pl 25, 0)]) xc12_4 rfl rfl (sy_ok2 (wh_lt hw 25 (by first | decide | assumption))) (by rw [xl12]; rfl) rfl rfl) ?_
    refine sy_As (sy_aldn xc12_5 rfl rfl sy_refl) ?_
    refine sy_As (sy_aldn xc12_6 rfl rfl sy_refl) ?_
    refine sy_As (sy_iconst (v := 0) xc12_7 (by decide) sy_refl) ?_
    refine sy_As (sy_ildn xc12_8 rfl rfl sy_refl) ?_
    refine sy_As (sy_aldn xc12_9 rfl rfl sy_refl) ?_
    obtain ⟨w, X10, P1, W1, S1, I1, T1, u1, l1, hC, hw1, hX1x, ⟨hsu, hsl⟩, hT1⟩ := wd_hash (n := pl 26) (s := (su, sl, Sp, Sw, Ss)) (fa := 0) (nn := 28) (it := 25) (jf := 24) (f := fun j => mv_rd 32 Mb (0 + j)) hw rfl rfl rfl rfl hX10 rfl rfl rfl rfl rfl rfl rfl (by decide) (by decide) rfl (by first | decide | assumption | omega) (by first | decide | assumption | omega) (by decide) (by decide) rfl (by first | decide | assumption | omega) (by first | decide | assumption | omega) (fun j _ => rfl) (by first | decide | assumption | omega)
    refine sy_As (sy_callG (kd := 3) (as := [(2, pl 10, 0), (2, pl 24, 0), (0, 0, 0), (0, 28, 0), (2, pl 25, 0)]) (S0 := []) (ret := []) xc12_10 (sy_calV (as := [(2, pl 10, 0), (2, pl 24, 0), (0, 0, 0), (0, 28, 0), (2, pl 25, 0)]) (S0 := []) xm12_36 rfl rfl) rfl rfl (sy_rcvm xi13 (wh_at hw 10 rfl)) rfl (sy_oka (sy_oks_cons (sy_ok2 (wh_lt hw 10 (by first | decide | assumption))) (sy_oks_cons (sy_ok2 (wh_lt hw 24 (by first | decide | assumption))) (sy_oks_cons (sy_ok0 (by first | decide | assumption | omega | exact mo_rd_lt _ _ | exact mo_add_lt _ _ | exact mo_sub_lt _ _ | exact mo_mul_lt _ _ | exact mo_shl_lt _ _ | exact mo_ushr_lt _ _ | exact mo_or_lt (by decide) (mo_and_lt (mo_rd_lt _ _)) | exact mo_or_lt (mo_shl_lt _ _) (mo_and_lt (mo_rd_lt _ _)))) (sy_oks_cons (sy_ok0 (by first | decide | assumption | omega | exact mo_rd_lt _ _ | exact mo_add_lt _ _ | exact mo_sub_lt _ _ | exact mo_mul_lt _ _ | exact mo_shl_lt _ _ | exact mo_ushr_lt _ _ | exact mo_or_lt (by decide) (mo_and_lt (mo_rd_lt _ _)) | exact mo_or_lt (mo_shl_lt _ _) (mo_and_lt (mo_rd_lt _ _)))) (sy_oks_cons (sy_ok2 (wh_lt hw 25 (by first | decide | assumption))) sy_oks_nil))))) rfl xl13) hC (by decide) (by rw [xl13]; decide) sy_refl) ?_
    replace hw := hw1
    replace hX10 := hX1x
    simp only [List.set_cons_zero, List.set_cons_succ] at hw hX10
    refine ap_o (K := 26) hw rfl (by decide) hp26 xc12_13 xo12_10 ?_
    intro w hw
    simp only [List.cons_append, List.nil_append] at hw
    have hX26 := kP_0
    refine sy_As (sy_dup xc12_16 rfl sy_refl) ?_
    refine sy_As (sy_aldn xc12_17 rfl rfl sy_refl) ?_
    refine sy_As (sy_ildn xc12_18 rfl rfl sy_refl) ?_
    refine sy_As (sy_aldn xc12_19 rfl rfl sy_refl) ?_
    obtain ⟨ret, n1, w, dc1, ds1, ⟨rfl, rfl, rfl, rfl, X26, hw1, hX1x⟩, hB⟩ := cd_pi hw hX0 hX1 hX3 hX10 hX20 hX26 hp20 hp21 hp22 hp23 hp24 hp25 hp26 hp27 hp28 hp29 hm0
    refine sy_Acall (kd := 5) (as := [(2, pl 26, 0), (2, pl 24, 0), (0, 28, 0), (2, pl 25, 0)]) (S0 := [(2, pl 26, 0)]) (ret := []) xc12_20 (sy_calI (as := [(2, pl 26, 0), (2, pl 24, 0), (0, 28, 0), (2, pl 25, 0)]) (S0 := [(2, pl 26, 0)]) xm12_42 rfl rfl) rfl rfl (sy_rcvm xi21 (wh_at hw 26 rfl)) rfl (sy_oka (sy_oks_cons (sy_ok2 (wh_lt hw 26 (by first | decide | assumption))) (sy_oks_cons (sy_ok2 (wh_lt hw 24 (by first | decide | assumption))) (sy_oks_cons (sy_ok0 (by first | decide | assumption | omega | exact mo_rd_lt _ _ | exact mo_add_lt _ _ | exact mo_sub_lt _ _ | exact mo_mul_lt _ _ | exact mo_shl_lt _ _ | exact mo_ushr_lt _ _ | exact mo_or_lt (by decide) (mo_and_lt (mo_rd_lt _ _)) | exact mo_or_lt (mo_shl_lt _ _) (mo_and_lt (mo_rd_lt _ _)))) (sy_oks_cons (sy_ok2 (wh_lt hw 25 (by first | decide | assumption))) sy_oks_nil)))) rfl xl21) hB (by decide) (by rw [xl21]; decide) ?_
    simp only [List.nil_append, List.cons_append]
    replace hw := hw1
    replace hX26 := hX1x
    exact sy_Aa xc12_23 xr12 rfl ⟨rfl, rfl, rfl, rfl, X10, P1, W1, S1, I1, T1, X26, u1, l1, ⟨ab_D (fun j hj => by rw [hT1 j, if_pos (by omega)]; rfl), hsu, hsl⟩, hw, hX10, hX26⟩
  exact sy_Aof (us := [(255, 0, 0)]) (sy_oks_cons (sy_ok2 (wh_lt hw 24 (by first | decide | assumption))) (sy_oks_cons (sy_ok0 (by first | decide | assumption | omega | exact mo_rd_lt _ _ | exact mo_add_lt _ _ | exact mo_sub_lt _ _ | exact mo_mul_lt _ _ | exact mo_shl_lt _ _ | exact mo_ushr_lt _ _ | exact mo_or_lt (by decide) (mo_and_lt (mo_rd_lt _ _)) | exact mo_or_lt (mo_shl_lt _ _) (mo_and_lt (mo_rd_lt _ _)))) (sy_oks_cons (sy_ok2 (wh_lt hw 10 (by first | decide | assumption))) sy_oks_nil))) rfl rfl key
noncomputable def mb : Nat := mv_cw 32 (su_4 (mv_wr 32 (mv_wr 32 (mv_wr 32 0 1 (mn_b 4294967296)) 2 (mn_b 4294967297)) 3 (mn_b 1)) 4 1000) (tt_stt 0).2.2 0 8 20
theorem mb_0 : mv_rd 32 mb 0 = 0 := by decide +kernel
theorem nb_ab : mv_ab (tt_stt 0).2.2 0 20 = true := by decide +kernel
theorem cd_mm {X20 : Nat} (hw : wh 30 pl w0 w [(0, 1, 13, X0), (0, 8, 11, X1), (3, 6, 40, cbs), (0, 9, 11, X3), (1, 1, 105, Hd), (1, 1, 32, Id), (1, 1, 128, Ids), (1, 1, 480, Ads), (1, 1, 32, Br), (1, 1, 32, Dg), (0, 2, 13, X10), (1, 1, 64, Sp), (1, 0, 64, Sw), (1, 0, 8, Ss), (1, 1, 32, In), (1, 1, 32, Mk), (1, 0, 8, Is), (1, 0, 8, Os), (1, 0, 8, Ks), (1, 1, 64, Kp), (0, 9, 11, X20), (1, 1, 105, 0), (1, 1, 32, 0), (3, 7, 4, 0)]) (hX0 : fh X0 kX [(2, pl 1, 0), (0, 0, 0)]) (hX1 : fh X1 kM [(0, 1, 0), (2, pl 2, 0), (0, 0, 0), (2, pl 10, 0), (2, pl 6, 0), (2, pl 7, 0), (0, ac, 0), (2, pl 8, 0), (2, pl 9, 0)]) (hX3 : fh X3 kB [(2, pl 5, 0), (2, pl 4, 0), (0, 0, 0), (0, 4, 0), (3, 0, 0)]) (hX10 : fh X10 kS [(2, pl 11, 0), (2, pl 12, 0), (2, pl 13, 0), (2, pl 14, 0), (0, su, 0), (0, sl, 0), (2, pl 15, 0), (2, pl 16, 0), (2, pl 17, 0), (0, 1, 0), (2, pl 18, 0), (2, pl 19, 0), (0, kl, 0)]) (hX20 : fh X20 kN [(2, pl 3, 0), (0, 1, 0), (0, 1, 0), (0, 0, 0), (2, pl 21, 0), (2, pl 22, 0), (2, pl 23, 0), (0, 0, 0), (3, 0, 0), (0, 0, 0), (3, 0, 0)]) (hp20 : pl 20 + 1 = pl 21) (hp21 : pl 21 + 1 = pl 22) (hp22 : pl 22 + 1 = pl 23) (hp23 : pl 23 + 1 = pl 24) (hp24 : pl 24 + 1 = pl 25) (hp25 : pl 25 + 1 = pl 26) (hp26 : pl 26 + 1 = pl 27) (hp27 : pl 27 + 1 = pl 28) (hp28 : pl 28 + 1 = pl 29) (hp29 : pl 29 + 1 = pl 30)  : ∃ ret n' w' dc ds, (ret = [(2, pl 26, 0)] ∧ n' = pl 28 ∧ dc = 4 ∧ ds = 70 ∧ ∃ X10 P1 W1 S1 I1 T1 X26 u1 l1 : Nat, (mv_ab T1 0 32 = true ∧ u1 < 64 ∧ l1 < 4294967296) ∧ wh 30 pl w0 w' [(0, 1, 13, X0), (0, 8, 11, X1), (3, 6, 40, cbs), (0, 9, 11, X3), (1, 1, 105, Hd), (1, 1, 32, Id), (1, 1, 128, Ids), (1, 1, 480, Ads), (1, 1, 32, Br), (1, 1, 32, Dg), (0, 2, 13, X10), (1, 1, 64, P1), (1, 0, 64, W1), (1, 0, 8, S1), (1, 1, 32, I1), (1, 1, 32, Mk), (1, 0, 8, Is), (1, 0, 8, Os), (1, 0, 8, Ks), (1, 1, 64, Kp), (0, 9, 11, X20), (1, 1, 105, 0), (1, 1, 32, 0), (3, 7, 4, 0), (1, 1, 28, mb), (1, 1, 32, T1), (0, 10, 6, X26), (1, 0, 4, 0)] ∧ fh X10 kS [(2, pl 11, 0), (2, pl 12, 0), (2, pl 13, 0), (2, pl 14, 0), (0, u1, 0), (0, l1, 0), (2, pl 15, 0), (2, pl 16, 0), (2, pl 17, 0), (0, 1, 0), (2, pl 18, 0), (2, pl 19, 0), (0, kl, 0)] ∧ fh X26 kP [(2, pl 24, 0), (0, 0, 0), (0, 1, 0), (0, 28, 0), (2, pl 25, 0), (2, pl 27, 0)]) ∧ sy_B 10 (pl 24) 6 138 [(2, pl 1, 0), (0, 1, 0), (6, 0, 0)] w ret n' w' dc ds := by
  have key : sy_A 10 (pl 24) 6 138 0 [(2, pl 1, 0), (0, 1, 0), (6, 0, 0), (255, 0, 0)] [] w (fun ret n' w' dc ds => ret = [(2, pl 26, 0)] ∧ n' = pl 28 ∧ dc = 4 ∧ ds = 70 ∧ ∃ X10 P1 W1 S1 I1 T1 X26 u1 l1 : Nat, (mv_ab T1 0 32 = true ∧ u1 < 64 ∧ l1 < 4294967296) ∧ wh 30 pl w0 w' [(0, 1, 13, X0), (0, 8, 11, X1), (3, 6, 40, cbs), (0, 9, 11, X3), (1, 1, 105, Hd), (1, 1, 32, Id), (1, 1, 128, Ids), (1, 1, 480, Ads), (1, 1, 32, Br), (1, 1, 32, Dg), (0, 2, 13, X10), (1, 1, 64, P1), (1, 0, 64, W1), (1, 0, 8, S1), (1, 1, 32, I1), (1, 1, 32, Mk), (1, 0, 8, Is), (1, 0, 8, Os), (1, 0, 8, Ks), (1, 1, 64, Kp), (0, 9, 11, X20), (1, 1, 105, 0), (1, 1, 32, 0), (3, 7, 4, 0), (1, 1, 28, mb), (1, 1, 32, T1), (0, 10, 6, X26), (1, 0, 4, 0)] ∧ fh X10 kS [(2, pl 11, 0), (2, pl 12, 0), (2, pl 13, 0), (2, pl 14, 0), (0, u1, 0), (0, l1, 0), (2, pl 15, 0), (2, pl 16, 0), (2, pl 17, 0), (0, 1, 0), (2, pl 18, 0), (2, pl 19, 0), (0, kl, 0)] ∧ fh X26 kP [(2, pl 24, 0), (0, 0, 0), (0, 1, 0), (0, 28, 0), (2, pl 25, 0), (2, pl 27, 0)]) := by
    refine sy_As (sy_bipush (v := 28) xc10_0 (by decide) (by decide) sy_refl) ?_
    refine ap_b (K := 24) hw rfl (by decide) hp24 xc10_2 (by decide) ?_
    intro w hw
    simp only [List.cons_append, List.nil_append] at hw
    refine sy_As (sx_astn (j := 3) (ls' := [(2, pl 1, 0), (0, 1, 0), (6, 0, 0), (2, pl 24, 0)]) xc10_4 rfl rfl (sy_ok2 (wh_lt hw 24 (by first | decide | assumption))) (by rw [xl10]; rfl) rfl rfl) ?_
    refine sy_As (sy_aldn xc10_5 rfl rfl sy_refl) ?_
    refine sy_As (sy_iconst (v := 1) xc10_6 (by decide) sy_refl) ?_
    refine sy_As (sy_ildn xc10_7 rfl rfl sy_refl) ?_
    refine sy_As (sy_bipush (v := 8) xc10_8 (by decide) (by decide) sy_refl) ?_
    refine sy_As (sx_ishr (z := 0) xc10_10 (by decide)) ?_
    refine sy_As (sx_i2b (z := 4294967296) xc10_11 (by decide)) ?_
    refine sy_Aw (i := 24) (x := (1, 1, 28, (mv_wr 32 0 1 (mn_b 4294967296)))) hw (by decide) (sy_bas (i := 1) xc10_12 (wh_at hw 24 rfl) rfl (by decide) (by decide) rfl sy_refl) ?_
    intro w hw
    simp only [List.set_cons_zero, List.set_cons_succ] at hw
    refine sy_As (sy_aldn xc10_13 rfl rfl sy_refl) ?_
    refine sy_As (sy_iconst (v := 2) xc10_14 (by decide) sy_refl) ?_
    refine sy_As (sy_ildn xc10_15 rfl rfl sy_refl) ?_
    refine sy_As (sx_i2b (z := 4294967297) xc10_16 (by decide)) ?_
    refine sy_Aw (i := 24) (x := (1, 1, 28, (mv_wr 32 (mv_wr 32 0 1 (mn_b 4294967296)) 2 (mn_b 4294967297)))) hw (by decide) (sy_bas (i := 2) xc10_17 (wh_at hw 24 rfl) rfl (by decide) (by decide) rfl sy_refl) ?_
    intro w hw
    simp only [List.set_cons_zero, List.set_cons_succ] at hw
    refine sy_As (sy_aldn xc10_18 rfl rfl sy_refl) ?_
    refine sy_As (sy_iconst (v := 3) xc10_19 (by decide) sy_refl) ?_
    refine sy_As (sy_iconst (v := 1) xc10_20 (by decide) sy_refl) ?_
    refine sy_Aw (i := 24) (x := (1, 1, 28, (mv_wr 32 (mv_wr 32 (mv_wr 32 0 1 (mn_b 4294967296)) 2 (mn_b 4294967297)) 3 (mn_b 1)))) hw (by decide) (sy_bas (i := 3) xc10_21 (wh_at hw 24 rfl) rfl (by decide) (by decide) rfl sy_refl) ?_
    intro w hw
    simp only [List.set_cons_zero, List.set_cons_succ] at hw
    refine sy_As (sy_sipush (v := 1000) xc10_22 (by decide) (by decide) sy_refl) ?_
    refine sy_As (sy_aldn xc10_25 rfl rfl sy_refl) ?_
    refine sy_As (sy_iconst (v := 4) xc10_26 (by decide) sy_refl) ?_
    refine sy_Aw (i := 24) (x := (1, 1, 28, (su_4 (mv_wr 32 (mv_wr 32 (mv_wr 32 0 1 (mn_b 4294967296)) 2 (mn_b 4294967297)) 3 (mn_b 1)) 4 1000))) hw (by decide) (sy_callG (kd := 2) (as := [(0, 1000, 0), (2, pl 24, 0), (0, 4, 0)]) (S0 := []) (ret := []) xc10_27 (sy_calS (as := [(0, 1000, 0), (2, pl 24, 0), (0, 4, 0)]) (S0 := []) xm10_108 rfl rfl) rfl rfl rfl rfl (sy_oka (sy_oks_cons (sy_ok0 (by first | decide | assumption | omega | exact mo_rd_lt _ _ | exact mo_add_lt _ _ | exact mo_sub_lt _ _ | exact mo_mul_lt _ _ | exact mo_shl_lt _ _ | exact mo_ushr_lt _ _ | exact mo_or_lt (by decide) (mo_and_lt (mo_rd_lt _ _)) | exact mo_or_lt (mo_shl_lt _ _) (mo_and_lt (mo_rd_lt _ _)))) (sy_oks_cons (sy_ok2 (wh_lt hw 24 (by first | decide | assumption))) (sy_oks_cons (sy_ok0 (by first | decide | assumption | omega | exact mo_rd_lt _ _ | exact mo_add_lt _ _ | exact mo_sub_lt _ _ | exact mo_mul_lt _ _ | exact mo_shl_lt _ _ | exact mo_ushr_lt _ _ | exact mo_or_lt (by decide) (mo_and_lt (mo_rd_lt _ _)) | exact mo_or_lt (mo_shl_lt _ _) (mo_and_lt (mo_rd_lt _ _)))) sy_oks_nil))) rfl xl11) (su_run (wh_lt hw 24 (by first | decide | assumption)) (wh_at hw 24 rfl) (by first | decide | assumption | omega) (by first | decide | assumption | omega) (by first | decide | assumption | omega | exact mo_rd_lt _ _ | exact mo_add_lt _ _ | exact mo_sub_lt _ _ | exact mo_mul_lt _ _ | exact mo_shl_lt _ _ | exact mo_ushr_lt _ _ | exact mo_or_lt (by decide) (mo_and_lt (mo_rd_lt _ _)) | exact mo_or_lt (mo_shl_lt _ _) (mo_and_lt (mo_rd_lt _ _)))) (by decide) (by rw [xl11]; decide) sy_refl) ?_
    intro w hw
    simp only [List.set_cons_zero, List.set_cons_succ] at hw
    refine sy_As (sy_aldn xc10_30 rfl rfl sy_refl) ?_
    refine sy_As (sy_iconst (v := 0) xc10_31 (by decide) sy_refl) ?_
    refine sy_As (sy_aldn xc10_32 rfl rfl sy_refl) ?_
    refine sy_As (sy_bipush (v := 8) xc10_33 (by decide) (by decide) sy_refl) ?_
    refine sy_As (sy_bipush (v := 20) xc10_35 (by decide) (by decide) sy_refl) ?_
    refine sy_Aw (i := 24) (x := (1, 1, 28, mb)) hw (by decide) (sy_call8 (as := [(6, 0, 0), (0, 0, 0), (2, pl 24, 0), (0, 8, 0), (0, 20, 0)]) (S0 := []) xc10_37 (sy_calS (as := [(6, 0, 0), (0, 0, 0), (2, pl 24, 0), (0, 8, 0), (0, 20, 0)]) (S0 := []) xm10_98 rfl rfl) (sy_cps xs0 (wh_at hw 24 rfl) (by first | decide | assumption | omega) (by first | decide | assumption | omega) (by first | decide | assumption | omega) (by first | decide | assumption | omega) nb_ab) (by decide) (by decide) sy_refl) ?_
    intro w hw
    simp only [List.set_cons_zero, List.set_cons_succ] at hw
    refine sy_As (sy_aldn xc10_40 rfl rfl sy_refl) ?_
    refine sy_As (sy_bipush (v := 28) xc10_41 (by decide) (by decide) sy_refl) ?_
    refine sy_As (sy_aldn xc10_43 rfl rfl sy_refl) ?_
    refine sy_As (sy_gf xc10_44 xf10_36 rfl (wh_at hw 1 rfl) rfl (fh_at hX1 3 rfl rfl) sy_refl) ?_
    obtain ⟨ret, n1, w, dc1, ds1, ⟨rfl, rfl, rfl, rfl, X10, P1, W1, S1, I1, T1, X26, u1, l1, hT1, hw1, hX10x, hX26⟩, hB⟩ := cd_of hw hX0 hX1 hX3 hX10 hX20 hp20 hp21 hp22 hp23 hp24 hp25 hp26 hp27 hp28 hp29 mb_0
    refine sy_Acall (kd := 1) (as := [(2, pl 24, 0), (0, 28, 0), (2, pl 10, 0)]) (S0 := []) (ret := [(2, pl 26, 0)]) xc10_47 (sy_calS (as := [(2, pl 24, 0), (0, 28, 0), (2, pl 10, 0)]) (S0 := []) xm10_62 rfl rfl) rfl rfl rfl rfl (sy_oka (sy_oks_cons (sy_ok2 (wh_lt hw 24 (by first | decide | assumption))) (sy_oks_cons (sy_ok0 (by first | decide | assumption | omega | exact mo_rd_lt _ _ | exact mo_add_lt _ _ | exact mo_sub_lt _ _ | exact mo_mul_lt _ _ | exact mo_shl_lt _ _ | exact mo_ushr_lt _ _ | exact mo_or_lt (by decide) (mo_and_lt (mo_rd_lt _ _)) | exact mo_or_lt (mo_shl_lt _ _) (mo_and_lt (mo_rd_lt _ _)))) (sy_oks_cons (sy_ok2 (wh_lt hw 10 (by first | decide | assumption))) sy_oks_nil))) rfl xl12) hB (by decide) (by rw [xl12]; decide) ?_
    simp only [List.nil_append, List.cons_append]
    replace hw := hw1
    replace hX10 := hX10x
    exact sy_Aa xc10_50 xr10 rfl ⟨rfl, rfl, rfl, rfl, X10, P1, W1, S1, I1, T1, X26, u1, l1, hT1, hw, hX10, hX26⟩
  exact sy_Aof (us := [(255, 0, 0)]) (sy_oks_cons (sy_ok2 (wh_lt hw 1 (by first | decide | assumption))) (sy_oks_cons (sy_ok0 (by first | decide | assumption | omega | exact mo_rd_lt _ _ | exact mo_add_lt _ _ | exact mo_sub_lt _ _ | exact mo_mul_lt _ _ | exact mo_shl_lt _ _ | exact mo_ushr_lt _ _ | exact mo_or_lt (by decide) (mo_and_lt (mo_rd_lt _ _)) | exact mo_or_lt (mo_shl_lt _ _) (mo_and_lt (mo_rd_lt _ _)))) (sy_oks_cons (by decide) sy_oks_nil))) rfl rfl key
end DB
