/-! THE CLASS'S MINE, VII -/
theorem xc47_0 : tt_cd 47 0 = (1, .aload_n 0, 1) := by decide +kernel
theorem xc47_1 : tt_cd 47 1 = (3, .getfield 9, 3) := by decide +kernel
theorem xf47_9 : tt_fl 47 9 = (1, 2, 0) := by decide +kernel
theorem xc47_4 : tt_cd 47 4 = (2, .iconst 0, 1) := by decide +kernel
theorem xc47_5 : tt_cd 47 5 = (1, .aload_n 0, 1) := by decide +kernel
theorem xc47_6 : tt_cd 47 6 = (3, .getfield 34, 3) := by decide +kernel
theorem xf47_34 : tt_fl 47 34 = (1, 2, 8) := by decide +kernel
theorem xc47_9 : tt_cd 47 9 = (2, .iconst 0, 1) := by decide +kernel
theorem xc47_10 : tt_cd 47 10 = (4, .bipush 8, 2) := by decide +kernel
theorem xc47_12 : tt_cd 47 12 = (10, .invokestatic 43, 3) := by decide +kernel
theorem xm47_43 : tt_ml 47 43 = (8, 0, 5) := by decide +kernel
theorem xc47_15 : tt_cd 47 15 = (1, .aload_n 0, 1) := by decide +kernel
theorem xc47_16 : tt_cd 47 16 = (3, .getfield 18, 3) := by decide +kernel
theorem xf47_18 : tt_fl 47 18 = (1, 2, 2) := by decide +kernel
theorem xc47_19 : tt_cd 47 19 = (2, .iconst 0, 1) := by decide +kernel
theorem xc47_20 : tt_cd 47 20 = (1, .aload_n 0, 1) := by decide +kernel
theorem xc47_21 : tt_cd 47 21 = (3, .getfield 37, 3) := by decide +kernel
theorem xf47_37 : tt_fl 47 37 = (1, 2, 9) := by decide +kernel
theorem xc47_24 : tt_cd 47 24 = (2, .iconst 0, 1) := by decide +kernel
theorem xc47_25 : tt_cd 47 25 = (4, .bipush 64, 2) := by decide +kernel
theorem xc47_27 : tt_cd 47 27 = (10, .invokestatic 43, 3) := by decide +kernel
theorem xc47_30 : tt_cd 47 30 = (1, .aload_n 0, 1) := by decide +kernel
theorem xc47_31 : tt_cd 47 31 = (1, .aload_n 0, 1) := by decide +kernel
theorem xc47_32 : tt_cd 47 32 = (3, .getfield 53, 3) := by decide +kernel
theorem xf47_53 : tt_fl 47 53 = (1, 2, 12) := by decide +kernel
theorem xc47_35 : tt_cd 47 35 = (6, .putfield 84, 3) := by decide +kernel
theorem xf47_84 : tt_fl 47 84 = (1, 2, 10) := by decide +kernel
theorem xh47_84 : (!(tt_ffin 2 10) || (tt_ini 47 && Nat.beq 1 1)) = true := by decide +kernel
theorem xt2_10 : tt_fty 2 10 = .int := by decide +kernel
theorem xc47_38 : tt_cd 47 38 = (9, .return_, 1) := by decide +kernel
theorem xr47 : tt_mr 47 = 0 := by decide +kernel
theorem xc48_0 : tt_cd 48 0 = (1, .aload_n 0, 1) := by decide +kernel
theorem xc48_1 : tt_cd 48 1 = (3, .getfield 34, 3) := by decide +kernel
theorem xf48_34 : tt_fl 48 34 = (1, 2, 8) := by decide +kernel
theorem xc48_4 : tt_cd 48 4 = (2, .iconst 0, 1) := by decide +kernel
theorem xc48_5 : tt_cd 48 5 = (1, .aload_n 0, 1) := by decide +kernel
theorem xc48_6 : tt_cd 48 6 = (3, .getfield 9, 3) := by decide +kernel
theorem xf48_9 : tt_fl 48 9 = (1, 2, 0) := by decide +kernel
theorem xc48_9 : tt_cd 48 9 = (2, .iconst 0, 1) := by decide +kernel
theorem xc48_10 : tt_cd 48 10 = (4, .bipush 8, 2) := by decide +kernel
theorem xc48_12 : tt_cd 48 12 = (10, .invokestatic 43, 3) := by decide +kernel
theorem xm48_43 : tt_ml 48 43 = (8, 0, 5) := by decide +kernel
theorem xc48_15 : tt_cd 48 15 = (1, .aload_n 0, 1) := by decide +kernel
theorem xc48_16 : tt_cd 48 16 = (3, .getfield 37, 3) := by decide +kernel
theorem xf48_37 : tt_fl 48 37 = (1, 2, 9) := by decide +kernel
theorem xc48_19 : tt_cd 48 19 = (2, .iconst 0, 1) := by decide +kernel
theorem xc48_20 : tt_cd 48 20 = (1, .aload_n 0, 1) := by decide +kernel
theorem xc48_21 : tt_cd 48 21 = (3, .getfield 18, 3) := by decide +kernel
theorem xf48_18 : tt_fl 48 18 = (1, 2, 2) := by decide +kernel
theorem xc48_24 : tt_cd 48 24 = (2, .iconst 0, 1) := by decide +kernel
theorem xc48_25 : tt_cd 48 25 = (4, .bipush 64, 2) := by decide +kernel
theorem xc48_27 : tt_cd 48 27 = (10, .invokestatic 43, 3) := by decide +kernel
theorem xc48_30 : tt_cd 48 30 = (1, .aload_n 0, 1) := by decide +kernel
theorem xc48_31 : tt_cd 48 31 = (1, .aload_n 0, 1) := by decide +kernel
theorem xc48_32 : tt_cd 48 32 = (3, .getfield 84, 3) := by decide +kernel
theorem xf48_84 : tt_fl 48 84 = (1, 2, 10) := by decide +kernel
theorem xc48_35 : tt_cd 48 35 = (6, .putfield 53, 3) := by decide +kernel
theorem xf48_53 : tt_fl 48 53 = (1, 2, 12) := by decide +kernel
theorem xh48_53 : (!(tt_ffin 2 12) || (tt_ini 48 && Nat.beq 1 1)) = true := by decide +kernel
theorem xc48_38 : tt_cd 48 38 = (1, .aload_n 0, 1) := by decide +kernel
theorem xc48_39 : tt_cd 48 39 = (1, .aload_n 0, 1) := by decide +kernel
theorem xc48_40 : tt_cd 48 40 = (3, .getfield 53, 3) := by decide +kernel
theorem xc48_43 : tt_cd 48 43 = (4, .bipush 64, 2) := by decide +kernel
theorem xc48_45 : tt_cd 48 45 = (2, .irem, 1) := by decide +kernel
theorem xc48_46 : tt_cd 48 46 = (6, .putfield 49, 3) := by decide +kernel
theorem xf48_49 : tt_fl 48 49 = (1, 2, 11) := by decide +kernel
theorem xh48_49 : (!(tt_ffin 2 11) || (tt_ini 48 && Nat.beq 1 1)) = true := by decide +kernel
theorem xc48_49 : tt_cd 48 49 = (9, .return_, 1) := by decide +kernel
theorem xr48 : tt_mr 48 = 0 := by decide +kernel
theorem xc50_0 : tt_cd 50 0 = (1, .aload_n 0, 1) := by decide +kernel
theorem xc50_1 : tt_cd 50 1 = (3, .getfield 18, 3) := by decide +kernel
theorem xf50_18 : tt_fl 50 18 = (1, 2, 2) := by decide +kernel
theorem xc50_4 : tt_cd 50 4 = (1, .aload_n 0, 1) := by decide +kernel
theorem xc50_5 : tt_cd 50 5 = (3, .getfield 49, 3) := by decide +kernel
theorem xf50_49 : tt_fl 50 49 = (1, 2, 11) := by decide +kernel
theorem xc50_8 : tt_cd 50 8 = (1, .iload_n 1, 1) := by decide +kernel
theorem xc50_9 : tt_cd 50 9 = (2, .i2b, 1) := by decide +kernel
theorem xc50_10 : tt_cd 50 10 = (6, .bastore, 1) := by decide +kernel
theorem xc50_11 : tt_cd 50 11 = (1, .aload_n 0, 1) := by decide +kernel
theorem xc50_12 : tt_cd 50 12 = (2, .dup, 1) := by decide +kernel
theorem xc50_13 : tt_cd 50 13 = (3, .getfield 49, 3) := by decide +kernel
theorem xc50_16 : tt_cd 50 16 = (2, .iconst 1, 1) := by decide +kernel
theorem xc50_17 : tt_cd 50 17 = (2, .iadd, 1) := by decide +kernel
theorem xc50_18 : tt_cd 50 18 = (6, .putfield 49, 3) := by decide +kernel
theorem xh50_49 : (!(tt_ffin 2 11) || (tt_ini 50 && Nat.beq 1 1)) = true := by decide +kernel
theorem xc50_21 : tt_cd 50 21 = (1, .aload_n 0, 1) := by decide +kernel
theorem xc50_22 : tt_cd 50 22 = (2, .dup, 1) := by decide +kernel
theorem xc50_23 : tt_cd 50 23 = (3, .getfield 53, 3) := by decide +kernel
theorem xf50_53 : tt_fl 50 53 = (1, 2, 12) := by decide +kernel
theorem xc50_26 : tt_cd 50 26 = (2, .iconst 1, 1) := by decide +kernel
theorem xc50_27 : tt_cd 50 27 = (2, .iadd, 1) := by decide +kernel
theorem xc50_28 : tt_cd 50 28 = (6, .putfield 53, 3) := by decide +kernel
theorem xh50_53 : (!(tt_ffin 2 12) || (tt_ini 50 && Nat.beq 1 1)) = true := by decide +kernel
theorem xc50_31 : tt_cd 50 31 = (1, .aload_n 0, 1) := by decide +kernel
theorem xc50_32 : tt_cd 50 32 = (3, .getfield 49, 3) := by decide +kernel
theorem xc50_35 : tt_cd 50 35 = (4, .bipush 64, 2) := by decide +kernel
theorem xc50_37 : tt_cd 50 37 = (5, .if_icmp .ne 7, 3) := by decide +kernel
theorem xc50_44 : tt_cd 50 44 = (9, .return_, 1) := by decide +kernel
theorem xr50 : tt_mr 50 = 0 := by decide +kernel
theorem xc49_0 : tt_cd 49 0 = (1, .aload_n 0, 1) := by decide +kernel
theorem xc49_1 : tt_cd 49 1 = (1, .iload_n 1, 1) := by decide +kernel
theorem xc49_2 : tt_cd 49 2 = (4, .bipush 24, 2) := by decide +kernel
theorem xc49_4 : tt_cd 49 4 = (2, .ishr, 1) := by decide +kernel
theorem xc49_5 : tt_cd 49 5 = (10, .invokevirtual 59, 3) := by decide +kernel
theorem xm49_59 : tt_ml 49 59 = (3, 50, 1) := by decide +kernel
theorem xi50 : tt_mci 50 = 2 := by decide +kernel
theorem xl50 : tt_mL 50 = 2 := by decide +kernel
theorem xc49_8 : tt_cd 49 8 = (1, .aload_n 0, 1) := by decide +kernel
theorem xc49_9 : tt_cd 49 9 = (1, .iload_n 1, 1) := by decide +kernel
theorem xc49_10 : tt_cd 49 10 = (4, .bipush 16, 2) := by decide +kernel
theorem xc49_12 : tt_cd 49 12 = (2, .ishr, 1) := by decide +kernel
theorem xc49_13 : tt_cd 49 13 = (10, .invokevirtual 59, 3) := by decide +kernel
theorem xc49_16 : tt_cd 49 16 = (1, .aload_n 0, 1) := by decide +kernel
theorem xc49_17 : tt_cd 49 17 = (1, .iload_n 1, 1) := by decide +kernel
theorem xc49_18 : tt_cd 49 18 = (4, .bipush 8, 2) := by decide +kernel
theorem xc49_20 : tt_cd 49 20 = (2, .ishr, 1) := by decide +kernel
theorem xc49_21 : tt_cd 49 21 = (10, .invokevirtual 59, 3) := by decide +kernel
theorem xc49_24 : tt_cd 49 24 = (1, .aload_n 0, 1) := by decide +kernel
theorem xc49_25 : tt_cd 49 25 = (1, .iload_n 1, 1) := by decide +kernel
theorem xc49_26 : tt_cd 49 26 = (10, .invokevirtual 59, 3) := by decide +kernel
theorem xc49_29 : tt_cd 49 29 = (9, .return_, 1) := by decide +kernel
theorem xr49 : tt_mr 49 = 0 := by decide +kernel
theorem xc51_0 : tt_cd 51 0 = (1, .iload_n 1, 1) := by decide +kernel
theorem xc51_1 : tt_cd 51 1 = (5, .ifCond .eq 22, 3) := by decide +kernel
theorem xc51_4 : tt_cd 51 4 = (1, .iload_n 1, 1) := by decide +kernel
theorem xc51_5 : tt_cd 51 5 = (4, .bipush 32, 2) := by decide +kernel
theorem xc51_7 : tt_cd 51 7 = (5, .if_icmp .gt 20, 3) := by decide +kernel
theorem xc51_10 : tt_cd 51 10 = (1, .aload_n 0, 1) := by decide +kernel
theorem xc51_11 : tt_cd 51 11 = (2, .iconst 0, 1) := by decide +kernel
theorem xc51_12 : tt_cd 51 12 = (10, .invokestatic 35, 3) := by decide +kernel
theorem xm51_35 : tt_ml 51 35 = (2, 27, 2) := by decide +kernel
theorem xc51_15 : tt_cd 51 15 = (4, .bipush 32, 2) := by decide +kernel
theorem xc51_17 : tt_cd 51 17 = (1, .iload_n 1, 1) := by decide +kernel
theorem xc51_18 : tt_cd 51 18 = (2, .isub, 1) := by decide +kernel
theorem xc51_19 : tt_cd 51 19 = (2, .iushr, 1) := by decide +kernel
theorem xc51_20 : tt_cd 51 20 = (5, .ifCond .ne 7, 3) := by decide +kernel
theorem xc51_23 : tt_cd 51 23 = (2, .iconst 1, 1) := by decide +kernel
theorem xc51_24 : tt_cd 51 24 = (5, .goto 4, 3) := by decide +kernel
theorem xc51_28 : tt_cd 51 28 = (9, .ireturn, 1) := by decide +kernel
theorem xr51 : tt_mr 51 = 4 := by decide +kernel
theorem xc51_27 : tt_cd 51 27 = (2, .iconst 0, 1) := by decide +kernel
theorem xc52_0 : tt_cd 52 0 = (1, .aload_n 0, 1) := by decide +kernel
theorem xc52_1 : tt_cd 52 1 = (2, .iconst 1, 1) := by decide +kernel
theorem xc52_2 : tt_cd 52 2 = (1, .aload_n 0, 1) := by decide +kernel
theorem xc52_3 : tt_cd 52 3 = (10, .invokevirtual 48, 3) := by decide +kernel
theorem xm52_48 : tt_ml 52 48 = (3, 29, 0) := by decide +kernel
theorem xc52_6 : tt_cd 52 6 = (4, .bipush 31, 2) := by decide +kernel
theorem xc52_8 : tt_cd 52 8 = (2, .iand, 1) := by decide +kernel
theorem xc52_9 : tt_cd 52 9 = (2, .ishl, 1) := by decide +kernel
theorem xc52_10 : tt_cd 52 10 = (1, .aload_n 0, 1) := by decide +kernel
theorem xc52_11 : tt_cd 52 11 = (3, .getfield 24, 3) := by decide +kernel
theorem xf52_24 : tt_fl 52 24 = (1, 9, 0) := by decide +kernel
theorem xc52_14 : tt_cd 52 14 = (5, .ifnonnull 7, 3) := by decide +kernel
theorem xc52_21 : tt_cd 52 21 = (1, .aload_n 0, 1) := by decide +kernel
theorem xc52_22 : tt_cd 52 22 = (3, .getfield 24, 3) := by decide +kernel
theorem xc52_25 : tt_cd 52 25 = (3, .getfield 52, 3) := by decide +kernel
theorem xf52_52 : tt_fl 52 52 = (1, 9, 3) := by decide +kernel
theorem xc52_28 : tt_cd 52 28 = (2, .iadd, 1) := by decide +kernel
theorem xc52_29 : tt_cd 52 29 = (6, .putfield 52, 3) := by decide +kernel
theorem xh52_52 : (!(tt_ffin 9 3) || (tt_ini 52 && Nat.beq 1 1)) = true := by decide +kernel
theorem xt9_3 : tt_fty 9 3 = .int := by decide +kernel
theorem xc52_32 : tt_cd 52 32 = (9, .return_, 1) := by decide +kernel
theorem xr52 : tt_mr 52 = 0 := by decide +kernel
theorem xc46_87 : tt_cd 46 87 = (1, .iload_n 2, 1) := by decide +kernel
theorem xc46_88 : tt_cd 46 88 = (2, .iconst 1, 1) := by decide +kernel
theorem xc46_89 : tt_cd 46 89 = (2, .isub, 1) := by decide +kernel
theorem xc46_90 : tt_cd 46 90 = (1, .aload_n 1, 1) := by decide +kernel
theorem xc46_91 : tt_cd 46 91 = (3, .getfield 95, 3) := by decide +kernel
theorem xf46_95 : tt_fl 46 95 = (2, 9, 4) := by decide +kernel
theorem xc46_94 : tt_cd 46 94 = (4, .bipush 101, 2) := by decide +kernel
theorem xc46_96 : tt_cd 46 96 = (10, .invokestatic 108, 3) := by decide +kernel
theorem xm46_108 : tt_ml 46 108 = (2, 11, 3) := by decide +kernel
theorem xc46_99 : tt_cd 46 99 = (1, .aload_n 1, 1) := by decide +kernel
theorem xc46_100 : tt_cd 46 100 = (10, .invokevirtual 261, 3) := by decide +kernel
theorem xm46_261 : tt_ml 46 261 = (3, 52, 0) := by decide +kernel
theorem xi52 : tt_mci 52 = 9 := by decide +kernel
theorem xl52 : tt_mL 52 = 1 := by decide +kernel
theorem xc46_103 : tt_cd 46 103 = (9, .return_, 1) := by decide +kernel
theorem xc46_32 : tt_cd 46 32 = (1, .iload_n 2, 1) := by decide +kernel
theorem xc46_33 : tt_cd 46 33 = (4, .ldc 245, 2) := by decide +kernel
theorem xk46_245 : tt_kc 46 245 = (1, 1000000) := by decide +kernel
theorem xc46_35 : tt_cd 46 35 = (5, .if_icmp .ge 52, 3) := by decide +kernel
theorem xc46_38 : tt_cd 46 38 = (1, .iload_n 3, 1) := by decide +kernel
theorem xc46_39 : tt_cd 46 39 = (5, .ifCond .ne 48, 3) := by decide +kernel
theorem xc46_42 : tt_cd 46 42 = (1, .aload_n 0, 1) := by decide +kernel
theorem xc46_43 : tt_cd 46 43 = (3, .getfield 36, 3) := by decide +kernel
theorem xf46_36 : tt_fl 46 36 = (1, 8, 0) := by decide +kernel
theorem xc46_46 : tt_cd 46 46 = (10, .invokevirtual 246, 3) := by decide +kernel
theorem xm46_246 : tt_ml 46 246 = (3, 48, 0) := by decide +kernel
theorem xi48 : tt_mci 48 = 2 := by decide +kernel
theorem xl48 : tt_mL 48 = 1 := by decide +kernel
theorem xc46_49 : tt_cd 46 49 = (1, .aload_n 0, 1) := by decide +kernel
theorem xc46_50 : tt_cd 46 50 = (3, .getfield 36, 3) := by decide +kernel
theorem xc46_53 : tt_cd 46 53 = (1, .iload_n 2, 1) := by decide +kernel
theorem xc46_54 : tt_cd 46 54 = (10, .invokevirtual 249, 3) := by decide +kernel
theorem xm46_249 : tt_ml 46 249 = (3, 49, 1) := by decide +kernel
theorem xi49 : tt_mci 49 = 2 := by decide +kernel
theorem xl49 : tt_mL 49 = 2 := by decide +kernel
theorem xc46_57 : tt_cd 46 57 = (1, .aload_n 0, 1) := by decide +kernel
theorem xc46_58 : tt_cd 46 58 = (3, .getfield 36, 3) := by decide +kernel
theorem xc46_61 : tt_cd 46 61 = (1, .aload_n 1, 1) := by decide +kernel
theorem xc46_62 : tt_cd 46 62 = (3, .getfield 48, 3) := by decide +kernel
theorem xf46_48 : tt_fl 46 48 = (2, 9, 5) := by decide +kernel
theorem xc46_65 : tt_cd 46 65 = (2, .iconst 0, 1) := by decide +kernel
theorem xc46_66 : tt_cd 46 66 = (10, .invokevirtual 252, 3) := by decide +kernel
theorem xm46_252 : tt_ml 46 252 = (3, 17, 2) := by decide +kernel
theorem xc46_69 : tt_cd 46 69 = (1, .aload_n 1, 1) := by decide +kernel
theorem xc46_70 : tt_cd 46 70 = (3, .getfield 48, 3) := by decide +kernel
theorem xc46_73 : tt_cd 46 73 = (1, .aload_n 1, 1) := by decide +kernel
theorem xc46_74 : tt_cd 46 74 = (10, .invokevirtual 255, 3) := by decide +kernel
theorem xm46_255 : tt_ml 46 255 = (3, 29, 0) := by decide +kernel
theorem xc46_77 : tt_cd 46 77 = (10, .invokestatic 258, 3) := by decide +kernel
theorem xm46_258 : tt_ml 46 258 = (1, 51, 2) := by decide +kernel
theorem xl51 : tt_mL 51 = 2 := by decide +kernel
theorem xc46_80 : tt_cd 46 80 = (1, .istore_n 3, 1) := by decide +kernel
theorem xl46 : tt_mL 46 = 4 := by decide +kernel
theorem xc46_81 : tt_cd 46 81 = (1, .iinc 2 1, 3) := by decide +kernel
theorem xc46_84 : tt_cd 46 84 = (5, .goto (-52), 3) := by decide +kernel
theorem xc46_0 : tt_cd 46 0 = (1, .aload_n 0, 1) := by decide +kernel
theorem xc46_1 : tt_cd 46 1 = (3, .getfield 36, 3) := by decide +kernel
theorem xc46_4 : tt_cd 46 4 = (10, .invokevirtual 235, 3) := by decide +kernel
theorem xm46_235 : tt_ml 46 235 = (3, 14, 0) := by decide +kernel
theorem xc46_7 : tt_cd 46 7 = (1, .aload_n 0, 1) := by decide +kernel
theorem xc46_8 : tt_cd 46 8 = (3, .getfield 36, 3) := by decide +kernel
theorem xc46_11 : tt_cd 46 11 = (1, .aload_n 1, 1) := by decide +kernel
theorem xc46_12 : tt_cd 46 12 = (3, .getfield 95, 3) := by decide +kernel
theorem xc46_15 : tt_cd 46 15 = (2, .iconst 0, 1) := by decide +kernel
theorem xc46_16 : tt_cd 46 16 = (4, .bipush 101, 2) := by decide +kernel
theorem xc46_18 : tt_cd 46 18 = (10, .invokevirtual 238, 3) := by decide +kernel
theorem xm46_238 : tt_ml 46 238 = (3, 15, 3) := by decide +kernel
theorem xc46_21 : tt_cd 46 21 = (1, .aload_n 0, 1) := by decide +kernel
theorem xc46_22 : tt_cd 46 22 = (3, .getfield 36, 3) := by decide +kernel
theorem xc46_25 : tt_cd 46 25 = (10, .invokevirtual 242, 3) := by decide +kernel
theorem xm46_242 : tt_ml 46 242 = (3, 47, 0) := by decide +kernel
theorem xi47 : tt_mci 47 = 2 := by decide +kernel
theorem xl47 : tt_mL 47 = 1 := by decide +kernel
theorem xc46_28 : tt_cd 46 28 = (2, .iconst 0, 1) := by decide +kernel
theorem xc46_29 : tt_cd 46 29 = (1, .istore_n 2, 1) := by decide +kernel
theorem xc46_30 : tt_cd 46 30 = (2, .iconst 0, 1) := by decide +kernel
theorem xc46_31 : tt_cd 46 31 = (1, .istore_n 3, 1) := by decide +kernel
theorem xr46 : tt_mr 46 = 0 := by decide +kernel
theorem sh_1_P (b : Nat) (s : sh_T) : (sh_1 b s).2.2.1 = mv_wr 32 s.2.2.1 s.1 b := by
  unfold sh_1
  cases Nat.beq (s.1 + 1) 64 <;> rfl
theorem sh_1_u {b : Nat} {s : sh_T} (h : s.1 + 1 < 64) : (sh_1 b s).1 = s.1 + 1 := by
  unfold sh_1
  rw [show Nat.beq (s.1 + 1) 64 = false by rw [← Bool.not_eq_true, Nat.beq_eq]; omega]
  rfl
theorem sh_n_P {C a : Nat} {s : sh_T} (hs : s.1 = 0) : ∀ m, m ≤ 64 → (m < 64 → (sh_n C a s m).1 = m) ∧ ∀ j, j < m → mv_rd 32 (sh_n C a s m).2.2.1 j < 128 ∨ 4294967168 ≤ mv_rd 32 (sh_n C a s m).2.2.1 j
  | 0, _ => ⟨fun _ => hs, fun j hj => by omega⟩
  | m + 1, hm => by
    obtain ⟨h1, h2⟩ := sh_n_P (C := C) (a := a) hs m (by omega)
    have e : sh_n C a s (m + 1) = sh_1 (mn_b (mv_rd 32 C (a + m))) (sh_n C a s m) := rfl
    have u := h1 (by omega)
    rw [e]
    refine ⟨fun h => ?_, fun j hj => ?_⟩
    · rw [sh_1_u (by rw [u]; omega), u]
    · rw [sh_1_P, mv_rd_wr, u]
      by_cases ej : j = m
      · rw [if_pos ej]; exact mn_b_ok _
      · rw [if_neg ej]; exact h2 j (by omega)
theorem sh_n_ab {C a : Nat} {s : sh_T} (hs : s.1 = 0) : ∀ m, 64 ≤ m → mv_ab (sh_n C a s m).2.2.1 0 64 = true
  | 0, h => by omega
  | m + 1, h => by
    by_cases e : m + 1 = 64
    · exact ab_of 64 (fun j hj => by rw [Nat.zero_add]; exact (sh_n_P (C := C) (a := a) hs (m + 1) (by omega)).2 j (by omega))
    · have e2 : sh_n C a s (m + 1) = sh_1 (mn_b (mv_rd 32 C (a + m))) (sh_n C a s m) := rfl
      rw [e2, sh_1_P]
      exact ab_wr (sh_n_ab hs m (by omega))
theorem sh_p_P {C a m : Nat} {s : sh_T} (hs : s.1 = 0) (hm : 64 ≤ m) : mv_ab (sh_p C a m s).2.2.1 0 64 = true := sh_n_ab hs m hm
theorem mo_add_1 {i : Nat} (h : i < 1000000) : mo_add i 1 = i + 1 := by
  unfold mo_add
  omega
section GH
variable {n : Nat} {pl : Nat → Nat} {w0 w : mv_T 10} {cs : List mv_C} {vs : List mv_V} {X : Nat} {s : sh_T}
theorem we_begin (hw : wh 30 pl w0 w cs) (c10 : cs[10]? = some (0, 2, 13, X)) (c11 : cs[11]? = some (1, 1, 64, s.2.2.1)) (c12 : cs[12]? = some (1, 0, 64, s.2.2.2.1)) (c13 : cs[13]? = some (1, 0, 8, s.2.2.2.2)) (hX : fh X kS vs) (v0 : vs[0]? = some (2, pl 11, 0)) (v1 : vs[1]? = some (2, pl 12, 0)) (v2 : vs[2]? = some (2, pl 13, 0)) (v4 : vs[4]? = some (0, s.1, 0)) (v5 : vs[5]? = some (0, s.2.1, 0)) : ∃ (w' : mv_T 10) (X' S' : Nat), sy_C 14 n 1 18 [(2, pl 10, 0)] w [] w' ∧ wh 30 pl w0 w' ((((cs.set 11 (1, 1, 64, s.2.2.1)).set 10 (0, 2, 13, X')).set 12 (1, 0, 64, s.2.2.2.1)).set 13 (1, 0, 8, S')) ∧ fh X' kS ((vs.set 4 (0, 0, 0)).set 5 (0, 0, 0)) := by
  obtain ⟨w', X', h, h2, h3⟩ := wd_begin (n := n) hw c10 c11 c12 c13 hX v0 v1 v2 v4 v5
  exact ⟨w', X', _, h, h2, h3⟩
theorem we_put101 {jf qf C : Nat} (hw : wh 30 pl w0 w cs) (c10 : cs[10]? = some (0, 2, 13, X)) (c11 : cs[11]? = some (1, 1, 64, s.2.2.1)) (c12 : cs[12]? = some (1, 0, 64, s.2.2.2.1)) (c13 : cs[13]? = some (1, 0, 8, s.2.2.2.2)) (hX : fh X kS vs) (v0 : vs[0]? = some (2, pl 11, 0)) (v1 : vs[1]? = some (2, pl 12, 0)) (v2 : vs[2]? = some (2, pl 13, 0)) (v4 : vs[4]? = some (0, s.1, 0)) (v5 : vs[5]? = some (0, s.2.1, 0)) (hs : s.1 = 0) (hl : s.2.1 = 0) (hjf : jf < 10 ∨ 13 < jf) (hjf2 : jf < 30) (cf : cs[jf]? = some (1, 1, qf, C)) (hqf : qf ≤ 2147483647) (hn : 0 + 101 ≤ qf) : ∃ (w' : mv_T 10) (X' P' W' S' u' : Nat), sy_C 15 n 1 33 [(2, pl 10, 0), (2, pl jf, 0), (0, 0, 0), (0, 101, 0)] w [] w' ∧ mv_ab P' 0 64 = true ∧ u' < 64 ∧ wh 30 pl w0 w' ((((cs.set 11 (1, 1, 64, P')).set 10 (0, 2, 13, X')).set 12 (1, 0, 64, W')).set 13 (1, 0, 8, S')) ∧ fh X' kS ((vs.set 4 (0, u', 0)).set 5 (0, 101, 0)) := by
  obtain ⟨w', X', h, h2, h3⟩ := wd_put (n := n) hw c10 c11 c12 c13 hX v0 v1 v2 v4 v5 (by omega) (by omega) hjf hjf2 cf hqf hn
  have e : (sh_p C 0 101 s).2.1 = 101 := by
    show mo_add s.2.1 101 = 101
    rw [hl]
    rfl
  rw [e] at h3
  have hP := sh_p_P (C := C) (a := 0) (m := 101) hs (by decide)
  have hU := sh_p_ok (C := C) (a := 0) (m := 101) (s := s) (by omega)
  generalize sh_p C 0 101 s = R at h h2 h3 hP hU
  exact ⟨w', X', _, _, _, _, h, hP, hU, h2, h3⟩
theorem we_twice {it q T I at_ : Nat} (hw : wh 30 pl w0 w cs) (c10 : cs[10]? = some (0, 2, 13, X)) (c11 : cs[11]? = some (1, 1, 64, s.2.2.1)) (c12 : cs[12]? = some (1, 0, 64, s.2.2.2.1)) (c13 : cs[13]? = some (1, 0, 8, s.2.2.2.2)) (hX : fh X kS vs) (v0 : vs[0]? = some (2, pl 11, 0)) (v1 : vs[1]? = some (2, pl 12, 0)) (v2 : vs[2]? = some (2, pl 13, 0)) (v4 : vs[4]? = some (0, s.1, 0)) (v5 : vs[5]? = some (0, s.2.1, 0)) (v3 : vs[3]? = some (2, pl 14, 0)) (c14 : cs[14]? = some (1, 1, 32, I)) (hs : s.1 < 64) (hl : s.2.1 < 4294967296) (hit : it < 10 ∨ 14 < it) (hit2 : it < 30) (ct : cs[it]? = some (1, 1, q, T)) (hq : q ≤ 2147483647) (ha : at_ + 32 ≤ q) : ∃ (w' : mv_T 10) (X' P' W' S' I' T' u' l' : Nat), sy_C 17 n 3 69 [(2, pl 10, 0), (2, pl it, 0), (0, at_, 0)] w [] w' ∧ wh 30 pl w0 w' ((((((cs.set 14 (1, 1, 32, I')).set it (1, 1, q, T')).set 11 (1, 1, 64, P')).set 10 (0, 2, 13, X')).set 12 (1, 0, 64, W')).set 13 (1, 0, 8, S')) ∧ fh X' kS ((vs.set 4 (0, u', 0)).set 5 (0, l', 0)) := by
  obtain ⟨w', X', h, h2, h3⟩ := wd_twice (n := n) hw c10 c11 c12 c13 hX v0 v1 v2 v4 v5 v3 c14 hs hl hit hit2 ct hq ha
  exact ⟨w', X', _, _, _, _, _, _, _, h, h2, h3⟩
end GH
section HM
variable {n : Nat} {pl : Nat → Nat} {w0 w : mv_T 10} {X0 X1 cbs X3 Hd Id Ids Ads Br Dg X10 Sp Sw Ss In Mk Is Os Ks Kp ac su sl kl : Nat} {X20 Bh Bd cps Mb Ti X26 Pr wk Nu Fb : Nat}
theorem ci_keep  (hw : wh 30 pl w0 w [(0, 1, 13, X0), (0, 8, 11, X1), (3, 6, 40, cbs), (0, 9, 11, X3), (1, 1, 105, Hd), (1, 1, 32, Id), (1, 1, 128, Ids), (1, 1, 480, Ads), (1, 1, 32, Br), (1, 1, 32, Dg), (0, 2, 13, X10), (1, 1, 64, Sp), (1, 0, 64, Sw), (1, 0, 8, Ss), (1, 1, 32, In), (1, 1, 32, Mk), (1, 0, 8, Is), (1, 0, 8, Os), (1, 0, 8, Ks), (1, 1, 64, Kp), (0, 9, 11, X20), (1, 1, 105, Bh), (1, 1, 32, Bd), (3, 7, 4, cps), (1, 1, 28, Mb), (1, 1, 32, Ti), (0, 10, 6, X26), (1, 0, 4, Pr), (1, 0, 1, Nu), (1, 1, 2, Fb)]) (hX0 : fh X0 kX [(2, pl 1, 0), (0, 0, 0)]) (hX1 : fh X1 kM [(0, 1, 0), (2, pl 2, 0), (0, 0, 0), (2, pl 10, 0), (2, pl 6, 0), (2, pl 7, 0), (0, ac, 0), (2, pl 8, 0), (2, pl 9, 0)]) (hX3 : fh X3 kB [(2, pl 5, 0), (2, pl 4, 0), (0, 0, 0), (0, 4, 0), (3, 0, 0)]) (hX10 : fh X10 kS [(2, pl 11, 0), (2, pl 12, 0), (2, pl 13, 0), (2, pl 14, 0), (0, su, 0), (0, 101, 0), (2, pl 15, 0), (2, pl 16, 0), (2, pl 17, 0), (0, 1, 0), (2, pl 18, 0), (2, pl 19, 0), (0, kl, 0)]) (hX20 : fh X20 kN [(2, pl 3, 0), (0, 1, 0), (0, 1, 0), (0, wk, 0), (2, pl 21, 0), (2, pl 22, 0), (2, pl 23, 0), (0, 1, 0), (2, pl 29, 0), (0, 2, 0), (2, pl 28, 0)]) (hX26 : fh X26 kP [(2, pl 24, 0), (0, 0, 0), (0, 1, 0), (0, 28, 0), (2, pl 25, 0), (2, pl 27, 0)]) (hab : mv_ab Sp 0 64 = true) : sy_D 47 n 1 18 [(2, pl 10, 0)] w (fun ret w' => ret = [] ∧ ∃ Y10 : Nat, wh 30 pl w0 w' [(0, 1, 13, X0), (0, 8, 11, X1), (3, 6, 40, cbs), (0, 9, 11, X3), (1, 1, 105, Hd), (1, 1, 32, Id), (1, 1, 128, Ids), (1, 1, 480, Ads), (1, 1, 32, Br), (1, 1, 32, Dg), (0, 2, 13, Y10), (1, 1, 64, Sp), (1, 0, 64, Sw), (1, 0, 8, Ss), (1, 1, 32, In), (1, 1, 32, Mk), (1, 0, 8, Is), (1, 0, 8, Os), (1, 0, 8, (mv_cw 32 Ks Ss 0 0 8)), (1, 1, 64, (mv_cw 32 Kp Sp 0 0 64)), (0, 9, 11, X20), (1, 1, 105, Bh), (1, 1, 32, Bd), (3, 7, 4, cps), (1, 1, 28, Mb), (1, 1, 32, Ti), (0, 10, 6, X26), (1, 0, 4, Pr), (1, 0, 1, Nu), (1, 1, 2, Fb)] ∧ fh Y10 kS [(2, pl 11, 0), (2, pl 12, 0), (2, pl 13, 0), (2, pl 14, 0), (0, su, 0), (0, 101, 0), (2, pl 15, 0), (2, pl 16, 0), (2, pl 17, 0), (0, 1, 0), (2, pl 18, 0), (2, pl 19, 0), (0, 101, 0)]) := by
  refine sy_Dof (us := []) (sy_oks_cons (sy_ok2 (wh_lt hw 10 (by first | decide | assumption))) sy_oks_nil) rfl rfl ?_
  show sy_F 47 n 1 18 0 [(2, pl 10, 0)] [] w _
  refine sy_Fs (sy_aldn xc47_0 rfl rfl sy_refl) ?_
  refine sy_Fs (sy_gf xc47_1 xf47_9 rfl (wh_at hw 10 rfl) rfl (fh_at hX10 2 rfl rfl) sy_refl) ?_
  refine sy_Fs (sy_iconst (v := 0) xc47_4 (by decide) sy_refl) ?_
  refine sy_Fs (sy_aldn xc47_5 rfl rfl sy_refl) ?_
  refine sy_Fs (sy_gf xc47_6 xf47_34 rfl (wh_at hw 10 rfl) rfl (fh_at hX10 10 rfl rfl) sy_refl) ?_
  refine sy_Fs (sy_iconst (v := 0) xc47_9 (by decide) sy_refl) ?_
  refine sy_Fs (sy_bipush (v := 8) xc47_10 (by decide) (by decide) sy_refl) ?_
  refine sy_Fw (i := 18) (x := (1, 0, 8, (mv_cw 32 Ks Ss 0 0 8))) hw (by decide) (sy_call8 (as := [(2, pl 13, 0), (0, 0, 0), (2, pl 18, 0), (0, 0, 0), (0, 8, 0)]) (S0 := []) xc47_12 (sy_calS (as := [(2, pl 13, 0), (0, 0, 0), (2, pl 18, 0), (0, 0, 0), (0, 8, 0)]) (S0 := []) xm47_43 rfl rfl) (sy_cpi (wh_at hw 13 rfl) (wh_at hw 18 rfl) (by first | decide | assumption | omega) (by first | decide | assumption | omega) (by first | decide | assumption | omega) (by first | decide | assumption | omega)) (by decide) (by decide) sy_refl) ?_
  intro w hw
  simp only [List.set_cons_zero, List.set_cons_succ] at hw
  refine sy_Fs (sy_aldn xc47_15 rfl rfl sy_refl) ?_
  refine sy_Fs (sy_gf xc47_16 xf47_18 rfl (wh_at hw 10 rfl) rfl (fh_at hX10 0 rfl rfl) sy_refl) ?_
  refine sy_Fs (sy_iconst (v := 0) xc47_19 (by decide) sy_refl) ?_
  refine sy_Fs (sy_aldn xc47_20 rfl rfl sy_refl) ?_
  refine sy_Fs (sy_gf xc47_21 xf47_37 rfl (wh_at hw 10 rfl) rfl (fh_at hX10 11 rfl rfl) sy_refl) ?_
  refine sy_Fs (sy_iconst (v := 0) xc47_24 (by decide) sy_refl) ?_
  refine sy_Fs (sy_bipush (v := 64) xc47_25 (by decide) (by decide) sy_refl) ?_
  refine sy_Fw (i := 19) (x := (1, 1, 64, (mv_cw 32 Kp Sp 0 0 64))) hw (by decide) (sy_call8 (as := [(2, pl 11, 0), (0, 0, 0), (2, pl 19, 0), (0, 0, 0), (0, 64, 0)]) (S0 := []) xc47_27 (sy_calS (as := [(2, pl 11, 0), (0, 0, 0), (2, pl 19, 0), (0, 0, 0), (0, 64, 0)]) (S0 := []) xm47_43 rfl rfl) (sy_cpb (wh_at hw 11 rfl) (wh_at hw 19 rfl) (by first | decide | assumption | omega) (by first | decide | assumption | omega) (by first | decide | assumption | omega) (by first | decide | assumption | omega) hab) (by decide) (by decide) sy_refl) ?_
  intro w hw
  simp only [List.set_cons_zero, List.set_cons_succ] at hw
  refine sy_Fs (sy_aldn xc47_30 rfl rfl sy_refl) ?_
  refine sy_Fs (sy_aldn xc47_31 rfl rfl sy_refl) ?_
  refine sy_Fs (sy_gf xc47_32 xf47_53 rfl (wh_at hw 10 rfl) rfl (fh_at hX10 5 rfl rfl) sy_refl) ?_
  refine sy_Ff (i := 10) (q := 12) (v := (0, 101, 0)) hw hX10 (by decide) (by decide) rfl (sy_ok0 (by first | decide | assumption | omega | exact mo_rd_lt _ _ | exact mo_add_lt _ _ | exact mo_sub_lt _ _ | exact mo_mul_lt _ _ | exact mo_shl_lt _ _ | exact mo_ushr_lt _ _ | exact mo_or_lt (by decide) (mo_and_lt (mo_rd_lt _ _)) | exact mo_or_lt (mo_shl_lt _ _) (mo_and_lt (mo_rd_lt _ _)))) (sx_pf xc47_35 xf47_84 rfl (xg_int xt2_10) xh47_84 (wh_at hw 10 rfl) rfl (sy_ok0 (by first | decide | assumption | omega | exact mo_rd_lt _ _ | exact mo_add_lt _ _ | exact mo_sub_lt _ _ | exact mo_mul_lt _ _ | exact mo_shl_lt _ _ | exact mo_ushr_lt _ _ | exact mo_or_lt (by decide) (mo_and_lt (mo_rd_lt _ _)) | exact mo_or_lt (mo_shl_lt _ _) (mo_and_lt (mo_rd_lt _ _)))) rfl sy_refl) ?_
  intro w X10 hw hX10
  simp only [List.set_cons_zero, List.set_cons_succ] at hw hX10
  exact sy_Fv xc47_38 xr47 ⟨rfl, X10, hw, hX10⟩
theorem ci_gb  (hw : wh 30 pl w0 w [(0, 1, 13, X0), (0, 8, 11, X1), (3, 6, 40, cbs), (0, 9, 11, X3), (1, 1, 105, Hd), (1, 1, 32, Id), (1, 1, 128, Ids), (1, 1, 480, Ads), (1, 1, 32, Br), (1, 1, 32, Dg), (0, 2, 13, X10), (1, 1, 64, Sp), (1, 0, 64, Sw), (1, 0, 8, Ss), (1, 1, 32, In), (1, 1, 32, Mk), (1, 0, 8, Is), (1, 0, 8, Os), (1, 0, 8, Ks), (1, 1, 64, Kp), (0, 9, 11, X20), (1, 1, 105, Bh), (1, 1, 32, Bd), (3, 7, 4, cps), (1, 1, 28, Mb), (1, 1, 32, Ti), (0, 10, 6, X26), (1, 0, 4, Pr), (1, 0, 1, Nu), (1, 1, 2, Fb)]) (hX0 : fh X0 kX [(2, pl 1, 0), (0, 0, 0)]) (hX1 : fh X1 kM [(0, 1, 0), (2, pl 2, 0), (0, 0, 0), (2, pl 10, 0), (2, pl 6, 0), (2, pl 7, 0), (0, ac, 0), (2, pl 8, 0), (2, pl 9, 0)]) (hX3 : fh X3 kB [(2, pl 5, 0), (2, pl 4, 0), (0, 0, 0), (0, 4, 0), (3, 0, 0)]) (hX10 : fh X10 kS [(2, pl 11, 0), (2, pl 12, 0), (2, pl 13, 0), (2, pl 14, 0), (0, su, 0), (0, sl, 0), (2, pl 15, 0), (2, pl 16, 0), (2, pl 17, 0), (0, 1, 0), (2, pl 18, 0), (2, pl 19, 0), (0, 101, 0)]) (hX20 : fh X20 kN [(2, pl 3, 0), (0, 1, 0), (0, 1, 0), (0, wk, 0), (2, pl 21, 0), (2, pl 22, 0), (2, pl 23, 0), (0, 1, 0), (2, pl 29, 0), (0, 2, 0), (2, pl 28, 0)]) (hX26 : fh X26 kP [(2, pl 24, 0), (0, 0, 0), (0, 1, 0), (0, 28, 0), (2, pl 25, 0), (2, pl 27, 0)]) (hab : mv_ab Kp 0 64 = true) : sy_D 48 n 1 18 [(2, pl 10, 0)] w (fun ret w' => ret = [] ∧ ∃ Y10 : Nat, wh 30 pl w0 w' [(0, 1, 13, X0), (0, 8, 11, X1), (3, 6, 40, cbs), (0, 9, 11, X3), (1, 1, 105, Hd), (1, 1, 32, Id), (1, 1, 128, Ids), (1, 1, 480, Ads), (1, 1, 32, Br), (1, 1, 32, Dg), (0, 2, 13, Y10), (1, 1, 64, (mv_cw 32 Sp Kp 0 0 64)), (1, 0, 64, Sw), (1, 0, 8, (mv_cw 32 Ss Ks 0 0 8)), (1, 1, 32, In), (1, 1, 32, Mk), (1, 0, 8, Is), (1, 0, 8, Os), (1, 0, 8, Ks), (1, 1, 64, Kp), (0, 9, 11, X20), (1, 1, 105, Bh), (1, 1, 32, Bd), (3, 7, 4, cps), (1, 1, 28, Mb), (1, 1, 32, Ti), (0, 10, 6, X26), (1, 0, 4, Pr), (1, 0, 1, Nu), (1, 1, 2, Fb)] ∧ fh Y10 kS [(2, pl 11, 0), (2, pl 12, 0), (2, pl 13, 0), (2, pl 14, 0), (0, 37, 0), (0, 101, 0), (2, pl 15, 0), (2, pl 16, 0), (2, pl 17, 0), (0, 1, 0), (2, pl 18, 0), (2, pl 19, 0), (0, 101, 0)]) := by
  refine sy_Dof (us := []) (sy_oks_cons (sy_ok2 (wh_lt hw 10 (by first | decide | assumption))) sy_oks_nil) rfl rfl ?_
  show sy_F 48 n 1 18 0 [(2, pl 10, 0)] [] w _
  refine sy_Fs (sy_aldn xc48_0 rfl rfl sy_refl) ?_
  refine sy_Fs (sy_gf xc48_1 xf48_34 rfl (wh_at hw 10 rfl) rfl (fh_at hX10 10 rfl rfl) sy_refl) ?_
  refine sy_Fs (sy_iconst (v := 0) xc48_4 (by decide) sy_refl) ?_
  refine sy_Fs (sy_aldn xc48_5 rfl rfl sy_refl) ?_
  refine sy_Fs (sy_gf xc48_6 xf48_9 rfl (wh_at hw 10 rfl) rfl (fh_at hX10 2 rfl rfl) sy_refl) ?_
  refine sy_Fs (sy_iconst (v := 0) xc48_9 (by decide) sy_refl) ?_
  refine sy_Fs (sy_bipush (v := 8) xc48_10 (by decide) (by decide) sy_refl) ?_
  refine sy_Fw (i := 13) (x := (1, 0, 8, (mv_cw 32 Ss Ks 0 0 8))) hw (by decide) (sy_call8 (as := [(2, pl 18, 0), (0, 0, 0), (2, pl 13, 0), (0, 0, 0), (0, 8, 0)]) (S0 := []) xc48_12 (sy_calS (as := [(2, pl 18, 0), (0, 0, 0), (2, pl 13, 0), (0, 0, 0), (0, 8, 0)]) (S0 := []) xm48_43 rfl rfl) (sy_cpi (wh_at hw 18 rfl) (wh_at hw 13 rfl) (by first | decide | assumption | omega) (by first | decide | assumption | omega) (by first | decide | assumption | omega) (by first | decide | assumption | omega)) (by decide) (by decide) sy_refl) ?_
  intro w hw
  simp only [List.set_cons_zero, List.set_cons_succ] at hw
  refine sy_Fs (sy_aldn xc48_15 rfl rfl sy_refl) ?_
  refine sy_Fs (sy_gf xc48_16 xf48_37 rfl (wh_at hw 10 rfl) rfl (fh_at hX10 11 rfl rfl) sy_refl) ?_
  refine sy_Fs (sy_iconst (v := 0) xc48_19 (by decide) sy_refl) ?_
  refine sy_Fs (sy_aldn xc48_20 rfl rfl sy_refl) ?_
  refine sy_Fs (sy_gf xc48_21 xf48_18 rfl (wh_at hw 10 rfl) rfl (fh_at hX10 0 rfl rfl) sy_refl) ?_
  refine sy_Fs (sy_iconst (v := 0) xc48_24 (by decide) sy_refl) ?_
  refine sy_Fs (sy_bipush (v := 64) xc48_25 (by decide) (by decide) sy_refl) ?_
  refine sy_Fw (i := 11) (x := (1, 1, 64, (mv_cw 32 Sp Kp 0 0 64))) hw (by decide) (sy_call8 (as := [(2, pl 19, 0), (0, 0, 0), (2, pl 11, 0), (0, 0, 0), (0, 64, 0)]) (S0 := []) xc48_27 (sy_calS (as := [(2, pl 19, 0), (0, 0, 0), (2, pl 11, 0), (0, 0, 0), (0, 64, 0)]) (S0 := []) xm48_43 rfl rfl) (sy_cpb (wh_at hw 19 rfl) (wh_at hw 11 rfl) (by first | decide | assumption | omega) (by first | decide | assumption | omega) (by first | decide | assumption | omega) (by first | decide | assumption | omega) hab) (by decide) (by decide) sy_refl) ?_
  intro w hw
  simp only [List.set_cons_zero, List.set_cons_succ] at hw
  refine sy_Fs (sy_aldn xc48_30 rfl rfl sy_refl) ?_
  refine sy_Fs (sy_aldn xc48_31 rfl rfl sy_refl) ?_
  refine sy_Fs (sy_gf xc48_32 xf48_84 rfl (wh_at hw 10 rfl) rfl (fh_at hX10 12 rfl rfl) sy_refl) ?_
  refine sy_Ff (i := 10) (q := 5) (v := (0, 101, 0)) hw hX10 (by decide) (by decide) rfl (sy_ok0 (by first | decide | assumption | omega | exact mo_rd_lt _ _ | exact mo_add_lt _ _ | exact mo_sub_lt _ _ | exact mo_mul_lt _ _ | exact mo_shl_lt _ _ | exact mo_ushr_lt _ _ | exact mo_or_lt (by decide) (mo_and_lt (mo_rd_lt _ _)) | exact mo_or_lt (mo_shl_lt _ _) (mo_and_lt (mo_rd_lt _ _)))) (sx_pf xc48_35 xf48_53 rfl (xg_int xt2_12) xh48_53 (wh_at hw 10 rfl) rfl (sy_ok0 (by first | decide | assumption | omega | exact mo_rd_lt _ _ | exact mo_add_lt _ _ | exact mo_sub_lt _ _ | exact mo_mul_lt _ _ | exact mo_shl_lt _ _ | exact mo_ushr_lt _ _ | exact mo_or_lt (by decide) (mo_and_lt (mo_rd_lt _ _)) | exact mo_or_lt (mo_shl_lt _ _) (mo_and_lt (mo_rd_lt _ _)))) rfl sy_refl) ?_
  intro w X10 hw hX10
  simp only [List.set_cons_zero, List.set_cons_succ] at hw hX10
  refine sy_Fs (sy_aldn xc48_38 rfl rfl sy_refl) ?_
  refine sy_Fs (sy_aldn xc48_39 rfl rfl sy_refl) ?_
  refine sy_Fs (sy_gf xc48_40 xf48_53 rfl (wh_at hw 10 rfl) rfl (fh_at hX10 5 rfl rfl) sy_refl) ?_
  refine sy_Fs (sy_bipush (v := 64) xc48_43 (by decide) (by decide) sy_refl) ?_
  refine sy_Fs (sx_irem (z := 37) xc48_45 (by decide) (by decide)) ?_
  refine sy_Ff (i := 10) (q := 4) (v := (0, 37, 0)) hw hX10 (by decide) (by decide) rfl (sy_ok0 (by first | decide | assumption | omega | exact mo_rd_lt _ _ | exact mo_add_lt _ _ | exact mo_sub_lt _ _ | exact mo_mul_lt _ _ | exact mo_shl_lt _ _ | exact mo_ushr_lt _ _ | exact mo_or_lt (by decide) (mo_and_lt (mo_rd_lt _ _)) | exact mo_or_lt (mo_shl_lt _ _) (mo_and_lt (mo_rd_lt _ _)))) (sx_pf xc48_46 xf48_49 rfl (xg_int xt2_11) xh48_49 (wh_at hw 10 rfl) rfl (sy_ok0 (by first | decide | assumption | omega | exact mo_rd_lt _ _ | exact mo_add_lt _ _ | exact mo_sub_lt _ _ | exact mo_mul_lt _ _ | exact mo_shl_lt _ _ | exact mo_ushr_lt _ _ | exact mo_or_lt (by decide) (mo_and_lt (mo_rd_lt _ _)) | exact mo_or_lt (mo_shl_lt _ _) (mo_and_lt (mo_rd_lt _ _)))) rfl sy_refl) ?_
  intro w X10 hw hX10
  simp only [List.set_cons_zero, List.set_cons_succ] at hw hX10
  exact sy_Fv xc48_49 xr48 ⟨rfl, X10, hw, hX10⟩
theorem ci_pb37  (hw : wh 30 pl w0 w [(0, 1, 13, X0), (0, 8, 11, X1), (3, 6, 40, cbs), (0, 9, 11, X3), (1, 1, 105, Hd), (1, 1, 32, Id), (1, 1, 128, Ids), (1, 1, 480, Ads), (1, 1, 32, Br), (1, 1, 32, Dg), (0, 2, 13, X10), (1, 1, 64, Sp), (1, 0, 64, Sw), (1, 0, 8, Ss), (1, 1, 32, In), (1, 1, 32, Mk), (1, 0, 8, Is), (1, 0, 8, Os), (1, 0, 8, Ks), (1, 1, 64, Kp), (0, 9, 11, X20), (1, 1, 105, Bh), (1, 1, 32, Bd), (3, 7, 4, cps), (1, 1, 28, Mb), (1, 1, 32, Ti), (0, 10, 6, X26), (1, 0, 4, Pr), (1, 0, 1, Nu), (1, 1, 2, Fb)]) (hX0 : fh X0 kX [(2, pl 1, 0), (0, 0, 0)]) (hX1 : fh X1 kM [(0, 1, 0), (2, pl 2, 0), (0, 0, 0), (2, pl 10, 0), (2, pl 6, 0), (2, pl 7, 0), (0, ac, 0), (2, pl 8, 0), (2, pl 9, 0)]) (hX3 : fh X3 kB [(2, pl 5, 0), (2, pl 4, 0), (0, 0, 0), (0, 4, 0), (3, 0, 0)]) (hX10 : fh X10 kS [(2, pl 11, 0), (2, pl 12, 0), (2, pl 13, 0), (2, pl 14, 0), (0, 37, 0), (0, 101, 0), (2, pl 15, 0), (2, pl 16, 0), (2, pl 17, 0), (0, 1, 0), (2, pl 18, 0), (2, pl 19, 0), (0, 101, 0)]) (hX20 : fh X20 kN [(2, pl 3, 0), (0, 1, 0), (0, 1, 0), (0, wk, 0), (2, pl 21, 0), (2, pl 22, 0), (2, pl 23, 0), (0, 1, 0), (2, pl 29, 0), (0, 2, 0), (2, pl 28, 0)]) (hX26 : fh X26 kP [(2, pl 24, 0), (0, 0, 0), (0, 1, 0), (0, 28, 0), (2, pl 25, 0), (2, pl 27, 0)]) {v : Nat} (hv : v < 4294967296) : sy_D 50 n 0 0 [(2, pl 10, 0), (0, v, 0)] w (fun ret w' => ret = [] ∧ ∃ Y10 Y11 : Nat, wh 30 pl w0 w' [(0, 1, 13, X0), (0, 8, 11, X1), (3, 6, 40, cbs), (0, 9, 11, X3), (1, 1, 105, Hd), (1, 1, 32, Id), (1, 1, 128, Ids), (1, 1, 480, Ads), (1, 1, 32, Br), (1, 1, 32, Dg), (0, 2, 13, Y10), (1, 1, 64, Y11), (1, 0, 64, Sw), (1, 0, 8, Ss), (1, 1, 32, In), (1, 1, 32, Mk), (1, 0, 8, Is), (1, 0, 8, Os), (1, 0, 8, Ks), (1, 1, 64, Kp), (0, 9, 11, X20), (1, 1, 105, Bh), (1, 1, 32, Bd), (3, 7, 4, cps), (1, 1, 28, Mb), (1, 1, 32, Ti), (0, 10, 6, X26), (1, 0, 4, Pr), (1, 0, 1, Nu), (1, 1, 2, Fb)] ∧ fh Y10 kS [(2, pl 11, 0), (2, pl 12, 0), (2, pl 13, 0), (2, pl 14, 0), (0, 38, 0), (0, 102, 0), (2, pl 15, 0), (2, pl 16, 0), (2, pl 17, 0), (0, 1, 0), (2, pl 18, 0), (2, pl 19, 0), (0, 101, 0)]) := by
  refine sy_Dof (us := []) (sy_oks_cons (sy_ok2 (wh_lt hw 10 (by first | decide | assumption))) (sy_oks_cons (sy_ok0 (by first | decide | assumption | omega | exact mo_rd_lt _ _ | exact mo_add_lt _ _ | exact mo_sub_lt _ _ | exact mo_mul_lt _ _ | exact mo_shl_lt _ _ | exact mo_ushr_lt _ _ | exact mo_or_lt (by decide) (mo_and_lt (mo_rd_lt _ _)) | exact mo_or_lt (mo_shl_lt _ _) (mo_and_lt (mo_rd_lt _ _)))) sy_oks_nil)) rfl rfl ?_
  show sy_F 50 n 0 0 0 [(2, pl 10, 0), (0, v, 0)] [] w _
  refine sy_Fs (sy_aldn xc50_0 rfl rfl sy_refl) ?_
  refine sy_Fs (sy_gf xc50_1 xf50_18 rfl (wh_at hw 10 rfl) rfl (fh_at hX10 0 rfl rfl) sy_refl) ?_
  refine sy_Fs (sy_aldn xc50_4 rfl rfl sy_refl) ?_
  refine sy_Fs (sy_gf xc50_5 xf50_49 rfl (wh_at hw 10 rfl) rfl (fh_at hX10 4 rfl rfl) sy_refl) ?_
  refine sy_Fs (sy_ildn xc50_8 rfl rfl sy_refl) ?_
  refine sy_Fs (sx_i2b (z := (mn_b v)) xc50_9 rfl) ?_
  refine sy_Fw (i := 11) (x := (1, 1, 64, (mv_wr 32 Sp 37 (mn_b (mn_b v))))) hw (by decide) (sy_bas (i := 37) xc50_10 (wh_at hw 11 rfl) rfl (by decide) (by decide) rfl sy_refl) ?_
  intro w hw
  simp only [List.set_cons_zero, List.set_cons_succ] at hw
  refine sy_Fs (sy_aldn xc50_11 rfl rfl sy_refl) ?_
  refine sy_Fs (sy_dup xc50_12 rfl sy_refl) ?_
  refine sy_Fs (sy_gf xc50_13 xf50_49 rfl (wh_at hw 10 rfl) rfl (fh_at hX10 4 rfl rfl) sy_refl) ?_
  refine sy_Fs (sy_iconst (v := 1) xc50_16 (by decide) sy_refl) ?_
  refine sy_Fs (sx_iadd (z := 38) xc50_17 (by decide)) ?_
  refine sy_Ff (i := 10) (q := 4) (v := (0, 38, 0)) hw hX10 (by decide) (by decide) rfl (sy_ok0 (by first | decide | assumption | omega | exact mo_rd_lt _ _ | exact mo_add_lt _ _ | exact mo_sub_lt _ _ | exact mo_mul_lt _ _ | exact mo_shl_lt _ _ | exact mo_ushr_lt _ _ | exact mo_or_lt (by decide) (mo_and_lt (mo_rd_lt _ _)) | exact mo_or_lt (mo_shl_lt _ _) (mo_and_lt (mo_rd_lt _ _)))) (sx_pf xc50_18 xf50_49 rfl (xg_int xt2_11) xh50_49 (wh_at hw 10 rfl) rfl (sy_ok0 (by first | decide | assumption | omega | exact mo_rd_lt _ _ | exact mo_add_lt _ _ | exact mo_sub_lt _ _ | exact mo_mul_lt _ _ | exact mo_shl_lt _ _ | exact mo_ushr_lt _ _ | exact mo_or_lt (by decide) (mo_and_lt (mo_rd_lt _ _)) | exact mo_or_lt (mo_shl_lt _ _) (mo_and_lt (mo_rd_lt _ _)))) rfl sy_refl) ?_
  intro w X10 hw hX10
  simp only [List.set_cons_zero, List.set_cons_succ] at hw hX10
  refine sy_Fs (sy_aldn xc50_21 rfl rfl sy_refl) ?_
  refine sy_Fs (sy_dup xc50_22 rfl sy_refl) ?_
  refine sy_Fs (sy_gf xc50_23 xf50_53 rfl (wh_at hw 10 rfl) rfl (fh_at hX10 5 rfl rfl) sy_refl) ?_
  refine sy_Fs (sy_iconst (v := 1) xc50_26 (by decide) sy_refl) ?_
  refine sy_Fs (sx_iadd (z := 102) xc50_27 (by decide)) ?_
  refine sy_Ff (i := 10) (q := 5) (v := (0, 102, 0)) hw hX10 (by decide) (by decide) rfl (sy_ok0 (by first | decide | assumption | omega | exact mo_rd_lt _ _ | exact mo_add_lt _ _ | exact mo_sub_lt _ _ | exact mo_mul_lt _ _ | exact mo_shl_lt _ _ | exact mo_ushr_lt _ _ | exact mo_or_lt (by decide) (mo_and_lt (mo_rd_lt _ _)) | exact mo_or_lt (mo_shl_lt _ _) (mo_and_lt (mo_rd_lt _ _)))) (sx_pf xc50_28 xf50_53 rfl (xg_int xt2_12) xh50_53 (wh_at hw 10 rfl) rfl (sy_ok0 (by first | decide | assumption | omega | exact mo_rd_lt _ _ | exact mo_add_lt _ _ | exact mo_sub_lt _ _ | exact mo_mul_lt _ _ | exact mo_shl_lt _ _ | exact mo_ushr_lt _ _ | exact mo_or_lt (by decide) (mo_and_lt (mo_rd_lt _ _)) | exact mo_or_lt (mo_shl_lt _ _) (mo_and_lt (mo_rd_lt _ _)))) rfl sy_refl) ?_
  intro w X10 hw hX10
  simp only [List.set_cons_zero, List.set_cons_succ] at hw hX10
  refine sy_Fs (sy_aldn xc50_31 rfl rfl sy_refl) ?_
  refine sy_Fs (sy_gf xc50_32 xf50_49 rfl (wh_at hw 10 rfl) rfl (fh_at hX10 4 rfl rfl) sy_refl) ?_
  refine sy_Fs (sy_bipush (v := 64) xc50_35 (by decide) (by decide) sy_refl) ?_
  refine sy_Fs (sy_icmpne_t (pc' := 44) xc50_37 (by decide) (by decide) (by decide) (by decide) (by decide) sy_refl) ?_
  exact sy_Fv xc50_44 xr50 ⟨rfl, X10, _, hw, hX10⟩
theorem ci_pb38  (hw : wh 30 pl w0 w [(0, 1, 13, X0), (0, 8, 11, X1), (3, 6, 40, cbs), (0, 9, 11, X3), (1, 1, 105, Hd), (1, 1, 32, Id), (1, 1, 128, Ids), (1, 1, 480, Ads), (1, 1, 32, Br), (1, 1, 32, Dg), (0, 2, 13, X10), (1, 1, 64, Sp), (1, 0, 64, Sw), (1, 0, 8, Ss), (1, 1, 32, In), (1, 1, 32, Mk), (1, 0, 8, Is), (1, 0, 8, Os), (1, 0, 8, Ks), (1, 1, 64, Kp), (0, 9, 11, X20), (1, 1, 105, Bh), (1, 1, 32, Bd), (3, 7, 4, cps), (1, 1, 28, Mb), (1, 1, 32, Ti), (0, 10, 6, X26), (1, 0, 4, Pr), (1, 0, 1, Nu), (1, 1, 2, Fb)]) (hX0 : fh X0 kX [(2, pl 1, 0), (0, 0, 0)]) (hX1 : fh X1 kM [(0, 1, 0), (2, pl 2, 0), (0, 0, 0), (2, pl 10, 0), (2, pl 6, 0), (2, pl 7, 0), (0, ac, 0), (2, pl 8, 0), (2, pl 9, 0)]) (hX3 : fh X3 kB [(2, pl 5, 0), (2, pl 4, 0), (0, 0, 0), (0, 4, 0), (3, 0, 0)]) (hX10 : fh X10 kS [(2, pl 11, 0), (2, pl 12, 0), (2, pl 13, 0), (2, pl 14, 0), (0, 38, 0), (0, 102, 0), (2, pl 15, 0), (2, pl 16, 0), (2, pl 17, 0), (0, 1, 0), (2, pl 18, 0), (2, pl 19, 0), (0, 101, 0)]) (hX20 : fh X20 kN [(2, pl 3, 0), (0, 1, 0), (0, 1, 0), (0, wk, 0), (2, pl 21, 0), (2, pl 22, 0), (2, pl 23, 0), (0, 1, 0), (2, pl 29, 0), (0, 2, 0), (2, pl 28, 0)]) (hX26 : fh X26 kP [(2, pl 24, 0), (0, 0, 0), (0, 1, 0), (0, 28, 0), (2, pl 25, 0), (2, pl 27, 0)]) {v : Nat} (hv : v < 4294967296) : sy_D 50 n 0 0 [(2, pl 10, 0), (0, v, 0)] w (fun ret w' => ret = [] ∧ ∃ Y10 Y11 : Nat, wh 30 pl w0 w' [(0, 1, 13, X0), (0, 8, 11, X1), (3, 6, 40, cbs), (0, 9, 11, X3), (1, 1, 105, Hd), (1, 1, 32, Id), (1, 1, 128, Ids), (1, 1, 480, Ads), (1, 1, 32, Br), (1, 1, 32, Dg), (0, 2, 13, Y10), (1, 1, 64, Y11), (1, 0, 64, Sw), (1, 0, 8, Ss), (1, 1, 32, In), (1, 1, 32, Mk), (1, 0, 8, Is), (1, 0, 8, Os), (1, 0, 8, Ks), (1, 1, 64, Kp), (0, 9, 11, X20), (1, 1, 105, Bh), (1, 1, 32, Bd), (3, 7, 4, cps), (1, 1, 28, Mb), (1, 1, 32, Ti), (0, 10, 6, X26), (1, 0, 4, Pr), (1, 0, 1, Nu), (1, 1, 2, Fb)] ∧ fh Y10 kS [(2, pl 11, 0), (2, pl 12, 0), (2, pl 13, 0), (2, pl 14, 0), (0, 39, 0), (0, 103, 0), (2, pl 15, 0), (2, pl 16, 0), (2, pl 17, 0), (0, 1, 0), (2, pl 18, 0), (2, pl 19, 0), (0, 101, 0)]) := by
  refine sy_Dof (us := []) (sy_oks_cons (sy_ok2 (wh_lt hw 10 (by first | decide | assumption))) (sy_oks_cons (sy_ok0 (by first | decide | assumption | omega | exact mo_rd_lt _ _ | exact mo_add_lt _ _ | exact mo_sub_lt _ _ | exact mo_mul_lt _ _ | exact mo_shl_lt _ _ | exact mo_ushr_lt _ _ | exact mo_or_lt (by decide) (mo_and_lt (mo_rd_lt _ _)) | exact mo_or_lt (mo_shl_lt _ _) (mo_and_lt (mo_rd_lt _ _)))) sy_oks_nil)) rfl rfl ?_
  show sy_F 50 n 0 0 0 [(2, pl 10, 0), (0, v, 0)] [] w _
  refine sy_Fs (sy_aldn xc50_0 rfl rfl sy_refl) ?_
  refine sy_Fs (sy_gf xc50_1 xf50_18 rfl (wh_at hw 10 rfl) rfl (fh_at hX10 0 rfl rfl) sy_refl) ?_
  refine sy_Fs (sy_aldn xc50_4 rfl rfl sy_refl) ?_
  refine sy_Fs (sy_gf xc50_5 xf50_49 rfl (wh_at hw 10 rfl) rfl (fh_at hX10 4 rfl rfl) sy_refl) ?_
  refine sy_Fs (sy_ildn xc50_8 rfl rfl sy_refl) ?_
  refine sy_Fs (sx_i2b (z := (mn_b v)) xc50_9 rfl) ?_
  refine sy_Fw (i := 11) (x := (1, 1, 64, (mv_wr 32 Sp 38 (mn_b (mn_b v))))) hw (by decide) (sy_bas (i := 38) xc50_10 (wh_at hw 11 rfl) rfl (by decide) (by decide) rfl sy_refl) ?_
  intro w hw
  simp only [List.set_cons_zero, List.set_cons_succ] at hw
  refine sy_Fs (sy_aldn xc50_11 rfl rfl sy_refl) ?_
  refine sy_Fs (sy_dup xc50_12 rfl sy_refl) ?_
  refine sy_Fs (sy_gf xc50_13 xf50_49 rfl (wh_at hw 10 rfl) rfl (fh_at hX10 4 rfl rfl) sy_refl) ?_
  refine sy_Fs (sy_iconst (v := 1) xc50_16 (by decide) sy_refl) ?_
  refine sy_Fs (sx_iadd (z := 39) xc50_17 (by decide)) ?_
  refine sy_Ff (i := 10) (q := 4) (v := (0, 39, 0)) hw hX10 (by decide) (by decide) rfl (sy_ok0 (by first | decide | assumption | omega | exact mo_rd_lt _ _ | exact mo_add_lt _ _ | exact mo_sub_lt _ _ | exact mo_mul_lt _ _ | exact mo_shl_lt _ _ | exact mo_ushr_lt _ _ | exact mo_or_lt (by decide) (mo_and_lt (mo_rd_lt _ _)) | exact mo_or_lt (mo_shl_lt _ _) (mo_and_lt (mo_rd_lt _ _)))) (sx_pf xc50_18 xf50_49 rfl (xg_int xt2_11) xh50_49 (wh_at hw 10 rfl) rfl (sy_ok0 (by first | decide | assumption | omega | exact mo_rd_lt _ _ | exact mo_add_lt _ _ | exact mo_sub_lt _ _ | exact mo_mul_lt _ _ | exact mo_shl_lt _ _ | exact mo_ushr_lt _ _ | exact mo_or_lt (by decide) (mo_and_lt (mo_rd_lt _ _)) | exact mo_or_lt (mo_shl_lt _ _) (mo_and_lt (mo_rd_lt _ _)))) rfl sy_refl) ?_
  intro w X10 hw hX10
  simp only [List.set_cons_zero, List.set_cons_succ] at hw hX10
  refine sy_Fs (sy_aldn xc50_21 rfl rfl sy_refl) ?_
  refine sy_Fs (sy_dup xc50_22 rfl sy_refl) ?_
  refine sy_Fs (sy_gf xc50_23 xf50_53 rfl (wh_at hw 10 rfl) rfl (fh_at hX10 5 rfl rfl) sy_refl) ?_
  refine sy_Fs (sy_iconst (v := 1) xc50_26 (by decide) sy_refl) ?_
  refine sy_Fs (sx_iadd (z := 103) xc50_27 (by decide)) ?_
  refine sy_Ff (i := 10) (q := 5) (v := (0, 103, 0)) hw hX10 (by decide) (by decide) rfl (sy_ok0 (by first | decide | assumption | omega | exact mo_rd_lt _ _ | exact mo_add_lt _ _ | exact mo_sub_lt _ _ | exact mo_mul_lt _ _ | exact mo_shl_lt _ _ | exact mo_ushr_lt _ _ | exact mo_or_lt (by decide) (mo_and_lt (mo_rd_lt _ _)) | exact mo_or_lt (mo_shl_lt _ _) (mo_and_lt (mo_rd_lt _ _)))) (sx_pf xc50_28 xf50_53 rfl (xg_int xt2_12) xh50_53 (wh_at hw 10 rfl) rfl (sy_ok0 (by first | decide | assumption | omega | exact mo_rd_lt _ _ | exact mo_add_lt _ _ | exact mo_sub_lt _ _ | exact mo_mul_lt _ _ | exact mo_shl_lt _ _ | exact mo_ushr_lt _ _ | exact mo_or_lt (by decide) (mo_and_lt (mo_rd_lt _ _)) | exact mo_or_lt (mo_shl_lt _ _) (mo_and_lt (mo_rd_lt _ _)))) rfl sy_refl) ?_
  intro w X10 hw hX10
  simp only [List.set_cons_zero, List.set_cons_succ] at hw hX10
  refine sy_Fs (sy_aldn xc50_31 rfl rfl sy_refl) ?_
  refine sy_Fs (sy_gf xc50_32 xf50_49 rfl (wh_at hw 10 rfl) rfl (fh_at hX10 4 rfl rfl) sy_refl) ?_
  refine sy_Fs (sy_bipush (v := 64) xc50_35 (by decide) (by decide) sy_refl) ?_
  refine sy_Fs (sy_icmpne_t (pc' := 44) xc50_37 (by decide) (by decide) (by decide) (by decide) (by decide) sy_refl) ?_
  exact sy_Fv xc50_44 xr50 ⟨rfl, X10, _, hw, hX10⟩
theorem ci_pb39  (hw : wh 30 pl w0 w [(0, 1, 13, X0), (0, 8, 11, X1), (3, 6, 40, cbs), (0, 9, 11, X3), (1, 1, 105, Hd), (1, 1, 32, Id), (1, 1, 128, Ids), (1, 1, 480, Ads), (1, 1, 32, Br), (1, 1, 32, Dg), (0, 2, 13, X10), (1, 1, 64, Sp), (1, 0, 64, Sw), (1, 0, 8, Ss), (1, 1, 32, In), (1, 1, 32, Mk), (1, 0, 8, Is), (1, 0, 8, Os), (1, 0, 8, Ks), (1, 1, 64, Kp), (0, 9, 11, X20), (1, 1, 105, Bh), (1, 1, 32, Bd), (3, 7, 4, cps), (1, 1, 28, Mb), (1, 1, 32, Ti), (0, 10, 6, X26), (1, 0, 4, Pr), (1, 0, 1, Nu), (1, 1, 2, Fb)]) (hX0 : fh X0 kX [(2, pl 1, 0), (0, 0, 0)]) (hX1 : fh X1 kM [(0, 1, 0), (2, pl 2, 0), (0, 0, 0), (2, pl 10, 0), (2, pl 6, 0), (2, pl 7, 0), (0, ac, 0), (2, pl 8, 0), (2, pl 9, 0)]) (hX3 : fh X3 kB [(2, pl 5, 0), (2, pl 4, 0), (0, 0, 0), (0, 4, 0), (3, 0, 0)]) (hX10 : fh X10 kS [(2, pl 11, 0), (2, pl 12, 0), (2, pl 13, 0), (2, pl 14, 0), (0, 39, 0), (0, 103, 0), (2, pl 15, 0), (2, pl 16, 0), (2, pl 17, 0), (0, 1, 0), (2, pl 18, 0), (2, pl 19, 0), (0, 101, 0)]) (hX20 : fh X20 kN [(2, pl 3, 0), (0, 1, 0), (0, 1, 0), (0, wk, 0), (2, pl 21, 0), (2, pl 22, 0), (2, pl 23, 0), (0, 1, 0), (2, pl 29, 0), (0, 2, 0), (2, pl 28, 0)]) (hX26 : fh X26 kP [(2, pl 24, 0), (0, 0, 0), (0, 1, 0), (0, 28, 0), (2, pl 25, 0), (2, pl 27, 0)]) {v : Nat} (hv : v < 4294967296) : sy_D 50 n 0 0 [(2, pl 10, 0), (0, v, 0)] w (fun ret w' => ret = [] ∧ ∃ Y10 Y11 : Nat, wh 30 pl w0 w' [(0, 1, 13, X0), (0, 8, 11, X1), (3, 6, 40, cbs), (0, 9, 11, X3), (1, 1, 105, Hd), (1, 1, 32, Id), (1, 1, 128, Ids), (1, 1, 480, Ads), (1, 1, 32, Br), (1, 1, 32, Dg), (0, 2, 13, Y10), (1, 1, 64, Y11), (1, 0, 64, Sw), (1, 0, 8, Ss), (1, 1, 32, In), (1, 1, 32, Mk), (1, 0, 8, Is), (1, 0, 8, Os), (1, 0, 8, Ks), (1, 1, 64, Kp), (0, 9, 11, X20), (1, 1, 105, Bh), (1, 1, 32, Bd), (3, 7, 4, cps), (1, 1, 28, Mb), (1, 1, 32, Ti), (0, 10, 6, X26), (1, 0, 4, Pr), (1, 0, 1, Nu), (1, 1, 2, Fb)] ∧ fh Y10 kS [(2, pl 11, 0), (2, pl 12, 0), (2, pl 13, 0), (2, pl 14, 0), (0, 40, 0), (0, 104, 0), (2, pl 15, 0), (2, pl 16, 0), (2, pl 17, 0), (0, 1, 0), (2, pl 18, 0), (2, pl 19, 0), (0, 101, 0)]) := by
  refine sy_Dof (us := []) (sy_oks_cons (sy_ok2 (wh_lt hw 10 (by first | decide | assumption))) (sy_oks_cons (sy_ok0 (by first | decide | assumption | omega | exact mo_rd_lt _ _ | exact mo_add_lt _ _ | exact mo_sub_lt _ _ | exact mo_mul_lt _ _ | exact mo_shl_lt _ _ | exact mo_ushr_lt _ _ | exact mo_or_lt (by decide) (mo_and_lt (mo_rd_lt _ _)) | exact mo_or_lt (mo_shl_lt _ _) (mo_and_lt (mo_rd_lt _ _)))) sy_oks_nil)) rfl rfl ?_
  show sy_F 50 n 0 0 0 [(2, pl 10, 0), (0, v, 0)] [] w _
  refine sy_Fs (sy_aldn xc50_0 rfl rfl sy_refl) ?_
  refine sy_Fs (sy_gf xc50_1 xf50_18 rfl (wh_at hw 10 rfl) rfl (fh_at hX10 0 rfl rfl) sy_refl) ?_
  refine sy_Fs (sy_aldn xc50_4 rfl rfl sy_refl) ?_
  refine sy_Fs (sy_gf xc50_5 xf50_49 rfl (wh_at hw 10 rfl) rfl (fh_at hX10 4 rfl rfl) sy_refl) ?_
  refine sy_Fs (sy_ildn xc50_8 rfl rfl sy_refl) ?_
  refine sy_Fs (sx_i2b (z := (mn_b v)) xc50_9 rfl) ?_
  refine sy_Fw (i := 11) (x := (1, 1, 64, (mv_wr 32 Sp 39 (mn_b (mn_b v))))) hw (by decide) (sy_bas (i := 39) xc50_10 (wh_at hw 11 rfl) rfl (by decide) (by decide) rfl sy_refl) ?_
  intro w hw
  simp only [List.set_cons_zero, List.set_cons_succ] at hw
  refine sy_Fs (sy_aldn xc50_11 rfl rfl sy_refl) ?_
  refine sy_Fs (sy_dup xc50_12 rfl sy_refl) ?_
  refine sy_Fs (sy_gf xc50_13 xf50_49 rfl (wh_at hw 10 rfl) rfl (fh_at hX10 4 rfl rfl) sy_refl) ?_
  refine sy_Fs (sy_iconst (v := 1) xc50_16 (by decide) sy_refl) ?_
  refine sy_Fs (sx_iadd (z := 40) xc50_17 (by decide)) ?_
  refine sy_Ff (i := 10) (q := 4) (v := (0, 40, 0)) hw hX10 (by decide) (by decide) rfl (sy_ok0 (by first | decide | assumption | omega | exact mo_rd_lt _ _ | exact mo_add_lt _ _ | exact mo_sub_lt _ _ | exact mo_mul_lt _ _ | exact mo_shl_lt _ _ | exact mo_ushr_lt _ _ | exact mo_or_lt (by decide) (mo_and_lt (mo_rd_lt _ _)) | exact mo_or_lt (mo_shl_lt _ _) (mo_and_lt (mo_rd_lt _ _)))) (sx_pf xc50_18 xf50_49 rfl (xg_int xt2_11) xh50_49 (wh_at hw 10 rfl) rfl (sy_ok0 (by first | decide | assumption | omega | exact mo_rd_lt _ _ | exact mo_add_lt _ _ | exact mo_sub_lt _ _ | exact mo_mul_lt _ _ | exact mo_shl_lt _ _ | exact mo_ushr_lt _ _ | exact mo_or_lt (by decide) (mo_and_lt (mo_rd_lt _ _)) | exact mo_or_lt (mo_shl_lt _ _) (mo_and_lt (mo_rd_lt _ _)))) rfl sy_refl) ?_
  intro w X10 hw hX10
  simp only [List.set_cons_zero, List.set_cons_succ] at hw hX10
  refine sy_Fs (sy_aldn xc50_21 rfl rfl sy_refl) ?_
  refine sy_Fs (sy_dup xc50_22 rfl sy_refl) ?_
  refine sy_Fs (sy_gf xc50_23 xf50_53 rfl (wh_at hw 10 rfl) rfl (fh_at hX10 5 rfl rfl) sy_refl) ?_
  refine sy_Fs (sy_iconst (v := 1) xc50_26 (by decide) sy_refl) ?_
  refine sy_Fs (sx_iadd (z := 104) xc50_27 (by decide)) ?_
  refine sy_Ff (i := 10) (q := 5) (v := (0, 104, 0)) hw hX10 (by decide) (by decide) rfl (sy_ok0 (by first | decide | assumption | omega | exact mo_rd_lt _ _ | exact mo_add_lt _ _ | exact mo_sub_lt _ _ | exact mo_mul_lt _ _ | exact mo_shl_lt _ _ | exact mo_ushr_lt _ _ | exact mo_or_lt (by decide) (mo_and_lt (mo_rd_lt _ _)) | exact mo_or_lt (mo_shl_lt _ _) (mo_and_lt (mo_rd_lt _ _)))) (sx_pf xc50_28 xf50_53 rfl (xg_int xt2_12) xh50_53 (wh_at hw 10 rfl) rfl (sy_ok0 (by first | decide | assumption | omega | exact mo_rd_lt _ _ | exact mo_add_lt _ _ | exact mo_sub_lt _ _ | exact mo_mul_lt _ _ | exact mo_shl_lt _ _ | exact mo_ushr_lt _ _ | exact mo_or_lt (by decide) (mo_and_lt (mo_rd_lt _ _)) | exact mo_or_lt (mo_shl_lt _ _) (mo_and_lt (mo_rd_lt _ _)))) rfl sy_refl) ?_
  intro w X10 hw hX10
  simp only [List.set_cons_zero, List.set_cons_succ] at hw hX10
  refine sy_Fs (sy_aldn xc50_31 rfl rfl sy_refl) ?_
  refine sy_Fs (sy_gf xc50_32 xf50_49 rfl (wh_at hw 10 rfl) rfl (fh_at hX10 4 rfl rfl) sy_refl) ?_
  refine sy_Fs (sy_bipush (v := 64) xc50_35 (by decide) (by decide) sy_refl) ?_
  refine sy_Fs (sy_icmpne_t (pc' := 44) xc50_37 (by decide) (by decide) (by decide) (by decide) (by decide) sy_refl) ?_
  exact sy_Fv xc50_44 xr50 ⟨rfl, X10, _, hw, hX10⟩
theorem ci_pb40  (hw : wh 30 pl w0 w [(0, 1, 13, X0), (0, 8, 11, X1), (3, 6, 40, cbs), (0, 9, 11, X3), (1, 1, 105, Hd), (1, 1, 32, Id), (1, 1, 128, Ids), (1, 1, 480, Ads), (1, 1, 32, Br), (1, 1, 32, Dg), (0, 2, 13, X10), (1, 1, 64, Sp), (1, 0, 64, Sw), (1, 0, 8, Ss), (1, 1, 32, In), (1, 1, 32, Mk), (1, 0, 8, Is), (1, 0, 8, Os), (1, 0, 8, Ks), (1, 1, 64, Kp), (0, 9, 11, X20), (1, 1, 105, Bh), (1, 1, 32, Bd), (3, 7, 4, cps), (1, 1, 28, Mb), (1, 1, 32, Ti), (0, 10, 6, X26), (1, 0, 4, Pr), (1, 0, 1, Nu), (1, 1, 2, Fb)]) (hX0 : fh X0 kX [(2, pl 1, 0), (0, 0, 0)]) (hX1 : fh X1 kM [(0, 1, 0), (2, pl 2, 0), (0, 0, 0), (2, pl 10, 0), (2, pl 6, 0), (2, pl 7, 0), (0, ac, 0), (2, pl 8, 0), (2, pl 9, 0)]) (hX3 : fh X3 kB [(2, pl 5, 0), (2, pl 4, 0), (0, 0, 0), (0, 4, 0), (3, 0, 0)]) (hX10 : fh X10 kS [(2, pl 11, 0), (2, pl 12, 0), (2, pl 13, 0), (2, pl 14, 0), (0, 40, 0), (0, 104, 0), (2, pl 15, 0), (2, pl 16, 0), (2, pl 17, 0), (0, 1, 0), (2, pl 18, 0), (2, pl 19, 0), (0, 101, 0)]) (hX20 : fh X20 kN [(2, pl 3, 0), (0, 1, 0), (0, 1, 0), (0, wk, 0), (2, pl 21, 0), (2, pl 22, 0), (2, pl 23, 0), (0, 1, 0), (2, pl 29, 0), (0, 2, 0), (2, pl 28, 0)]) (hX26 : fh X26 kP [(2, pl 24, 0), (0, 0, 0), (0, 1, 0), (0, 28, 0), (2, pl 25, 0), (2, pl 27, 0)]) {v : Nat} (hv : v < 4294967296) : sy_D 50 n 0 0 [(2, pl 10, 0), (0, v, 0)] w (fun ret w' => ret = [] ∧ ∃ Y10 Y11 : Nat, wh 30 pl w0 w' [(0, 1, 13, X0), (0, 8, 11, X1), (3, 6, 40, cbs), (0, 9, 11, X3), (1, 1, 105, Hd), (1, 1, 32, Id), (1, 1, 128, Ids), (1, 1, 480, Ads), (1, 1, 32, Br), (1, 1, 32, Dg), (0, 2, 13, Y10), (1, 1, 64, Y11), (1, 0, 64, Sw), (1, 0, 8, Ss), (1, 1, 32, In), (1, 1, 32, Mk), (1, 0, 8, Is), (1, 0, 8, Os), (1, 0, 8, Ks), (1, 1, 64, Kp), (0, 9, 11, X20), (1, 1, 105, Bh), (1, 1, 32, Bd), (3, 7, 4, cps), (1, 1, 28, Mb), (1, 1, 32, Ti), (0, 10, 6, X26), (1, 0, 4, Pr), (1, 0, 1, Nu), (1, 1, 2, Fb)] ∧ fh Y10 kS [(2, pl 11, 0), (2, pl 12, 0), (2, pl 13, 0), (2, pl 14, 0), (0, 41, 0), (0, 105, 0), (2, pl 15, 0), (2, pl 16, 0), (2, pl 17, 0), (0, 1, 0), (2, pl 18, 0), (2, pl 19, 0), (0, 101, 0)]) := by
  refine sy_Dof (us := []) (sy_oks_cons (sy_ok2 (wh_lt hw 10 (by first | decide | assumption))) (sy_oks_cons (sy_ok0 (by first | decide | assumption | omega | exact mo_rd_lt _ _ | exact mo_add_lt _ _ | exact mo_sub_lt _ _ | exact mo_mul_lt _ _ | exact mo_shl_lt _ _ | exact mo_ushr_lt _ _ | exact mo_or_lt (by decide) (mo_and_lt (mo_rd_lt _ _)) | exact mo_or_lt (mo_shl_lt _ _) (mo_and_lt (mo_rd_lt _ _)))) sy_oks_nil)) rfl rfl ?_
  show sy_F 50 n 0 0 0 [(2, pl 10, 0), (0, v, 0)] [] w _
  refine sy_Fs (sy_aldn xc50_0 rfl rfl sy_refl) ?_
  refine sy_Fs (sy_gf xc50_1 xf50_18 rfl (wh_at hw 10 rfl) rfl (fh_at hX10 0 rfl rfl) sy_refl) ?_
  refine sy_Fs (sy_aldn xc50_4 rfl rfl sy_refl) ?_
  refine sy_Fs (sy_gf xc50_5 xf50_49 rfl (wh_at hw 10 rfl) rfl (fh_at hX10 4 rfl rfl) sy_refl) ?_
  refine sy_Fs (sy_ildn xc50_8 rfl rfl sy_refl) ?_
  refine sy_Fs (sx_i2b (z := (mn_b v)) xc50_9 rfl) ?_
  refine sy_Fw (i := 11) (x := (1, 1, 64, (mv_wr 32 Sp 40 (mn_b (mn_b v))))) hw (by decide) (sy_bas (i := 40) xc50_10 (wh_at hw 11 rfl) rfl (by decide) (by decide) rfl sy_refl) ?_
  intro w hw
  simp only [List.set_cons_zero, List.set_cons_succ] at hw
  refine sy_Fs (sy_aldn xc50_11 rfl rfl sy_refl) ?_
  refine sy_Fs (sy_dup xc50_12 rfl sy_refl) ?_
  refine sy_Fs (sy_gf xc50_13 xf50_49 rfl (wh_at hw 10 rfl) rfl (fh_at hX10 4 rfl rfl) sy_refl) ?_
  refine sy_Fs (sy_iconst (v := 1) xc50_16 (by decide) sy_refl) ?_
  refine sy_Fs (sx_iadd (z := 41) xc50_17 (by decide)) ?_
  refine sy_Ff (i := 10) (q := 4) (v := (0, 41, 0)) hw hX10 (by decide) (by decide) rfl (sy_ok0 (by first | decide | assumption | omega | exact mo_rd_lt _ _ | exact mo_add_lt _ _ | exact mo_sub_lt _ _ | exact mo_mul_lt _ _ | exact mo_shl_lt _ _ | exact mo_ushr_lt _ _ | exact mo_or_lt (by decide) (mo_and_lt (mo_rd_lt _ _)) | exact mo_or_lt (mo_shl_lt _ _) (mo_and_lt (mo_rd_lt _ _)))) (sx_pf xc50_18 xf50_49 rfl (xg_int xt2_11) xh50_49 (wh_at hw 10 rfl) rfl (sy_ok0 (by first | decide | assumption | omega | exact mo_rd_lt _ _ | exact mo_add_lt _ _ | exact mo_sub_lt _ _ | exact mo_mul_lt _ _ | exact mo_shl_lt _ _ | exact mo_ushr_lt _ _ | exact mo_or_lt (by decide) (mo_and_lt (mo_rd_lt _ _)) | exact mo_or_lt (mo_shl_lt _ _) (mo_and_lt (mo_rd_lt _ _)))) rfl sy_refl) ?_
  intro w X10 hw hX10
  simp only [List.set_cons_zero, List.set_cons_succ] at hw hX10
  refine sy_Fs (sy_aldn xc50_21 rfl rfl sy_refl) ?_
  refine sy_Fs (sy_dup xc50_22 rfl sy_refl) ?_
  refine sy_Fs (sy_gf xc50_23 xf50_53 rfl (wh_at hw 10 rfl) rfl (fh_at hX10 5 rfl rfl) sy_refl) ?_
  refine sy_Fs (sy_iconst (v := 1) xc50_26 (by decide) sy_refl) ?_
  refine sy_Fs (sx_iadd (z := 105) xc50_27 (by decide)) ?_
  refine sy_Ff (i := 10) (q := 5) (v := (0, 105, 0)) hw hX10 (by decide) (by decide) rfl (sy_ok0 (by first | decide | assumption | omega | exact mo_rd_lt _ _ | exact mo_add_lt _ _ | exact mo_sub_lt _ _ | exact mo_mul_lt _ _ | exact mo_shl_lt _ _ | exact mo_ushr_lt _ _ | exact mo_or_lt (by decide) (mo_and_lt (mo_rd_lt _ _)) | exact mo_or_lt (mo_shl_lt _ _) (mo_and_lt (mo_rd_lt _ _)))) (sx_pf xc50_28 xf50_53 rfl (xg_int xt2_12) xh50_53 (wh_at hw 10 rfl) rfl (sy_ok0 (by first | decide | assumption | omega | exact mo_rd_lt _ _ | exact mo_add_lt _ _ | exact mo_sub_lt _ _ | exact mo_mul_lt _ _ | exact mo_shl_lt _ _ | exact mo_ushr_lt _ _ | exact mo_or_lt (by decide) (mo_and_lt (mo_rd_lt _ _)) | exact mo_or_lt (mo_shl_lt _ _) (mo_and_lt (mo_rd_lt _ _)))) rfl sy_refl) ?_
  intro w X10 hw hX10
  simp only [List.set_cons_zero, List.set_cons_succ] at hw hX10
  refine sy_Fs (sy_aldn xc50_31 rfl rfl sy_refl) ?_
  refine sy_Fs (sy_gf xc50_32 xf50_49 rfl (wh_at hw 10 rfl) rfl (fh_at hX10 4 rfl rfl) sy_refl) ?_
  refine sy_Fs (sy_bipush (v := 64) xc50_35 (by decide) (by decide) sy_refl) ?_
  refine sy_Fs (sy_icmpne_t (pc' := 44) xc50_37 (by decide) (by decide) (by decide) (by decide) (by decide) sy_refl) ?_
  exact sy_Fv xc50_44 xr50 ⟨rfl, X10, _, hw, hX10⟩
theorem ci_pw  (hw : wh 30 pl w0 w [(0, 1, 13, X0), (0, 8, 11, X1), (3, 6, 40, cbs), (0, 9, 11, X3), (1, 1, 105, Hd), (1, 1, 32, Id), (1, 1, 128, Ids), (1, 1, 480, Ads), (1, 1, 32, Br), (1, 1, 32, Dg), (0, 2, 13, X10), (1, 1, 64, Sp), (1, 0, 64, Sw), (1, 0, 8, Ss), (1, 1, 32, In), (1, 1, 32, Mk), (1, 0, 8, Is), (1, 0, 8, Os), (1, 0, 8, Ks), (1, 1, 64, Kp), (0, 9, 11, X20), (1, 1, 105, Bh), (1, 1, 32, Bd), (3, 7, 4, cps), (1, 1, 28, Mb), (1, 1, 32, Ti), (0, 10, 6, X26), (1, 0, 4, Pr), (1, 0, 1, Nu), (1, 1, 2, Fb)]) (hX0 : fh X0 kX [(2, pl 1, 0), (0, 0, 0)]) (hX1 : fh X1 kM [(0, 1, 0), (2, pl 2, 0), (0, 0, 0), (2, pl 10, 0), (2, pl 6, 0), (2, pl 7, 0), (0, ac, 0), (2, pl 8, 0), (2, pl 9, 0)]) (hX3 : fh X3 kB [(2, pl 5, 0), (2, pl 4, 0), (0, 0, 0), (0, 4, 0), (3, 0, 0)]) (hX10 : fh X10 kS [(2, pl 11, 0), (2, pl 12, 0), (2, pl 13, 0), (2, pl 14, 0), (0, 37, 0), (0, 101, 0), (2, pl 15, 0), (2, pl 16, 0), (2, pl 17, 0), (0, 1, 0), (2, pl 18, 0), (2, pl 19, 0), (0, 101, 0)]) (hX20 : fh X20 kN [(2, pl 3, 0), (0, 1, 0), (0, 1, 0), (0, wk, 0), (2, pl 21, 0), (2, pl 22, 0), (2, pl 23, 0), (0, 1, 0), (2, pl 29, 0), (0, 2, 0), (2, pl 28, 0)]) (hX26 : fh X26 kP [(2, pl 24, 0), (0, 0, 0), (0, 1, 0), (0, 28, 0), (2, pl 25, 0), (2, pl 27, 0)]) {v : Nat} (hv : v < 4294967296) : sy_D 49 n 1 21 [(2, pl 10, 0), (0, v, 0)] w (fun ret w' => ret = [] ∧ ∃ Y10 Y11 : Nat, wh 30 pl w0 w' [(0, 1, 13, X0), (0, 8, 11, X1), (3, 6, 40, cbs), (0, 9, 11, X3), (1, 1, 105, Hd), (1, 1, 32, Id), (1, 1, 128, Ids), (1, 1, 480, Ads), (1, 1, 32, Br), (1, 1, 32, Dg), (0, 2, 13, Y10), (1, 1, 64, Y11), (1, 0, 64, Sw), (1, 0, 8, Ss), (1, 1, 32, In), (1, 1, 32, Mk), (1, 0, 8, Is), (1, 0, 8, Os), (1, 0, 8, Ks), (1, 1, 64, Kp), (0, 9, 11, X20), (1, 1, 105, Bh), (1, 1, 32, Bd), (3, 7, 4, cps), (1, 1, 28, Mb), (1, 1, 32, Ti), (0, 10, 6, X26), (1, 0, 4, Pr), (1, 0, 1, Nu), (1, 1, 2, Fb)] ∧ fh Y10 kS [(2, pl 11, 0), (2, pl 12, 0), (2, pl 13, 0), (2, pl 14, 0), (0, 41, 0), (0, 105, 0), (2, pl 15, 0), (2, pl 16, 0), (2, pl 17, 0), (0, 1, 0), (2, pl 18, 0), (2, pl 19, 0), (0, 101, 0)]) := by
  refine sy_Dof (us := []) (sy_oks_cons (sy_ok2 (wh_lt hw 10 (by first | decide | assumption))) (sy_oks_cons (sy_ok0 (by first | decide | assumption | omega | exact mo_rd_lt _ _ | exact mo_add_lt _ _ | exact mo_sub_lt _ _ | exact mo_mul_lt _ _ | exact mo_shl_lt _ _ | exact mo_ushr_lt _ _ | exact mo_or_lt (by decide) (mo_and_lt (mo_rd_lt _ _)) | exact mo_or_lt (mo_shl_lt _ _) (mo_and_lt (mo_rd_lt _ _)))) sy_oks_nil)) rfl rfl ?_
  show sy_F 49 n 1 21 0 [(2, pl 10, 0), (0, v, 0)] [] w _
  obtain ⟨a24, h24, hl24⟩ : ∃ a, mo_shr v 24 = a ∧ a < 4294967296 := ⟨_, rfl, mo_shr_lt _ _⟩
  obtain ⟨a16, h16, hl16⟩ : ∃ a, mo_shr v 16 = a ∧ a < 4294967296 := ⟨_, rfl, mo_shr_lt _ _⟩
  obtain ⟨a8, h8, hl8⟩ : ∃ a, mo_shr v 8 = a ∧ a < 4294967296 := ⟨_, rfl, mo_shr_lt _ _⟩
  refine sy_Fs (sy_aldn xc49_0 rfl rfl sy_refl) ?_
  refine sy_Fs (sy_ildn xc49_1 rfl rfl sy_refl) ?_
  refine sy_Fs (sy_bipush (v := 24) xc49_2 (by decide) (by decide) sy_refl) ?_
  refine sy_Fs (sx_ishr (z := a24) xc49_4 h24) ?_
  obtain ⟨ret, w, ⟨rfl, X10, P1, hw1, hX1x⟩, hC⟩ := ci_pb37 (n := n) (v := a24) hw hX0 hX1 hX3 hX10 hX20 hX26 (by first | decide | assumption | omega | exact mo_rd_lt _ _ | exact mo_add_lt _ _ | exact mo_sub_lt _ _ | exact mo_mul_lt _ _ | exact mo_shl_lt _ _ | exact mo_ushr_lt _ _ | exact mo_or_lt (by decide) (mo_and_lt (mo_rd_lt _ _)) | exact mo_or_lt (mo_shl_lt _ _) (mo_and_lt (mo_rd_lt _ _)))
  refine sy_Fs (sy_callG (kd := 3) (as := [(2, pl 10, 0), (0, a24, 0)]) (S0 := []) (ret := []) xc49_5 (sy_calV (as := [(2, pl 10, 0), (0, a24, 0)]) (S0 := []) xm49_59 rfl rfl) rfl rfl (sy_rcvm xi50 (wh_at hw 10 rfl)) rfl (sy_oka (sy_oks_cons (sy_ok2 (wh_lt hw 10 (by first | decide | assumption))) (sy_oks_cons (sy_ok0 (by first | decide | assumption | omega | exact mo_rd_lt _ _ | exact mo_add_lt _ _ | exact mo_sub_lt _ _ | exact mo_mul_lt _ _ | exact mo_shl_lt _ _ | exact mo_ushr_lt _ _ | exact mo_or_lt (by decide) (mo_and_lt (mo_rd_lt _ _)) | exact mo_or_lt (mo_shl_lt _ _) (mo_and_lt (mo_rd_lt _ _)))) sy_oks_nil)) rfl xl50) hC (by decide) (by rw [xl50]; decide) sy_refl) ?_
  replace hw := hw1
  replace hX10 := hX1x
  refine sy_Fs (sy_aldn xc49_8 rfl rfl sy_refl) ?_
  refine sy_Fs (sy_ildn xc49_9 rfl rfl sy_refl) ?_
  refine sy_Fs (sy_bipush (v := 16) xc49_10 (by decide) (by decide) sy_refl) ?_
  refine sy_Fs (sx_ishr (z := a16) xc49_12 h16) ?_
  obtain ⟨ret, w, ⟨rfl, X10, P2, hw1, hX1x⟩, hC⟩ := ci_pb38 (n := n) (v := a16) hw hX0 hX1 hX3 hX10 hX20 hX26 (by first | decide | assumption | omega | exact mo_rd_lt _ _ | exact mo_add_lt _ _ | exact mo_sub_lt _ _ | exact mo_mul_lt _ _ | exact mo_shl_lt _ _ | exact mo_ushr_lt _ _ | exact mo_or_lt (by decide) (mo_and_lt (mo_rd_lt _ _)) | exact mo_or_lt (mo_shl_lt _ _) (mo_and_lt (mo_rd_lt _ _)))
  refine sy_Fs (sy_callG (kd := 3) (as := [(2, pl 10, 0), (0, a16, 0)]) (S0 := []) (ret := []) xc49_13 (sy_calV (as := [(2, pl 10, 0), (0, a16, 0)]) (S0 := []) xm49_59 rfl rfl) rfl rfl (sy_rcvm xi50 (wh_at hw 10 rfl)) rfl (sy_oka (sy_oks_cons (sy_ok2 (wh_lt hw 10 (by first | decide | assumption))) (sy_oks_cons (sy_ok0 (by first | decide | assumption | omega | exact mo_rd_lt _ _ | exact mo_add_lt _ _ | exact mo_sub_lt _ _ | exact mo_mul_lt _ _ | exact mo_shl_lt _ _ | exact mo_ushr_lt _ _ | exact mo_or_lt (by decide) (mo_and_lt (mo_rd_lt _ _)) | exact mo_or_lt (mo_shl_lt _ _) (mo_and_lt (mo_rd_lt _ _)))) sy_oks_nil)) rfl xl50) hC (by decide) (by rw [xl50]; decide) sy_refl) ?_
  replace hw := hw1
  replace hX10 := hX1x
  refine sy_Fs (sy_aldn xc49_16 rfl rfl sy_refl) ?_
  refine sy_Fs (sy_ildn xc49_17 rfl rfl sy_refl) ?_
  refine sy_Fs (sy_bipush (v := 8) xc49_18 (by decide) (by decide) sy_refl) ?_
  refine sy_Fs (sx_ishr (z := a8) xc49_20 h8) ?_
  obtain ⟨ret, w, ⟨rfl, X10, P3, hw1, hX1x⟩, hC⟩ := ci_pb39 (n := n) (v := a8) hw hX0 hX1 hX3 hX10 hX20 hX26 (by first | decide | assumption | omega | exact mo_rd_lt _ _ | exact mo_add_lt _ _ | exact mo_sub_lt _ _ | exact mo_mul_lt _ _ | exact mo_shl_lt _ _ | exact mo_ushr_lt _ _ | exact mo_or_lt (by decide) (mo_and_lt (mo_rd_lt _ _)) | exact mo_or_lt (mo_shl_lt _ _) (mo_and_lt (mo_rd_lt _ _)))
  refine sy_Fs (sy_callG (kd := 3) (as := [(2, pl 10, 0), (0, a8, 0)]) (S0 := []) (ret := []) xc49_21 (sy_calV (as := [(2, pl 10, 0), (0, a8, 0)]) (S0 := []) xm49_59 rfl rfl) rfl rfl (sy_rcvm xi50 (wh_at hw 10 rfl)) rfl (sy_oka (sy_oks_cons (sy_ok2 (wh_lt hw 10 (by first | decide | assumption))) (sy_oks_cons (sy_ok0 (by first | decide | assumption | omega | exact mo_rd_lt _ _ | exact mo_add_lt _ _ | exact mo_sub_lt _ _ | exact mo_mul_lt _ _ | exact mo_shl_lt _ _ | exact mo_ushr_lt _ _ | exact mo_or_lt (by decide) (mo_and_lt (mo_rd_lt _ _)) | exact mo_or_lt (mo_shl_lt _ _) (mo_and_lt (mo_rd_lt _ _)))) sy_oks_nil)) rfl xl50) hC (by decide) (by rw [xl50]; decide) sy_refl) ?_
  replace hw := hw1
  replace hX10 := hX1x
  refine sy_Fs (sy_aldn xc49_24 rfl rfl sy_refl) ?_
  refine sy_Fs (sy_ildn xc49_25 rfl rfl sy_refl) ?_
  obtain ⟨ret, w, ⟨rfl, X10, P4, hw1, hX1x⟩, hC⟩ := ci_pb40 (n := n) (v := v) hw hX0 hX1 hX3 hX10 hX20 hX26 (by first | decide | assumption | omega | exact mo_rd_lt _ _ | exact mo_add_lt _ _ | exact mo_sub_lt _ _ | exact mo_mul_lt _ _ | exact mo_shl_lt _ _ | exact mo_ushr_lt _ _ | exact mo_or_lt (by decide) (mo_and_lt (mo_rd_lt _ _)) | exact mo_or_lt (mo_shl_lt _ _) (mo_and_lt (mo_rd_lt _ _)))
  refine sy_Fs (sy_callG (kd := 3) (as := [(2, pl 10, 0), (0, v, 0)]) (S0 := []) (ret := []) xc49_26 (sy_calV (as := [(2, pl 10, 0), (0, v, 0)]) (S0 := []) xm49_59 rfl rfl) rfl rfl (sy_rcvm xi50 (wh_at hw 10 rfl)) rfl (sy_oka (sy_oks_cons (sy_ok2 (wh_lt hw 10 (by first | decide | assumption))) (sy_oks_cons (sy_ok0 (by first | decide | assumption | omega | exact mo_rd_lt _ _ | exact mo_add_lt _ _ | exact mo_sub_lt _ _ | exact mo_mul_lt _ _ | exact mo_shl_lt _ _ | exact mo_ushr_lt _ _ | exact mo_or_lt (by decide) (mo_and_lt (mo_rd_lt _ _)) | exact mo_or_lt (mo_shl_lt _ _) (mo_and_lt (mo_rd_lt _ _)))) sy_oks_nil)) rfl xl50) hC (by decide) (by rw [xl50]; decide) sy_refl) ?_
  replace hw := hw1
  replace hX10 := hX1x
  exact sy_Fv xc49_29 xr49 ⟨rfl, X10, _, hw, hX10⟩
theorem ci_bits  (hw : wh 30 pl w0 w [(0, 1, 13, X0), (0, 8, 11, X1), (3, 6, 40, cbs), (0, 9, 11, X3), (1, 1, 105, Hd), (1, 1, 32, Id), (1, 1, 128, Ids), (1, 1, 480, Ads), (1, 1, 32, Br), (1, 1, 32, Dg), (0, 2, 13, X10), (1, 1, 64, Sp), (1, 0, 64, Sw), (1, 0, 8, Ss), (1, 1, 32, In), (1, 1, 32, Mk), (1, 0, 8, Is), (1, 0, 8, Os), (1, 0, 8, Ks), (1, 1, 64, Kp), (0, 9, 11, X20), (1, 1, 105, Bh), (1, 1, 32, Bd), (3, 7, 4, cps), (1, 1, 28, Mb), (1, 1, 32, Ti), (0, 10, 6, X26), (1, 0, 4, Pr), (1, 0, 1, Nu), (1, 1, 2, Fb)]) (hX0 : fh X0 kX [(2, pl 1, 0), (0, 0, 0)]) (hX1 : fh X1 kM [(0, 1, 0), (2, pl 2, 0), (0, 0, 0), (2, pl 10, 0), (2, pl 6, 0), (2, pl 7, 0), (0, ac, 0), (2, pl 8, 0), (2, pl 9, 0)]) (hX3 : fh X3 kB [(2, pl 5, 0), (2, pl 4, 0), (0, 0, 0), (0, 4, 0), (3, 0, 0)]) (hX10 : fh X10 kS [(2, pl 11, 0), (2, pl 12, 0), (2, pl 13, 0), (2, pl 14, 0), (0, su, 0), (0, sl, 0), (2, pl 15, 0), (2, pl 16, 0), (2, pl 17, 0), (0, 1, 0), (2, pl 18, 0), (2, pl 19, 0), (0, kl, 0)]) (hX20 : fh X20 kN [(2, pl 3, 0), (0, 1, 0), (0, 1, 0), (0, wk, 0), (2, pl 21, 0), (2, pl 22, 0), (2, pl 23, 0), (0, 1, 0), (2, pl 29, 0), (0, 2, 0), (2, pl 28, 0)]) (hX26 : fh X26 kP [(2, pl 24, 0), (0, 0, 0), (0, 1, 0), (0, 28, 0), (2, pl 25, 0), (2, pl 27, 0)]) (hd : mv_rd 32 Bh 100 = 2) : sy_D 29 n 0 0 [(2, pl 20, 0)] w (fun ret w' => ret = [(0, 2, 0)] ∧ w' = w) := by
  refine sy_Dof (us := []) (sy_oks_cons (sy_ok2 (wh_lt hw 20 (by first | decide | assumption))) sy_oks_nil) rfl rfl ?_
  show sy_F 29 n 0 0 0 [(2, pl 20, 0)] [] w _
  refine sy_Fs (sy_aldn xc29_0 rfl rfl sy_refl) ?_
  refine sy_Fs (sy_gf xc29_1 xf29_11 rfl (wh_at hw 20 rfl) rfl (fh_at hX20 4 rfl rfl) sy_refl) ?_
  refine sy_Fs (sy_bipush (v := 100) xc29_4 (by decide) (by decide) sy_refl) ?_
  refine sy_Fs (sx_bal (z := 2) xc29_6 (wh_at hw 21 rfl) (by decide) (by decide) hd) ?_
  refine sy_Fs (sy_sipush (v := 255) xc29_7 (by decide) (by decide) sy_refl) ?_
  refine sy_Fs (sx_iand (z := 2) xc29_10 (by decide)) ?_
  exact sy_Fi xc29_11 xr29 rfl ⟨rfl, rfl⟩
theorem ci_wa  (hw : wh 30 pl w0 w [(0, 1, 13, X0), (0, 8, 11, X1), (3, 6, 40, cbs), (0, 9, 11, X3), (1, 1, 105, Hd), (1, 1, 32, Id), (1, 1, 128, Ids), (1, 1, 480, Ads), (1, 1, 32, Br), (1, 1, 32, Dg), (0, 2, 13, X10), (1, 1, 64, Sp), (1, 0, 64, Sw), (1, 0, 8, Ss), (1, 1, 32, In), (1, 1, 32, Mk), (1, 0, 8, Is), (1, 0, 8, Os), (1, 0, 8, Ks), (1, 1, 64, Kp), (0, 9, 11, X20), (1, 1, 105, Bh), (1, 1, 32, Bd), (3, 7, 4, cps), (1, 1, 28, Mb), (1, 1, 32, Ti), (0, 10, 6, X26), (1, 0, 4, Pr), (1, 0, 1, Nu), (1, 1, 2, Fb)]) (hX0 : fh X0 kX [(2, pl 1, 0), (0, 0, 0)]) (hX1 : fh X1 kM [(0, 1, 0), (2, pl 2, 0), (0, 0, 0), (2, pl 10, 0), (2, pl 6, 0), (2, pl 7, 0), (0, ac, 0), (2, pl 8, 0), (2, pl 9, 0)]) (hX3 : fh X3 kB [(2, pl 5, 0), (2, pl 4, 0), (0, 0, 0), (0, 4, 0), (3, 0, 0)]) (hX10 : fh X10 kS [(2, pl 11, 0), (2, pl 12, 0), (2, pl 13, 0), (2, pl 14, 0), (0, su, 0), (0, sl, 0), (2, pl 15, 0), (2, pl 16, 0), (2, pl 17, 0), (0, 1, 0), (2, pl 18, 0), (2, pl 19, 0), (0, kl, 0)]) (hX20 : fh X20 kN [(2, pl 3, 0), (0, 1, 0), (0, 1, 0), (0, wk, 0), (2, pl 21, 0), (2, pl 22, 0), (2, pl 23, 0), (0, 1, 0), (2, pl 29, 0), (0, 2, 0), (2, pl 28, 0)]) (hX26 : fh X26 kP [(2, pl 24, 0), (0, 0, 0), (0, 1, 0), (0, 28, 0), (2, pl 25, 0), (2, pl 27, 0)])  : sy_D 27 n 0 0 [(2, pl 22, 0), (0, 0, 0)] w (fun ret w' => ∃ x : Nat, x < 4294967296 ∧ ret = [(0, x, 0)] ∧ w' = w) := by
  refine sy_Dof (us := []) (sy_oks_cons (sy_ok2 (wh_lt hw 22 (by first | decide | assumption))) (sy_oks_cons (sy_ok0 (by first | decide | assumption | omega | exact mo_rd_lt _ _ | exact mo_add_lt _ _ | exact mo_sub_lt _ _ | exact mo_mul_lt _ _ | exact mo_shl_lt _ _ | exact mo_ushr_lt _ _ | exact mo_or_lt (by decide) (mo_and_lt (mo_rd_lt _ _)) | exact mo_or_lt (mo_shl_lt _ _) (mo_and_lt (mo_rd_lt _ _)))) sy_oks_nil)) rfl rfl ?_
  show sy_F 27 n 0 0 0 [(2, pl 22, 0), (0, 0, 0)] [] w _
  refine sy_Fs (sy_ildn xc27_0 rfl rfl sy_refl) ?_
  refine sy_Fs (sy_iflt_f xc27_1 (by decide) (by decide) sy_refl) ?_
  refine sy_Fs (sy_ildn xc27_4 rfl rfl sy_refl) ?_
  refine sy_Fs (sy_aldn xc27_5 rfl rfl sy_refl) ?_
  refine sy_Fs (sy_alen xc27_6 (wh_at hw 22 rfl) rfl sy_refl) ?_
  refine sy_Fs (sy_iconst (v := 4) xc27_7 (by decide) sy_refl) ?_
  refine sy_Fs (sx_isub (z := 28) xc27_8 (by decide)) ?_
  refine sy_Fs (sy_icmple_t (pc' := 14) xc27_9 (by decide) (by decide) (by decide) (by decide) sy_refl) ?_
  refine sy_Fs (sy_aldn xc27_14 rfl rfl sy_refl) ?_
  refine sy_Fs (sy_ildn xc27_15 rfl rfl sy_refl) ?_
  refine sy_Fs (sx_bal (z := (mv_rd 32 Bd 0)) xc27_16 (wh_at hw 22 rfl) (by decide) (by decide) rfl) ?_
  refine sy_Fs (sy_bipush (v := 24) xc27_17 (by decide) (by decide) sy_refl) ?_
  refine sy_Fs (sx_ishl (z := (mo_shl (mv_rd 32 Bd 0) 24)) xc27_19 rfl) ?_
  refine sy_Fs (sy_aldn xc27_20 rfl rfl sy_refl) ?_
  refine sy_Fs (sy_ildn xc27_21 rfl rfl sy_refl) ?_
  refine sy_Fs (sy_iconst (v := 1) xc27_22 (by decide) sy_refl) ?_
  refine sy_Fs (sx_iadd (z := 1) xc27_23 (by decide)) ?_
  refine sy_Fs (sx_bal (z := (mv_rd 32 Bd 1)) xc27_24 (wh_at hw 22 rfl) (by decide) (by decide) rfl) ?_
  refine sy_Fs (sy_sipush (v := 255) xc27_25 (by decide) (by decide) sy_refl) ?_
  refine sy_Fs (sx_iand (z := (mo_and (mv_rd 32 Bd 1) 255)) xc27_28 rfl) ?_
  refine sy_Fs (sy_bipush (v := 16) xc27_29 (by decide) (by decide) sy_refl) ?_
  refine sy_Fs (sx_ishl (z := (mo_shl (mo_and (mv_rd 32 Bd 1) 255) 16)) xc27_31 rfl) ?_
  refine sy_Fs (sx_ior (z := (mo_or (mo_shl (mv_rd 32 Bd 0) 24) (mo_shl (mo_and (mv_rd 32 Bd 1) 255) 16))) xc27_32 rfl) ?_
  refine sy_Fs (sy_aldn xc27_33 rfl rfl sy_refl) ?_
  refine sy_Fs (sy_ildn xc27_34 rfl rfl sy_refl) ?_
  refine sy_Fs (sy_iconst (v := 2) xc27_35 (by decide) sy_refl) ?_
  refine sy_Fs (sx_iadd (z := 2) xc27_36 (by decide)) ?_
  refine sy_Fs (sx_bal (z := (mv_rd 32 Bd 2)) xc27_37 (wh_at hw 22 rfl) (by decide) (by decide) rfl) ?_
  refine sy_Fs (sy_sipush (v := 255) xc27_38 (by decide) (by decide) sy_refl) ?_
  refine sy_Fs (sx_iand (z := (mo_and (mv_rd 32 Bd 2) 255)) xc27_41 rfl) ?_
  refine sy_Fs (sy_bipush (v := 8) xc27_42 (by decide) (by decide) sy_refl) ?_
  refine sy_Fs (sx_ishl (z := (mo_shl (mo_and (mv_rd 32 Bd 2) 255) 8)) xc27_44 rfl) ?_
  refine sy_Fs (sx_ior (z := (mo_or (mo_or (mo_shl (mv_rd 32 Bd 0) 24) (mo_shl (mo_and (mv_rd 32 Bd 1) 255) 16)) (mo_shl (mo_and (mv_rd 32 Bd 2) 255) 8))) xc27_45 rfl) ?_
  refine sy_Fs (sy_aldn xc27_46 rfl rfl sy_refl) ?_
  refine sy_Fs (sy_ildn xc27_47 rfl rfl sy_refl) ?_
  refine sy_Fs (sy_iconst (v := 3) xc27_48 (by decide) sy_refl) ?_
  refine sy_Fs (sx_iadd (z := 3) xc27_49 (by decide)) ?_
  refine sy_Fs (sx_bal (z := (mv_rd 32 Bd 3)) xc27_50 (wh_at hw 22 rfl) (by decide) (by decide) rfl) ?_
  refine sy_Fs (sy_sipush (v := 255) xc27_51 (by decide) (by decide) sy_refl) ?_
  refine sy_Fs (sx_iand (z := (mo_and (mv_rd 32 Bd 3) 255)) xc27_54 rfl) ?_
  refine sy_Fs (sx_ior (z := (mo_or (mo_or (mo_or (mo_shl (mv_rd 32 Bd 0) 24) (mo_shl (mo_and (mv_rd 32 Bd 1) 255) 16)) (mo_shl (mo_and (mv_rd 32 Bd 2) 255) 8)) (mo_and (mv_rd 32 Bd 3) 255))) xc27_55 rfl) ?_
  exact sy_Fi xc27_56 xr27 rfl ⟨_, word_lt Bd 0 1 2 3, rfl, rfl⟩
theorem ci_ip  (hw : wh 30 pl w0 w [(0, 1, 13, X0), (0, 8, 11, X1), (3, 6, 40, cbs), (0, 9, 11, X3), (1, 1, 105, Hd), (1, 1, 32, Id), (1, 1, 128, Ids), (1, 1, 480, Ads), (1, 1, 32, Br), (1, 1, 32, Dg), (0, 2, 13, X10), (1, 1, 64, Sp), (1, 0, 64, Sw), (1, 0, 8, Ss), (1, 1, 32, In), (1, 1, 32, Mk), (1, 0, 8, Is), (1, 0, 8, Os), (1, 0, 8, Ks), (1, 1, 64, Kp), (0, 9, 11, X20), (1, 1, 105, Bh), (1, 1, 32, Bd), (3, 7, 4, cps), (1, 1, 28, Mb), (1, 1, 32, Ti), (0, 10, 6, X26), (1, 0, 4, Pr), (1, 0, 1, Nu), (1, 1, 2, Fb)]) (hX0 : fh X0 kX [(2, pl 1, 0), (0, 0, 0)]) (hX1 : fh X1 kM [(0, 1, 0), (2, pl 2, 0), (0, 0, 0), (2, pl 10, 0), (2, pl 6, 0), (2, pl 7, 0), (0, ac, 0), (2, pl 8, 0), (2, pl 9, 0)]) (hX3 : fh X3 kB [(2, pl 5, 0), (2, pl 4, 0), (0, 0, 0), (0, 4, 0), (3, 0, 0)]) (hX10 : fh X10 kS [(2, pl 11, 0), (2, pl 12, 0), (2, pl 13, 0), (2, pl 14, 0), (0, su, 0), (0, sl, 0), (2, pl 15, 0), (2, pl 16, 0), (2, pl 17, 0), (0, 1, 0), (2, pl 18, 0), (2, pl 19, 0), (0, kl, 0)]) (hX20 : fh X20 kN [(2, pl 3, 0), (0, 1, 0), (0, 1, 0), (0, wk, 0), (2, pl 21, 0), (2, pl 22, 0), (2, pl 23, 0), (0, 1, 0), (2, pl 29, 0), (0, 2, 0), (2, pl 28, 0)]) (hX26 : fh X26 kP [(2, pl 24, 0), (0, 0, 0), (0, 1, 0), (0, 28, 0), (2, pl 25, 0), (2, pl 27, 0)])  : sy_D 51 n 1 21 [(2, pl 22, 0), (0, 2, 0)] w (fun ret w' => ∃ b : Nat, b < 2 ∧ ret = [(0, b, 0)] ∧ w' = w) := by
  refine sy_Dof (us := []) (sy_oks_cons (sy_ok2 (wh_lt hw 22 (by first | decide | assumption))) (sy_oks_cons (sy_ok0 (by first | decide | assumption | omega | exact mo_rd_lt _ _ | exact mo_add_lt _ _ | exact mo_sub_lt _ _ | exact mo_mul_lt _ _ | exact mo_shl_lt _ _ | exact mo_ushr_lt _ _ | exact mo_or_lt (by decide) (mo_and_lt (mo_rd_lt _ _)) | exact mo_or_lt (mo_shl_lt _ _) (mo_and_lt (mo_rd_lt _ _)))) sy_oks_nil)) rfl rfl ?_
  show sy_F 51 n 1 21 0 [(2, pl 22, 0), (0, 2, 0)] [] w _
  refine sy_Fs (sy_ildn xc51_0 rfl rfl sy_refl) ?_
  refine sy_Fs (sy_ifeq_f xc51_1 (by decide) (by decide) (by decide) sy_refl) ?_
  refine sy_Fs (sy_ildn xc51_4 rfl rfl sy_refl) ?_
  refine sy_Fs (sy_bipush (v := 32) xc51_5 (by decide) (by decide) sy_refl) ?_
  refine sy_Fs (sy_icmpgt_f xc51_7 (by decide) (by decide) (by decide) sy_refl) ?_
  refine sy_Fs (sy_aldn xc51_10 rfl rfl sy_refl) ?_
  refine sy_Fs (sy_iconst (v := 0) xc51_11 (by decide) sy_refl) ?_
  obtain ⟨ret, w1, ⟨x, hx, rfl, rfl⟩, hC⟩ := ci_wa (n := n) hw hX0 hX1 hX3 hX10 hX20 hX26
  refine sy_Fs (sy_callG (kd := 2) (as := [(2, pl 22, 0), (0, 0, 0)]) (S0 := []) (ret := [(0, x, 0)]) xc51_12 (sy_calS (as := [(2, pl 22, 0), (0, 0, 0)]) (S0 := []) xm51_35 rfl rfl) rfl rfl rfl rfl (sy_oka (sy_oks_cons (sy_ok2 (wh_lt hw 22 (by first | decide | assumption))) (sy_oks_cons (sy_ok0 (by first | decide | assumption | omega | exact mo_rd_lt _ _ | exact mo_add_lt _ _ | exact mo_sub_lt _ _ | exact mo_mul_lt _ _ | exact mo_shl_lt _ _ | exact mo_ushr_lt _ _ | exact mo_or_lt (by decide) (mo_and_lt (mo_rd_lt _ _)) | exact mo_or_lt (mo_shl_lt _ _) (mo_and_lt (mo_rd_lt _ _)))) sy_oks_nil)) rfl xl27) hC (by decide) (by rw [xl27]; decide) sy_refl) ?_
  refine sy_Fs (sy_bipush (v := 32) xc51_15 (by decide) (by decide) sy_refl) ?_
  refine sy_Fs (sy_ildn xc51_17 rfl rfl sy_refl) ?_
  refine sy_Fs (sx_isub (z := 30) xc51_18 (by decide)) ?_
  refine sy_Fs (sx_iushr (z := (mo_ushr x 30)) xc51_19 rfl) ?_
  by_cases hz : (mo_ushr x 30) = 0
  · skip
    refine sy_Fs (sy_ifne_f xc51_20 (by decide) hz sy_refl) ?_
    refine sy_Fs (sy_iconst (v := 1) xc51_23 (by decide) sy_refl) ?_
    refine sy_Fs (sy_goto (pc' := 28) xc51_24 (by decide) (by decide) sy_refl) ?_
    exact sy_Fz xc51_28 xr51 (by first | decide | assumption | omega) ⟨1, by decide, rfl, rfl⟩
  · skip
    refine sy_Fs (sy_ifne_t (pc' := 27) xc51_20 (by decide) hz (mo_ushr_lt _ _) (by decide) sy_refl) ?_
    refine sy_Fs (sy_iconst (v := 0) xc51_27 (by decide) sy_refl) ?_
    exact sy_Fz xc51_28 xr51 (by first | decide | assumption | omega) ⟨0, by decide, rfl, rfl⟩
theorem ci_sw  (hw : wh 30 pl w0 w [(0, 1, 13, X0), (0, 8, 11, X1), (3, 6, 40, cbs), (0, 9, 11, X3), (1, 1, 105, Hd), (1, 1, 32, Id), (1, 1, 128, Ids), (1, 1, 480, Ads), (1, 1, 32, Br), (1, 1, 32, Dg), (0, 2, 13, X10), (1, 1, 64, Sp), (1, 0, 64, Sw), (1, 0, 8, Ss), (1, 1, 32, In), (1, 1, 32, Mk), (1, 0, 8, Is), (1, 0, 8, Os), (1, 0, 8, Ks), (1, 1, 64, Kp), (0, 9, 11, X20), (1, 1, 105, Bh), (1, 1, 32, Bd), (3, 7, 4, cps), (1, 1, 28, Mb), (1, 1, 32, Ti), (0, 10, 6, X26), (1, 0, 4, Pr), (1, 0, 1, Nu), (1, 1, 2, Fb)]) (hX0 : fh X0 kX [(2, pl 1, 0), (0, 0, 0)]) (hX1 : fh X1 kM [(0, 1, 0), (2, pl 2, 0), (0, 0, 0), (2, pl 10, 0), (2, pl 6, 0), (2, pl 7, 0), (0, ac, 0), (2, pl 8, 0), (2, pl 9, 0)]) (hX3 : fh X3 kB [(2, pl 5, 0), (2, pl 4, 0), (0, 0, 0), (0, 4, 0), (3, 0, 0)]) (hX10 : fh X10 kS [(2, pl 11, 0), (2, pl 12, 0), (2, pl 13, 0), (2, pl 14, 0), (0, su, 0), (0, sl, 0), (2, pl 15, 0), (2, pl 16, 0), (2, pl 17, 0), (0, 1, 0), (2, pl 18, 0), (2, pl 19, 0), (0, kl, 0)]) (hX20 : fh X20 kN [(2, pl 3, 0), (0, 1, 0), (0, 1, 0), (0, wk, 0), (2, pl 21, 0), (2, pl 22, 0), (2, pl 23, 0), (0, 1, 0), (2, pl 29, 0), (0, 2, 0), (2, pl 28, 0)]) (hX26 : fh X26 kP [(2, pl 24, 0), (0, 0, 0), (0, 1, 0), (0, 28, 0), (2, pl 25, 0), (2, pl 27, 0)]) (hd : mv_rd 32 Bh 100 = 2) : sy_D 52 n 1 20 [(2, pl 20, 0)] w (fun ret w' => ret = [] ∧ ∃ Y20 : Nat, wh 30 pl w0 w' [(0, 1, 13, X0), (0, 8, 11, X1), (3, 6, 40, cbs), (0, 9, 11, X3), (1, 1, 105, Hd), (1, 1, 32, Id), (1, 1, 128, Ids), (1, 1, 480, Ads), (1, 1, 32, Br), (1, 1, 32, Dg), (0, 2, 13, X10), (1, 1, 64, Sp), (1, 0, 64, Sw), (1, 0, 8, Ss), (1, 1, 32, In), (1, 1, 32, Mk), (1, 0, 8, Is), (1, 0, 8, Os), (1, 0, 8, Ks), (1, 1, 64, Kp), (0, 9, 11, Y20), (1, 1, 105, Bh), (1, 1, 32, Bd), (3, 7, 4, cps), (1, 1, 28, Mb), (1, 1, 32, Ti), (0, 10, 6, X26), (1, 0, 4, Pr), (1, 0, 1, Nu), (1, 1, 2, Fb)] ∧ fh Y20 kN [(2, pl 3, 0), (0, 1, 0), (0, 1, 0), (0, 8, 0), (2, pl 21, 0), (2, pl 22, 0), (2, pl 23, 0), (0, 1, 0), (2, pl 29, 0), (0, 2, 0), (2, pl 28, 0)]) := by
  refine sy_Dof (us := []) (sy_oks_cons (sy_ok2 (wh_lt hw 20 (by first | decide | assumption))) sy_oks_nil) rfl rfl ?_
  show sy_F 52 n 1 20 0 [(2, pl 20, 0)] [] w _
  refine sy_Fs (sy_aldn xc52_0 rfl rfl sy_refl) ?_
  refine sy_Fs (sy_iconst (v := 1) xc52_1 (by decide) sy_refl) ?_
  refine sy_Fs (sy_aldn xc52_2 rfl rfl sy_refl) ?_
  refine sy_Fs (sy_callG (kd := 3) (as := [(2, pl 20, 0)]) (S0 := [(0, 1, 0), (2, pl 20, 0)]) (ret := [(0, 2, 0)]) xc52_3 (sy_calV (as := [(2, pl 20, 0)]) (S0 := [(0, 1, 0), (2, pl 20, 0)]) xm52_48 rfl rfl) rfl rfl (sy_rcvm xi29 (wh_at hw 20 rfl)) rfl (sy_oka (sy_oks_cons (sy_ok2 (wh_lt hw 20 (by first | decide | assumption))) sy_oks_nil) rfl xl29) (sy_Cw (ci_bits (n := n) hw hX0 hX1 hX3 hX10 hX20 hX26 hd)) (by decide) (by rw [xl29]; decide) sy_refl) ?_
  refine sy_Fs (sy_bipush (v := 31) xc52_6 (by decide) (by decide) sy_refl) ?_
  refine sy_Fs (sx_iand (z := 2) xc52_8 (by decide)) ?_
  refine sy_Fs (sx_ishl (z := 4) xc52_9 (by decide)) ?_
  refine sy_Fs (sy_aldn xc52_10 rfl rfl sy_refl) ?_
  refine sy_Fs (sy_gf xc52_11 xf52_24 rfl (wh_at hw 20 rfl) rfl (fh_at hX20 0 rfl rfl) sy_refl) ?_
  refine sy_Fs (sy_nnl_t (pc' := 21) xc52_14 (by decide) (by decide) sy_refl) ?_
  refine sy_Fs (sy_aldn xc52_21 rfl rfl sy_refl) ?_
  refine sy_Fs (sy_gf xc52_22 xf52_24 rfl (wh_at hw 20 rfl) rfl (fh_at hX20 0 rfl rfl) sy_refl) ?_
  refine sy_Fs (sy_gf xc52_25 xf52_52 rfl (wh_at hw 3 rfl) rfl (fh_at hX3 3 rfl rfl) sy_refl) ?_
  refine sy_Fs (sx_iadd (z := 8) xc52_28 (by decide)) ?_
  refine sy_Ff (i := 20) (q := 3) (v := (0, 8, 0)) hw hX20 (by decide) (by decide) rfl (sy_ok0 (by first | decide | assumption | omega | exact mo_rd_lt _ _ | exact mo_add_lt _ _ | exact mo_sub_lt _ _ | exact mo_mul_lt _ _ | exact mo_shl_lt _ _ | exact mo_ushr_lt _ _ | exact mo_or_lt (by decide) (mo_and_lt (mo_rd_lt _ _)) | exact mo_or_lt (mo_shl_lt _ _) (mo_and_lt (mo_rd_lt _ _)))) (sx_pf xc52_29 xf52_52 rfl (xg_int xt9_3) xh52_52 (wh_at hw 20 rfl) rfl (sy_ok0 (by first | decide | assumption | omega | exact mo_rd_lt _ _ | exact mo_add_lt _ _ | exact mo_sub_lt _ _ | exact mo_mul_lt _ _ | exact mo_shl_lt _ _ | exact mo_ushr_lt _ _ | exact mo_or_lt (by decide) (mo_and_lt (mo_rd_lt _ _)) | exact mo_or_lt (mo_shl_lt _ _) (mo_and_lt (mo_rd_lt _ _)))) rfl sy_refl) ?_
  intro w X20 hw hX20
  simp only [List.set_cons_zero, List.set_cons_succ] at hw hX20
  exact sy_Fv xc52_32 xr52 ⟨rfl, X20, hw, hX20⟩
theorem ci_end (hw : wh 30 pl w0 w [(0, 1, 13, X0), (0, 8, 11, X1), (3, 6, 40, cbs), (0, 9, 11, X3), (1, 1, 105, Hd), (1, 1, 32, Id), (1, 1, 128, Ids), (1, 1, 480, Ads), (1, 1, 32, Br), (1, 1, 32, Dg), (0, 2, 13, X10), (1, 1, 64, Sp), (1, 0, 64, Sw), (1, 0, 8, Ss), (1, 1, 32, In), (1, 1, 32, Mk), (1, 0, 8, Is), (1, 0, 8, Os), (1, 0, 8, Ks), (1, 1, 64, Kp), (0, 9, 11, X20), (1, 1, 105, Bh), (1, 1, 32, Bd), (3, 7, 4, cps), (1, 1, 28, Mb), (1, 1, 32, Ti), (0, 10, 6, X26), (1, 0, 4, Pr), (1, 0, 1, Nu), (1, 1, 2, Fb)]) (hX0 : fh X0 kX [(2, pl 1, 0), (0, 0, 0)]) (hX1 : fh X1 kM [(0, 1, 0), (2, pl 2, 0), (0, 0, 0), (2, pl 10, 0), (2, pl 6, 0), (2, pl 7, 0), (0, ac, 0), (2, pl 8, 0), (2, pl 9, 0)]) (hX3 : fh X3 kB [(2, pl 5, 0), (2, pl 4, 0), (0, 0, 0), (0, 4, 0), (3, 0, 0)]) (hX10 : fh X10 kS [(2, pl 11, 0), (2, pl 12, 0), (2, pl 13, 0), (2, pl 14, 0), (0, su, 0), (0, sl, 0), (2, pl 15, 0), (2, pl 16, 0), (2, pl 17, 0), (0, 1, 0), (2, pl 18, 0), (2, pl 19, 0), (0, 101, 0)]) (hX20 : fh X20 kN [(2, pl 3, 0), (0, 1, 0), (0, 1, 0), (0, wk, 0), (2, pl 21, 0), (2, pl 22, 0), (2, pl 23, 0), (0, 1, 0), (2, pl 29, 0), (0, 2, 0), (2, pl 28, 0)]) (hX26 : fh X26 kP [(2, pl 24, 0), (0, 0, 0), (0, 1, 0), (0, 28, 0), (2, pl 25, 0), (2, pl 27, 0)]) (hd : mv_rd 32 Bh 100 = 2) {i b : Nat} (hi : i < 2147483648) : sy_F 46 n 4 91 87 [(2, pl 1, 0), (2, pl 20, 0), (0, i, 0), (0, b, 0)] [] w (fun ret w' => ret = [] ∧ ∃ Y10 Y11 Y12 Y13 Y14 Y18 Y19 Y20 Y21 Y22 : Nat, wh 30 pl w0 w' [(0, 1, 13, X0), (0, 8, 11, X1), (3, 6, 40, cbs), (0, 9, 11, X3), (1, 1, 105, Hd), (1, 1, 32, Id), (1, 1, 128, Ids), (1, 1, 480, Ads), (1, 1, 32, Br), (1, 1, 32, Dg), (0, 2, 13, Y10), (1, 1, 64, Y11), (1, 0, 64, Y12), (1, 0, 8, Y13), (1, 1, 32, Y14), (1, 1, 32, Mk), (1, 0, 8, Is), (1, 0, 8, Os), (1, 0, 8, Y18), (1, 1, 64, Y19), (0, 9, 11, Y20), (1, 1, 105, Y21), (1, 1, 32, Y22), (3, 7, 4, cps), (1, 1, 28, Mb), (1, 1, 32, Ti), (0, 10, 6, X26), (1, 0, 4, Pr), (1, 0, 1, Nu), (1, 1, 2, Fb)] ∧ fh Y20 kN [(2, pl 3, 0), (0, 1, 0), (0, 1, 0), (0, 8, 0), (2, pl 21, 0), (2, pl 22, 0), (2, pl 23, 0), (0, 1, 0), (2, pl 29, 0), (0, 2, 0), (2, pl 28, 0)]) := by
  have hsb : mo_sub i 1 < 4294967296 := mo_sub_lt _ _
  refine sy_Fs (sy_ildn xc46_87 rfl rfl sy_refl) ?_
  refine sy_Fs (sy_iconst (v := 1) xc46_88 (by decide) sy_refl) ?_
  refine sy_Fs (sx_isub (z := (mo_sub i 1)) xc46_89 rfl) ?_
  refine sy_Fs (sy_aldn xc46_90 rfl rfl sy_refl) ?_
  refine sy_Fs (sy_gf xc46_91 xf46_95 rfl (wh_at hw 20 rfl) rfl (fh_at hX20 4 rfl rfl) sy_refl) ?_
  refine sy_Fs (sy_bipush (v := 101) xc46_94 (by decide) (by decide) sy_refl) ?_
  refine sy_Fw (i := 21) (x := (1, 1, 105, (su_4 Bh 101 (mo_sub i 1)))) hw (by decide) (sy_callG (kd := 2) (as := [(0, (mo_sub i 1), 0), (2, pl 21, 0), (0, 101, 0)]) (S0 := []) (ret := []) xc46_96 (sy_calS (as := [(0, (mo_sub i 1), 0), (2, pl 21, 0), (0, 101, 0)]) (S0 := []) xm46_108 rfl rfl) rfl rfl rfl rfl (sy_oka (sy_oks_cons (sy_ok0 (by first | decide | assumption | omega | exact mo_rd_lt _ _ | exact mo_add_lt _ _ | exact mo_sub_lt _ _ | exact mo_mul_lt _ _ | exact mo_shl_lt _ _ | exact mo_ushr_lt _ _ | exact mo_or_lt (by decide) (mo_and_lt (mo_rd_lt _ _)) | exact mo_or_lt (mo_shl_lt _ _) (mo_and_lt (mo_rd_lt _ _)))) (sy_oks_cons (sy_ok2 (wh_lt hw 21 (by first | decide | assumption))) (sy_oks_cons (sy_ok0 (by first | decide | assumption | omega | exact mo_rd_lt _ _ | exact mo_add_lt _ _ | exact mo_sub_lt _ _ | exact mo_mul_lt _ _ | exact mo_shl_lt _ _ | exact mo_ushr_lt _ _ | exact mo_or_lt (by decide) (mo_and_lt (mo_rd_lt _ _)) | exact mo_or_lt (mo_shl_lt _ _) (mo_and_lt (mo_rd_lt _ _)))) sy_oks_nil))) rfl xl11) (su_run (wh_lt hw 21 (by first | decide | assumption)) (wh_at hw 21 rfl) (by first | decide | assumption | omega) (by first | decide | assumption | omega) (by first | decide | assumption | omega | exact mo_rd_lt _ _ | exact mo_add_lt _ _ | exact mo_sub_lt _ _ | exact mo_mul_lt _ _ | exact mo_shl_lt _ _ | exact mo_ushr_lt _ _ | exact mo_or_lt (by decide) (mo_and_lt (mo_rd_lt _ _)) | exact mo_or_lt (mo_shl_lt _ _) (mo_and_lt (mo_rd_lt _ _)))) (by decide) (by rw [xl11]; decide) sy_refl) ?_
  intro w hw
  simp only [List.set_cons_zero, List.set_cons_succ] at hw
  refine sy_Fs (sy_aldn xc46_99 rfl rfl sy_refl) ?_
  obtain ⟨ret, w, ⟨rfl, X20, hw1, hX1x⟩, hC⟩ := ci_sw (n := n) hw hX0 hX1 hX3 hX10 hX20 hX26 (by rw [su_rd]; exact hd)
  refine sy_Fs (sy_callG (kd := 3) (as := [(2, pl 20, 0)]) (S0 := []) (ret := []) xc46_100 (sy_calV (as := [(2, pl 20, 0)]) (S0 := []) xm46_261 rfl rfl) rfl rfl (sy_rcvm xi52 (wh_at hw 20 rfl)) rfl (sy_oka (sy_oks_cons (sy_ok2 (wh_lt hw 20 (by first | decide | assumption))) sy_oks_nil) rfl xl52) hC (by decide) (by rw [xl52]; decide) sy_refl) ?_
  replace hw := hw1
  replace hX20 := hX1x
  exact sy_Fv xc46_103 xr46 ⟨rfl, _, _, _, _, _, _, _, X20, _, _, hw, hX20⟩
theorem ci_loop (hX0 : fh X0 kX [(2, pl 1, 0), (0, 0, 0)]) (hX1 : fh X1 kM [(0, 1, 0), (2, pl 2, 0), (0, 0, 0), (2, pl 10, 0), (2, pl 6, 0), (2, pl 7, 0), (0, ac, 0), (2, pl 8, 0), (2, pl 9, 0)]) (hX3 : fh X3 kB [(2, pl 5, 0), (2, pl 4, 0), (0, 0, 0), (0, 4, 0), (3, 0, 0)]) (hX20 : fh X20 kN [(2, pl 3, 0), (0, 1, 0), (0, 1, 0), (0, wk, 0), (2, pl 21, 0), (2, pl 22, 0), (2, pl 23, 0), (0, 1, 0), (2, pl 29, 0), (0, 2, 0), (2, pl 28, 0)]) (hX26 : fh X26 kP [(2, pl 24, 0), (0, 0, 0), (0, 1, 0), (0, 28, 0), (2, pl 25, 0), (2, pl 27, 0)]) (hd : mv_rd 32 Bh 100 = 2) (hab : mv_ab Kp 0 64 = true) : ∀ (k i b : Nat) (w : mv_T 10) (X10 Sp Sw Ss In Bd su sl : Nat), i + k = 1000000 → b < 2 → wh 30 pl w0 w [(0, 1, 13, X0), (0, 8, 11, X1), (3, 6, 40, cbs), (0, 9, 11, X3), (1, 1, 105, Hd), (1, 1, 32, Id), (1, 1, 128, Ids), (1, 1, 480, Ads), (1, 1, 32, Br), (1, 1, 32, Dg), (0, 2, 13, X10), (1, 1, 64, Sp), (1, 0, 64, Sw), (1, 0, 8, Ss), (1, 1, 32, In), (1, 1, 32, Mk), (1, 0, 8, Is), (1, 0, 8, Os), (1, 0, 8, Ks), (1, 1, 64, Kp), (0, 9, 11, X20), (1, 1, 105, Bh), (1, 1, 32, Bd), (3, 7, 4, cps), (1, 1, 28, Mb), (1, 1, 32, Ti), (0, 10, 6, X26), (1, 0, 4, Pr), (1, 0, 1, Nu), (1, 1, 2, Fb)] → fh X10 kS [(2, pl 11, 0), (2, pl 12, 0), (2, pl 13, 0), (2, pl 14, 0), (0, su, 0), (0, sl, 0), (2, pl 15, 0), (2, pl 16, 0), (2, pl 17, 0), (0, 1, 0), (2, pl 18, 0), (2, pl 19, 0), (0, 101, 0)] → sy_F 46 n 4 91 32 [(2, pl 1, 0), (2, pl 20, 0), (0, i, 0), (0, b, 0)] [] w (fun ret w' => ret = [] ∧ ∃ Y10 Y11 Y12 Y13 Y14 Y18 Y19 Y20 Y21 Y22 : Nat, wh 30 pl w0 w' [(0, 1, 13, X0), (0, 8, 11, X1), (3, 6, 40, cbs), (0, 9, 11, X3), (1, 1, 105, Hd), (1, 1, 32, Id), (1, 1, 128, Ids), (1, 1, 480, Ads), (1, 1, 32, Br), (1, 1, 32, Dg), (0, 2, 13, Y10), (1, 1, 64, Y11), (1, 0, 64, Y12), (1, 0, 8, Y13), (1, 1, 32, Y14), (1, 1, 32, Mk), (1, 0, 8, Is), (1, 0, 8, Os), (1, 0, 8, Y18), (1, 1, 64, Y19), (0, 9, 11, Y20), (1, 1, 105, Y21), (1, 1, 32, Y22), (3, 7, 4, cps), (1, 1, 28, Mb), (1, 1, 32, Ti), (0, 10, 6, X26), (1, 0, 4, Pr), (1, 0, 1, Nu), (1, 1, 2, Fb)] ∧ fh Y20 kN [(2, pl 3, 0), (0, 1, 0), (0, 1, 0), (0, 8, 0), (2, pl 21, 0), (2, pl 22, 0), (2, pl 23, 0), (0, 1, 0), (2, pl 29, 0), (0, 2, 0), (2, pl 28, 0)]) := by
  intro k
  induction k with
  | zero =>
    intro i b w X10 Sp Sw Ss In Bd su sl hi hb hw hX10
    refine sy_Fs (sy_ildn xc46_32 rfl rfl sy_refl) ?_
    refine sy_Fs (sy_ldcI (v := 1000000) xc46_33 xk46_245 sy_refl) ?_
    refine sy_Fs (sy_ge_t (pc' := 87) xc46_35 (by decide) (by omega) (by omega) (by decide) sy_refl) ?_
    exact ci_end hw hX0 hX1 hX3 hX10 hX20 hX26 hd (by omega)
  | succ k ih =>
    intro i b w X10 Sp Sw Ss In Bd su sl hi hb hw hX10
    rcases (show b = 0 ∨ b = 1 by omega) with h0 | h0
    · subst h0
      refine sy_Fs (sy_ildn xc46_32 rfl rfl sy_refl) ?_
      refine sy_Fs (sy_ldcI (v := 1000000) xc46_33 xk46_245 sy_refl) ?_
      refine sy_Fs (sy_ge_f xc46_35 (by decide) (by omega) (by decide) sy_refl) ?_
      refine sy_Fs (sy_ildn xc46_38 rfl rfl sy_refl) ?_
      refine sy_Fs (sy_ifne_f xc46_39 (by decide) (by decide) sy_refl) ?_
      refine sy_Fs (sy_aldn xc46_42 rfl rfl sy_refl) ?_
      refine sy_Fs (sy_gf xc46_43 xf46_36 rfl (wh_at hw 1 rfl) rfl (fh_at hX1 3 rfl rfl) sy_refl) ?_
      obtain ⟨ret, w, ⟨rfl, X10, hw1, hX1x⟩, hC⟩ := ci_gb (n := n) hw hX0 hX1 hX3 hX10 hX20 hX26 hab
      refine sy_Fs (sy_callG (kd := 3) (as := [(2, pl 10, 0)]) (S0 := []) (ret := []) xc46_46 (sy_calV (as := [(2, pl 10, 0)]) (S0 := []) xm46_246 rfl rfl) rfl rfl (sy_rcvm xi48 (wh_at hw 10 rfl)) rfl (sy_oka (sy_oks_cons (sy_ok2 (wh_lt hw 10 (by first | decide | assumption))) sy_oks_nil) rfl xl48) hC (by decide) (by rw [xl48]; decide) sy_refl) ?_
      replace hw := hw1
      replace hX10 := hX1x
      refine sy_Fs (sy_aldn xc46_49 rfl rfl sy_refl) ?_
      refine sy_Fs (sy_gf xc46_50 xf46_36 rfl (wh_at hw 1 rfl) rfl (fh_at hX1 3 rfl rfl) sy_refl) ?_
      refine sy_Fs (sy_ildn xc46_53 rfl rfl sy_refl) ?_
      obtain ⟨ret, w, ⟨rfl, X10, P1, hw1, hX1x⟩, hC⟩ := ci_pw (n := n) (v := i) hw hX0 hX1 hX3 hX10 hX20 hX26 (by omega)
      refine sy_Fs (sy_callG (kd := 3) (as := [(2, pl 10, 0), (0, i, 0)]) (S0 := []) (ret := []) xc46_54 (sy_calV (as := [(2, pl 10, 0), (0, i, 0)]) (S0 := []) xm46_249 rfl rfl) rfl rfl (sy_rcvm xi49 (wh_at hw 10 rfl)) rfl (sy_oka (sy_oks_cons (sy_ok2 (wh_lt hw 10 (by first | decide | assumption))) (sy_oks_cons (sy_ok0 (by first | decide | assumption | omega | exact mo_rd_lt _ _ | exact mo_add_lt _ _ | exact mo_sub_lt _ _ | exact mo_mul_lt _ _ | exact mo_shl_lt _ _ | exact mo_ushr_lt _ _ | exact mo_or_lt (by decide) (mo_and_lt (mo_rd_lt _ _)) | exact mo_or_lt (mo_shl_lt _ _) (mo_and_lt (mo_rd_lt _ _)))) sy_oks_nil)) rfl xl49) hC (by decide) (by rw [xl49]; decide) sy_refl) ?_
      replace hw := hw1
      replace hX10 := hX1x
      refine sy_Fs (sy_aldn xc46_57 rfl rfl sy_refl) ?_
      refine sy_Fs (sy_gf xc46_58 xf46_36 rfl (wh_at hw 1 rfl) rfl (fh_at hX1 3 rfl rfl) sy_refl) ?_
      refine sy_Fs (sy_aldn xc46_61 rfl rfl sy_refl) ?_
      refine sy_Fs (sy_gf xc46_62 xf46_48 rfl (wh_at hw 20 rfl) rfl (fh_at hX20 5 rfl rfl) sy_refl) ?_
      refine sy_Fs (sy_iconst (v := 0) xc46_65 (by decide) sy_refl) ?_
      obtain ⟨w, X10, P2, W2, S2, I2, T2, u2, l2, hC, hw1, hX1x⟩ := we_twice (n := n) (s := (41, 105, P1, Sw, (mv_cw 32 Ss Ks 0 0 8))) (it := 22) (at_ := 0) hw rfl rfl rfl rfl hX10 rfl rfl rfl rfl rfl rfl rfl (by show 41 < 64; decide) (by show 105 < 4294967296; decide) (by decide) (by decide) rfl (by decide) (by decide)
      refine sy_Fs (sy_callG (kd := 3) (as := [(2, pl 10, 0), (2, pl 22, 0), (0, 0, 0)]) (S0 := []) (ret := []) xc46_66 (sy_calV (as := [(2, pl 10, 0), (2, pl 22, 0), (0, 0, 0)]) (S0 := []) xm46_252 rfl rfl) rfl rfl (sy_rcvm xi17 (wh_at hw 10 rfl)) rfl (sy_oka (sy_oks_cons (sy_ok2 (wh_lt hw 10 (by first | decide | assumption))) (sy_oks_cons (sy_ok2 (wh_lt hw 22 (by first | decide | assumption))) (sy_oks_cons (sy_ok0 (by first | decide | assumption | omega | exact mo_rd_lt _ _ | exact mo_add_lt _ _ | exact mo_sub_lt _ _ | exact mo_mul_lt _ _ | exact mo_shl_lt _ _ | exact mo_ushr_lt _ _ | exact mo_or_lt (by decide) (mo_and_lt (mo_rd_lt _ _)) | exact mo_or_lt (mo_shl_lt _ _) (mo_and_lt (mo_rd_lt _ _)))) sy_oks_nil))) rfl xl17) hC (by decide) (by rw [xl17]; decide) sy_refl) ?_
      replace hw := hw1
      replace hX10 := hX1x
      simp only [List.set_cons_zero, List.set_cons_succ] at hw hX10
      refine sy_Fs (sy_aldn xc46_69 rfl rfl sy_refl) ?_
      refine sy_Fs (sy_gf xc46_70 xf46_48 rfl (wh_at hw 20 rfl) rfl (fh_at hX20 5 rfl rfl) sy_refl) ?_
      refine sy_Fs (sy_aldn xc46_73 rfl rfl sy_refl) ?_
      refine sy_Fs (sy_callG (kd := 3) (as := [(2, pl 20, 0)]) (S0 := [(2, pl 22, 0)]) (ret := [(0, 2, 0)]) xc46_74 (sy_calV (as := [(2, pl 20, 0)]) (S0 := [(2, pl 22, 0)]) xm46_255 rfl rfl) rfl rfl (sy_rcvm xi29 (wh_at hw 20 rfl)) rfl (sy_oka (sy_oks_cons (sy_ok2 (wh_lt hw 20 (by first | decide | assumption))) sy_oks_nil) rfl xl29) (sy_Cw (ci_bits (n := n) hw hX0 hX1 hX3 hX10 hX20 hX26 hd)) (by decide) (by rw [xl29]; decide) sy_refl) ?_
      obtain ⟨ret, w1, ⟨b, hb, rfl, rfl⟩, hC⟩ := ci_ip (n := n) hw hX0 hX1 hX3 hX10 hX20 hX26
      refine sy_Fs (sy_callG (kd := 1) (as := [(2, pl 22, 0), (0, 2, 0)]) (S0 := []) (ret := [(0, b, 0)]) xc46_77 (sy_calS (as := [(2, pl 22, 0), (0, 2, 0)]) (S0 := []) xm46_258 rfl rfl) rfl rfl rfl rfl (sy_oka (sy_oks_cons (sy_ok2 (wh_lt hw 22 (by first | decide | assumption))) (sy_oks_cons (sy_ok0 (by first | decide | assumption | omega | exact mo_rd_lt _ _ | exact mo_add_lt _ _ | exact mo_sub_lt _ _ | exact mo_mul_lt _ _ | exact mo_shl_lt _ _ | exact mo_ushr_lt _ _ | exact mo_or_lt (by decide) (mo_and_lt (mo_rd_lt _ _)) | exact mo_or_lt (mo_shl_lt _ _) (mo_and_lt (mo_rd_lt _ _)))) sy_oks_nil)) rfl xl51) hC (by decide) (by rw [xl51]; decide) sy_refl) ?_
      refine sy_Fs (sx_istn (j := 3) (ls' := [(2, pl 1, 0), (2, pl 20, 0), (0, i, 0), (0, b, 0)]) xc46_80 rfl rfl (sy_ok0 (by first | decide | assumption | omega | exact mo_rd_lt _ _ | exact mo_add_lt _ _ | exact mo_sub_lt _ _ | exact mo_mul_lt _ _ | exact mo_shl_lt _ _ | exact mo_ushr_lt _ _ | exact mo_or_lt (by decide) (mo_and_lt (mo_rd_lt _ _)) | exact mo_or_lt (mo_shl_lt _ _) (mo_and_lt (mo_rd_lt _ _)))) (by rw [xl46]; rfl) rfl rfl) ?_
      refine sy_Fs (sx_iinc (c := 1) (z := (i + 1)) (ls' := [(2, pl 1, 0), (2, pl 20, 0), (0, (i + 1), 0), (0, b, 0)]) xc46_81 rfl (by decide) (by rw [xl46]; rfl) rfl (mo_add_1 (by omega)) rfl) ?_
      refine sy_Fs (sy_goto (pc' := 32) xc46_84 (by decide) (by decide) sy_refl) ?_
      exact ih (i + 1) _ _ _ _ _ _ _ _ _ _ (by omega) hb hw hX10
    · subst h0
      refine sy_Fs (sy_ildn xc46_32 rfl rfl sy_refl) ?_
      refine sy_Fs (sy_ldcI (v := 1000000) xc46_33 xk46_245 sy_refl) ?_
      refine sy_Fs (sy_ge_f xc46_35 (by decide) (by omega) (by decide) sy_refl) ?_
      refine sy_Fs (sy_ildn xc46_38 rfl rfl sy_refl) ?_
      refine sy_Fs (sy_ifne_t (pc' := 87) xc46_39 (by decide) (by decide) (by decide) (by decide) sy_refl) ?_
      exact ci_end hw hX0 hX1 hX3 hX10 hX20 hX26 hd (by omega)
theorem ci_prove  (hw : wh 30 pl w0 w [(0, 1, 13, X0), (0, 8, 11, X1), (3, 6, 40, cbs), (0, 9, 11, X3), (1, 1, 105, Hd), (1, 1, 32, Id), (1, 1, 128, Ids), (1, 1, 480, Ads), (1, 1, 32, Br), (1, 1, 32, Dg), (0, 2, 13, X10), (1, 1, 64, Sp), (1, 0, 64, Sw), (1, 0, 8, Ss), (1, 1, 32, In), (1, 1, 32, Mk), (1, 0, 8, Is), (1, 0, 8, Os), (1, 0, 8, Ks), (1, 1, 64, Kp), (0, 9, 11, X20), (1, 1, 105, Bh), (1, 1, 32, Bd), (3, 7, 4, cps), (1, 1, 28, Mb), (1, 1, 32, Ti), (0, 10, 6, X26), (1, 0, 4, Pr), (1, 0, 1, Nu), (1, 1, 2, Fb)]) (hX0 : fh X0 kX [(2, pl 1, 0), (0, 0, 0)]) (hX1 : fh X1 kM [(0, 1, 0), (2, pl 2, 0), (0, 0, 0), (2, pl 10, 0), (2, pl 6, 0), (2, pl 7, 0), (0, ac, 0), (2, pl 8, 0), (2, pl 9, 0)]) (hX3 : fh X3 kB [(2, pl 5, 0), (2, pl 4, 0), (0, 0, 0), (0, 4, 0), (3, 0, 0)]) (hX10 : fh X10 kS [(2, pl 11, 0), (2, pl 12, 0), (2, pl 13, 0), (2, pl 14, 0), (0, su, 0), (0, sl, 0), (2, pl 15, 0), (2, pl 16, 0), (2, pl 17, 0), (0, 1, 0), (2, pl 18, 0), (2, pl 19, 0), (0, kl, 0)]) (hX20 : fh X20 kN [(2, pl 3, 0), (0, 1, 0), (0, 1, 0), (0, wk, 0), (2, pl 21, 0), (2, pl 22, 0), (2, pl 23, 0), (0, 1, 0), (2, pl 29, 0), (0, 2, 0), (2, pl 28, 0)]) (hX26 : fh X26 kP [(2, pl 24, 0), (0, 0, 0), (0, 1, 0), (0, 28, 0), (2, pl 25, 0), (2, pl 27, 0)]) (hd : mv_rd 32 Bh 100 = 2) : sy_D 46 n 4 91 [(2, pl 1, 0), (2, pl 20, 0)] w (fun ret w' => ret = [] ∧ ∃ Y10 Y11 Y12 Y13 Y14 Y18 Y19 Y20 Y21 Y22 : Nat, wh 30 pl w0 w' [(0, 1, 13, X0), (0, 8, 11, X1), (3, 6, 40, cbs), (0, 9, 11, X3), (1, 1, 105, Hd), (1, 1, 32, Id), (1, 1, 128, Ids), (1, 1, 480, Ads), (1, 1, 32, Br), (1, 1, 32, Dg), (0, 2, 13, Y10), (1, 1, 64, Y11), (1, 0, 64, Y12), (1, 0, 8, Y13), (1, 1, 32, Y14), (1, 1, 32, Mk), (1, 0, 8, Is), (1, 0, 8, Os), (1, 0, 8, Y18), (1, 1, 64, Y19), (0, 9, 11, Y20), (1, 1, 105, Y21), (1, 1, 32, Y22), (3, 7, 4, cps), (1, 1, 28, Mb), (1, 1, 32, Ti), (0, 10, 6, X26), (1, 0, 4, Pr), (1, 0, 1, Nu), (1, 1, 2, Fb)] ∧ fh Y20 kN [(2, pl 3, 0), (0, 1, 0), (0, 1, 0), (0, 8, 0), (2, pl 21, 0), (2, pl 22, 0), (2, pl 23, 0), (0, 1, 0), (2, pl 29, 0), (0, 2, 0), (2, pl 28, 0)]) := by
  refine sy_Dof (us := [(255, 0, 0), (255, 0, 0)]) (sy_oks_cons (sy_ok2 (wh_lt hw 1 (by first | decide | assumption))) (sy_oks_cons (sy_ok2 (wh_lt hw 20 (by first | decide | assumption))) sy_oks_nil)) rfl rfl ?_
  show sy_F 46 n 4 91 0 [(2, pl 1, 0), (2, pl 20, 0), (255, 0, 0), (255, 0, 0)] [] w _
  refine sy_Fs (sy_aldn xc46_0 rfl rfl sy_refl) ?_
  refine sy_Fs (sy_gf xc46_1 xf46_36 rfl (wh_at hw 1 rfl) rfl (fh_at hX1 3 rfl rfl) sy_refl) ?_
  obtain ⟨w, X10, S0, hC, hw1, hX1x⟩ := we_begin (n := n) (s := (su, sl, Sp, Sw, Ss)) hw rfl rfl rfl rfl hX10 rfl rfl rfl rfl rfl
  refine sy_Fs (sy_callG (kd := 3) (as := [(2, pl 10, 0)]) (S0 := []) (ret := []) xc46_4 (sy_calV (as := [(2, pl 10, 0)]) (S0 := []) xm46_235 rfl rfl) rfl rfl (sy_rcvm xi14 (wh_at hw 10 rfl)) rfl (sy_oka (sy_oks_cons (sy_ok2 (wh_lt hw 10 (by first | decide | assumption))) sy_oks_nil) rfl xl14) hC (by decide) (by rw [xl14]; decide) sy_refl) ?_
  replace hw := hw1
  replace hX10 := hX1x
  simp only [List.set_cons_zero, List.set_cons_succ] at hw hX10
  refine sy_Fs (sy_aldn xc46_7 rfl rfl sy_refl) ?_
  refine sy_Fs (sy_gf xc46_8 xf46_36 rfl (wh_at hw 1 rfl) rfl (fh_at hX1 3 rfl rfl) sy_refl) ?_
  refine sy_Fs (sy_aldn xc46_11 rfl rfl sy_refl) ?_
  refine sy_Fs (sy_gf xc46_12 xf46_95 rfl (wh_at hw 20 rfl) rfl (fh_at hX20 4 rfl rfl) sy_refl) ?_
  refine sy_Fs (sy_iconst (v := 0) xc46_15 (by decide) sy_refl) ?_
  refine sy_Fs (sy_bipush (v := 101) xc46_16 (by decide) (by decide) sy_refl) ?_
  obtain ⟨w, X10, P1, W1, S1, u1, hC, hab, hu1, hw1, hX1x⟩ := we_put101 (n := n) (s := (0, 0, Sp, Sw, S0)) (jf := 21) hw rfl rfl rfl rfl hX10 rfl rfl rfl rfl rfl rfl rfl (by decide) (by decide) rfl (by decide) (by decide)
  refine sy_Fs (sy_callG (kd := 3) (as := [(2, pl 10, 0), (2, pl 21, 0), (0, 0, 0), (0, 101, 0)]) (S0 := []) (ret := []) xc46_18 (sy_calV (as := [(2, pl 10, 0), (2, pl 21, 0), (0, 0, 0), (0, 101, 0)]) (S0 := []) xm46_238 rfl rfl) rfl rfl (sy_rcvm xi15 (wh_at hw 10 rfl)) rfl (sy_oka (sy_oks_cons (sy_ok2 (wh_lt hw 10 (by first | decide | assumption))) (sy_oks_cons (sy_ok2 (wh_lt hw 21 (by first | decide | assumption))) (sy_oks_cons (sy_ok0 (by first | decide | assumption | omega | exact mo_rd_lt _ _ | exact mo_add_lt _ _ | exact mo_sub_lt _ _ | exact mo_mul_lt _ _ | exact mo_shl_lt _ _ | exact mo_ushr_lt _ _ | exact mo_or_lt (by decide) (mo_and_lt (mo_rd_lt _ _)) | exact mo_or_lt (mo_shl_lt _ _) (mo_and_lt (mo_rd_lt _ _)))) (sy_oks_cons (sy_ok0 (by first | decide | assumption | omega | exact mo_rd_lt _ _ | exact mo_add_lt _ _ | exact mo_sub_lt _ _ | exact mo_mul_lt _ _ | exact mo_shl_lt _ _ | exact mo_ushr_lt _ _ | exact mo_or_lt (by decide) (mo_and_lt (mo_rd_lt _ _)) | exact mo_or_lt (mo_shl_lt _ _) (mo_and_lt (mo_rd_lt _ _)))) sy_oks_nil)))) rfl xl15) hC (by decide) (by rw [xl15]; decide) sy_refl) ?_
  replace hw := hw1
  replace hX10 := hX1x
  simp only [List.set_cons_zero, List.set_cons_succ] at hw hX10
  refine sy_Fs (sy_aldn xc46_21 rfl rfl sy_refl) ?_
  refine sy_Fs (sy_gf xc46_22 xf46_36 rfl (wh_at hw 1 rfl) rfl (fh_at hX1 3 rfl rfl) sy_refl) ?_
  obtain ⟨ret, w, ⟨rfl, X10, hw1, hX1x⟩, hC⟩ := ci_keep (n := n) hw hX0 hX1 hX3 hX10 hX20 hX26 hab
  refine sy_Fs (sy_callG (kd := 3) (as := [(2, pl 10, 0)]) (S0 := []) (ret := []) xc46_25 (sy_calV (as := [(2, pl 10, 0)]) (S0 := []) xm46_242 rfl rfl) rfl rfl (sy_rcvm xi47 (wh_at hw 10 rfl)) rfl (sy_oka (sy_oks_cons (sy_ok2 (wh_lt hw 10 (by first | decide | assumption))) sy_oks_nil) rfl xl47) hC (by decide) (by rw [xl47]; decide) sy_refl) ?_
  replace hw := hw1
  replace hX10 := hX1x
  refine sy_Fs (sy_iconst (v := 0) xc46_28 (by decide) sy_refl) ?_
  refine sy_Fs (sx_istn (j := 2) (ls' := [(2, pl 1, 0), (2, pl 20, 0), (0, 0, 0), (255, 0, 0)]) xc46_29 rfl rfl (sy_ok0 (by first | decide | assumption | omega | exact mo_rd_lt _ _ | exact mo_add_lt _ _ | exact mo_sub_lt _ _ | exact mo_mul_lt _ _ | exact mo_shl_lt _ _ | exact mo_ushr_lt _ _ | exact mo_or_lt (by decide) (mo_and_lt (mo_rd_lt _ _)) | exact mo_or_lt (mo_shl_lt _ _) (mo_and_lt (mo_rd_lt _ _)))) (by rw [xl46]; rfl) rfl rfl) ?_
  refine sy_Fs (sy_iconst (v := 0) xc46_30 (by decide) sy_refl) ?_
  refine sy_Fs (sx_istn (j := 3) (ls' := [(2, pl 1, 0), (2, pl 20, 0), (0, 0, 0), (0, 0, 0)]) xc46_31 rfl rfl (sy_ok0 (by first | decide | assumption | omega | exact mo_rd_lt _ _ | exact mo_add_lt _ _ | exact mo_sub_lt _ _ | exact mo_mul_lt _ _ | exact mo_shl_lt _ _ | exact mo_ushr_lt _ _ | exact mo_or_lt (by decide) (mo_and_lt (mo_rd_lt _ _)) | exact mo_or_lt (mo_shl_lt _ _) (mo_and_lt (mo_rd_lt _ _)))) (by rw [xl46]; rfl) rfl rfl) ?_
  exact ci_loop hX0 hX1 hX3 hX20 hX26 hd (ab_cw hab) 1000000 0 0 _ _ _ _ _ _ _ _ _ rfl (by decide) hw hX10
end HM
