/-! THE CLASS'S MINE, VI -/
theorem xc33_0 : tt_cd 33 0 = (1, .aload_n 0, 1) := by decide +kernel
theorem xc33_1 : tt_cd 33 1 = (3, .getfield 26, 3) := by decide +kernel
theorem xf33_26 : tt_fl 33 26 = (1, 10, 1) := by decide +kernel
theorem xc33_4 : tt_cd 33 4 = (10, .invokestatic 29, 3) := by decide +kernel
theorem xm33_29 : tt_ml 33 29 = (1, 22, 1) := by decide +kernel
theorem xc33_7 : tt_cd 33 7 = (4, .bipush 24, 2) := by decide +kernel
theorem xc33_9 : tt_cd 33 9 = (1, .iload_n 1, 1) := by decide +kernel
theorem xc33_10 : tt_cd 33 10 = (2, .imul, 1) := by decide +kernel
theorem xc33_11 : tt_cd 33 11 = (2, .iadd, 1) := by decide +kernel
theorem xc33_12 : tt_cd 33 12 = (9, .ireturn, 1) := by decide +kernel
theorem xr33 : tt_mr 33 = 1 := by decide +kernel
theorem xc32_0 : tt_cd 32 0 = (1, .aload_n 0, 1) := by decide +kernel
theorem xc32_1 : tt_cd 32 1 = (1, .iload_n 1, 1) := by decide +kernel
theorem xc32_2 : tt_cd 32 2 = (10, .invokevirtual 45, 3) := by decide +kernel
theorem xm32_45 : tt_ml 32 45 = (3, 33, 1) := by decide +kernel
theorem xi33 : tt_mci 33 = 10 := by decide +kernel
theorem xl33 : tt_mL 33 = 2 := by decide +kernel
theorem xc32_5 : tt_cd 32 5 = (2, .iconst 4, 1) := by decide +kernel
theorem xc32_6 : tt_cd 32 6 = (2, .iadd, 1) := by decide +kernel
theorem xc32_7 : tt_cd 32 7 = (9, .ireturn, 1) := by decide +kernel
theorem xr32 : tt_mr 32 = 1 := by decide +kernel
theorem xc34_0 : tt_cd 34 0 = (1, .aload_n 0, 1) := by decide +kernel
theorem xc34_1 : tt_cd 34 1 = (3, .getfield 194, 3) := by decide +kernel
theorem xf34_194 : tt_fl 34 194 = (1, 8, 8) := by decide +kernel
theorem xc34_4 : tt_cd 34 4 = (4, .bipush 24, 2) := by decide +kernel
theorem xc34_6 : tt_cd 34 6 = (5, .if_icmp .lt 4, 3) := by decide +kernel
theorem xc34_10 : tt_cd 34 10 = (2, .iconst 0, 1) := by decide +kernel
theorem xc34_11 : tt_cd 34 11 = (1, .istore_n 3, 1) := by decide +kernel
theorem xl34 : tt_mL 34 = 4 := by decide +kernel
theorem xc34_12 : tt_cd 34 12 = (1, .iload_n 3, 1) := by decide +kernel
theorem xc34_13 : tt_cd 34 13 = (1, .aload_n 0, 1) := by decide +kernel
theorem xc34_14 : tt_cd 34 14 = (3, .getfield 194, 3) := by decide +kernel
theorem xc34_17 : tt_cd 34 17 = (5, .if_icmp .ge 28, 3) := by decide +kernel
theorem xc34_45 : tt_cd 34 45 = (1, .aload_n 1, 1) := by decide +kernel
theorem xc34_46 : tt_cd 34 46 = (1, .iload_n 2, 1) := by decide +kernel
theorem xc34_47 : tt_cd 34 47 = (1, .aload_n 0, 1) := by decide +kernel
theorem xc34_48 : tt_cd 34 48 = (3, .getfield 27, 3) := by decide +kernel
theorem xf34_27 : tt_fl 34 27 = (1, 8, 7) := by decide +kernel
theorem xc34_51 : tt_cd 34 51 = (4, .bipush 20, 2) := by decide +kernel
theorem xc34_53 : tt_cd 34 53 = (1, .aload_n 0, 1) := by decide +kernel
theorem xc34_54 : tt_cd 34 54 = (3, .getfield 194, 3) := by decide +kernel
theorem xc34_57 : tt_cd 34 57 = (2, .imul, 1) := by decide +kernel
theorem xc34_58 : tt_cd 34 58 = (4, .bipush 20, 2) := by decide +kernel
theorem xc34_60 : tt_cd 34 60 = (10, .invokestatic 98, 3) := by decide +kernel
theorem xm34_98 : tt_ml 34 98 = (8, 0, 5) := by decide +kernel
theorem xc34_63 : tt_cd 34 63 = (1, .aload_n 0, 1) := by decide +kernel
theorem xc34_64 : tt_cd 34 64 = (2, .dup, 1) := by decide +kernel
theorem xc34_65 : tt_cd 34 65 = (3, .getfield 194, 3) := by decide +kernel
theorem xc34_68 : tt_cd 34 68 = (2, .iconst 1, 1) := by decide +kernel
theorem xc34_69 : tt_cd 34 69 = (2, .iadd, 1) := by decide +kernel
theorem xc34_70 : tt_cd 34 70 = (6, .putfield 194, 3) := by decide +kernel
theorem xh34_194 : (!(tt_ffin 8 8) || (tt_ini 34 && Nat.beq 1 1)) = true := by decide +kernel
theorem xt8_8 : tt_fty 8 8 = .int := by decide +kernel
theorem xc34_73 : tt_cd 34 73 = (9, .return_, 1) := by decide +kernel
theorem xr34 : tt_mr 34 = 0 := by decide +kernel
theorem xc43_0 : tt_cd 43 0 = (2, .iconst 0, 1) := by decide +kernel
theorem xc43_1 : tt_cd 43 1 = (1, .istore_n 2, 1) := by decide +kernel
theorem xl43 : tt_mL 43 = 4 := by decide +kernel
theorem xc43_2 : tt_cd 43 2 = (1, .aload_n 0, 1) := by decide +kernel
theorem xc43_3 : tt_cd 43 3 = (3, .arraylength, 1) := by decide +kernel
theorem xc43_4 : tt_cd 43 4 = (1, .istore_n 3, 1) := by decide +kernel
theorem xc43_5 : tt_cd 43 5 = (1, .iload_n 2, 1) := by decide +kernel
theorem xc43_6 : tt_cd 43 6 = (1, .iload_n 3, 1) := by decide +kernel
theorem xc43_7 : tt_cd 43 7 = (5, .if_icmp .ge 13, 3) := by decide +kernel
theorem xc43_10 : tt_cd 43 10 = (1, .aload_n 0, 1) := by decide +kernel
theorem xc43_11 : tt_cd 43 11 = (1, .iload_n 2, 1) := by decide +kernel
theorem xc43_12 : tt_cd 43 12 = (1, .iload_n 1, 1) := by decide +kernel
theorem xc43_13 : tt_cd 43 13 = (6, .bastore, 1) := by decide +kernel
theorem xc43_14 : tt_cd 43 14 = (1, .iinc 2 1, 3) := by decide +kernel
theorem xc43_17 : tt_cd 43 17 = (5, .goto (-12), 3) := by decide +kernel
theorem xc43_20 : tt_cd 43 20 = (9, .return_, 1) := by decide +kernel
theorem xr43 : tt_mr 43 = 0 := by decide +kernel
theorem xc44_0 : tt_cd 44 0 = (1, .iload_n 1, 1) := by decide +kernel
theorem xc44_1 : tt_cd 44 1 = (4, .bipush 8, 2) := by decide +kernel
theorem xc44_3 : tt_cd 44 3 = (2, .idiv, 1) := by decide +kernel
theorem xc44_4 : tt_cd 44 4 = (4, .bipush 32, 2) := by decide +kernel
theorem xc44_6 : tt_cd 44 6 = (5, .if_icmp .ge 25, 3) := by decide +kernel
theorem xc44_9 : tt_cd 44 9 = (1, .aload_n 0, 1) := by decide +kernel
theorem xc44_10 : tt_cd 44 10 = (3, .getfield 30, 3) := by decide +kernel
theorem xf44_30 : tt_fl 44 30 = (1, 8, 9) := by decide +kernel
theorem xc44_13 : tt_cd 44 13 = (1, .iload_n 1, 1) := by decide +kernel
theorem xc44_14 : tt_cd 44 14 = (4, .bipush 8, 2) := by decide +kernel
theorem xc44_16 : tt_cd 44 16 = (2, .idiv, 1) := by decide +kernel
theorem xc44_17 : tt_cd 44 17 = (2, .dup2, 1) := by decide +kernel
theorem xc44_18 : tt_cd 44 18 = (3, .baload, 1) := by decide +kernel
theorem xc44_19 : tt_cd 44 19 = (4, .sipush 128, 3) := by decide +kernel
theorem xc44_22 : tt_cd 44 22 = (1, .iload_n 1, 1) := by decide +kernel
theorem xc44_23 : tt_cd 44 23 = (4, .bipush 8, 2) := by decide +kernel
theorem xc44_25 : tt_cd 44 25 = (2, .irem, 1) := by decide +kernel
theorem xc44_26 : tt_cd 44 26 = (2, .ishr, 1) := by decide +kernel
theorem xc44_27 : tt_cd 44 27 = (2, .i2b, 1) := by decide +kernel
theorem xc44_28 : tt_cd 44 28 = (2, .ior, 1) := by decide +kernel
theorem xc44_29 : tt_cd 44 29 = (2, .i2b, 1) := by decide +kernel
theorem xc44_30 : tt_cd 44 30 = (6, .bastore, 1) := by decide +kernel
theorem xc44_31 : tt_cd 44 31 = (9, .return_, 1) := by decide +kernel
theorem xr44 : tt_mr 44 = 0 := by decide +kernel
theorem xc42_0 : tt_cd 42 0 = (1, .aload_n 0, 1) := by decide +kernel
theorem xc42_1 : tt_cd 42 1 = (3, .getfield 30, 3) := by decide +kernel
theorem xf42_30 : tt_fl 42 30 = (1, 8, 9) := by decide +kernel
theorem xc42_4 : tt_cd 42 4 = (2, .iconst 0, 1) := by decide +kernel
theorem xc42_5 : tt_cd 42 5 = (10, .invokestatic 221, 3) := by decide +kernel
theorem xm42_221 : tt_ml 42 221 = (1, 43, 2) := by decide +kernel
theorem xc42_8 : tt_cd 42 8 = (1, .aload_n 0, 1) := by decide +kernel
theorem xc42_9 : tt_cd 42 9 = (3, .getfield 30, 3) := by decide +kernel
theorem xc42_12 : tt_cd 42 12 = (2, .iconst 0, 1) := by decide +kernel
theorem xc42_13 : tt_cd 42 13 = (1, .aload_n 1, 1) := by decide +kernel
theorem xc42_14 : tt_cd 42 14 = (3, .arraylength, 1) := by decide +kernel
theorem xc42_15 : tt_cd 42 15 = (2, .i2b, 1) := by decide +kernel
theorem xc42_16 : tt_cd 42 16 = (6, .bastore, 1) := by decide +kernel
theorem xc42_17 : tt_cd 42 17 = (4, .bipush 8, 2) := by decide +kernel
theorem xc42_19 : tt_cd 42 19 = (1, .istore_n 2, 1) := by decide +kernel
theorem xl42 : tt_mL 42 = 7 := by decide +kernel
theorem xc42_20 : tt_cd 42 20 = (2, .iconst 0, 1) := by decide +kernel
theorem xc42_21 : tt_cd 42 21 = (1, .istore_n 3, 1) := by decide +kernel
theorem xc42_22 : tt_cd 42 22 = (2, .iconst 0, 1) := by decide +kernel
theorem xc42_23 : tt_cd 42 23 = (1, .istore 4, 2) := by decide +kernel
theorem xc42_25 : tt_cd 42 25 = (1, .iload 4, 2) := by decide +kernel
theorem xc42_27 : tt_cd 42 27 = (1, .aload_n 1, 1) := by decide +kernel
theorem xc42_28 : tt_cd 42 28 = (3, .arraylength, 1) := by decide +kernel
theorem xc42_29 : tt_cd 42 29 = (5, .if_icmp .ge 84, 3) := by decide +kernel
theorem xc42_32 : tt_cd 42 32 = (1, .aload_n 1, 1) := by decide +kernel
theorem xc42_33 : tt_cd 42 33 = (1, .iload 4, 2) := by decide +kernel
theorem xc42_35 : tt_cd 42 35 = (3, .iaload, 1) := by decide +kernel
theorem xc42_36 : tt_cd 42 36 = (1, .iload_n 3, 1) := by decide +kernel
theorem xc42_37 : tt_cd 42 37 = (2, .isub, 1) := by decide +kernel
theorem xc42_38 : tt_cd 42 38 = (1, .istore 5, 2) := by decide +kernel
theorem xc42_40 : tt_cd 42 40 = (1, .aload_n 1, 1) := by decide +kernel
theorem xc42_41 : tt_cd 42 41 = (1, .iload 4, 2) := by decide +kernel
theorem xc42_43 : tt_cd 42 43 = (3, .iaload, 1) := by decide +kernel
theorem xc42_44 : tt_cd 42 44 = (1, .istore_n 3, 1) := by decide +kernel
theorem xc42_45 : tt_cd 42 45 = (1, .iload 5, 2) := by decide +kernel
theorem xc42_47 : tt_cd 42 47 = (4, .bipush 64, 2) := by decide +kernel
theorem xc42_49 : tt_cd 42 49 = (2, .idiv, 1) := by decide +kernel
theorem xc42_50 : tt_cd 42 50 = (1, .istore 6, 2) := by decide +kernel
theorem xc42_52 : tt_cd 42 52 = (1, .iload 6, 2) := by decide +kernel
theorem xc42_54 : tt_cd 42 54 = (5, .ifCond .le 17, 3) := by decide +kernel
theorem xc42_71 : tt_cd 42 71 = (1, .iinc 2 1, 3) := by decide +kernel
theorem xc42_74 : tt_cd 42 74 = (2, .iconst 5, 1) := by decide +kernel
theorem xc42_75 : tt_cd 42 75 = (1, .istore 6, 2) := by decide +kernel
theorem xc42_77 : tt_cd 42 77 = (1, .iload 6, 2) := by decide +kernel
theorem xc42_79 : tt_cd 42 79 = (5, .ifCond .lt 28, 3) := by decide +kernel
theorem xc42_107 : tt_cd 42 107 = (1, .iinc 4 1, 3) := by decide +kernel
theorem xc42_110 : tt_cd 42 110 = (5, .goto (-85), 3) := by decide +kernel
theorem xc42_113 : tt_cd 42 113 = (1, .iload_n 2, 1) := by decide +kernel
theorem xc42_114 : tt_cd 42 114 = (4, .bipush 7, 2) := by decide +kernel
theorem xc42_116 : tt_cd 42 116 = (2, .iadd, 1) := by decide +kernel
theorem xc42_117 : tt_cd 42 117 = (4, .bipush 8, 2) := by decide +kernel
theorem xc42_119 : tt_cd 42 119 = (2, .idiv, 1) := by decide +kernel
theorem xc42_120 : tt_cd 42 120 = (4, .bipush 32, 2) := by decide +kernel
theorem xc42_122 : tt_cd 42 122 = (10, .invokestatic 229, 3) := by decide +kernel
theorem xm42_229 : tt_ml 42 229 = (8, 1, 2) := by decide +kernel
theorem xc42_125 : tt_cd 42 125 = (9, .ireturn, 1) := by decide +kernel
theorem xr42 : tt_mr 42 = 1 := by decide +kernel
theorem xc42_82 : tt_cd 42 82 = (1, .iload 5, 2) := by decide +kernel
theorem xc42_84 : tt_cd 42 84 = (1, .iload 6, 2) := by decide +kernel
theorem xc42_86 : tt_cd 42 86 = (2, .ishr, 1) := by decide +kernel
theorem xc42_87 : tt_cd 42 87 = (2, .iconst 1, 1) := by decide +kernel
theorem xc42_88 : tt_cd 42 88 = (2, .iand, 1) := by decide +kernel
theorem xc42_89 : tt_cd 42 89 = (2, .iconst 1, 1) := by decide +kernel
theorem xc42_90 : tt_cd 42 90 = (5, .if_icmp .ne 8, 3) := by decide +kernel
theorem xc42_93 : tt_cd 42 93 = (1, .aload_n 0, 1) := by decide +kernel
theorem xc42_94 : tt_cd 42 94 = (1, .iload_n 2, 1) := by decide +kernel
theorem xc42_95 : tt_cd 42 95 = (10, .invokevirtual 225, 3) := by decide +kernel
theorem xm42_225 : tt_ml 42 225 = (3, 44, 1) := by decide +kernel
theorem xi44 : tt_mci 44 = 8 := by decide +kernel
theorem xl44 : tt_mL 44 = 2 := by decide +kernel
theorem xc42_98 : tt_cd 42 98 = (1, .iinc 2 1, 3) := by decide +kernel
theorem xc42_101 : tt_cd 42 101 = (1, .iinc 6 (-1), 3) := by decide +kernel
theorem xc42_104 : tt_cd 42 104 = (5, .goto (-27), 3) := by decide +kernel
theorem xc45_0 : tt_cd 45 0 = (1, .iload_n 1, 1) := by decide +kernel
theorem xc45_1 : tt_cd 45 1 = (1, .aload_n 0, 1) := by decide +kernel
theorem xc45_2 : tt_cd 45 2 = (3, .arraylength, 1) := by decide +kernel
theorem xc45_3 : tt_cd 45 3 = (5, .if_icmp .ne 11, 3) := by decide +kernel
theorem xc45_14 : tt_cd 45 14 = (1, .iload_n 1, 1) := by decide +kernel
theorem xc45_15 : tt_cd 45 15 = (7, .newarray .byte, 2) := by decide +kernel
theorem xc45_17 : tt_cd 45 17 = (1, .astore_n 2, 1) := by decide +kernel
theorem xl45 : tt_mL 45 = 3 := by decide +kernel
theorem xc45_18 : tt_cd 45 18 = (1, .aload_n 0, 1) := by decide +kernel
theorem xc45_19 : tt_cd 45 19 = (2, .iconst 0, 1) := by decide +kernel
theorem xc45_20 : tt_cd 45 20 = (1, .aload_n 2, 1) := by decide +kernel
theorem xc45_21 : tt_cd 45 21 = (2, .iconst 0, 1) := by decide +kernel
theorem xc45_22 : tt_cd 45 22 = (1, .aload_n 0, 1) := by decide +kernel
theorem xc45_23 : tt_cd 45 23 = (3, .arraylength, 1) := by decide +kernel
theorem xc45_24 : tt_cd 45 24 = (1, .iload_n 1, 1) := by decide +kernel
theorem xc45_25 : tt_cd 45 25 = (10, .invokestatic 304, 3) := by decide +kernel
theorem xm45_304 : tt_ml 45 304 = (8, 1, 2) := by decide +kernel
theorem xc45_28 : tt_cd 45 28 = (10, .invokestatic 150, 3) := by decide +kernel
theorem xm45_150 : tt_ml 45 150 = (8, 0, 5) := by decide +kernel
theorem xc45_31 : tt_cd 45 31 = (1, .aload_n 2, 1) := by decide +kernel
theorem xc45_32 : tt_cd 45 32 = (9, .areturn, 1) := by decide +kernel
theorem xr45 : tt_mr 45 = 3 := by decide +kernel
theorem xc31_0 : tt_cd 31 0 = (1, .aload_n 0, 1) := by decide +kernel
theorem xc31_1 : tt_cd 31 1 = (2, .iconst 0, 1) := by decide +kernel
theorem xc31_2 : tt_cd 31 2 = (6, .putfield 194, 3) := by decide +kernel
theorem xf31_194 : tt_fl 31 194 = (1, 8, 8) := by decide +kernel
theorem xh31_194 : (!(tt_ffin 8 8) || (tt_ini 31 && Nat.beq 1 1)) = true := by decide +kernel
theorem xc31_5 : tt_cd 31 5 = (2, .iconst 0, 1) := by decide +kernel
theorem xc31_6 : tt_cd 31 6 = (1, .istore_n 2, 1) := by decide +kernel
theorem xl31 : tt_mL 31 = 8 := by decide +kernel
theorem xc31_7 : tt_cd 31 7 = (1, .iload_n 2, 1) := by decide +kernel
theorem xc31_8 : tt_cd 31 8 = (1, .aload_n 1, 1) := by decide +kernel
theorem xc31_9 : tt_cd 31 9 = (3, .getfield 81, 3) := by decide +kernel
theorem xf31_81 : tt_fl 31 81 = (2, 9, 7) := by decide +kernel
theorem xc31_12 : tt_cd 31 12 = (5, .if_icmp .ge 122, 3) := by decide +kernel
theorem xc31_15 : tt_cd 31 15 = (1, .aload_n 1, 1) := by decide +kernel
theorem xc31_16 : tt_cd 31 16 = (3, .getfield 115, 3) := by decide +kernel
theorem xf31_115 : tt_fl 31 115 = (2, 9, 6) := by decide +kernel
theorem xc31_19 : tt_cd 31 19 = (1, .iload_n 2, 1) := by decide +kernel
theorem xc31_20 : tt_cd 31 20 = (3, .aaload, 1) := by decide +kernel
theorem xc31_21 : tt_cd 31 21 = (1, .astore_n 3, 1) := by decide +kernel
theorem xc31_22 : tt_cd 31 22 = (2, .iconst 0, 1) := by decide +kernel
theorem xc31_23 : tt_cd 31 23 = (1, .istore 4, 2) := by decide +kernel
theorem xc31_25 : tt_cd 31 25 = (1, .iload 4, 2) := by decide +kernel
theorem xc31_27 : tt_cd 31 27 = (1, .aload_n 3, 1) := by decide +kernel
theorem xc31_28 : tt_cd 31 28 = (3, .getfield 162, 3) := by decide +kernel
theorem xf31_162 : tt_fl 31 162 = (2, 10, 2) := by decide +kernel
theorem xc31_31 : tt_cd 31 31 = (5, .if_icmp .ge 23, 3) := by decide +kernel
theorem xc31_34 : tt_cd 31 34 = (1, .aload_n 0, 1) := by decide +kernel
theorem xc31_35 : tt_cd 31 35 = (1, .aload_n 3, 1) := by decide +kernel
theorem xc31_36 : tt_cd 31 36 = (3, .getfield 152, 3) := by decide +kernel
theorem xf31_152 : tt_fl 31 152 = (2, 10, 0) := by decide +kernel
theorem xc31_39 : tt_cd 31 39 = (1, .aload_n 3, 1) := by decide +kernel
theorem xc31_40 : tt_cd 31 40 = (1, .iload 4, 2) := by decide +kernel
theorem xc31_42 : tt_cd 31 42 = (10, .invokevirtual 175, 3) := by decide +kernel
theorem xm31_175 : tt_ml 31 175 = (3, 32, 1) := by decide +kernel
theorem xi32 : tt_mci 32 = 10 := by decide +kernel
theorem xl32 : tt_mL 32 = 2 := by decide +kernel
theorem xc31_45 : tt_cd 31 45 = (10, .invokevirtual 197, 3) := by decide +kernel
theorem xm31_197 : tt_ml 31 197 = (3, 34, 2) := by decide +kernel
theorem xi34 : tt_mci 34 = 8 := by decide +kernel
theorem xc31_48 : tt_cd 31 48 = (1, .iinc 4 1, 3) := by decide +kernel
theorem xc31_51 : tt_cd 31 51 = (5, .goto (-26), 3) := by decide +kernel
theorem xc31_54 : tt_cd 31 54 = (2, .iconst 0, 1) := by decide +kernel
theorem xc31_55 : tt_cd 31 55 = (1, .istore 4, 2) := by decide +kernel
theorem xc31_57 : tt_cd 31 57 = (1, .iload 4, 2) := by decide +kernel
theorem xc31_59 : tt_cd 31 59 = (1, .aload_n 3, 1) := by decide +kernel
theorem xc31_60 : tt_cd 31 60 = (3, .getfield 145, 3) := by decide +kernel
theorem xf31_145 : tt_fl 31 145 = (2, 10, 1) := by decide +kernel
theorem xc31_63 : tt_cd 31 63 = (5, .if_icmp .ge 65, 3) := by decide +kernel
theorem xc31_128 : tt_cd 31 128 = (1, .iinc 2 1, 3) := by decide +kernel
theorem xc31_131 : tt_cd 31 131 = (5, .goto (-124), 3) := by decide +kernel
theorem xc31_134 : tt_cd 31 134 = (1, .aload_n 0, 1) := by decide +kernel
theorem xc31_135 : tt_cd 31 135 = (3, .getfield 194, 3) := by decide +kernel
theorem xc31_138 : tt_cd 31 138 = (7, .newarray .int, 2) := by decide +kernel
theorem xc31_140 : tt_cd 31 140 = (1, .astore_n 2, 1) := by decide +kernel
theorem xc31_141 : tt_cd 31 141 = (2, .iconst 0, 1) := by decide +kernel
theorem xc31_142 : tt_cd 31 142 = (1, .istore_n 3, 1) := by decide +kernel
theorem xc31_143 : tt_cd 31 143 = (1, .iload_n 3, 1) := by decide +kernel
theorem xc31_144 : tt_cd 31 144 = (1, .aload_n 0, 1) := by decide +kernel
theorem xc31_145 : tt_cd 31 145 = (3, .getfield 194, 3) := by decide +kernel
theorem xc31_148 : tt_cd 31 148 = (5, .if_icmp .ge 82, 3) := by decide +kernel
theorem xc31_151 : tt_cd 31 151 = (1, .aload_n 0, 1) := by decide +kernel
theorem xc31_152 : tt_cd 31 152 = (3, .getfield 36, 3) := by decide +kernel
theorem xf31_36 : tt_fl 31 36 = (1, 8, 0) := by decide +kernel
theorem xc31_155 : tt_cd 31 155 = (1, .aload_n 1, 1) := by decide +kernel
theorem xc31_156 : tt_cd 31 156 = (3, .getfield 95, 3) := by decide +kernel
theorem xf31_95 : tt_fl 31 95 = (2, 9, 4) := by decide +kernel
theorem xc31_159 : tt_cd 31 159 = (1, .aload_n 0, 1) := by decide +kernel
theorem xc31_160 : tt_cd 31 160 = (3, .getfield 27, 3) := by decide +kernel
theorem xf31_27 : tt_fl 31 27 = (1, 8, 7) := by decide +kernel
theorem xc31_163 : tt_cd 31 163 = (4, .bipush 20, 2) := by decide +kernel
theorem xc31_165 : tt_cd 31 165 = (1, .iload_n 3, 1) := by decide +kernel
theorem xc31_166 : tt_cd 31 166 = (2, .imul, 1) := by decide +kernel
theorem xc31_167 : tt_cd 31 167 = (10, .invokevirtual 200, 3) := by decide +kernel
theorem xm31_200 : tt_ml 31 200 = (3, 36, 3) := by decide +kernel
theorem xi36 : tt_mci 36 = 2 := by decide +kernel
theorem xl36 : tt_mL 36 = 4 := by decide +kernel
theorem xc31_170 : tt_cd 31 170 = (1, .lstore 4, 2) := by decide +kernel
theorem xc31_172 : tt_cd 31 172 = (1, .lload 4, 2) := by decide +kernel
theorem xc31_174 : tt_cd 31 174 = (1, .aload_n 0, 1) := by decide +kernel
theorem xc31_175 : tt_cd 31 175 = (3, .getfield 194, 3) := by decide +kernel
theorem xc31_178 : tt_cd 31 178 = (10, .invokestatic 204, 3) := by decide +kernel
theorem xm31_204 : tt_ml 31 204 = (1, 41, 2) := by decide +kernel
theorem xl41 : tt_mL 41 = 3 := by decide +kernel
theorem xc31_181 : tt_cd 31 181 = (1, .istore 6, 2) := by decide +kernel
theorem xc31_183 : tt_cd 31 183 = (1, .iload_n 3, 1) := by decide +kernel
theorem xc31_184 : tt_cd 31 184 = (1, .istore 7, 2) := by decide +kernel
theorem xc31_186 : tt_cd 31 186 = (1, .iload 7, 2) := by decide +kernel
theorem xc31_188 : tt_cd 31 188 = (5, .ifCond .le 30, 3) := by decide +kernel
theorem xc31_218 : tt_cd 31 218 = (1, .aload_n 2, 1) := by decide +kernel
theorem xc31_219 : tt_cd 31 219 = (1, .iload 7, 2) := by decide +kernel
theorem xc31_221 : tt_cd 31 221 = (1, .iload 6, 2) := by decide +kernel
theorem xc31_223 : tt_cd 31 223 = (6, .iastore, 1) := by decide +kernel
theorem xc31_224 : tt_cd 31 224 = (1, .iinc 3 1, 3) := by decide +kernel
theorem xc31_227 : tt_cd 31 227 = (5, .goto (-84), 3) := by decide +kernel
theorem xc31_230 : tt_cd 31 230 = (1, .aload_n 1, 1) := by decide +kernel
theorem xc31_231 : tt_cd 31 231 = (1, .aload_n 2, 1) := by decide +kernel
theorem xc31_232 : tt_cd 31 232 = (6, .putfield 208, 3) := by decide +kernel
theorem xf31_208 : tt_fl 31 208 = (2, 9, 10) := by decide +kernel
theorem xg9_10_2 : mv_fit (tt_fty 9 10) (2, 0, 0) = true := by decide +kernel
theorem xh31_208 : (!(tt_ffin 9 10) || (tt_ini 31 && Nat.beq 2 1)) = true := by decide +kernel
theorem xv9_10 : mv_fit (tt_fty 9 10) (2, 0, 0) = true := by decide +kernel
theorem xc31_235 : tt_cd 31 235 = (1, .aload_n 1, 1) := by decide +kernel
theorem xc31_236 : tt_cd 31 236 = (1, .aload_n 0, 1) := by decide +kernel
theorem xc31_237 : tt_cd 31 237 = (1, .aload_n 2, 1) := by decide +kernel
theorem xc31_238 : tt_cd 31 238 = (10, .invokevirtual 211, 3) := by decide +kernel
theorem xm31_211 : tt_ml 31 211 = (3, 42, 1) := by decide +kernel
theorem xi42 : tt_mci 42 = 8 := by decide +kernel
theorem xc31_241 : tt_cd 31 241 = (6, .putfield 132, 3) := by decide +kernel
theorem xf31_132 : tt_fl 31 132 = (2, 9, 9) := by decide +kernel
theorem xh31_132 : (!(tt_ffin 9 9) || (tt_ini 31 && Nat.beq 2 1)) = true := by decide +kernel
theorem xt9_9 : tt_fty 9 9 = .int := by decide +kernel
theorem xc31_244 : tt_cd 31 244 = (1, .aload_n 1, 1) := by decide +kernel
theorem xc31_245 : tt_cd 31 245 = (1, .aload_n 0, 1) := by decide +kernel
theorem xc31_246 : tt_cd 31 246 = (3, .getfield 30, 3) := by decide +kernel
theorem xf31_30 : tt_fl 31 30 = (1, 8, 9) := by decide +kernel
theorem xc31_249 : tt_cd 31 249 = (1, .aload_n 1, 1) := by decide +kernel
theorem xc31_250 : tt_cd 31 250 = (3, .getfield 132, 3) := by decide +kernel
theorem xc31_253 : tt_cd 31 253 = (10, .invokestatic 215, 3) := by decide +kernel
theorem xm31_215 : tt_ml 31 215 = (1, 45, 2) := by decide +kernel
theorem xc31_256 : tt_cd 31 256 = (6, .putfield 129, 3) := by decide +kernel
theorem xf31_129 : tt_fl 31 129 = (2, 9, 8) := by decide +kernel
theorem xg9_8_2 : mv_fit (tt_fty 9 8) (2, 0, 0) = true := by decide +kernel
theorem xh31_129 : (!(tt_ffin 9 8) || (tt_ini 31 && Nat.beq 2 1)) = true := by decide +kernel
theorem xv9_8 : mv_fit (tt_fty 9 8) (2, 0, 0) = true := by decide +kernel
theorem xc31_259 : tt_cd 31 259 = (9, .return_, 1) := by decide +kernel
theorem xr31 : tt_mr 31 = 0 := by decide +kernel
/-- a row of noughts -/
def fzz (B : Nat) : Nat → Nat
  | 0 => B
  | k + 1 => mv_wr 32 (fzz B k) k (mn_b 0)
theorem fzz_rd (B : Nat) : ∀ k j, j < k → mv_rd 32 (fzz B k) j = 0
  | 0, j, h => by omega
  | k + 1, j, h => by
    show mv_rd 32 (mv_wr 32 (fzz B k) k (mn_b 0)) j = 0
    rw [mv_rd_wr]
    by_cases e : j = k
    · rw [if_pos e]; rfl
    · rw [if_neg e]; exact fzz_rd B k j (by omega)
theorem fzz_ab (B : Nat) : mv_ab (fzz B 32) 0 32 = true := ab_of 32 (fun j hj => by rw [Nat.zero_add, fzz_rd B 32 j hj]; exact Or.inl (by decide))
theorem rd_wr_same {c i v : Nat} (hv : v < 4294967296) : mv_rd 32 (mv_wr 32 c i v) i = v := by
  rw [mv_rd_wr, if_pos rfl]
  exact Nat.mod_eq_of_lt hv
theorem ab_less {T s m k : Nat} (h : mv_ab T s m = true) (hk : k ≤ m) : mv_ab T s k = true := by
  rw [ab_iff] at h ⊢
  exact fun j hj => h j (by omega)
theorem mo_sub_0 {v : Nat} (h : v < 64) : mo_sub v 0 = v := by
  unfold mo_sub
  omega
theorem pn_div {v : Nat} (h : v < 64) : v / 64 = 0 := by omega
theorem pn_ok {v : Nat} (h : v < 64) : (Nat.blt v 2147483648 && (Nat.blt 64 2147483648 && Nat.blt 0 64)) = true := by
  rw [show Nat.blt v 2147483648 = true by rw [Nat.blt_eq]; omega]
  rfl
theorem and1_lt (x : Nat) : mo_and x 1 < 4294967296 := Nat.lt_of_le_of_lt Nat.and_le_right (by decide)
section GM
variable {n : Nat} {pl : Nat → Nat} {w0 w : mv_T 10} {X0 X1 cbs X3 Hd Id Ids Ads Br Dg X10 Sp Sw Ss In Mk Is Os Ks Kp ac su sl kl : Nat} {X20 Bh Bd cps Mb Ti X26 Pr wk Nu : Nat}
theorem ch_oa  (hw : wh 30 pl w0 w [(0, 1, 13, X0), (0, 8, 11, X1), (3, 6, 40, cbs), (0, 9, 11, X3), (1, 1, 105, Hd), (1, 1, 32, Id), (1, 1, 128, Ids), (1, 1, 480, Ads), (1, 1, 32, Br), (1, 1, 32, Dg), (0, 2, 13, X10), (1, 1, 64, Sp), (1, 0, 64, Sw), (1, 0, 8, Ss), (1, 1, 32, In), (1, 1, 32, Mk), (1, 0, 8, Is), (1, 0, 8, Os), (1, 0, 8, Ks), (1, 1, 64, Kp), (0, 9, 11, X20), (1, 1, 105, Bh), (1, 1, 32, Bd), (3, 7, 4, cps), (1, 1, 28, Mb), (1, 1, 32, Ti), (0, 10, 6, X26), (1, 0, 4, Pr)]) (hX0 : fh X0 kX [(2, pl 1, 0), (0, 0, 0)]) (hX1 : fh X1 kM [(0, 1, 0), (2, pl 2, 0), (0, 0, 0), (2, pl 10, 0), (2, pl 6, 0), (2, pl 7, 0), (0, 0, 0), (2, pl 8, 0), (2, pl 9, 0)]) (hX3 : fh X3 kB [(2, pl 5, 0), (2, pl 4, 0), (0, 0, 0), (0, 4, 0), (3, 0, 0)]) (hX10 : fh X10 kS [(2, pl 11, 0), (2, pl 12, 0), (2, pl 13, 0), (2, pl 14, 0), (0, su, 0), (0, sl, 0), (2, pl 15, 0), (2, pl 16, 0), (2, pl 17, 0), (0, 1, 0), (2, pl 18, 0), (2, pl 19, 0), (0, kl, 0)]) (hX20 : fh X20 kN [(2, pl 3, 0), (0, 1, 0), (0, 1, 0), (0, wk, 0), (2, pl 21, 0), (2, pl 22, 0), (2, pl 23, 0), (0, 1, 0), (3, 0, 0), (0, 0, 0), (3, 0, 0)]) (hX26 : fh X26 kP [(2, pl 24, 0), (0, 0, 0), (0, 1, 0), (0, 28, 0), (2, pl 25, 0), (2, pl 27, 0)])  : sy_D 33 n 1 20 [(2, pl 26, 0), (0, 0, 0)] w (fun ret w' => ret = [(0, 4, 0)] ∧ w' = w) := by
  refine sy_Dof (us := []) (sy_oks_cons (sy_ok2 (wh_lt hw 26 (by first | decide | assumption))) (sy_oks_cons (sy_ok0 (by first | decide | assumption | omega | exact mo_rd_lt _ _ | exact mo_add_lt _ _ | exact mo_sub_lt _ _ | exact mo_mul_lt _ _ | exact mo_shl_lt _ _ | exact mo_ushr_lt _ _ | exact mo_or_lt (by decide) (mo_and_lt (mo_rd_lt _ _)) | exact mo_or_lt (mo_shl_lt _ _) (mo_and_lt (mo_rd_lt _ _)))) sy_oks_nil)) rfl rfl ?_
  show sy_F 33 n 1 20 0 [(2, pl 26, 0), (0, 0, 0)] [] w _
  refine sy_Fs (sy_aldn xc33_0 rfl rfl sy_refl) ?_
  refine sy_Fs (sy_gf xc33_1 xf33_26 rfl (wh_at hw 26 rfl) rfl (fh_at hX26 1 rfl rfl) sy_refl) ?_
  refine sy_Fs (sy_callG (kd := 1) (as := [(0, 0, 0)]) (S0 := []) (ret := [(0, 4, 0)]) xc33_4 (sy_calS (as := [(0, 0, 0)]) (S0 := []) xm33_29 rfl rfl) rfl rfl rfl rfl (sy_oka (sy_oks_cons (sy_ok0 (by first | decide | assumption | omega | exact mo_rd_lt _ _ | exact mo_add_lt _ _ | exact mo_sub_lt _ _ | exact mo_mul_lt _ _ | exact mo_shl_lt _ _ | exact mo_ushr_lt _ _ | exact mo_or_lt (by decide) (mo_and_lt (mo_rd_lt _ _)) | exact mo_or_lt (mo_shl_lt _ _) (mo_and_lt (mo_rd_lt _ _)))) sy_oks_nil) rfl xl22) (sy_Cw (cd_hb (n := n))) (by decide) (by rw [xl22]; decide) sy_refl) ?_
  refine sy_Fs (sy_bipush (v := 24) xc33_7 (by decide) (by decide) sy_refl) ?_
  refine sy_Fs (sy_ildn xc33_9 rfl rfl sy_refl) ?_
  refine sy_Fs (sx_imul (z := 0) xc33_10 (by decide)) ?_
  refine sy_Fs (sx_iadd (z := 4) xc33_11 (by decide)) ?_
  exact sy_Fi xc33_12 xr33 rfl ⟨rfl, rfl⟩
theorem ch_aa  (hw : wh 30 pl w0 w [(0, 1, 13, X0), (0, 8, 11, X1), (3, 6, 40, cbs), (0, 9, 11, X3), (1, 1, 105, Hd), (1, 1, 32, Id), (1, 1, 128, Ids), (1, 1, 480, Ads), (1, 1, 32, Br), (1, 1, 32, Dg), (0, 2, 13, X10), (1, 1, 64, Sp), (1, 0, 64, Sw), (1, 0, 8, Ss), (1, 1, 32, In), (1, 1, 32, Mk), (1, 0, 8, Is), (1, 0, 8, Os), (1, 0, 8, Ks), (1, 1, 64, Kp), (0, 9, 11, X20), (1, 1, 105, Bh), (1, 1, 32, Bd), (3, 7, 4, cps), (1, 1, 28, Mb), (1, 1, 32, Ti), (0, 10, 6, X26), (1, 0, 4, Pr)]) (hX0 : fh X0 kX [(2, pl 1, 0), (0, 0, 0)]) (hX1 : fh X1 kM [(0, 1, 0), (2, pl 2, 0), (0, 0, 0), (2, pl 10, 0), (2, pl 6, 0), (2, pl 7, 0), (0, 0, 0), (2, pl 8, 0), (2, pl 9, 0)]) (hX3 : fh X3 kB [(2, pl 5, 0), (2, pl 4, 0), (0, 0, 0), (0, 4, 0), (3, 0, 0)]) (hX10 : fh X10 kS [(2, pl 11, 0), (2, pl 12, 0), (2, pl 13, 0), (2, pl 14, 0), (0, su, 0), (0, sl, 0), (2, pl 15, 0), (2, pl 16, 0), (2, pl 17, 0), (0, 1, 0), (2, pl 18, 0), (2, pl 19, 0), (0, kl, 0)]) (hX20 : fh X20 kN [(2, pl 3, 0), (0, 1, 0), (0, 1, 0), (0, wk, 0), (2, pl 21, 0), (2, pl 22, 0), (2, pl 23, 0), (0, 1, 0), (3, 0, 0), (0, 0, 0), (3, 0, 0)]) (hX26 : fh X26 kP [(2, pl 24, 0), (0, 0, 0), (0, 1, 0), (0, 28, 0), (2, pl 25, 0), (2, pl 27, 0)])  : sy_D 32 n 2 41 [(2, pl 26, 0), (0, 0, 0)] w (fun ret w' => ret = [(0, 8, 0)] ∧ w' = w) := by
  refine sy_Dof (us := []) (sy_oks_cons (sy_ok2 (wh_lt hw 26 (by first | decide | assumption))) (sy_oks_cons (sy_ok0 (by first | decide | assumption | omega | exact mo_rd_lt _ _ | exact mo_add_lt _ _ | exact mo_sub_lt _ _ | exact mo_mul_lt _ _ | exact mo_shl_lt _ _ | exact mo_ushr_lt _ _ | exact mo_or_lt (by decide) (mo_and_lt (mo_rd_lt _ _)) | exact mo_or_lt (mo_shl_lt _ _) (mo_and_lt (mo_rd_lt _ _)))) sy_oks_nil)) rfl rfl ?_
  show sy_F 32 n 2 41 0 [(2, pl 26, 0), (0, 0, 0)] [] w _
  refine sy_Fs (sy_aldn xc32_0 rfl rfl sy_refl) ?_
  refine sy_Fs (sy_ildn xc32_1 rfl rfl sy_refl) ?_
  refine sy_Fs (sy_callG (kd := 3) (as := [(2, pl 26, 0), (0, 0, 0)]) (S0 := []) (ret := [(0, 4, 0)]) xc32_2 (sy_calV (as := [(2, pl 26, 0), (0, 0, 0)]) (S0 := []) xm32_45 rfl rfl) rfl rfl (sy_rcvm xi33 (wh_at hw 26 rfl)) rfl (sy_oka (sy_oks_cons (sy_ok2 (wh_lt hw 26 (by first | decide | assumption))) (sy_oks_cons (sy_ok0 (by first | decide | assumption | omega | exact mo_rd_lt _ _ | exact mo_add_lt _ _ | exact mo_sub_lt _ _ | exact mo_mul_lt _ _ | exact mo_shl_lt _ _ | exact mo_ushr_lt _ _ | exact mo_or_lt (by decide) (mo_and_lt (mo_rd_lt _ _)) | exact mo_or_lt (mo_shl_lt _ _) (mo_and_lt (mo_rd_lt _ _)))) sy_oks_nil)) rfl xl33) (sy_Cw (ch_oa (n := n) hw hX0 hX1 hX3 hX10 hX20 hX26)) (by decide) (by rw [xl33]; decide) sy_refl) ?_
  refine sy_Fs (sy_iconst (v := 4) xc32_5 (by decide) sy_refl) ?_
  refine sy_Fs (sx_iadd (z := 8) xc32_6 (by decide)) ?_
  exact sy_Fi xc32_7 xr32 rfl ⟨rfl, rfl⟩
theorem ch_ga  (hw : wh 30 pl w0 w [(0, 1, 13, X0), (0, 8, 11, X1), (3, 6, 40, cbs), (0, 9, 11, X3), (1, 1, 105, Hd), (1, 1, 32, Id), (1, 1, 128, Ids), (1, 1, 480, Ads), (1, 1, 32, Br), (1, 1, 32, Dg), (0, 2, 13, X10), (1, 1, 64, Sp), (1, 0, 64, Sw), (1, 0, 8, Ss), (1, 1, 32, In), (1, 1, 32, Mk), (1, 0, 8, Is), (1, 0, 8, Os), (1, 0, 8, Ks), (1, 1, 64, Kp), (0, 9, 11, X20), (1, 1, 105, Bh), (1, 1, 32, Bd), (3, 7, 4, cps), (1, 1, 28, Mb), (1, 1, 32, Ti), (0, 10, 6, X26), (1, 0, 4, Pr)]) (hX0 : fh X0 kX [(2, pl 1, 0), (0, 0, 0)]) (hX1 : fh X1 kM [(0, 1, 0), (2, pl 2, 0), (0, 0, 0), (2, pl 10, 0), (2, pl 6, 0), (2, pl 7, 0), (0, 0, 0), (2, pl 8, 0), (2, pl 9, 0)]) (hX3 : fh X3 kB [(2, pl 5, 0), (2, pl 4, 0), (0, 0, 0), (0, 4, 0), (3, 0, 0)]) (hX10 : fh X10 kS [(2, pl 11, 0), (2, pl 12, 0), (2, pl 13, 0), (2, pl 14, 0), (0, su, 0), (0, sl, 0), (2, pl 15, 0), (2, pl 16, 0), (2, pl 17, 0), (0, 1, 0), (2, pl 18, 0), (2, pl 19, 0), (0, kl, 0)]) (hX20 : fh X20 kN [(2, pl 3, 0), (0, 1, 0), (0, 1, 0), (0, wk, 0), (2, pl 21, 0), (2, pl 22, 0), (2, pl 23, 0), (0, 1, 0), (3, 0, 0), (0, 0, 0), (3, 0, 0)]) (hX26 : fh X26 kP [(2, pl 24, 0), (0, 0, 0), (0, 1, 0), (0, 28, 0), (2, pl 25, 0), (2, pl 27, 0)]) (hmb : mv_ab Mb 8 20 = true) : sy_D 34 n 1 18 [(2, pl 1, 0), (2, pl 24, 0), (0, 8, 0)] w (fun ret w' => ret = [] ∧ ∃ Y1 Y7 : Nat, wh 30 pl w0 w' [(0, 1, 13, X0), (0, 8, 11, Y1), (3, 6, 40, cbs), (0, 9, 11, X3), (1, 1, 105, Hd), (1, 1, 32, Id), (1, 1, 128, Ids), (1, 1, 480, Y7), (1, 1, 32, Br), (1, 1, 32, Dg), (0, 2, 13, X10), (1, 1, 64, Sp), (1, 0, 64, Sw), (1, 0, 8, Ss), (1, 1, 32, In), (1, 1, 32, Mk), (1, 0, 8, Is), (1, 0, 8, Os), (1, 0, 8, Ks), (1, 1, 64, Kp), (0, 9, 11, X20), (1, 1, 105, Bh), (1, 1, 32, Bd), (3, 7, 4, cps), (1, 1, 28, Mb), (1, 1, 32, Ti), (0, 10, 6, X26), (1, 0, 4, Pr)] ∧ fh Y1 kM [(0, 1, 0), (2, pl 2, 0), (0, 0, 0), (2, pl 10, 0), (2, pl 6, 0), (2, pl 7, 0), (0, 1, 0), (2, pl 8, 0), (2, pl 9, 0)]) := by
  refine sy_Dof (us := [(255, 0, 0)]) (sy_oks_cons (sy_ok2 (wh_lt hw 1 (by first | decide | assumption))) (sy_oks_cons (sy_ok2 (wh_lt hw 24 (by first | decide | assumption))) (sy_oks_cons (sy_ok0 (by first | decide | assumption | omega | exact mo_rd_lt _ _ | exact mo_add_lt _ _ | exact mo_sub_lt _ _ | exact mo_mul_lt _ _ | exact mo_shl_lt _ _ | exact mo_ushr_lt _ _ | exact mo_or_lt (by decide) (mo_and_lt (mo_rd_lt _ _)) | exact mo_or_lt (mo_shl_lt _ _) (mo_and_lt (mo_rd_lt _ _)))) sy_oks_nil))) rfl rfl ?_
  show sy_F 34 n 1 18 0 [(2, pl 1, 0), (2, pl 24, 0), (0, 8, 0), (255, 0, 0)] [] w _
  refine sy_Fs (sy_aldn xc34_0 rfl rfl sy_refl) ?_
  refine sy_Fs (sy_gf xc34_1 xf34_194 rfl (wh_at hw 1 rfl) rfl (fh_at hX1 6 rfl rfl) sy_refl) ?_
  refine sy_Fs (sy_bipush (v := 24) xc34_4 (by decide) (by decide) sy_refl) ?_
  refine sy_Fs (sy_icmplt_t (pc' := 10) xc34_6 (by decide) (by decide) (by decide) (by decide) sy_refl) ?_
  refine sy_Fs (sy_iconst (v := 0) xc34_10 (by decide) sy_refl) ?_
  refine sy_Fs (sx_istn (j := 3) (ls' := [(2, pl 1, 0), (2, pl 24, 0), (0, 8, 0), (0, 0, 0)]) xc34_11 rfl rfl (sy_ok0 (by first | decide | assumption | omega | exact mo_rd_lt _ _ | exact mo_add_lt _ _ | exact mo_sub_lt _ _ | exact mo_mul_lt _ _ | exact mo_shl_lt _ _ | exact mo_ushr_lt _ _ | exact mo_or_lt (by decide) (mo_and_lt (mo_rd_lt _ _)) | exact mo_or_lt (mo_shl_lt _ _) (mo_and_lt (mo_rd_lt _ _)))) (by rw [xl34]; rfl) rfl rfl) ?_
  refine sy_Fs (sy_ildn xc34_12 rfl rfl sy_refl) ?_
  refine sy_Fs (sy_aldn xc34_13 rfl rfl sy_refl) ?_
  refine sy_Fs (sy_gf xc34_14 xf34_194 rfl (wh_at hw 1 rfl) rfl (fh_at hX1 6 rfl rfl) sy_refl) ?_
  refine sy_Fs (sy_ge_t (pc' := 45) xc34_17 (by decide) (by decide) (by decide) (by decide) sy_refl) ?_
  refine sy_Fs (sy_aldn xc34_45 rfl rfl sy_refl) ?_
  refine sy_Fs (sy_ildn xc34_46 rfl rfl sy_refl) ?_
  refine sy_Fs (sy_aldn xc34_47 rfl rfl sy_refl) ?_
  refine sy_Fs (sy_gf xc34_48 xf34_27 rfl (wh_at hw 1 rfl) rfl (fh_at hX1 5 rfl rfl) sy_refl) ?_
  refine sy_Fs (sy_bipush (v := 20) xc34_51 (by decide) (by decide) sy_refl) ?_
  refine sy_Fs (sy_aldn xc34_53 rfl rfl sy_refl) ?_
  refine sy_Fs (sy_gf xc34_54 xf34_194 rfl (wh_at hw 1 rfl) rfl (fh_at hX1 6 rfl rfl) sy_refl) ?_
  refine sy_Fs (sx_imul (z := 0) xc34_57 (by decide)) ?_
  refine sy_Fs (sy_bipush (v := 20) xc34_58 (by decide) (by decide) sy_refl) ?_
  refine sy_Fw (i := 7) (x := (1, 1, 480, (mv_cw 32 Ads Mb 8 0 20))) hw (by decide) (sy_call8 (as := [(2, pl 24, 0), (0, 8, 0), (2, pl 7, 0), (0, 0, 0), (0, 20, 0)]) (S0 := []) xc34_60 (sy_calS (as := [(2, pl 24, 0), (0, 8, 0), (2, pl 7, 0), (0, 0, 0), (0, 20, 0)]) (S0 := []) xm34_98 rfl rfl) (sy_cpb (wh_at hw 24 rfl) (wh_at hw 7 rfl) (by first | decide | assumption | omega) (by first | decide | assumption | omega) (by first | decide | assumption | omega) (by first | decide | assumption | omega) hmb) (by decide) (by decide) sy_refl) ?_
  intro w hw
  simp only [List.set_cons_zero, List.set_cons_succ] at hw
  refine sy_Fs (sy_aldn xc34_63 rfl rfl sy_refl) ?_
  refine sy_Fs (sy_dup xc34_64 rfl sy_refl) ?_
  refine sy_Fs (sy_gf xc34_65 xf34_194 rfl (wh_at hw 1 rfl) rfl (fh_at hX1 6 rfl rfl) sy_refl) ?_
  refine sy_Fs (sy_iconst (v := 1) xc34_68 (by decide) sy_refl) ?_
  refine sy_Fs (sx_iadd (z := 1) xc34_69 (by decide)) ?_
  refine sy_Ff (i := 1) (q := 6) (v := (0, 1, 0)) hw hX1 (by decide) (by decide) rfl (sy_ok0 (by first | decide | assumption | omega | exact mo_rd_lt _ _ | exact mo_add_lt _ _ | exact mo_sub_lt _ _ | exact mo_mul_lt _ _ | exact mo_shl_lt _ _ | exact mo_ushr_lt _ _ | exact mo_or_lt (by decide) (mo_and_lt (mo_rd_lt _ _)) | exact mo_or_lt (mo_shl_lt _ _) (mo_and_lt (mo_rd_lt _ _)))) (sx_pf xc34_70 xf34_194 rfl (xg_int xt8_8) xh34_194 (wh_at hw 1 rfl) rfl (sy_ok0 (by first | decide | assumption | omega | exact mo_rd_lt _ _ | exact mo_add_lt _ _ | exact mo_sub_lt _ _ | exact mo_mul_lt _ _ | exact mo_shl_lt _ _ | exact mo_ushr_lt _ _ | exact mo_or_lt (by decide) (mo_and_lt (mo_rd_lt _ _)) | exact mo_or_lt (mo_shl_lt _ _) (mo_and_lt (mo_rd_lt _ _)))) rfl sy_refl) ?_
  intro w X1 hw hX1
  simp only [List.set_cons_zero, List.set_cons_succ] at hw hX1
  exact sy_Fv xc34_73 xr34 ⟨rfl, X1, _, hw, hX1⟩
theorem ch_fill  (hw : wh 30 pl w0 w [(0, 1, 13, X0), (0, 8, 11, X1), (3, 6, 40, cbs), (0, 9, 11, X3), (1, 1, 105, Hd), (1, 1, 32, Id), (1, 1, 128, Ids), (1, 1, 480, Ads), (1, 1, 32, Br), (1, 1, 32, Dg), (0, 2, 13, X10), (1, 1, 64, Sp), (1, 0, 64, Sw), (1, 0, 8, Ss), (1, 1, 32, In), (1, 1, 32, Mk), (1, 0, 8, Is), (1, 0, 8, Os), (1, 0, 8, Ks), (1, 1, 64, Kp), (0, 9, 11, X20), (1, 1, 105, Bh), (1, 1, 32, Bd), (3, 7, 4, cps), (1, 1, 28, Mb), (1, 1, 32, Ti), (0, 10, 6, X26), (1, 0, 4, Pr), (1, 0, 1, Nu)]) (hX0 : fh X0 kX [(2, pl 1, 0), (0, 0, 0)]) (hX1 : fh X1 kM [(0, 1, 0), (2, pl 2, 0), (0, 0, 0), (2, pl 10, 0), (2, pl 6, 0), (2, pl 7, 0), (0, ac, 0), (2, pl 8, 0), (2, pl 9, 0)]) (hX3 : fh X3 kB [(2, pl 5, 0), (2, pl 4, 0), (0, 0, 0), (0, 4, 0), (3, 0, 0)]) (hX10 : fh X10 kS [(2, pl 11, 0), (2, pl 12, 0), (2, pl 13, 0), (2, pl 14, 0), (0, su, 0), (0, sl, 0), (2, pl 15, 0), (2, pl 16, 0), (2, pl 17, 0), (0, 1, 0), (2, pl 18, 0), (2, pl 19, 0), (0, kl, 0)]) (hX20 : fh X20 kN [(2, pl 3, 0), (0, 1, 0), (0, 1, 0), (0, wk, 0), (2, pl 21, 0), (2, pl 22, 0), (2, pl 23, 0), (0, 1, 0), (3, 0, 0), (0, 0, 0), (2, pl 28, 0)]) (hX26 : fh X26 kP [(2, pl 24, 0), (0, 0, 0), (0, 1, 0), (0, 28, 0), (2, pl 25, 0), (2, pl 27, 0)])  : sy_D 43 n 0 0 [(2, pl 8, 0), (0, 0, 0)] w (fun ret w' => ret = [] ∧ wh 30 pl w0 w' [(0, 1, 13, X0), (0, 8, 11, X1), (3, 6, 40, cbs), (0, 9, 11, X3), (1, 1, 105, Hd), (1, 1, 32, Id), (1, 1, 128, Ids), (1, 1, 480, Ads), (1, 1, 32, (fzz Br 32)), (1, 1, 32, Dg), (0, 2, 13, X10), (1, 1, 64, Sp), (1, 0, 64, Sw), (1, 0, 8, Ss), (1, 1, 32, In), (1, 1, 32, Mk), (1, 0, 8, Is), (1, 0, 8, Os), (1, 0, 8, Ks), (1, 1, 64, Kp), (0, 9, 11, X20), (1, 1, 105, Bh), (1, 1, 32, Bd), (3, 7, 4, cps), (1, 1, 28, Mb), (1, 1, 32, Ti), (0, 10, 6, X26), (1, 0, 4, Pr), (1, 0, 1, Nu)]) := by
  refine sy_Dof (us := [(255, 0, 0), (255, 0, 0)]) (sy_oks_cons (sy_ok2 (wh_lt hw 8 (by first | decide | assumption))) (sy_oks_cons (sy_ok0 (by first | decide | assumption | omega | exact mo_rd_lt _ _ | exact mo_add_lt _ _ | exact mo_sub_lt _ _ | exact mo_mul_lt _ _ | exact mo_shl_lt _ _ | exact mo_ushr_lt _ _ | exact mo_or_lt (by decide) (mo_and_lt (mo_rd_lt _ _)) | exact mo_or_lt (mo_shl_lt _ _) (mo_and_lt (mo_rd_lt _ _)))) sy_oks_nil)) rfl rfl ?_
  show sy_F 43 n 0 0 0 [(2, pl 8, 0), (0, 0, 0), (255, 0, 0), (255, 0, 0)] [] w _
  refine sy_Fs (sy_iconst (v := 0) xc43_0 (by decide) sy_refl) ?_
  refine sy_Fs (sx_istn (j := 2) (ls' := [(2, pl 8, 0), (0, 0, 0), (0, 0, 0), (255, 0, 0)]) xc43_1 rfl rfl (sy_ok0 (by first | decide | assumption | omega | exact mo_rd_lt _ _ | exact mo_add_lt _ _ | exact mo_sub_lt _ _ | exact mo_mul_lt _ _ | exact mo_shl_lt _ _ | exact mo_ushr_lt _ _ | exact mo_or_lt (by decide) (mo_and_lt (mo_rd_lt _ _)) | exact mo_or_lt (mo_shl_lt _ _) (mo_and_lt (mo_rd_lt _ _)))) (by rw [xl43]; rfl) rfl rfl) ?_
  refine sy_Fs (sy_aldn xc43_2 rfl rfl sy_refl) ?_
  refine sy_Fs (sy_alen xc43_3 (wh_at hw 8 rfl) rfl sy_refl) ?_
  refine sy_Fs (sx_istn (j := 3) (ls' := [(2, pl 8, 0), (0, 0, 0), (0, 0, 0), (0, 32, 0)]) xc43_4 rfl rfl (sy_ok0 (by first | decide | assumption | omega | exact mo_rd_lt _ _ | exact mo_add_lt _ _ | exact mo_sub_lt _ _ | exact mo_mul_lt _ _ | exact mo_shl_lt _ _ | exact mo_ushr_lt _ _ | exact mo_or_lt (by decide) (mo_and_lt (mo_rd_lt _ _)) | exact mo_or_lt (mo_shl_lt _ _) (mo_and_lt (mo_rd_lt _ _)))) (by rw [xl43]; rfl) rfl rfl) ?_
  refine sy_Fs (sy_ildn xc43_5 rfl rfl sy_refl) ?_
  refine sy_Fs (sy_ildn xc43_6 rfl rfl sy_refl) ?_
  refine sy_Fs (sy_ge_f xc43_7 (by decide) (by decide) (by decide) sy_refl) ?_
  refine sy_Fs (sy_aldn xc43_10 rfl rfl sy_refl) ?_
  refine sy_Fs (sy_ildn xc43_11 rfl rfl sy_refl) ?_
  refine sy_Fs (sy_ildn xc43_12 rfl rfl sy_refl) ?_
  refine sy_Fw (i := 8) (x := (1, 1, 32, (fzz Br 1))) hw (by decide) (sy_bas (i := 0) xc43_13 (wh_at hw 8 rfl) rfl (by decide) (by decide) rfl sy_refl) ?_
  intro w hw
  simp only [List.set_cons_zero, List.set_cons_succ] at hw
  refine sy_Fs (sx_iinc (c := 1) (z := 1) (ls' := [(2, pl 8, 0), (0, 0, 0), (0, 1, 0), (0, 32, 0)]) xc43_14 rfl (by decide) (by rw [xl43]; rfl) rfl (by decide) rfl) ?_
  refine sy_Fs (sy_goto (pc' := 5) xc43_17 (by decide) (by decide) sy_refl) ?_
  refine sy_Fs (sy_ildn xc43_5 rfl rfl sy_refl) ?_
  refine sy_Fs (sy_ildn xc43_6 rfl rfl sy_refl) ?_
  refine sy_Fs (sy_ge_f xc43_7 (by decide) (by decide) (by decide) sy_refl) ?_
  refine sy_Fs (sy_aldn xc43_10 rfl rfl sy_refl) ?_
  refine sy_Fs (sy_ildn xc43_11 rfl rfl sy_refl) ?_
  refine sy_Fs (sy_ildn xc43_12 rfl rfl sy_refl) ?_
  refine sy_Fw (i := 8) (x := (1, 1, 32, (fzz Br 2))) hw (by decide) (sy_bas (i := 1) xc43_13 (wh_at hw 8 rfl) rfl (by decide) (by decide) rfl sy_refl) ?_
  intro w hw
  simp only [List.set_cons_zero, List.set_cons_succ] at hw
  refine sy_Fs (sx_iinc (c := 1) (z := 2) (ls' := [(2, pl 8, 0), (0, 0, 0), (0, 2, 0), (0, 32, 0)]) xc43_14 rfl (by decide) (by rw [xl43]; rfl) rfl (by decide) rfl) ?_
  refine sy_Fs (sy_goto (pc' := 5) xc43_17 (by decide) (by decide) sy_refl) ?_
  refine sy_Fs (sy_ildn xc43_5 rfl rfl sy_refl) ?_
  refine sy_Fs (sy_ildn xc43_6 rfl rfl sy_refl) ?_
  refine sy_Fs (sy_ge_f xc43_7 (by decide) (by decide) (by decide) sy_refl) ?_
  refine sy_Fs (sy_aldn xc43_10 rfl rfl sy_refl) ?_
  refine sy_Fs (sy_ildn xc43_11 rfl rfl sy_refl) ?_
  refine sy_Fs (sy_ildn xc43_12 rfl rfl sy_refl) ?_
  refine sy_Fw (i := 8) (x := (1, 1, 32, (fzz Br 3))) hw (by decide) (sy_bas (i := 2) xc43_13 (wh_at hw 8 rfl) rfl (by decide) (by decide) rfl sy_refl) ?_
  intro w hw
  simp only [List.set_cons_zero, List.set_cons_succ] at hw
  refine sy_Fs (sx_iinc (c := 1) (z := 3) (ls' := [(2, pl 8, 0), (0, 0, 0), (0, 3, 0), (0, 32, 0)]) xc43_14 rfl (by decide) (by rw [xl43]; rfl) rfl (by decide) rfl) ?_
  refine sy_Fs (sy_goto (pc' := 5) xc43_17 (by decide) (by decide) sy_refl) ?_
  refine sy_Fs (sy_ildn xc43_5 rfl rfl sy_refl) ?_
  refine sy_Fs (sy_ildn xc43_6 rfl rfl sy_refl) ?_
  refine sy_Fs (sy_ge_f xc43_7 (by decide) (by decide) (by decide) sy_refl) ?_
  refine sy_Fs (sy_aldn xc43_10 rfl rfl sy_refl) ?_
  refine sy_Fs (sy_ildn xc43_11 rfl rfl sy_refl) ?_
  refine sy_Fs (sy_ildn xc43_12 rfl rfl sy_refl) ?_
  refine sy_Fw (i := 8) (x := (1, 1, 32, (fzz Br 4))) hw (by decide) (sy_bas (i := 3) xc43_13 (wh_at hw 8 rfl) rfl (by decide) (by decide) rfl sy_refl) ?_
  intro w hw
  simp only [List.set_cons_zero, List.set_cons_succ] at hw
  refine sy_Fs (sx_iinc (c := 1) (z := 4) (ls' := [(2, pl 8, 0), (0, 0, 0), (0, 4, 0), (0, 32, 0)]) xc43_14 rfl (by decide) (by rw [xl43]; rfl) rfl (by decide) rfl) ?_
  refine sy_Fs (sy_goto (pc' := 5) xc43_17 (by decide) (by decide) sy_refl) ?_
  refine sy_Fs (sy_ildn xc43_5 rfl rfl sy_refl) ?_
  refine sy_Fs (sy_ildn xc43_6 rfl rfl sy_refl) ?_
  refine sy_Fs (sy_ge_f xc43_7 (by decide) (by decide) (by decide) sy_refl) ?_
  refine sy_Fs (sy_aldn xc43_10 rfl rfl sy_refl) ?_
  refine sy_Fs (sy_ildn xc43_11 rfl rfl sy_refl) ?_
  refine sy_Fs (sy_ildn xc43_12 rfl rfl sy_refl) ?_
  refine sy_Fw (i := 8) (x := (1, 1, 32, (fzz Br 5))) hw (by decide) (sy_bas (i := 4) xc43_13 (wh_at hw 8 rfl) rfl (by decide) (by decide) rfl sy_refl) ?_
  intro w hw
  simp only [List.set_cons_zero, List.set_cons_succ] at hw
  refine sy_Fs (sx_iinc (c := 1) (z := 5) (ls' := [(2, pl 8, 0), (0, 0, 0), (0, 5, 0), (0, 32, 0)]) xc43_14 rfl (by decide) (by rw [xl43]; rfl) rfl (by decide) rfl) ?_
  refine sy_Fs (sy_goto (pc' := 5) xc43_17 (by decide) (by decide) sy_refl) ?_
  refine sy_Fs (sy_ildn xc43_5 rfl rfl sy_refl) ?_
  refine sy_Fs (sy_ildn xc43_6 rfl rfl sy_refl) ?_
  refine sy_Fs (sy_ge_f xc43_7 (by decide) (by decide) (by decide) sy_refl) ?_
  refine sy_Fs (sy_aldn xc43_10 rfl rfl sy_refl) ?_
  refine sy_Fs (sy_ildn xc43_11 rfl rfl sy_refl) ?_
  refine sy_Fs (sy_ildn xc43_12 rfl rfl sy_refl) ?_
  refine sy_Fw (i := 8) (x := (1, 1, 32, (fzz Br 6))) hw (by decide) (sy_bas (i := 5) xc43_13 (wh_at hw 8 rfl) rfl (by decide) (by decide) rfl sy_refl) ?_
  intro w hw
  simp only [List.set_cons_zero, List.set_cons_succ] at hw
  refine sy_Fs (sx_iinc (c := 1) (z := 6) (ls' := [(2, pl 8, 0), (0, 0, 0), (0, 6, 0), (0, 32, 0)]) xc43_14 rfl (by decide) (by rw [xl43]; rfl) rfl (by decide) rfl) ?_
  refine sy_Fs (sy_goto (pc' := 5) xc43_17 (by decide) (by decide) sy_refl) ?_
  refine sy_Fs (sy_ildn xc43_5 rfl rfl sy_refl) ?_
  refine sy_Fs (sy_ildn xc43_6 rfl rfl sy_refl) ?_
  refine sy_Fs (sy_ge_f xc43_7 (by decide) (by decide) (by decide) sy_refl) ?_
  refine sy_Fs (sy_aldn xc43_10 rfl rfl sy_refl) ?_
  refine sy_Fs (sy_ildn xc43_11 rfl rfl sy_refl) ?_
  refine sy_Fs (sy_ildn xc43_12 rfl rfl sy_refl) ?_
  refine sy_Fw (i := 8) (x := (1, 1, 32, (fzz Br 7))) hw (by decide) (sy_bas (i := 6) xc43_13 (wh_at hw 8 rfl) rfl (by decide) (by decide) rfl sy_refl) ?_
  intro w hw
  simp only [List.set_cons_zero, List.set_cons_succ] at hw
  refine sy_Fs (sx_iinc (c := 1) (z := 7) (ls' := [(2, pl 8, 0), (0, 0, 0), (0, 7, 0), (0, 32, 0)]) xc43_14 rfl (by decide) (by rw [xl43]; rfl) rfl (by decide) rfl) ?_
  refine sy_Fs (sy_goto (pc' := 5) xc43_17 (by decide) (by decide) sy_refl) ?_
  refine sy_Fs (sy_ildn xc43_5 rfl rfl sy_refl) ?_
  refine sy_Fs (sy_ildn xc43_6 rfl rfl sy_refl) ?_
  refine sy_Fs (sy_ge_f xc43_7 (by decide) (by decide) (by decide) sy_refl) ?_
  refine sy_Fs (sy_aldn xc43_10 rfl rfl sy_refl) ?_
  refine sy_Fs (sy_ildn xc43_11 rfl rfl sy_refl) ?_
  refine sy_Fs (sy_ildn xc43_12 rfl rfl sy_refl) ?_
  refine sy_Fw (i := 8) (x := (1, 1, 32, (fzz Br 8))) hw (by decide) (sy_bas (i := 7) xc43_13 (wh_at hw 8 rfl) rfl (by decide) (by decide) rfl sy_refl) ?_
  intro w hw
  simp only [List.set_cons_zero, List.set_cons_succ] at hw
  refine sy_Fs (sx_iinc (c := 1) (z := 8) (ls' := [(2, pl 8, 0), (0, 0, 0), (0, 8, 0), (0, 32, 0)]) xc43_14 rfl (by decide) (by rw [xl43]; rfl) rfl (by decide) rfl) ?_
  refine sy_Fs (sy_goto (pc' := 5) xc43_17 (by decide) (by decide) sy_refl) ?_
  refine sy_Fs (sy_ildn xc43_5 rfl rfl sy_refl) ?_
  refine sy_Fs (sy_ildn xc43_6 rfl rfl sy_refl) ?_
  refine sy_Fs (sy_ge_f xc43_7 (by decide) (by decide) (by decide) sy_refl) ?_
  refine sy_Fs (sy_aldn xc43_10 rfl rfl sy_refl) ?_
  refine sy_Fs (sy_ildn xc43_11 rfl rfl sy_refl) ?_
  refine sy_Fs (sy_ildn xc43_12 rfl rfl sy_refl) ?_
  refine sy_Fw (i := 8) (x := (1, 1, 32, (fzz Br 9))) hw (by decide) (sy_bas (i := 8) xc43_13 (wh_at hw 8 rfl) rfl (by decide) (by decide) rfl sy_refl) ?_
  intro w hw
  simp only [List.set_cons_zero, List.set_cons_succ] at hw
  refine sy_Fs (sx_iinc (c := 1) (z := 9) (ls' := [(2, pl 8, 0), (0, 0, 0), (0, 9, 0), (0, 32, 0)]) xc43_14 rfl (by decide) (by rw [xl43]; rfl) rfl (by decide) rfl) ?_
  refine sy_Fs (sy_goto (pc' := 5) xc43_17 (by decide) (by decide) sy_refl) ?_
  refine sy_Fs (sy_ildn xc43_5 rfl rfl sy_refl) ?_
  refine sy_Fs (sy_ildn xc43_6 rfl rfl sy_refl) ?_
  refine sy_Fs (sy_ge_f xc43_7 (by decide) (by decide) (by decide) sy_refl) ?_
  refine sy_Fs (sy_aldn xc43_10 rfl rfl sy_refl) ?_
  refine sy_Fs (sy_ildn xc43_11 rfl rfl sy_refl) ?_
  refine sy_Fs (sy_ildn xc43_12 rfl rfl sy_refl) ?_
  refine sy_Fw (i := 8) (x := (1, 1, 32, (fzz Br 10))) hw (by decide) (sy_bas (i := 9) xc43_13 (wh_at hw 8 rfl) rfl (by decide) (by decide) rfl sy_refl) ?_
  intro w hw
  simp only [List.set_cons_zero, List.set_cons_succ] at hw
  refine sy_Fs (sx_iinc (c := 1) (z := 10) (ls' := [(2, pl 8, 0), (0, 0, 0), (0, 10, 0), (0, 32, 0)]) xc43_14 rfl (by decide) (by rw [xl43]; rfl) rfl (by decide) rfl) ?_
  refine sy_Fs (sy_goto (pc' := 5) xc43_17 (by decide) (by decide) sy_refl) ?_
  refine sy_Fs (sy_ildn xc43_5 rfl rfl sy_refl) ?_
  refine sy_Fs (sy_ildn xc43_6 rfl rfl sy_refl) ?_
  refine sy_Fs (sy_ge_f xc43_7 (by decide) (by decide) (by decide) sy_refl) ?_
  refine sy_Fs (sy_aldn xc43_10 rfl rfl sy_refl) ?_
  refine sy_Fs (sy_ildn xc43_11 rfl rfl sy_refl) ?_
  refine sy_Fs (sy_ildn xc43_12 rfl rfl sy_refl) ?_
  refine sy_Fw (i := 8) (x := (1, 1, 32, (fzz Br 11))) hw (by decide) (sy_bas (i := 10) xc43_13 (wh_at hw 8 rfl) rfl (by decide) (by decide) rfl sy_refl) ?_
  intro w hw
  simp only [List.set_cons_zero, List.set_cons_succ] at hw
  refine sy_Fs (sx_iinc (c := 1) (z := 11) (ls' := [(2, pl 8, 0), (0, 0, 0), (0, 11, 0), (0, 32, 0)]) xc43_14 rfl (by decide) (by rw [xl43]; rfl) rfl (by decide) rfl) ?_
  refine sy_Fs (sy_goto (pc' := 5) xc43_17 (by decide) (by decide) sy_refl) ?_
  refine sy_Fs (sy_ildn xc43_5 rfl rfl sy_refl) ?_
  refine sy_Fs (sy_ildn xc43_6 rfl rfl sy_refl) ?_
  refine sy_Fs (sy_ge_f xc43_7 (by decide) (by decide) (by decide) sy_refl) ?_
  refine sy_Fs (sy_aldn xc43_10 rfl rfl sy_refl) ?_
  refine sy_Fs (sy_ildn xc43_11 rfl rfl sy_refl) ?_
  refine sy_Fs (sy_ildn xc43_12 rfl rfl sy_refl) ?_
  refine sy_Fw (i := 8) (x := (1, 1, 32, (fzz Br 12))) hw (by decide) (sy_bas (i := 11) xc43_13 (wh_at hw 8 rfl) rfl (by decide) (by decide) rfl sy_refl) ?_
  intro w hw
  simp only [List.set_cons_zero, List.set_cons_succ] at hw
  refine sy_Fs (sx_iinc (c := 1) (z := 12) (ls' := [(2, pl 8, 0), (0, 0, 0), (0, 12, 0), (0, 32, 0)]) xc43_14 rfl (by decide) (by rw [xl43]; rfl) rfl (by decide) rfl) ?_
  refine sy_Fs (sy_goto (pc' := 5) xc43_17 (by decide) (by decide) sy_refl) ?_
  refine sy_Fs (sy_ildn xc43_5 rfl rfl sy_refl) ?_
  refine sy_Fs (sy_ildn xc43_6 rfl rfl sy_refl) ?_
  refine sy_Fs (sy_ge_f xc43_7 (by decide) (by decide) (by decide) sy_refl) ?_
  refine sy_Fs (sy_aldn xc43_10 rfl rfl sy_refl) ?_
  refine sy_Fs (sy_ildn xc43_11 rfl rfl sy_refl) ?_
  refine sy_Fs (sy_ildn xc43_12 rfl rfl sy_refl) ?_
  refine sy_Fw (i := 8) (x := (1, 1, 32, (fzz Br 13))) hw (by decide) (sy_bas (i := 12) xc43_13 (wh_at hw 8 rfl) rfl (by decide) (by decide) rfl sy_refl) ?_
  intro w hw
  simp only [List.set_cons_zero, List.set_cons_succ] at hw
  refine sy_Fs (sx_iinc (c := 1) (z := 13) (ls' := [(2, pl 8, 0), (0, 0, 0), (0, 13, 0), (0, 32, 0)]) xc43_14 rfl (by decide) (by rw [xl43]; rfl) rfl (by decide) rfl) ?_
  refine sy_Fs (sy_goto (pc' := 5) xc43_17 (by decide) (by decide) sy_refl) ?_
  refine sy_Fs (sy_ildn xc43_5 rfl rfl sy_refl) ?_
  refine sy_Fs (sy_ildn xc43_6 rfl rfl sy_refl) ?_
  refine sy_Fs (sy_ge_f xc43_7 (by decide) (by decide) (by decide) sy_refl) ?_
  refine sy_Fs (sy_aldn xc43_10 rfl rfl sy_refl) ?_
  refine sy_Fs (sy_ildn xc43_11 rfl rfl sy_refl) ?_
  refine sy_Fs (sy_ildn xc43_12 rfl rfl sy_refl) ?_
  refine sy_Fw (i := 8) (x := (1, 1, 32, (fzz Br 14))) hw (by decide) (sy_bas (i := 13) xc43_13 (wh_at hw 8 rfl) rfl (by decide) (by decide) rfl sy_refl) ?_
  intro w hw
  simp only [List.set_cons_zero, List.set_cons_succ] at hw
  refine sy_Fs (sx_iinc (c := 1) (z := 14) (ls' := [(2, pl 8, 0), (0, 0, 0), (0, 14, 0), (0, 32, 0)]) xc43_14 rfl (by decide) (by rw [xl43]; rfl) rfl (by decide) rfl) ?_
  refine sy_Fs (sy_goto (pc' := 5) xc43_17 (by decide) (by decide) sy_refl) ?_
  refine sy_Fs (sy_ildn xc43_5 rfl rfl sy_refl) ?_
  refine sy_Fs (sy_ildn xc43_6 rfl rfl sy_refl) ?_
  refine sy_Fs (sy_ge_f xc43_7 (by decide) (by decide) (by decide) sy_refl) ?_
  refine sy_Fs (sy_aldn xc43_10 rfl rfl sy_refl) ?_
  refine sy_Fs (sy_ildn xc43_11 rfl rfl sy_refl) ?_
  refine sy_Fs (sy_ildn xc43_12 rfl rfl sy_refl) ?_
  refine sy_Fw (i := 8) (x := (1, 1, 32, (fzz Br 15))) hw (by decide) (sy_bas (i := 14) xc43_13 (wh_at hw 8 rfl) rfl (by decide) (by decide) rfl sy_refl) ?_
  intro w hw
  simp only [List.set_cons_zero, List.set_cons_succ] at hw
  refine sy_Fs (sx_iinc (c := 1) (z := 15) (ls' := [(2, pl 8, 0), (0, 0, 0), (0, 15, 0), (0, 32, 0)]) xc43_14 rfl (by decide) (by rw [xl43]; rfl) rfl (by decide) rfl) ?_
  refine sy_Fs (sy_goto (pc' := 5) xc43_17 (by decide) (by decide) sy_refl) ?_
  refine sy_Fs (sy_ildn xc43_5 rfl rfl sy_refl) ?_
  refine sy_Fs (sy_ildn xc43_6 rfl rfl sy_refl) ?_
  refine sy_Fs (sy_ge_f xc43_7 (by decide) (by decide) (by decide) sy_refl) ?_
  refine sy_Fs (sy_aldn xc43_10 rfl rfl sy_refl) ?_
  refine sy_Fs (sy_ildn xc43_11 rfl rfl sy_refl) ?_
  refine sy_Fs (sy_ildn xc43_12 rfl rfl sy_refl) ?_
  refine sy_Fw (i := 8) (x := (1, 1, 32, (fzz Br 16))) hw (by decide) (sy_bas (i := 15) xc43_13 (wh_at hw 8 rfl) rfl (by decide) (by decide) rfl sy_refl) ?_
  intro w hw
  simp only [List.set_cons_zero, List.set_cons_succ] at hw
  refine sy_Fs (sx_iinc (c := 1) (z := 16) (ls' := [(2, pl 8, 0), (0, 0, 0), (0, 16, 0), (0, 32, 0)]) xc43_14 rfl (by decide) (by rw [xl43]; rfl) rfl (by decide) rfl) ?_
  refine sy_Fs (sy_goto (pc' := 5) xc43_17 (by decide) (by decide) sy_refl) ?_
  refine sy_Fs (sy_ildn xc43_5 rfl rfl sy_refl) ?_
  refine sy_Fs (sy_ildn xc43_6 rfl rfl sy_refl) ?_
  refine sy_Fs (sy_ge_f xc43_7 (by decide) (by decide) (by decide) sy_refl) ?_
  refine sy_Fs (sy_aldn xc43_10 rfl rfl sy_refl) ?_
  refine sy_Fs (sy_ildn xc43_11 rfl rfl sy_refl) ?_
  refine sy_Fs (sy_ildn xc43_12 rfl rfl sy_refl) ?_
  refine sy_Fw (i := 8) (x := (1, 1, 32, (fzz Br 17))) hw (by decide) (sy_bas (i := 16) xc43_13 (wh_at hw 8 rfl) rfl (by decide) (by decide) rfl sy_refl) ?_
  intro w hw
  simp only [List.set_cons_zero, List.set_cons_succ] at hw
  refine sy_Fs (sx_iinc (c := 1) (z := 17) (ls' := [(2, pl 8, 0), (0, 0, 0), (0, 17, 0), (0, 32, 0)]) xc43_14 rfl (by decide) (by rw [xl43]; rfl) rfl (by decide) rfl) ?_
  refine sy_Fs (sy_goto (pc' := 5) xc43_17 (by decide) (by decide) sy_refl) ?_
  refine sy_Fs (sy_ildn xc43_5 rfl rfl sy_refl) ?_
  refine sy_Fs (sy_ildn xc43_6 rfl rfl sy_refl) ?_
  refine sy_Fs (sy_ge_f xc43_7 (by decide) (by decide) (by decide) sy_refl) ?_
  refine sy_Fs (sy_aldn xc43_10 rfl rfl sy_refl) ?_
  refine sy_Fs (sy_ildn xc43_11 rfl rfl sy_refl) ?_
  refine sy_Fs (sy_ildn xc43_12 rfl rfl sy_refl) ?_
  refine sy_Fw (i := 8) (x := (1, 1, 32, (fzz Br 18))) hw (by decide) (sy_bas (i := 17) xc43_13 (wh_at hw 8 rfl) rfl (by decide) (by decide) rfl sy_refl) ?_
  intro w hw
  simp only [List.set_cons_zero, List.set_cons_succ] at hw
  refine sy_Fs (sx_iinc (c := 1) (z := 18) (ls' := [(2, pl 8, 0), (0, 0, 0), (0, 18, 0), (0, 32, 0)]) xc43_14 rfl (by decide) (by rw [xl43]; rfl) rfl (by decide) rfl) ?_
  refine sy_Fs (sy_goto (pc' := 5) xc43_17 (by decide) (by decide) sy_refl) ?_
  refine sy_Fs (sy_ildn xc43_5 rfl rfl sy_refl) ?_
  refine sy_Fs (sy_ildn xc43_6 rfl rfl sy_refl) ?_
  refine sy_Fs (sy_ge_f xc43_7 (by decide) (by decide) (by decide) sy_refl) ?_
  refine sy_Fs (sy_aldn xc43_10 rfl rfl sy_refl) ?_
  refine sy_Fs (sy_ildn xc43_11 rfl rfl sy_refl) ?_
  refine sy_Fs (sy_ildn xc43_12 rfl rfl sy_refl) ?_
  refine sy_Fw (i := 8) (x := (1, 1, 32, (fzz Br 19))) hw (by decide) (sy_bas (i := 18) xc43_13 (wh_at hw 8 rfl) rfl (by decide) (by decide) rfl sy_refl) ?_
  intro w hw
  simp only [List.set_cons_zero, List.set_cons_succ] at hw
  refine sy_Fs (sx_iinc (c := 1) (z := 19) (ls' := [(2, pl 8, 0), (0, 0, 0), (0, 19, 0), (0, 32, 0)]) xc43_14 rfl (by decide) (by rw [xl43]; rfl) rfl (by decide) rfl) ?_
  refine sy_Fs (sy_goto (pc' := 5) xc43_17 (by decide) (by decide) sy_refl) ?_
  refine sy_Fs (sy_ildn xc43_5 rfl rfl sy_refl) ?_
  refine sy_Fs (sy_ildn xc43_6 rfl rfl sy_refl) ?_
  refine sy_Fs (sy_ge_f xc43_7 (by decide) (by decide) (by decide) sy_refl) ?_
  refine sy_Fs (sy_aldn xc43_10 rfl rfl sy_refl) ?_
  refine sy_Fs (sy_ildn xc43_11 rfl rfl sy_refl) ?_
  refine sy_Fs (sy_ildn xc43_12 rfl rfl sy_refl) ?_
  refine sy_Fw (i := 8) (x := (1, 1, 32, (fzz Br 20))) hw (by decide) (sy_bas (i := 19) xc43_13 (wh_at hw 8 rfl) rfl (by decide) (by decide) rfl sy_refl) ?_
  intro w hw
  simp only [List.set_cons_zero, List.set_cons_succ] at hw
  refine sy_Fs (sx_iinc (c := 1) (z := 20) (ls' := [(2, pl 8, 0), (0, 0, 0), (0, 20, 0), (0, 32, 0)]) xc43_14 rfl (by decide) (by rw [xl43]; rfl) rfl (by decide) rfl) ?_
  refine sy_Fs (sy_goto (pc' := 5) xc43_17 (by decide) (by decide) sy_refl) ?_
  refine sy_Fs (sy_ildn xc43_5 rfl rfl sy_refl) ?_
  refine sy_Fs (sy_ildn xc43_6 rfl rfl sy_refl) ?_
  refine sy_Fs (sy_ge_f xc43_7 (by decide) (by decide) (by decide) sy_refl) ?_
  refine sy_Fs (sy_aldn xc43_10 rfl rfl sy_refl) ?_
  refine sy_Fs (sy_ildn xc43_11 rfl rfl sy_refl) ?_
  refine sy_Fs (sy_ildn xc43_12 rfl rfl sy_refl) ?_
  refine sy_Fw (i := 8) (x := (1, 1, 32, (fzz Br 21))) hw (by decide) (sy_bas (i := 20) xc43_13 (wh_at hw 8 rfl) rfl (by decide) (by decide) rfl sy_refl) ?_
  intro w hw
  simp only [List.set_cons_zero, List.set_cons_succ] at hw
  refine sy_Fs (sx_iinc (c := 1) (z := 21) (ls' := [(2, pl 8, 0), (0, 0, 0), (0, 21, 0), (0, 32, 0)]) xc43_14 rfl (by decide) (by rw [xl43]; rfl) rfl (by decide) rfl) ?_
  refine sy_Fs (sy_goto (pc' := 5) xc43_17 (by decide) (by decide) sy_refl) ?_
  refine sy_Fs (sy_ildn xc43_5 rfl rfl sy_refl) ?_
  refine sy_Fs (sy_ildn xc43_6 rfl rfl sy_refl) ?_
  refine sy_Fs (sy_ge_f xc43_7 (by decide) (by decide) (by decide) sy_refl) ?_
  refine sy_Fs (sy_aldn xc43_10 rfl rfl sy_refl) ?_
  refine sy_Fs (sy_ildn xc43_11 rfl rfl sy_refl) ?_
  refine sy_Fs (sy_ildn xc43_12 rfl rfl sy_refl) ?_
  refine sy_Fw (i := 8) (x := (1, 1, 32, (fzz Br 22))) hw (by decide) (sy_bas (i := 21) xc43_13 (wh_at hw 8 rfl) rfl (by decide) (by decide) rfl sy_refl) ?_
  intro w hw
  simp only [List.set_cons_zero, List.set_cons_succ] at hw
  refine sy_Fs (sx_iinc (c := 1) (z := 22) (ls' := [(2, pl 8, 0), (0, 0, 0), (0, 22, 0), (0, 32, 0)]) xc43_14 rfl (by decide) (by rw [xl43]; rfl) rfl (by decide) rfl) ?_
  refine sy_Fs (sy_goto (pc' := 5) xc43_17 (by decide) (by decide) sy_refl) ?_
  refine sy_Fs (sy_ildn xc43_5 rfl rfl sy_refl) ?_
  refine sy_Fs (sy_ildn xc43_6 rfl rfl sy_refl) ?_
  refine sy_Fs (sy_ge_f xc43_7 (by decide) (by decide) (by decide) sy_refl) ?_
  refine sy_Fs (sy_aldn xc43_10 rfl rfl sy_refl) ?_
  refine sy_Fs (sy_ildn xc43_11 rfl rfl sy_refl) ?_
  refine sy_Fs (sy_ildn xc43_12 rfl rfl sy_refl) ?_
  refine sy_Fw (i := 8) (x := (1, 1, 32, (fzz Br 23))) hw (by decide) (sy_bas (i := 22) xc43_13 (wh_at hw 8 rfl) rfl (by decide) (by decide) rfl sy_refl) ?_
  intro w hw
  simp only [List.set_cons_zero, List.set_cons_succ] at hw
  refine sy_Fs (sx_iinc (c := 1) (z := 23) (ls' := [(2, pl 8, 0), (0, 0, 0), (0, 23, 0), (0, 32, 0)]) xc43_14 rfl (by decide) (by rw [xl43]; rfl) rfl (by decide) rfl) ?_
  refine sy_Fs (sy_goto (pc' := 5) xc43_17 (by decide) (by decide) sy_refl) ?_
  refine sy_Fs (sy_ildn xc43_5 rfl rfl sy_refl) ?_
  refine sy_Fs (sy_ildn xc43_6 rfl rfl sy_refl) ?_
  refine sy_Fs (sy_ge_f xc43_7 (by decide) (by decide) (by decide) sy_refl) ?_
  refine sy_Fs (sy_aldn xc43_10 rfl rfl sy_refl) ?_
  refine sy_Fs (sy_ildn xc43_11 rfl rfl sy_refl) ?_
  refine sy_Fs (sy_ildn xc43_12 rfl rfl sy_refl) ?_
  refine sy_Fw (i := 8) (x := (1, 1, 32, (fzz Br 24))) hw (by decide) (sy_bas (i := 23) xc43_13 (wh_at hw 8 rfl) rfl (by decide) (by decide) rfl sy_refl) ?_
  intro w hw
  simp only [List.set_cons_zero, List.set_cons_succ] at hw
  refine sy_Fs (sx_iinc (c := 1) (z := 24) (ls' := [(2, pl 8, 0), (0, 0, 0), (0, 24, 0), (0, 32, 0)]) xc43_14 rfl (by decide) (by rw [xl43]; rfl) rfl (by decide) rfl) ?_
  refine sy_Fs (sy_goto (pc' := 5) xc43_17 (by decide) (by decide) sy_refl) ?_
  refine sy_Fs (sy_ildn xc43_5 rfl rfl sy_refl) ?_
  refine sy_Fs (sy_ildn xc43_6 rfl rfl sy_refl) ?_
  refine sy_Fs (sy_ge_f xc43_7 (by decide) (by decide) (by decide) sy_refl) ?_
  refine sy_Fs (sy_aldn xc43_10 rfl rfl sy_refl) ?_
  refine sy_Fs (sy_ildn xc43_11 rfl rfl sy_refl) ?_
  refine sy_Fs (sy_ildn xc43_12 rfl rfl sy_refl) ?_
  refine sy_Fw (i := 8) (x := (1, 1, 32, (fzz Br 25))) hw (by decide) (sy_bas (i := 24) xc43_13 (wh_at hw 8 rfl) rfl (by decide) (by decide) rfl sy_refl) ?_
  intro w hw
  simp only [List.set_cons_zero, List.set_cons_succ] at hw
  refine sy_Fs (sx_iinc (c := 1) (z := 25) (ls' := [(2, pl 8, 0), (0, 0, 0), (0, 25, 0), (0, 32, 0)]) xc43_14 rfl (by decide) (by rw [xl43]; rfl) rfl (by decide) rfl) ?_
  refine sy_Fs (sy_goto (pc' := 5) xc43_17 (by decide) (by decide) sy_refl) ?_
  refine sy_Fs (sy_ildn xc43_5 rfl rfl sy_refl) ?_
  refine sy_Fs (sy_ildn xc43_6 rfl rfl sy_refl) ?_
  refine sy_Fs (sy_ge_f xc43_7 (by decide) (by decide) (by decide) sy_refl) ?_
  refine sy_Fs (sy_aldn xc43_10 rfl rfl sy_refl) ?_
  refine sy_Fs (sy_ildn xc43_11 rfl rfl sy_refl) ?_
  refine sy_Fs (sy_ildn xc43_12 rfl rfl sy_refl) ?_
  refine sy_Fw (i := 8) (x := (1, 1, 32, (fzz Br 26))) hw (by decide) (sy_bas (i := 25) xc43_13 (wh_at hw 8 rfl) rfl (by decide) (by decide) rfl sy_refl) ?_
  intro w hw
  simp only [List.set_cons_zero, List.set_cons_succ] at hw
  refine sy_Fs (sx_iinc (c := 1) (z := 26) (ls' := [(2, pl 8, 0), (0, 0, 0), (0, 26, 0), (0, 32, 0)]) xc43_14 rfl (by decide) (by rw [xl43]; rfl) rfl (by decide) rfl) ?_
  refine sy_Fs (sy_goto (pc' := 5) xc43_17 (by decide) (by decide) sy_refl) ?_
  refine sy_Fs (sy_ildn xc43_5 rfl rfl sy_refl) ?_
  refine sy_Fs (sy_ildn xc43_6 rfl rfl sy_refl) ?_
  refine sy_Fs (sy_ge_f xc43_7 (by decide) (by decide) (by decide) sy_refl) ?_
  refine sy_Fs (sy_aldn xc43_10 rfl rfl sy_refl) ?_
  refine sy_Fs (sy_ildn xc43_11 rfl rfl sy_refl) ?_
  refine sy_Fs (sy_ildn xc43_12 rfl rfl sy_refl) ?_
  refine sy_Fw (i := 8) (x := (1, 1, 32, (fzz Br 27))) hw (by decide) (sy_bas (i := 26) xc43_13 (wh_at hw 8 rfl) rfl (by decide) (by decide) rfl sy_refl) ?_
  intro w hw
  simp only [List.set_cons_zero, List.set_cons_succ] at hw
  refine sy_Fs (sx_iinc (c := 1) (z := 27) (ls' := [(2, pl 8, 0), (0, 0, 0), (0, 27, 0), (0, 32, 0)]) xc43_14 rfl (by decide) (by rw [xl43]; rfl) rfl (by decide) rfl) ?_
  refine sy_Fs (sy_goto (pc' := 5) xc43_17 (by decide) (by decide) sy_refl) ?_
  refine sy_Fs (sy_ildn xc43_5 rfl rfl sy_refl) ?_
  refine sy_Fs (sy_ildn xc43_6 rfl rfl sy_refl) ?_
  refine sy_Fs (sy_ge_f xc43_7 (by decide) (by decide) (by decide) sy_refl) ?_
  refine sy_Fs (sy_aldn xc43_10 rfl rfl sy_refl) ?_
  refine sy_Fs (sy_ildn xc43_11 rfl rfl sy_refl) ?_
  refine sy_Fs (sy_ildn xc43_12 rfl rfl sy_refl) ?_
  refine sy_Fw (i := 8) (x := (1, 1, 32, (fzz Br 28))) hw (by decide) (sy_bas (i := 27) xc43_13 (wh_at hw 8 rfl) rfl (by decide) (by decide) rfl sy_refl) ?_
  intro w hw
  simp only [List.set_cons_zero, List.set_cons_succ] at hw
  refine sy_Fs (sx_iinc (c := 1) (z := 28) (ls' := [(2, pl 8, 0), (0, 0, 0), (0, 28, 0), (0, 32, 0)]) xc43_14 rfl (by decide) (by rw [xl43]; rfl) rfl (by decide) rfl) ?_
  refine sy_Fs (sy_goto (pc' := 5) xc43_17 (by decide) (by decide) sy_refl) ?_
  refine sy_Fs (sy_ildn xc43_5 rfl rfl sy_refl) ?_
  refine sy_Fs (sy_ildn xc43_6 rfl rfl sy_refl) ?_
  refine sy_Fs (sy_ge_f xc43_7 (by decide) (by decide) (by decide) sy_refl) ?_
  refine sy_Fs (sy_aldn xc43_10 rfl rfl sy_refl) ?_
  refine sy_Fs (sy_ildn xc43_11 rfl rfl sy_refl) ?_
  refine sy_Fs (sy_ildn xc43_12 rfl rfl sy_refl) ?_
  refine sy_Fw (i := 8) (x := (1, 1, 32, (fzz Br 29))) hw (by decide) (sy_bas (i := 28) xc43_13 (wh_at hw 8 rfl) rfl (by decide) (by decide) rfl sy_refl) ?_
  intro w hw
  simp only [List.set_cons_zero, List.set_cons_succ] at hw
  refine sy_Fs (sx_iinc (c := 1) (z := 29) (ls' := [(2, pl 8, 0), (0, 0, 0), (0, 29, 0), (0, 32, 0)]) xc43_14 rfl (by decide) (by rw [xl43]; rfl) rfl (by decide) rfl) ?_
  refine sy_Fs (sy_goto (pc' := 5) xc43_17 (by decide) (by decide) sy_refl) ?_
  refine sy_Fs (sy_ildn xc43_5 rfl rfl sy_refl) ?_
  refine sy_Fs (sy_ildn xc43_6 rfl rfl sy_refl) ?_
  refine sy_Fs (sy_ge_f xc43_7 (by decide) (by decide) (by decide) sy_refl) ?_
  refine sy_Fs (sy_aldn xc43_10 rfl rfl sy_refl) ?_
  refine sy_Fs (sy_ildn xc43_11 rfl rfl sy_refl) ?_
  refine sy_Fs (sy_ildn xc43_12 rfl rfl sy_refl) ?_
  refine sy_Fw (i := 8) (x := (1, 1, 32, (fzz Br 30))) hw (by decide) (sy_bas (i := 29) xc43_13 (wh_at hw 8 rfl) rfl (by decide) (by decide) rfl sy_refl) ?_
  intro w hw
  simp only [List.set_cons_zero, List.set_cons_succ] at hw
  refine sy_Fs (sx_iinc (c := 1) (z := 30) (ls' := [(2, pl 8, 0), (0, 0, 0), (0, 30, 0), (0, 32, 0)]) xc43_14 rfl (by decide) (by rw [xl43]; rfl) rfl (by decide) rfl) ?_
  refine sy_Fs (sy_goto (pc' := 5) xc43_17 (by decide) (by decide) sy_refl) ?_
  refine sy_Fs (sy_ildn xc43_5 rfl rfl sy_refl) ?_
  refine sy_Fs (sy_ildn xc43_6 rfl rfl sy_refl) ?_
  refine sy_Fs (sy_ge_f xc43_7 (by decide) (by decide) (by decide) sy_refl) ?_
  refine sy_Fs (sy_aldn xc43_10 rfl rfl sy_refl) ?_
  refine sy_Fs (sy_ildn xc43_11 rfl rfl sy_refl) ?_
  refine sy_Fs (sy_ildn xc43_12 rfl rfl sy_refl) ?_
  refine sy_Fw (i := 8) (x := (1, 1, 32, (fzz Br 31))) hw (by decide) (sy_bas (i := 30) xc43_13 (wh_at hw 8 rfl) rfl (by decide) (by decide) rfl sy_refl) ?_
  intro w hw
  simp only [List.set_cons_zero, List.set_cons_succ] at hw
  refine sy_Fs (sx_iinc (c := 1) (z := 31) (ls' := [(2, pl 8, 0), (0, 0, 0), (0, 31, 0), (0, 32, 0)]) xc43_14 rfl (by decide) (by rw [xl43]; rfl) rfl (by decide) rfl) ?_
  refine sy_Fs (sy_goto (pc' := 5) xc43_17 (by decide) (by decide) sy_refl) ?_
  refine sy_Fs (sy_ildn xc43_5 rfl rfl sy_refl) ?_
  refine sy_Fs (sy_ildn xc43_6 rfl rfl sy_refl) ?_
  refine sy_Fs (sy_ge_f xc43_7 (by decide) (by decide) (by decide) sy_refl) ?_
  refine sy_Fs (sy_aldn xc43_10 rfl rfl sy_refl) ?_
  refine sy_Fs (sy_ildn xc43_11 rfl rfl sy_refl) ?_
  refine sy_Fs (sy_ildn xc43_12 rfl rfl sy_refl) ?_
  refine sy_Fw (i := 8) (x := (1, 1, 32, (fzz Br 32))) hw (by decide) (sy_bas (i := 31) xc43_13 (wh_at hw 8 rfl) rfl (by decide) (by decide) rfl sy_refl) ?_
  intro w hw
  simp only [List.set_cons_zero, List.set_cons_succ] at hw
  refine sy_Fs (sx_iinc (c := 1) (z := 32) (ls' := [(2, pl 8, 0), (0, 0, 0), (0, 32, 0), (0, 32, 0)]) xc43_14 rfl (by decide) (by rw [xl43]; rfl) rfl (by decide) rfl) ?_
  refine sy_Fs (sy_goto (pc' := 5) xc43_17 (by decide) (by decide) sy_refl) ?_
  refine sy_Fs (sy_ildn xc43_5 rfl rfl sy_refl) ?_
  refine sy_Fs (sy_ildn xc43_6 rfl rfl sy_refl) ?_
  refine sy_Fs (sy_ge_t (pc' := 20) xc43_7 (by decide) (by decide) (by decide) (by decide) sy_refl) ?_
  exact sy_Fv xc43_20 xr43 ⟨rfl, hw⟩
theorem ch_sb9  (hw : wh 30 pl w0 w [(0, 1, 13, X0), (0, 8, 11, X1), (3, 6, 40, cbs), (0, 9, 11, X3), (1, 1, 105, Hd), (1, 1, 32, Id), (1, 1, 128, Ids), (1, 1, 480, Ads), (1, 1, 32, Br), (1, 1, 32, Dg), (0, 2, 13, X10), (1, 1, 64, Sp), (1, 0, 64, Sw), (1, 0, 8, Ss), (1, 1, 32, In), (1, 1, 32, Mk), (1, 0, 8, Is), (1, 0, 8, Os), (1, 0, 8, Ks), (1, 1, 64, Kp), (0, 9, 11, X20), (1, 1, 105, Bh), (1, 1, 32, Bd), (3, 7, 4, cps), (1, 1, 28, Mb), (1, 1, 32, Ti), (0, 10, 6, X26), (1, 0, 4, Pr), (1, 0, 1, Nu)]) (hX0 : fh X0 kX [(2, pl 1, 0), (0, 0, 0)]) (hX1 : fh X1 kM [(0, 1, 0), (2, pl 2, 0), (0, 0, 0), (2, pl 10, 0), (2, pl 6, 0), (2, pl 7, 0), (0, ac, 0), (2, pl 8, 0), (2, pl 9, 0)]) (hX3 : fh X3 kB [(2, pl 5, 0), (2, pl 4, 0), (0, 0, 0), (0, 4, 0), (3, 0, 0)]) (hX10 : fh X10 kS [(2, pl 11, 0), (2, pl 12, 0), (2, pl 13, 0), (2, pl 14, 0), (0, su, 0), (0, sl, 0), (2, pl 15, 0), (2, pl 16, 0), (2, pl 17, 0), (0, 1, 0), (2, pl 18, 0), (2, pl 19, 0), (0, kl, 0)]) (hX20 : fh X20 kN [(2, pl 3, 0), (0, 1, 0), (0, 1, 0), (0, wk, 0), (2, pl 21, 0), (2, pl 22, 0), (2, pl 23, 0), (0, 1, 0), (3, 0, 0), (0, 0, 0), (2, pl 28, 0)]) (hX26 : fh X26 kP [(2, pl 24, 0), (0, 0, 0), (0, 1, 0), (0, 28, 0), (2, pl 25, 0), (2, pl 27, 0)]) (hab : mv_ab Br 0 32 = true) : sy_D 44 n 0 0 [(2, pl 1, 0), (0, 9, 0)] w (fun ret w' => ret = [] ∧ ∃ Y8 : Nat, mv_ab Y8 0 32 = true ∧ wh 30 pl w0 w' [(0, 1, 13, X0), (0, 8, 11, X1), (3, 6, 40, cbs), (0, 9, 11, X3), (1, 1, 105, Hd), (1, 1, 32, Id), (1, 1, 128, Ids), (1, 1, 480, Ads), (1, 1, 32, Y8), (1, 1, 32, Dg), (0, 2, 13, X10), (1, 1, 64, Sp), (1, 0, 64, Sw), (1, 0, 8, Ss), (1, 1, 32, In), (1, 1, 32, Mk), (1, 0, 8, Is), (1, 0, 8, Os), (1, 0, 8, Ks), (1, 1, 64, Kp), (0, 9, 11, X20), (1, 1, 105, Bh), (1, 1, 32, Bd), (3, 7, 4, cps), (1, 1, 28, Mb), (1, 1, 32, Ti), (0, 10, 6, X26), (1, 0, 4, Pr), (1, 0, 1, Nu)]) := by
  refine sy_Dof (us := []) (sy_oks_cons (sy_ok2 (wh_lt hw 1 (by first | decide | assumption))) (sy_oks_cons (sy_ok0 (by first | decide | assumption | omega | exact mo_rd_lt _ _ | exact mo_add_lt _ _ | exact mo_sub_lt _ _ | exact mo_mul_lt _ _ | exact mo_shl_lt _ _ | exact mo_ushr_lt _ _ | exact mo_or_lt (by decide) (mo_and_lt (mo_rd_lt _ _)) | exact mo_or_lt (mo_shl_lt _ _) (mo_and_lt (mo_rd_lt _ _)))) sy_oks_nil)) rfl rfl ?_
  show sy_F 44 n 0 0 0 [(2, pl 1, 0), (0, 9, 0)] [] w _
  refine sy_Fs (sy_ildn xc44_0 rfl rfl sy_refl) ?_
  refine sy_Fs (sy_bipush (v := 8) xc44_1 (by decide) (by decide) sy_refl) ?_
  refine sy_Fs (sx_idiv (z := 1) xc44_3 (by decide) (by decide)) ?_
  refine sy_Fs (sy_bipush (v := 32) xc44_4 (by decide) (by decide) sy_refl) ?_
  refine sy_Fs (sy_ge_f xc44_6 (by decide) (by decide) (by decide) sy_refl) ?_
  refine sy_Fs (sy_aldn xc44_9 rfl rfl sy_refl) ?_
  refine sy_Fs (sy_gf xc44_10 xf44_30 rfl (wh_at hw 1 rfl) rfl (fh_at hX1 7 rfl rfl) sy_refl) ?_
  refine sy_Fs (sy_ildn xc44_13 rfl rfl sy_refl) ?_
  refine sy_Fs (sy_bipush (v := 8) xc44_14 (by decide) (by decide) sy_refl) ?_
  refine sy_Fs (sx_idiv (z := 1) xc44_16 (by decide) (by decide)) ?_
  refine sy_Fs (sy_dup2 xc44_17 rfl sy_refl) ?_
  refine sy_Fs (sx_bal (z := (mv_rd 32 Br 1)) xc44_18 (wh_at hw 8 rfl) (by decide) (by decide) rfl) ?_
  refine sy_Fs (sy_sipush (v := 128) xc44_19 (by decide) (by decide) sy_refl) ?_
  refine sy_Fs (sy_ildn xc44_22 rfl rfl sy_refl) ?_
  refine sy_Fs (sy_bipush (v := 8) xc44_23 (by decide) (by decide) sy_refl) ?_
  refine sy_Fs (sx_irem (z := 1) xc44_25 (by decide) (by decide)) ?_
  refine sy_Fs (sx_ishr (z := 64) xc44_26 (by decide)) ?_
  refine sy_Fs (sx_i2b (z := 4294967360) xc44_27 (by decide)) ?_
  refine sy_Fs (sx_ior (z := (mo_or (mv_rd 32 Br 1) 4294967360)) xc44_28 rfl) ?_
  refine sy_Fs (sx_i2b (z := (mn_b (mo_or (mv_rd 32 Br 1) 4294967360))) xc44_29 rfl) ?_
  refine sy_Fw (i := 8) (x := (1, 1, 32, (mv_wr 32 Br 1 (mn_b (mn_b (mo_or (mv_rd 32 Br 1) 4294967360)))))) hw (by decide) (sy_bas (i := 1) xc44_30 (wh_at hw 8 rfl) rfl (by decide) (by decide) rfl sy_refl) ?_
  intro w hw
  simp only [List.set_cons_zero, List.set_cons_succ] at hw
  exact sy_Fv xc44_31 xr44 ⟨rfl, _, ab_wr hab, hw⟩
theorem ch_sb10  (hw : wh 30 pl w0 w [(0, 1, 13, X0), (0, 8, 11, X1), (3, 6, 40, cbs), (0, 9, 11, X3), (1, 1, 105, Hd), (1, 1, 32, Id), (1, 1, 128, Ids), (1, 1, 480, Ads), (1, 1, 32, Br), (1, 1, 32, Dg), (0, 2, 13, X10), (1, 1, 64, Sp), (1, 0, 64, Sw), (1, 0, 8, Ss), (1, 1, 32, In), (1, 1, 32, Mk), (1, 0, 8, Is), (1, 0, 8, Os), (1, 0, 8, Ks), (1, 1, 64, Kp), (0, 9, 11, X20), (1, 1, 105, Bh), (1, 1, 32, Bd), (3, 7, 4, cps), (1, 1, 28, Mb), (1, 1, 32, Ti), (0, 10, 6, X26), (1, 0, 4, Pr), (1, 0, 1, Nu)]) (hX0 : fh X0 kX [(2, pl 1, 0), (0, 0, 0)]) (hX1 : fh X1 kM [(0, 1, 0), (2, pl 2, 0), (0, 0, 0), (2, pl 10, 0), (2, pl 6, 0), (2, pl 7, 0), (0, ac, 0), (2, pl 8, 0), (2, pl 9, 0)]) (hX3 : fh X3 kB [(2, pl 5, 0), (2, pl 4, 0), (0, 0, 0), (0, 4, 0), (3, 0, 0)]) (hX10 : fh X10 kS [(2, pl 11, 0), (2, pl 12, 0), (2, pl 13, 0), (2, pl 14, 0), (0, su, 0), (0, sl, 0), (2, pl 15, 0), (2, pl 16, 0), (2, pl 17, 0), (0, 1, 0), (2, pl 18, 0), (2, pl 19, 0), (0, kl, 0)]) (hX20 : fh X20 kN [(2, pl 3, 0), (0, 1, 0), (0, 1, 0), (0, wk, 0), (2, pl 21, 0), (2, pl 22, 0), (2, pl 23, 0), (0, 1, 0), (3, 0, 0), (0, 0, 0), (2, pl 28, 0)]) (hX26 : fh X26 kP [(2, pl 24, 0), (0, 0, 0), (0, 1, 0), (0, 28, 0), (2, pl 25, 0), (2, pl 27, 0)]) (hab : mv_ab Br 0 32 = true) : sy_D 44 n 0 0 [(2, pl 1, 0), (0, 10, 0)] w (fun ret w' => ret = [] ∧ ∃ Y8 : Nat, mv_ab Y8 0 32 = true ∧ wh 30 pl w0 w' [(0, 1, 13, X0), (0, 8, 11, X1), (3, 6, 40, cbs), (0, 9, 11, X3), (1, 1, 105, Hd), (1, 1, 32, Id), (1, 1, 128, Ids), (1, 1, 480, Ads), (1, 1, 32, Y8), (1, 1, 32, Dg), (0, 2, 13, X10), (1, 1, 64, Sp), (1, 0, 64, Sw), (1, 0, 8, Ss), (1, 1, 32, In), (1, 1, 32, Mk), (1, 0, 8, Is), (1, 0, 8, Os), (1, 0, 8, Ks), (1, 1, 64, Kp), (0, 9, 11, X20), (1, 1, 105, Bh), (1, 1, 32, Bd), (3, 7, 4, cps), (1, 1, 28, Mb), (1, 1, 32, Ti), (0, 10, 6, X26), (1, 0, 4, Pr), (1, 0, 1, Nu)]) := by
  refine sy_Dof (us := []) (sy_oks_cons (sy_ok2 (wh_lt hw 1 (by first | decide | assumption))) (sy_oks_cons (sy_ok0 (by first | decide | assumption | omega | exact mo_rd_lt _ _ | exact mo_add_lt _ _ | exact mo_sub_lt _ _ | exact mo_mul_lt _ _ | exact mo_shl_lt _ _ | exact mo_ushr_lt _ _ | exact mo_or_lt (by decide) (mo_and_lt (mo_rd_lt _ _)) | exact mo_or_lt (mo_shl_lt _ _) (mo_and_lt (mo_rd_lt _ _)))) sy_oks_nil)) rfl rfl ?_
  show sy_F 44 n 0 0 0 [(2, pl 1, 0), (0, 10, 0)] [] w _
  refine sy_Fs (sy_ildn xc44_0 rfl rfl sy_refl) ?_
  refine sy_Fs (sy_bipush (v := 8) xc44_1 (by decide) (by decide) sy_refl) ?_
  refine sy_Fs (sx_idiv (z := 1) xc44_3 (by decide) (by decide)) ?_
  refine sy_Fs (sy_bipush (v := 32) xc44_4 (by decide) (by decide) sy_refl) ?_
  refine sy_Fs (sy_ge_f xc44_6 (by decide) (by decide) (by decide) sy_refl) ?_
  refine sy_Fs (sy_aldn xc44_9 rfl rfl sy_refl) ?_
  refine sy_Fs (sy_gf xc44_10 xf44_30 rfl (wh_at hw 1 rfl) rfl (fh_at hX1 7 rfl rfl) sy_refl) ?_
  refine sy_Fs (sy_ildn xc44_13 rfl rfl sy_refl) ?_
  refine sy_Fs (sy_bipush (v := 8) xc44_14 (by decide) (by decide) sy_refl) ?_
  refine sy_Fs (sx_idiv (z := 1) xc44_16 (by decide) (by decide)) ?_
  refine sy_Fs (sy_dup2 xc44_17 rfl sy_refl) ?_
  refine sy_Fs (sx_bal (z := (mv_rd 32 Br 1)) xc44_18 (wh_at hw 8 rfl) (by decide) (by decide) rfl) ?_
  refine sy_Fs (sy_sipush (v := 128) xc44_19 (by decide) (by decide) sy_refl) ?_
  refine sy_Fs (sy_ildn xc44_22 rfl rfl sy_refl) ?_
  refine sy_Fs (sy_bipush (v := 8) xc44_23 (by decide) (by decide) sy_refl) ?_
  refine sy_Fs (sx_irem (z := 2) xc44_25 (by decide) (by decide)) ?_
  refine sy_Fs (sx_ishr (z := 32) xc44_26 (by decide)) ?_
  refine sy_Fs (sx_i2b (z := 4294967328) xc44_27 (by decide)) ?_
  refine sy_Fs (sx_ior (z := (mo_or (mv_rd 32 Br 1) 4294967328)) xc44_28 rfl) ?_
  refine sy_Fs (sx_i2b (z := (mn_b (mo_or (mv_rd 32 Br 1) 4294967328))) xc44_29 rfl) ?_
  refine sy_Fw (i := 8) (x := (1, 1, 32, (mv_wr 32 Br 1 (mn_b (mn_b (mo_or (mv_rd 32 Br 1) 4294967328)))))) hw (by decide) (sy_bas (i := 1) xc44_30 (wh_at hw 8 rfl) rfl (by decide) (by decide) rfl sy_refl) ?_
  intro w hw
  simp only [List.set_cons_zero, List.set_cons_succ] at hw
  exact sy_Fv xc44_31 xr44 ⟨rfl, _, ab_wr hab, hw⟩
theorem ch_sb11  (hw : wh 30 pl w0 w [(0, 1, 13, X0), (0, 8, 11, X1), (3, 6, 40, cbs), (0, 9, 11, X3), (1, 1, 105, Hd), (1, 1, 32, Id), (1, 1, 128, Ids), (1, 1, 480, Ads), (1, 1, 32, Br), (1, 1, 32, Dg), (0, 2, 13, X10), (1, 1, 64, Sp), (1, 0, 64, Sw), (1, 0, 8, Ss), (1, 1, 32, In), (1, 1, 32, Mk), (1, 0, 8, Is), (1, 0, 8, Os), (1, 0, 8, Ks), (1, 1, 64, Kp), (0, 9, 11, X20), (1, 1, 105, Bh), (1, 1, 32, Bd), (3, 7, 4, cps), (1, 1, 28, Mb), (1, 1, 32, Ti), (0, 10, 6, X26), (1, 0, 4, Pr), (1, 0, 1, Nu)]) (hX0 : fh X0 kX [(2, pl 1, 0), (0, 0, 0)]) (hX1 : fh X1 kM [(0, 1, 0), (2, pl 2, 0), (0, 0, 0), (2, pl 10, 0), (2, pl 6, 0), (2, pl 7, 0), (0, ac, 0), (2, pl 8, 0), (2, pl 9, 0)]) (hX3 : fh X3 kB [(2, pl 5, 0), (2, pl 4, 0), (0, 0, 0), (0, 4, 0), (3, 0, 0)]) (hX10 : fh X10 kS [(2, pl 11, 0), (2, pl 12, 0), (2, pl 13, 0), (2, pl 14, 0), (0, su, 0), (0, sl, 0), (2, pl 15, 0), (2, pl 16, 0), (2, pl 17, 0), (0, 1, 0), (2, pl 18, 0), (2, pl 19, 0), (0, kl, 0)]) (hX20 : fh X20 kN [(2, pl 3, 0), (0, 1, 0), (0, 1, 0), (0, wk, 0), (2, pl 21, 0), (2, pl 22, 0), (2, pl 23, 0), (0, 1, 0), (3, 0, 0), (0, 0, 0), (2, pl 28, 0)]) (hX26 : fh X26 kP [(2, pl 24, 0), (0, 0, 0), (0, 1, 0), (0, 28, 0), (2, pl 25, 0), (2, pl 27, 0)]) (hab : mv_ab Br 0 32 = true) : sy_D 44 n 0 0 [(2, pl 1, 0), (0, 11, 0)] w (fun ret w' => ret = [] ∧ ∃ Y8 : Nat, mv_ab Y8 0 32 = true ∧ wh 30 pl w0 w' [(0, 1, 13, X0), (0, 8, 11, X1), (3, 6, 40, cbs), (0, 9, 11, X3), (1, 1, 105, Hd), (1, 1, 32, Id), (1, 1, 128, Ids), (1, 1, 480, Ads), (1, 1, 32, Y8), (1, 1, 32, Dg), (0, 2, 13, X10), (1, 1, 64, Sp), (1, 0, 64, Sw), (1, 0, 8, Ss), (1, 1, 32, In), (1, 1, 32, Mk), (1, 0, 8, Is), (1, 0, 8, Os), (1, 0, 8, Ks), (1, 1, 64, Kp), (0, 9, 11, X20), (1, 1, 105, Bh), (1, 1, 32, Bd), (3, 7, 4, cps), (1, 1, 28, Mb), (1, 1, 32, Ti), (0, 10, 6, X26), (1, 0, 4, Pr), (1, 0, 1, Nu)]) := by
  refine sy_Dof (us := []) (sy_oks_cons (sy_ok2 (wh_lt hw 1 (by first | decide | assumption))) (sy_oks_cons (sy_ok0 (by first | decide | assumption | omega | exact mo_rd_lt _ _ | exact mo_add_lt _ _ | exact mo_sub_lt _ _ | exact mo_mul_lt _ _ | exact mo_shl_lt _ _ | exact mo_ushr_lt _ _ | exact mo_or_lt (by decide) (mo_and_lt (mo_rd_lt _ _)) | exact mo_or_lt (mo_shl_lt _ _) (mo_and_lt (mo_rd_lt _ _)))) sy_oks_nil)) rfl rfl ?_
  show sy_F 44 n 0 0 0 [(2, pl 1, 0), (0, 11, 0)] [] w _
  refine sy_Fs (sy_ildn xc44_0 rfl rfl sy_refl) ?_
  refine sy_Fs (sy_bipush (v := 8) xc44_1 (by decide) (by decide) sy_refl) ?_
  refine sy_Fs (sx_idiv (z := 1) xc44_3 (by decide) (by decide)) ?_
  refine sy_Fs (sy_bipush (v := 32) xc44_4 (by decide) (by decide) sy_refl) ?_
  refine sy_Fs (sy_ge_f xc44_6 (by decide) (by decide) (by decide) sy_refl) ?_
  refine sy_Fs (sy_aldn xc44_9 rfl rfl sy_refl) ?_
  refine sy_Fs (sy_gf xc44_10 xf44_30 rfl (wh_at hw 1 rfl) rfl (fh_at hX1 7 rfl rfl) sy_refl) ?_
  refine sy_Fs (sy_ildn xc44_13 rfl rfl sy_refl) ?_
  refine sy_Fs (sy_bipush (v := 8) xc44_14 (by decide) (by decide) sy_refl) ?_
  refine sy_Fs (sx_idiv (z := 1) xc44_16 (by decide) (by decide)) ?_
  refine sy_Fs (sy_dup2 xc44_17 rfl sy_refl) ?_
  refine sy_Fs (sx_bal (z := (mv_rd 32 Br 1)) xc44_18 (wh_at hw 8 rfl) (by decide) (by decide) rfl) ?_
  refine sy_Fs (sy_sipush (v := 128) xc44_19 (by decide) (by decide) sy_refl) ?_
  refine sy_Fs (sy_ildn xc44_22 rfl rfl sy_refl) ?_
  refine sy_Fs (sy_bipush (v := 8) xc44_23 (by decide) (by decide) sy_refl) ?_
  refine sy_Fs (sx_irem (z := 3) xc44_25 (by decide) (by decide)) ?_
  refine sy_Fs (sx_ishr (z := 16) xc44_26 (by decide)) ?_
  refine sy_Fs (sx_i2b (z := 4294967312) xc44_27 (by decide)) ?_
  refine sy_Fs (sx_ior (z := (mo_or (mv_rd 32 Br 1) 4294967312)) xc44_28 rfl) ?_
  refine sy_Fs (sx_i2b (z := (mn_b (mo_or (mv_rd 32 Br 1) 4294967312))) xc44_29 rfl) ?_
  refine sy_Fw (i := 8) (x := (1, 1, 32, (mv_wr 32 Br 1 (mn_b (mn_b (mo_or (mv_rd 32 Br 1) 4294967312)))))) hw (by decide) (sy_bas (i := 1) xc44_30 (wh_at hw 8 rfl) rfl (by decide) (by decide) rfl sy_refl) ?_
  intro w hw
  simp only [List.set_cons_zero, List.set_cons_succ] at hw
  exact sy_Fv xc44_31 xr44 ⟨rfl, _, ab_wr hab, hw⟩
theorem ch_sb12  (hw : wh 30 pl w0 w [(0, 1, 13, X0), (0, 8, 11, X1), (3, 6, 40, cbs), (0, 9, 11, X3), (1, 1, 105, Hd), (1, 1, 32, Id), (1, 1, 128, Ids), (1, 1, 480, Ads), (1, 1, 32, Br), (1, 1, 32, Dg), (0, 2, 13, X10), (1, 1, 64, Sp), (1, 0, 64, Sw), (1, 0, 8, Ss), (1, 1, 32, In), (1, 1, 32, Mk), (1, 0, 8, Is), (1, 0, 8, Os), (1, 0, 8, Ks), (1, 1, 64, Kp), (0, 9, 11, X20), (1, 1, 105, Bh), (1, 1, 32, Bd), (3, 7, 4, cps), (1, 1, 28, Mb), (1, 1, 32, Ti), (0, 10, 6, X26), (1, 0, 4, Pr), (1, 0, 1, Nu)]) (hX0 : fh X0 kX [(2, pl 1, 0), (0, 0, 0)]) (hX1 : fh X1 kM [(0, 1, 0), (2, pl 2, 0), (0, 0, 0), (2, pl 10, 0), (2, pl 6, 0), (2, pl 7, 0), (0, ac, 0), (2, pl 8, 0), (2, pl 9, 0)]) (hX3 : fh X3 kB [(2, pl 5, 0), (2, pl 4, 0), (0, 0, 0), (0, 4, 0), (3, 0, 0)]) (hX10 : fh X10 kS [(2, pl 11, 0), (2, pl 12, 0), (2, pl 13, 0), (2, pl 14, 0), (0, su, 0), (0, sl, 0), (2, pl 15, 0), (2, pl 16, 0), (2, pl 17, 0), (0, 1, 0), (2, pl 18, 0), (2, pl 19, 0), (0, kl, 0)]) (hX20 : fh X20 kN [(2, pl 3, 0), (0, 1, 0), (0, 1, 0), (0, wk, 0), (2, pl 21, 0), (2, pl 22, 0), (2, pl 23, 0), (0, 1, 0), (3, 0, 0), (0, 0, 0), (2, pl 28, 0)]) (hX26 : fh X26 kP [(2, pl 24, 0), (0, 0, 0), (0, 1, 0), (0, 28, 0), (2, pl 25, 0), (2, pl 27, 0)]) (hab : mv_ab Br 0 32 = true) : sy_D 44 n 0 0 [(2, pl 1, 0), (0, 12, 0)] w (fun ret w' => ret = [] ∧ ∃ Y8 : Nat, mv_ab Y8 0 32 = true ∧ wh 30 pl w0 w' [(0, 1, 13, X0), (0, 8, 11, X1), (3, 6, 40, cbs), (0, 9, 11, X3), (1, 1, 105, Hd), (1, 1, 32, Id), (1, 1, 128, Ids), (1, 1, 480, Ads), (1, 1, 32, Y8), (1, 1, 32, Dg), (0, 2, 13, X10), (1, 1, 64, Sp), (1, 0, 64, Sw), (1, 0, 8, Ss), (1, 1, 32, In), (1, 1, 32, Mk), (1, 0, 8, Is), (1, 0, 8, Os), (1, 0, 8, Ks), (1, 1, 64, Kp), (0, 9, 11, X20), (1, 1, 105, Bh), (1, 1, 32, Bd), (3, 7, 4, cps), (1, 1, 28, Mb), (1, 1, 32, Ti), (0, 10, 6, X26), (1, 0, 4, Pr), (1, 0, 1, Nu)]) := by
  refine sy_Dof (us := []) (sy_oks_cons (sy_ok2 (wh_lt hw 1 (by first | decide | assumption))) (sy_oks_cons (sy_ok0 (by first | decide | assumption | omega | exact mo_rd_lt _ _ | exact mo_add_lt _ _ | exact mo_sub_lt _ _ | exact mo_mul_lt _ _ | exact mo_shl_lt _ _ | exact mo_ushr_lt _ _ | exact mo_or_lt (by decide) (mo_and_lt (mo_rd_lt _ _)) | exact mo_or_lt (mo_shl_lt _ _) (mo_and_lt (mo_rd_lt _ _)))) sy_oks_nil)) rfl rfl ?_
  show sy_F 44 n 0 0 0 [(2, pl 1, 0), (0, 12, 0)] [] w _
  refine sy_Fs (sy_ildn xc44_0 rfl rfl sy_refl) ?_
  refine sy_Fs (sy_bipush (v := 8) xc44_1 (by decide) (by decide) sy_refl) ?_
  refine sy_Fs (sx_idiv (z := 1) xc44_3 (by decide) (by decide)) ?_
  refine sy_Fs (sy_bipush (v := 32) xc44_4 (by decide) (by decide) sy_refl) ?_
  refine sy_Fs (sy_ge_f xc44_6 (by decide) (by decide) (by decide) sy_refl) ?_
  refine sy_Fs (sy_aldn xc44_9 rfl rfl sy_refl) ?_
  refine sy_Fs (sy_gf xc44_10 xf44_30 rfl (wh_at hw 1 rfl) rfl (fh_at hX1 7 rfl rfl) sy_refl) ?_
  refine sy_Fs (sy_ildn xc44_13 rfl rfl sy_refl) ?_
  refine sy_Fs (sy_bipush (v := 8) xc44_14 (by decide) (by decide) sy_refl) ?_
  refine sy_Fs (sx_idiv (z := 1) xc44_16 (by decide) (by decide)) ?_
  refine sy_Fs (sy_dup2 xc44_17 rfl sy_refl) ?_
  refine sy_Fs (sx_bal (z := (mv_rd 32 Br 1)) xc44_18 (wh_at hw 8 rfl) (by decide) (by decide) rfl) ?_
  refine sy_Fs (sy_sipush (v := 128) xc44_19 (by decide) (by decide) sy_refl) ?_
  refine sy_Fs (sy_ildn xc44_22 rfl rfl sy_refl) ?_
  refine sy_Fs (sy_bipush (v := 8) xc44_23 (by decide) (by decide) sy_refl) ?_
  refine sy_Fs (sx_irem (z := 4) xc44_25 (by decide) (by decide)) ?_
  refine sy_Fs (sx_ishr (z := 8) xc44_26 (by decide)) ?_
  refine sy_Fs (sx_i2b (z := 4294967304) xc44_27 (by decide)) ?_
  refine sy_Fs (sx_ior (z := (mo_or (mv_rd 32 Br 1) 4294967304)) xc44_28 rfl) ?_
  refine sy_Fs (sx_i2b (z := (mn_b (mo_or (mv_rd 32 Br 1) 4294967304))) xc44_29 rfl) ?_
  refine sy_Fw (i := 8) (x := (1, 1, 32, (mv_wr 32 Br 1 (mn_b (mn_b (mo_or (mv_rd 32 Br 1) 4294967304)))))) hw (by decide) (sy_bas (i := 1) xc44_30 (wh_at hw 8 rfl) rfl (by decide) (by decide) rfl sy_refl) ?_
  intro w hw
  simp only [List.set_cons_zero, List.set_cons_succ] at hw
  exact sy_Fv xc44_31 xr44 ⟨rfl, _, ab_wr hab, hw⟩
theorem ch_sb13  (hw : wh 30 pl w0 w [(0, 1, 13, X0), (0, 8, 11, X1), (3, 6, 40, cbs), (0, 9, 11, X3), (1, 1, 105, Hd), (1, 1, 32, Id), (1, 1, 128, Ids), (1, 1, 480, Ads), (1, 1, 32, Br), (1, 1, 32, Dg), (0, 2, 13, X10), (1, 1, 64, Sp), (1, 0, 64, Sw), (1, 0, 8, Ss), (1, 1, 32, In), (1, 1, 32, Mk), (1, 0, 8, Is), (1, 0, 8, Os), (1, 0, 8, Ks), (1, 1, 64, Kp), (0, 9, 11, X20), (1, 1, 105, Bh), (1, 1, 32, Bd), (3, 7, 4, cps), (1, 1, 28, Mb), (1, 1, 32, Ti), (0, 10, 6, X26), (1, 0, 4, Pr), (1, 0, 1, Nu)]) (hX0 : fh X0 kX [(2, pl 1, 0), (0, 0, 0)]) (hX1 : fh X1 kM [(0, 1, 0), (2, pl 2, 0), (0, 0, 0), (2, pl 10, 0), (2, pl 6, 0), (2, pl 7, 0), (0, ac, 0), (2, pl 8, 0), (2, pl 9, 0)]) (hX3 : fh X3 kB [(2, pl 5, 0), (2, pl 4, 0), (0, 0, 0), (0, 4, 0), (3, 0, 0)]) (hX10 : fh X10 kS [(2, pl 11, 0), (2, pl 12, 0), (2, pl 13, 0), (2, pl 14, 0), (0, su, 0), (0, sl, 0), (2, pl 15, 0), (2, pl 16, 0), (2, pl 17, 0), (0, 1, 0), (2, pl 18, 0), (2, pl 19, 0), (0, kl, 0)]) (hX20 : fh X20 kN [(2, pl 3, 0), (0, 1, 0), (0, 1, 0), (0, wk, 0), (2, pl 21, 0), (2, pl 22, 0), (2, pl 23, 0), (0, 1, 0), (3, 0, 0), (0, 0, 0), (2, pl 28, 0)]) (hX26 : fh X26 kP [(2, pl 24, 0), (0, 0, 0), (0, 1, 0), (0, 28, 0), (2, pl 25, 0), (2, pl 27, 0)]) (hab : mv_ab Br 0 32 = true) : sy_D 44 n 0 0 [(2, pl 1, 0), (0, 13, 0)] w (fun ret w' => ret = [] ∧ ∃ Y8 : Nat, mv_ab Y8 0 32 = true ∧ wh 30 pl w0 w' [(0, 1, 13, X0), (0, 8, 11, X1), (3, 6, 40, cbs), (0, 9, 11, X3), (1, 1, 105, Hd), (1, 1, 32, Id), (1, 1, 128, Ids), (1, 1, 480, Ads), (1, 1, 32, Y8), (1, 1, 32, Dg), (0, 2, 13, X10), (1, 1, 64, Sp), (1, 0, 64, Sw), (1, 0, 8, Ss), (1, 1, 32, In), (1, 1, 32, Mk), (1, 0, 8, Is), (1, 0, 8, Os), (1, 0, 8, Ks), (1, 1, 64, Kp), (0, 9, 11, X20), (1, 1, 105, Bh), (1, 1, 32, Bd), (3, 7, 4, cps), (1, 1, 28, Mb), (1, 1, 32, Ti), (0, 10, 6, X26), (1, 0, 4, Pr), (1, 0, 1, Nu)]) := by
  refine sy_Dof (us := []) (sy_oks_cons (sy_ok2 (wh_lt hw 1 (by first | decide | assumption))) (sy_oks_cons (sy_ok0 (by first | decide | assumption | omega | exact mo_rd_lt _ _ | exact mo_add_lt _ _ | exact mo_sub_lt _ _ | exact mo_mul_lt _ _ | exact mo_shl_lt _ _ | exact mo_ushr_lt _ _ | exact mo_or_lt (by decide) (mo_and_lt (mo_rd_lt _ _)) | exact mo_or_lt (mo_shl_lt _ _) (mo_and_lt (mo_rd_lt _ _)))) sy_oks_nil)) rfl rfl ?_
  show sy_F 44 n 0 0 0 [(2, pl 1, 0), (0, 13, 0)] [] w _
  refine sy_Fs (sy_ildn xc44_0 rfl rfl sy_refl) ?_
  refine sy_Fs (sy_bipush (v := 8) xc44_1 (by decide) (by decide) sy_refl) ?_
  refine sy_Fs (sx_idiv (z := 1) xc44_3 (by decide) (by decide)) ?_
  refine sy_Fs (sy_bipush (v := 32) xc44_4 (by decide) (by decide) sy_refl) ?_
  refine sy_Fs (sy_ge_f xc44_6 (by decide) (by decide) (by decide) sy_refl) ?_
  refine sy_Fs (sy_aldn xc44_9 rfl rfl sy_refl) ?_
  refine sy_Fs (sy_gf xc44_10 xf44_30 rfl (wh_at hw 1 rfl) rfl (fh_at hX1 7 rfl rfl) sy_refl) ?_
  refine sy_Fs (sy_ildn xc44_13 rfl rfl sy_refl) ?_
  refine sy_Fs (sy_bipush (v := 8) xc44_14 (by decide) (by decide) sy_refl) ?_
  refine sy_Fs (sx_idiv (z := 1) xc44_16 (by decide) (by decide)) ?_
  refine sy_Fs (sy_dup2 xc44_17 rfl sy_refl) ?_
  refine sy_Fs (sx_bal (z := (mv_rd 32 Br 1)) xc44_18 (wh_at hw 8 rfl) (by decide) (by decide) rfl) ?_
  refine sy_Fs (sy_sipush (v := 128) xc44_19 (by decide) (by decide) sy_refl) ?_
  refine sy_Fs (sy_ildn xc44_22 rfl rfl sy_refl) ?_
  refine sy_Fs (sy_bipush (v := 8) xc44_23 (by decide) (by decide) sy_refl) ?_
  refine sy_Fs (sx_irem (z := 5) xc44_25 (by decide) (by decide)) ?_
  refine sy_Fs (sx_ishr (z := 4) xc44_26 (by decide)) ?_
  refine sy_Fs (sx_i2b (z := 4294967300) xc44_27 (by decide)) ?_
  refine sy_Fs (sx_ior (z := (mo_or (mv_rd 32 Br 1) 4294967300)) xc44_28 rfl) ?_
  refine sy_Fs (sx_i2b (z := (mn_b (mo_or (mv_rd 32 Br 1) 4294967300))) xc44_29 rfl) ?_
  refine sy_Fw (i := 8) (x := (1, 1, 32, (mv_wr 32 Br 1 (mn_b (mn_b (mo_or (mv_rd 32 Br 1) 4294967300)))))) hw (by decide) (sy_bas (i := 1) xc44_30 (wh_at hw 8 rfl) rfl (by decide) (by decide) rfl sy_refl) ?_
  intro w hw
  simp only [List.set_cons_zero, List.set_cons_succ] at hw
  exact sy_Fv xc44_31 xr44 ⟨rfl, _, ab_wr hab, hw⟩
theorem ch_sb14  (hw : wh 30 pl w0 w [(0, 1, 13, X0), (0, 8, 11, X1), (3, 6, 40, cbs), (0, 9, 11, X3), (1, 1, 105, Hd), (1, 1, 32, Id), (1, 1, 128, Ids), (1, 1, 480, Ads), (1, 1, 32, Br), (1, 1, 32, Dg), (0, 2, 13, X10), (1, 1, 64, Sp), (1, 0, 64, Sw), (1, 0, 8, Ss), (1, 1, 32, In), (1, 1, 32, Mk), (1, 0, 8, Is), (1, 0, 8, Os), (1, 0, 8, Ks), (1, 1, 64, Kp), (0, 9, 11, X20), (1, 1, 105, Bh), (1, 1, 32, Bd), (3, 7, 4, cps), (1, 1, 28, Mb), (1, 1, 32, Ti), (0, 10, 6, X26), (1, 0, 4, Pr), (1, 0, 1, Nu)]) (hX0 : fh X0 kX [(2, pl 1, 0), (0, 0, 0)]) (hX1 : fh X1 kM [(0, 1, 0), (2, pl 2, 0), (0, 0, 0), (2, pl 10, 0), (2, pl 6, 0), (2, pl 7, 0), (0, ac, 0), (2, pl 8, 0), (2, pl 9, 0)]) (hX3 : fh X3 kB [(2, pl 5, 0), (2, pl 4, 0), (0, 0, 0), (0, 4, 0), (3, 0, 0)]) (hX10 : fh X10 kS [(2, pl 11, 0), (2, pl 12, 0), (2, pl 13, 0), (2, pl 14, 0), (0, su, 0), (0, sl, 0), (2, pl 15, 0), (2, pl 16, 0), (2, pl 17, 0), (0, 1, 0), (2, pl 18, 0), (2, pl 19, 0), (0, kl, 0)]) (hX20 : fh X20 kN [(2, pl 3, 0), (0, 1, 0), (0, 1, 0), (0, wk, 0), (2, pl 21, 0), (2, pl 22, 0), (2, pl 23, 0), (0, 1, 0), (3, 0, 0), (0, 0, 0), (2, pl 28, 0)]) (hX26 : fh X26 kP [(2, pl 24, 0), (0, 0, 0), (0, 1, 0), (0, 28, 0), (2, pl 25, 0), (2, pl 27, 0)]) (hab : mv_ab Br 0 32 = true) : sy_D 44 n 0 0 [(2, pl 1, 0), (0, 14, 0)] w (fun ret w' => ret = [] ∧ ∃ Y8 : Nat, mv_ab Y8 0 32 = true ∧ wh 30 pl w0 w' [(0, 1, 13, X0), (0, 8, 11, X1), (3, 6, 40, cbs), (0, 9, 11, X3), (1, 1, 105, Hd), (1, 1, 32, Id), (1, 1, 128, Ids), (1, 1, 480, Ads), (1, 1, 32, Y8), (1, 1, 32, Dg), (0, 2, 13, X10), (1, 1, 64, Sp), (1, 0, 64, Sw), (1, 0, 8, Ss), (1, 1, 32, In), (1, 1, 32, Mk), (1, 0, 8, Is), (1, 0, 8, Os), (1, 0, 8, Ks), (1, 1, 64, Kp), (0, 9, 11, X20), (1, 1, 105, Bh), (1, 1, 32, Bd), (3, 7, 4, cps), (1, 1, 28, Mb), (1, 1, 32, Ti), (0, 10, 6, X26), (1, 0, 4, Pr), (1, 0, 1, Nu)]) := by
  refine sy_Dof (us := []) (sy_oks_cons (sy_ok2 (wh_lt hw 1 (by first | decide | assumption))) (sy_oks_cons (sy_ok0 (by first | decide | assumption | omega | exact mo_rd_lt _ _ | exact mo_add_lt _ _ | exact mo_sub_lt _ _ | exact mo_mul_lt _ _ | exact mo_shl_lt _ _ | exact mo_ushr_lt _ _ | exact mo_or_lt (by decide) (mo_and_lt (mo_rd_lt _ _)) | exact mo_or_lt (mo_shl_lt _ _) (mo_and_lt (mo_rd_lt _ _)))) sy_oks_nil)) rfl rfl ?_
  show sy_F 44 n 0 0 0 [(2, pl 1, 0), (0, 14, 0)] [] w _
  refine sy_Fs (sy_ildn xc44_0 rfl rfl sy_refl) ?_
  refine sy_Fs (sy_bipush (v := 8) xc44_1 (by decide) (by decide) sy_refl) ?_
  refine sy_Fs (sx_idiv (z := 1) xc44_3 (by decide) (by decide)) ?_
  refine sy_Fs (sy_bipush (v := 32) xc44_4 (by decide) (by decide) sy_refl) ?_
  refine sy_Fs (sy_ge_f xc44_6 (by decide) (by decide) (by decide) sy_refl) ?_
  refine sy_Fs (sy_aldn xc44_9 rfl rfl sy_refl) ?_
  refine sy_Fs (sy_gf xc44_10 xf44_30 rfl (wh_at hw 1 rfl) rfl (fh_at hX1 7 rfl rfl) sy_refl) ?_
  refine sy_Fs (sy_ildn xc44_13 rfl rfl sy_refl) ?_
  refine sy_Fs (sy_bipush (v := 8) xc44_14 (by decide) (by decide) sy_refl) ?_
  refine sy_Fs (sx_idiv (z := 1) xc44_16 (by decide) (by decide)) ?_
  refine sy_Fs (sy_dup2 xc44_17 rfl sy_refl) ?_
  refine sy_Fs (sx_bal (z := (mv_rd 32 Br 1)) xc44_18 (wh_at hw 8 rfl) (by decide) (by decide) rfl) ?_
  refine sy_Fs (sy_sipush (v := 128) xc44_19 (by decide) (by decide) sy_refl) ?_
  refine sy_Fs (sy_ildn xc44_22 rfl rfl sy_refl) ?_
  refine sy_Fs (sy_bipush (v := 8) xc44_23 (by decide) (by decide) sy_refl) ?_
  refine sy_Fs (sx_irem (z := 6) xc44_25 (by decide) (by decide)) ?_
  refine sy_Fs (sx_ishr (z := 2) xc44_26 (by decide)) ?_
  refine sy_Fs (sx_i2b (z := 4294967298) xc44_27 (by decide)) ?_
  refine sy_Fs (sx_ior (z := (mo_or (mv_rd 32 Br 1) 4294967298)) xc44_28 rfl) ?_
  refine sy_Fs (sx_i2b (z := (mn_b (mo_or (mv_rd 32 Br 1) 4294967298))) xc44_29 rfl) ?_
  refine sy_Fw (i := 8) (x := (1, 1, 32, (mv_wr 32 Br 1 (mn_b (mn_b (mo_or (mv_rd 32 Br 1) 4294967298)))))) hw (by decide) (sy_bas (i := 1) xc44_30 (wh_at hw 8 rfl) rfl (by decide) (by decide) rfl sy_refl) ?_
  intro w hw
  simp only [List.set_cons_zero, List.set_cons_succ] at hw
  exact sy_Fv xc44_31 xr44 ⟨rfl, _, ab_wr hab, hw⟩
theorem ch_pn  (hw : wh 30 pl w0 w [(0, 1, 13, X0), (0, 8, 11, X1), (3, 6, 40, cbs), (0, 9, 11, X3), (1, 1, 105, Hd), (1, 1, 32, Id), (1, 1, 128, Ids), (1, 1, 480, Ads), (1, 1, 32, Br), (1, 1, 32, Dg), (0, 2, 13, X10), (1, 1, 64, Sp), (1, 0, 64, Sw), (1, 0, 8, Ss), (1, 1, 32, In), (1, 1, 32, Mk), (1, 0, 8, Is), (1, 0, 8, Os), (1, 0, 8, Ks), (1, 1, 64, Kp), (0, 9, 11, X20), (1, 1, 105, Bh), (1, 1, 32, Bd), (3, 7, 4, cps), (1, 1, 28, Mb), (1, 1, 32, Ti), (0, 10, 6, X26), (1, 0, 4, Pr), (1, 0, 1, Nu)]) (hX0 : fh X0 kX [(2, pl 1, 0), (0, 0, 0)]) (hX1 : fh X1 kM [(0, 1, 0), (2, pl 2, 0), (0, 0, 0), (2, pl 10, 0), (2, pl 6, 0), (2, pl 7, 0), (0, ac, 0), (2, pl 8, 0), (2, pl 9, 0)]) (hX3 : fh X3 kB [(2, pl 5, 0), (2, pl 4, 0), (0, 0, 0), (0, 4, 0), (3, 0, 0)]) (hX10 : fh X10 kS [(2, pl 11, 0), (2, pl 12, 0), (2, pl 13, 0), (2, pl 14, 0), (0, su, 0), (0, sl, 0), (2, pl 15, 0), (2, pl 16, 0), (2, pl 17, 0), (0, 1, 0), (2, pl 18, 0), (2, pl 19, 0), (0, kl, 0)]) (hX20 : fh X20 kN [(2, pl 3, 0), (0, 1, 0), (0, 1, 0), (0, wk, 0), (2, pl 21, 0), (2, pl 22, 0), (2, pl 23, 0), (0, 1, 0), (3, 0, 0), (0, 0, 0), (2, pl 28, 0)]) (hX26 : fh X26 kP [(2, pl 24, 0), (0, 0, 0), (0, 1, 0), (0, 28, 0), (2, pl 25, 0), (2, pl 27, 0)]) {v : Nat} (hv : v < 64) (hnu : mv_rd 32 Nu 0 = v) : sy_D 42 n 1 23 [(2, pl 1, 0), (2, pl 28, 0)] w (fun ret w' => ret = [(0, 2, 0)] ∧ ∃ Y8 : Nat, mv_ab Y8 0 32 = true ∧ wh 30 pl w0 w' [(0, 1, 13, X0), (0, 8, 11, X1), (3, 6, 40, cbs), (0, 9, 11, X3), (1, 1, 105, Hd), (1, 1, 32, Id), (1, 1, 128, Ids), (1, 1, 480, Ads), (1, 1, 32, Y8), (1, 1, 32, Dg), (0, 2, 13, X10), (1, 1, 64, Sp), (1, 0, 64, Sw), (1, 0, 8, Ss), (1, 1, 32, In), (1, 1, 32, Mk), (1, 0, 8, Is), (1, 0, 8, Os), (1, 0, 8, Ks), (1, 1, 64, Kp), (0, 9, 11, X20), (1, 1, 105, Bh), (1, 1, 32, Bd), (3, 7, 4, cps), (1, 1, 28, Mb), (1, 1, 32, Ti), (0, 10, 6, X26), (1, 0, 4, Pr), (1, 0, 1, Nu)]) := by
  refine sy_Dof (us := [(255, 0, 0), (255, 0, 0), (255, 0, 0), (255, 0, 0), (255, 0, 0)]) (sy_oks_cons (sy_ok2 (wh_lt hw 1 (by first | decide | assumption))) (sy_oks_cons (sy_ok2 (wh_lt hw 28 (by first | decide | assumption))) sy_oks_nil)) rfl rfl ?_
  show sy_F 42 n 1 23 0 [(2, pl 1, 0), (2, pl 28, 0), (255, 0, 0), (255, 0, 0), (255, 0, 0), (255, 0, 0), (255, 0, 0)] [] w _
  let Q : List mv_V → mv_T 10 → Prop := (fun ret w' => ret = [(0, 2, 0)] ∧ ∃ Y8 : Nat, mv_ab Y8 0 32 = true ∧ wh 30 pl w0 w' [(0, 1, 13, X0), (0, 8, 11, X1), (3, 6, 40, cbs), (0, 9, 11, X3), (1, 1, 105, Hd), (1, 1, 32, Id), (1, 1, 128, Ids), (1, 1, 480, Ads), (1, 1, 32, Y8), (1, 1, 32, Dg), (0, 2, 13, X10), (1, 1, 64, Sp), (1, 0, 64, Sw), (1, 0, 8, Ss), (1, 1, 32, In), (1, 1, 32, Mk), (1, 0, 8, Is), (1, 0, 8, Os), (1, 0, 8, Ks), (1, 1, 64, Kp), (0, 9, 11, X20), (1, 1, 105, Bh), (1, 1, 32, Bd), (3, 7, 4, cps), (1, 1, 28, Mb), (1, 1, 32, Ti), (0, 10, 6, X26), (1, 0, 4, Pr), (1, 0, 1, Nu)])
  show sy_F 42 n 1 23 0 [(2, pl 1, 0), (2, pl 28, 0), (255, 0, 0), (255, 0, 0), (255, 0, 0), (255, 0, 0), (255, 0, 0)] [] w Q
  have e0 : ∀ (w : mv_T 10) (B : Nat), mv_ab B 0 32 = true → wh 30 pl w0 w [(0, 1, 13, X0), (0, 8, 11, X1), (3, 6, 40, cbs), (0, 9, 11, X3), (1, 1, 105, Hd), (1, 1, 32, Id), (1, 1, 128, Ids), (1, 1, 480, Ads), (1, 1, 32, B), (1, 1, 32, Dg), (0, 2, 13, X10), (1, 1, 64, Sp), (1, 0, 64, Sw), (1, 0, 8, Ss), (1, 1, 32, In), (1, 1, 32, Mk), (1, 0, 8, Is), (1, 0, 8, Os), (1, 0, 8, Ks), (1, 1, 64, Kp), (0, 9, 11, X20), (1, 1, 105, Bh), (1, 1, 32, Bd), (3, 7, 4, cps), (1, 1, 28, Mb), (1, 1, 32, Ti), (0, 10, 6, X26), (1, 0, 4, Pr), (1, 0, 1, Nu)] → sy_F 42 n 1 23 77 [(2, pl 1, 0), (2, pl 28, 0), (0, 15, 0), (0, v, 0), (0, 0, 0), (0, v, 0), (0, 4294967295, 0)] [] w Q := by
    intro w B hab hw
    refine sy_Fs (sy_ild xc42_77 rfl rfl sy_refl) ?_
    refine sy_Fs (sy_iflt_t (pc' := 107) xc42_79 (by decide) (by decide) (by decide) (by decide) sy_refl) ?_
    refine sy_Fs (sx_iinc (c := 1) (z := 1) (ls' := [(2, pl 1, 0), (2, pl 28, 0), (0, 15, 0), (0, v, 0), (0, 1, 0), (0, v, 0), (0, 4294967295, 0)]) xc42_107 rfl (by decide) (by rw [xl42]; rfl) rfl (by decide) rfl) ?_
    refine sy_Fs (sy_goto (pc' := 25) xc42_110 (by decide) (by decide) sy_refl) ?_
    refine sy_Fs (sy_ild xc42_25 rfl rfl sy_refl) ?_
    refine sy_Fs (sy_aldn xc42_27 rfl rfl sy_refl) ?_
    refine sy_Fs (sy_alen xc42_28 (wh_at hw 28 rfl) rfl sy_refl) ?_
    refine sy_Fs (sy_ge_t (pc' := 113) xc42_29 (by decide) (by decide) (by decide) (by decide) sy_refl) ?_
    refine sy_Fs (sy_ildn xc42_113 rfl rfl sy_refl) ?_
    refine sy_Fs (sy_bipush (v := 7) xc42_114 (by decide) (by decide) sy_refl) ?_
    refine sy_Fs (sx_iadd (z := 22) xc42_116 (by decide)) ?_
    refine sy_Fs (sy_bipush (v := 8) xc42_117 (by decide) (by decide) sy_refl) ?_
    refine sy_Fs (sx_idiv (z := 2) xc42_119 (by decide) (by decide)) ?_
    refine sy_Fs (sy_bipush (v := 32) xc42_120 (by decide) (by decide) sy_refl) ?_
    refine sy_Fs (sy_call8 (as := [(0, 2, 0), (0, 32, 0)]) (S0 := []) (S' := [(0, 2, 0)]) xc42_122 (sy_calS (as := [(0, 2, 0), (0, 32, 0)]) (S0 := []) xm42_229 rfl rfl) rfl (by decide) (by show 18 ≤ _; decide) sy_refl) ?_
    exact sy_Fi xc42_125 xr42 rfl ⟨rfl, B, hab, hw⟩
  have e1 : ∀ (w : mv_T 10) (B : Nat), mv_ab B 0 32 = true → wh 30 pl w0 w [(0, 1, 13, X0), (0, 8, 11, X1), (3, 6, 40, cbs), (0, 9, 11, X3), (1, 1, 105, Hd), (1, 1, 32, Id), (1, 1, 128, Ids), (1, 1, 480, Ads), (1, 1, 32, B), (1, 1, 32, Dg), (0, 2, 13, X10), (1, 1, 64, Sp), (1, 0, 64, Sw), (1, 0, 8, Ss), (1, 1, 32, In), (1, 1, 32, Mk), (1, 0, 8, Is), (1, 0, 8, Os), (1, 0, 8, Ks), (1, 1, 64, Kp), (0, 9, 11, X20), (1, 1, 105, Bh), (1, 1, 32, Bd), (3, 7, 4, cps), (1, 1, 28, Mb), (1, 1, 32, Ti), (0, 10, 6, X26), (1, 0, 4, Pr), (1, 0, 1, Nu)] → sy_F 42 n 1 23 77 [(2, pl 1, 0), (2, pl 28, 0), (0, 14, 0), (0, v, 0), (0, 0, 0), (0, v, 0), (0, 0, 0)] [] w Q := by
    intro w B hab hw
    refine sy_Fs (sy_ild xc42_77 rfl rfl sy_refl) ?_
    refine sy_Fs (sy_iflt_f xc42_79 (by decide) (by decide) sy_refl) ?_
    refine sy_Fs (sy_ild xc42_82 rfl rfl sy_refl) ?_
    refine sy_Fs (sy_ild xc42_84 rfl rfl sy_refl) ?_
    refine sy_Fs (sx_ishr (z := (mo_shr v 0)) xc42_86 rfl) ?_
    refine sy_Fs (sy_iconst (v := 1) xc42_87 (by decide) sy_refl) ?_
    refine sy_Fs (sx_iand (z := (mo_and (mo_shr v 0) 1)) xc42_88 rfl) ?_
    refine sy_Fs (sy_iconst (v := 1) xc42_89 (by decide) sy_refl) ?_
    by_cases hz : (mo_and (mo_shr v 0) 1) = 1
    · skip
      refine sy_Fs (sy_icmpne_f xc42_90 (by decide) hz sy_refl) ?_
      refine sy_Fs (sy_aldn xc42_93 rfl rfl sy_refl) ?_
      refine sy_Fs (sy_ildn xc42_94 rfl rfl sy_refl) ?_
      obtain ⟨ret, w, ⟨rfl, B, hab, hw1⟩, hC⟩ := ch_sb14 (n := n) hw hX0 hX1 hX3 hX10 hX20 hX26 hab
      refine sy_Fs (sy_callG (kd := 3) (as := [(2, pl 1, 0), (0, 14, 0)]) (S0 := []) (ret := []) xc42_95 (sy_calV (as := [(2, pl 1, 0), (0, 14, 0)]) (S0 := []) xm42_225 rfl rfl) rfl rfl (sy_rcvm xi44 (wh_at hw 1 rfl)) rfl (sy_oka (sy_oks_cons (sy_ok2 (wh_lt hw 1 (by first | decide | assumption))) (sy_oks_cons (sy_ok0 (by first | decide | assumption | omega | exact mo_rd_lt _ _ | exact mo_add_lt _ _ | exact mo_sub_lt _ _ | exact mo_mul_lt _ _ | exact mo_shl_lt _ _ | exact mo_ushr_lt _ _ | exact mo_or_lt (by decide) (mo_and_lt (mo_rd_lt _ _)) | exact mo_or_lt (mo_shl_lt _ _) (mo_and_lt (mo_rd_lt _ _)))) sy_oks_nil)) rfl xl44) hC (by decide) (by rw [xl44]; decide) sy_refl) ?_
      replace hw := hw1
      refine sy_Fs (sx_iinc (c := 1) (z := 15) (ls' := [(2, pl 1, 0), (2, pl 28, 0), (0, 15, 0), (0, v, 0), (0, 0, 0), (0, v, 0), (0, 0, 0)]) xc42_98 rfl (by decide) (by rw [xl42]; rfl) rfl (by decide) rfl) ?_
      refine sy_Fs (sx_iinc (c := 4294967295) (z := 4294967295) (ls' := [(2, pl 1, 0), (2, pl 28, 0), (0, 15, 0), (0, v, 0), (0, 0, 0), (0, v, 0), (0, 4294967295, 0)]) xc42_101 rfl (by decide) (by rw [xl42]; rfl) rfl (by decide) rfl) ?_
      refine sy_Fs (sy_goto (pc' := 77) xc42_104 (by decide) (by decide) sy_refl) ?_
      exact e0 w B hab hw
    · skip
      refine sy_Fs (sy_icmpne_t (pc' := 98) xc42_90 (by decide) hz (and1_lt _) (by decide) (by decide) sy_refl) ?_
      refine sy_Fs (sx_iinc (c := 1) (z := 15) (ls' := [(2, pl 1, 0), (2, pl 28, 0), (0, 15, 0), (0, v, 0), (0, 0, 0), (0, v, 0), (0, 0, 0)]) xc42_98 rfl (by decide) (by rw [xl42]; rfl) rfl (by decide) rfl) ?_
      refine sy_Fs (sx_iinc (c := 4294967295) (z := 4294967295) (ls' := [(2, pl 1, 0), (2, pl 28, 0), (0, 15, 0), (0, v, 0), (0, 0, 0), (0, v, 0), (0, 4294967295, 0)]) xc42_101 rfl (by decide) (by rw [xl42]; rfl) rfl (by decide) rfl) ?_
      refine sy_Fs (sy_goto (pc' := 77) xc42_104 (by decide) (by decide) sy_refl) ?_
      exact e0 w B hab hw
  have e2 : ∀ (w : mv_T 10) (B : Nat), mv_ab B 0 32 = true → wh 30 pl w0 w [(0, 1, 13, X0), (0, 8, 11, X1), (3, 6, 40, cbs), (0, 9, 11, X3), (1, 1, 105, Hd), (1, 1, 32, Id), (1, 1, 128, Ids), (1, 1, 480, Ads), (1, 1, 32, B), (1, 1, 32, Dg), (0, 2, 13, X10), (1, 1, 64, Sp), (1, 0, 64, Sw), (1, 0, 8, Ss), (1, 1, 32, In), (1, 1, 32, Mk), (1, 0, 8, Is), (1, 0, 8, Os), (1, 0, 8, Ks), (1, 1, 64, Kp), (0, 9, 11, X20), (1, 1, 105, Bh), (1, 1, 32, Bd), (3, 7, 4, cps), (1, 1, 28, Mb), (1, 1, 32, Ti), (0, 10, 6, X26), (1, 0, 4, Pr), (1, 0, 1, Nu)] → sy_F 42 n 1 23 77 [(2, pl 1, 0), (2, pl 28, 0), (0, 13, 0), (0, v, 0), (0, 0, 0), (0, v, 0), (0, 1, 0)] [] w Q := by
    intro w B hab hw
    refine sy_Fs (sy_ild xc42_77 rfl rfl sy_refl) ?_
    refine sy_Fs (sy_iflt_f xc42_79 (by decide) (by decide) sy_refl) ?_
    refine sy_Fs (sy_ild xc42_82 rfl rfl sy_refl) ?_
    refine sy_Fs (sy_ild xc42_84 rfl rfl sy_refl) ?_
    refine sy_Fs (sx_ishr (z := (mo_shr v 1)) xc42_86 rfl) ?_
    refine sy_Fs (sy_iconst (v := 1) xc42_87 (by decide) sy_refl) ?_
    refine sy_Fs (sx_iand (z := (mo_and (mo_shr v 1) 1)) xc42_88 rfl) ?_
    refine sy_Fs (sy_iconst (v := 1) xc42_89 (by decide) sy_refl) ?_
    by_cases hz : (mo_and (mo_shr v 1) 1) = 1
    · skip
      refine sy_Fs (sy_icmpne_f xc42_90 (by decide) hz sy_refl) ?_
      refine sy_Fs (sy_aldn xc42_93 rfl rfl sy_refl) ?_
      refine sy_Fs (sy_ildn xc42_94 rfl rfl sy_refl) ?_
      obtain ⟨ret, w, ⟨rfl, B, hab, hw1⟩, hC⟩ := ch_sb13 (n := n) hw hX0 hX1 hX3 hX10 hX20 hX26 hab
      refine sy_Fs (sy_callG (kd := 3) (as := [(2, pl 1, 0), (0, 13, 0)]) (S0 := []) (ret := []) xc42_95 (sy_calV (as := [(2, pl 1, 0), (0, 13, 0)]) (S0 := []) xm42_225 rfl rfl) rfl rfl (sy_rcvm xi44 (wh_at hw 1 rfl)) rfl (sy_oka (sy_oks_cons (sy_ok2 (wh_lt hw 1 (by first | decide | assumption))) (sy_oks_cons (sy_ok0 (by first | decide | assumption | omega | exact mo_rd_lt _ _ | exact mo_add_lt _ _ | exact mo_sub_lt _ _ | exact mo_mul_lt _ _ | exact mo_shl_lt _ _ | exact mo_ushr_lt _ _ | exact mo_or_lt (by decide) (mo_and_lt (mo_rd_lt _ _)) | exact mo_or_lt (mo_shl_lt _ _) (mo_and_lt (mo_rd_lt _ _)))) sy_oks_nil)) rfl xl44) hC (by decide) (by rw [xl44]; decide) sy_refl) ?_
      replace hw := hw1
      refine sy_Fs (sx_iinc (c := 1) (z := 14) (ls' := [(2, pl 1, 0), (2, pl 28, 0), (0, 14, 0), (0, v, 0), (0, 0, 0), (0, v, 0), (0, 1, 0)]) xc42_98 rfl (by decide) (by rw [xl42]; rfl) rfl (by decide) rfl) ?_
      refine sy_Fs (sx_iinc (c := 4294967295) (z := 0) (ls' := [(2, pl 1, 0), (2, pl 28, 0), (0, 14, 0), (0, v, 0), (0, 0, 0), (0, v, 0), (0, 0, 0)]) xc42_101 rfl (by decide) (by rw [xl42]; rfl) rfl (by decide) rfl) ?_
      refine sy_Fs (sy_goto (pc' := 77) xc42_104 (by decide) (by decide) sy_refl) ?_
      exact e1 w B hab hw
    · skip
      refine sy_Fs (sy_icmpne_t (pc' := 98) xc42_90 (by decide) hz (and1_lt _) (by decide) (by decide) sy_refl) ?_
      refine sy_Fs (sx_iinc (c := 1) (z := 14) (ls' := [(2, pl 1, 0), (2, pl 28, 0), (0, 14, 0), (0, v, 0), (0, 0, 0), (0, v, 0), (0, 1, 0)]) xc42_98 rfl (by decide) (by rw [xl42]; rfl) rfl (by decide) rfl) ?_
      refine sy_Fs (sx_iinc (c := 4294967295) (z := 0) (ls' := [(2, pl 1, 0), (2, pl 28, 0), (0, 14, 0), (0, v, 0), (0, 0, 0), (0, v, 0), (0, 0, 0)]) xc42_101 rfl (by decide) (by rw [xl42]; rfl) rfl (by decide) rfl) ?_
      refine sy_Fs (sy_goto (pc' := 77) xc42_104 (by decide) (by decide) sy_refl) ?_
      exact e1 w B hab hw
  have e3 : ∀ (w : mv_T 10) (B : Nat), mv_ab B 0 32 = true → wh 30 pl w0 w [(0, 1, 13, X0), (0, 8, 11, X1), (3, 6, 40, cbs), (0, 9, 11, X3), (1, 1, 105, Hd), (1, 1, 32, Id), (1, 1, 128, Ids), (1, 1, 480, Ads), (1, 1, 32, B), (1, 1, 32, Dg), (0, 2, 13, X10), (1, 1, 64, Sp), (1, 0, 64, Sw), (1, 0, 8, Ss), (1, 1, 32, In), (1, 1, 32, Mk), (1, 0, 8, Is), (1, 0, 8, Os), (1, 0, 8, Ks), (1, 1, 64, Kp), (0, 9, 11, X20), (1, 1, 105, Bh), (1, 1, 32, Bd), (3, 7, 4, cps), (1, 1, 28, Mb), (1, 1, 32, Ti), (0, 10, 6, X26), (1, 0, 4, Pr), (1, 0, 1, Nu)] → sy_F 42 n 1 23 77 [(2, pl 1, 0), (2, pl 28, 0), (0, 12, 0), (0, v, 0), (0, 0, 0), (0, v, 0), (0, 2, 0)] [] w Q := by
    intro w B hab hw
    refine sy_Fs (sy_ild xc42_77 rfl rfl sy_refl) ?_
    refine sy_Fs (sy_iflt_f xc42_79 (by decide) (by decide) sy_refl) ?_
    refine sy_Fs (sy_ild xc42_82 rfl rfl sy_refl) ?_
    refine sy_Fs (sy_ild xc42_84 rfl rfl sy_refl) ?_
    refine sy_Fs (sx_ishr (z := (mo_shr v 2)) xc42_86 rfl) ?_
    refine sy_Fs (sy_iconst (v := 1) xc42_87 (by decide) sy_refl) ?_
    refine sy_Fs (sx_iand (z := (mo_and (mo_shr v 2) 1)) xc42_88 rfl) ?_
    refine sy_Fs (sy_iconst (v := 1) xc42_89 (by decide) sy_refl) ?_
    by_cases hz : (mo_and (mo_shr v 2) 1) = 1
    · skip
      refine sy_Fs (sy_icmpne_f xc42_90 (by decide) hz sy_refl) ?_
      refine sy_Fs (sy_aldn xc42_93 rfl rfl sy_refl) ?_
      refine sy_Fs (sy_ildn xc42_94 rfl rfl sy_refl) ?_
      obtain ⟨ret, w, ⟨rfl, B, hab, hw1⟩, hC⟩ := ch_sb12 (n := n) hw hX0 hX1 hX3 hX10 hX20 hX26 hab
      refine sy_Fs (sy_callG (kd := 3) (as := [(2, pl 1, 0), (0, 12, 0)]) (S0 := []) (ret := []) xc42_95 (sy_calV (as := [(2, pl 1, 0), (0, 12, 0)]) (S0 := []) xm42_225 rfl rfl) rfl rfl (sy_rcvm xi44 (wh_at hw 1 rfl)) rfl (sy_oka (sy_oks_cons (sy_ok2 (wh_lt hw 1 (by first | decide | assumption))) (sy_oks_cons (sy_ok0 (by first | decide | assumption | omega | exact mo_rd_lt _ _ | exact mo_add_lt _ _ | exact mo_sub_lt _ _ | exact mo_mul_lt _ _ | exact mo_shl_lt _ _ | exact mo_ushr_lt _ _ | exact mo_or_lt (by decide) (mo_and_lt (mo_rd_lt _ _)) | exact mo_or_lt (mo_shl_lt _ _) (mo_and_lt (mo_rd_lt _ _)))) sy_oks_nil)) rfl xl44) hC (by decide) (by rw [xl44]; decide) sy_refl) ?_
      replace hw := hw1
      refine sy_Fs (sx_iinc (c := 1) (z := 13) (ls' := [(2, pl 1, 0), (2, pl 28, 0), (0, 13, 0), (0, v, 0), (0, 0, 0), (0, v, 0), (0, 2, 0)]) xc42_98 rfl (by decide) (by rw [xl42]; rfl) rfl (by decide) rfl) ?_
      refine sy_Fs (sx_iinc (c := 4294967295) (z := 1) (ls' := [(2, pl 1, 0), (2, pl 28, 0), (0, 13, 0), (0, v, 0), (0, 0, 0), (0, v, 0), (0, 1, 0)]) xc42_101 rfl (by decide) (by rw [xl42]; rfl) rfl (by decide) rfl) ?_
      refine sy_Fs (sy_goto (pc' := 77) xc42_104 (by decide) (by decide) sy_refl) ?_
      exact e2 w B hab hw
    · skip
      refine sy_Fs (sy_icmpne_t (pc' := 98) xc42_90 (by decide) hz (and1_lt _) (by decide) (by decide) sy_refl) ?_
      refine sy_Fs (sx_iinc (c := 1) (z := 13) (ls' := [(2, pl 1, 0), (2, pl 28, 0), (0, 13, 0), (0, v, 0), (0, 0, 0), (0, v, 0), (0, 2, 0)]) xc42_98 rfl (by decide) (by rw [xl42]; rfl) rfl (by decide) rfl) ?_
      refine sy_Fs (sx_iinc (c := 4294967295) (z := 1) (ls' := [(2, pl 1, 0), (2, pl 28, 0), (0, 13, 0), (0, v, 0), (0, 0, 0), (0, v, 0), (0, 1, 0)]) xc42_101 rfl (by decide) (by rw [xl42]; rfl) rfl (by decide) rfl) ?_
      refine sy_Fs (sy_goto (pc' := 77) xc42_104 (by decide) (by decide) sy_refl) ?_
      exact e2 w B hab hw
  have e4 : ∀ (w : mv_T 10) (B : Nat), mv_ab B 0 32 = true → wh 30 pl w0 w [(0, 1, 13, X0), (0, 8, 11, X1), (3, 6, 40, cbs), (0, 9, 11, X3), (1, 1, 105, Hd), (1, 1, 32, Id), (1, 1, 128, Ids), (1, 1, 480, Ads), (1, 1, 32, B), (1, 1, 32, Dg), (0, 2, 13, X10), (1, 1, 64, Sp), (1, 0, 64, Sw), (1, 0, 8, Ss), (1, 1, 32, In), (1, 1, 32, Mk), (1, 0, 8, Is), (1, 0, 8, Os), (1, 0, 8, Ks), (1, 1, 64, Kp), (0, 9, 11, X20), (1, 1, 105, Bh), (1, 1, 32, Bd), (3, 7, 4, cps), (1, 1, 28, Mb), (1, 1, 32, Ti), (0, 10, 6, X26), (1, 0, 4, Pr), (1, 0, 1, Nu)] → sy_F 42 n 1 23 77 [(2, pl 1, 0), (2, pl 28, 0), (0, 11, 0), (0, v, 0), (0, 0, 0), (0, v, 0), (0, 3, 0)] [] w Q := by
    intro w B hab hw
    refine sy_Fs (sy_ild xc42_77 rfl rfl sy_refl) ?_
    refine sy_Fs (sy_iflt_f xc42_79 (by decide) (by decide) sy_refl) ?_
    refine sy_Fs (sy_ild xc42_82 rfl rfl sy_refl) ?_
    refine sy_Fs (sy_ild xc42_84 rfl rfl sy_refl) ?_
    refine sy_Fs (sx_ishr (z := (mo_shr v 3)) xc42_86 rfl) ?_
    refine sy_Fs (sy_iconst (v := 1) xc42_87 (by decide) sy_refl) ?_
    refine sy_Fs (sx_iand (z := (mo_and (mo_shr v 3) 1)) xc42_88 rfl) ?_
    refine sy_Fs (sy_iconst (v := 1) xc42_89 (by decide) sy_refl) ?_
    by_cases hz : (mo_and (mo_shr v 3) 1) = 1
    · skip
      refine sy_Fs (sy_icmpne_f xc42_90 (by decide) hz sy_refl) ?_
      refine sy_Fs (sy_aldn xc42_93 rfl rfl sy_refl) ?_
      refine sy_Fs (sy_ildn xc42_94 rfl rfl sy_refl) ?_
      obtain ⟨ret, w, ⟨rfl, B, hab, hw1⟩, hC⟩ := ch_sb11 (n := n) hw hX0 hX1 hX3 hX10 hX20 hX26 hab
      refine sy_Fs (sy_callG (kd := 3) (as := [(2, pl 1, 0), (0, 11, 0)]) (S0 := []) (ret := []) xc42_95 (sy_calV (as := [(2, pl 1, 0), (0, 11, 0)]) (S0 := []) xm42_225 rfl rfl) rfl rfl (sy_rcvm xi44 (wh_at hw 1 rfl)) rfl (sy_oka (sy_oks_cons (sy_ok2 (wh_lt hw 1 (by first | decide | assumption))) (sy_oks_cons (sy_ok0 (by first | decide | assumption | omega | exact mo_rd_lt _ _ | exact mo_add_lt _ _ | exact mo_sub_lt _ _ | exact mo_mul_lt _ _ | exact mo_shl_lt _ _ | exact mo_ushr_lt _ _ | exact mo_or_lt (by decide) (mo_and_lt (mo_rd_lt _ _)) | exact mo_or_lt (mo_shl_lt _ _) (mo_and_lt (mo_rd_lt _ _)))) sy_oks_nil)) rfl xl44) hC (by decide) (by rw [xl44]; decide) sy_refl) ?_
      replace hw := hw1
      refine sy_Fs (sx_iinc (c := 1) (z := 12) (ls' := [(2, pl 1, 0), (2, pl 28, 0), (0, 12, 0), (0, v, 0), (0, 0, 0), (0, v, 0), (0, 3, 0)]) xc42_98 rfl (by decide) (by rw [xl42]; rfl) rfl (by decide) rfl) ?_
      refine sy_Fs (sx_iinc (c := 4294967295) (z := 2) (ls' := [(2, pl 1, 0), (2, pl 28, 0), (0, 12, 0), (0, v, 0), (0, 0, 0), (0, v, 0), (0, 2, 0)]) xc42_101 rfl (by decide) (by rw [xl42]; rfl) rfl (by decide) rfl) ?_
      refine sy_Fs (sy_goto (pc' := 77) xc42_104 (by decide) (by decide) sy_refl) ?_
      exact e3 w B hab hw
    · skip
      refine sy_Fs (sy_icmpne_t (pc' := 98) xc42_90 (by decide) hz (and1_lt _) (by decide) (by decide) sy_refl) ?_
      refine sy_Fs (sx_iinc (c := 1) (z := 12) (ls' := [(2, pl 1, 0), (2, pl 28, 0), (0, 12, 0), (0, v, 0), (0, 0, 0), (0, v, 0), (0, 3, 0)]) xc42_98 rfl (by decide) (by rw [xl42]; rfl) rfl (by decide) rfl) ?_
      refine sy_Fs (sx_iinc (c := 4294967295) (z := 2) (ls' := [(2, pl 1, 0), (2, pl 28, 0), (0, 12, 0), (0, v, 0), (0, 0, 0), (0, v, 0), (0, 2, 0)]) xc42_101 rfl (by decide) (by rw [xl42]; rfl) rfl (by decide) rfl) ?_
      refine sy_Fs (sy_goto (pc' := 77) xc42_104 (by decide) (by decide) sy_refl) ?_
      exact e3 w B hab hw
  have e5 : ∀ (w : mv_T 10) (B : Nat), mv_ab B 0 32 = true → wh 30 pl w0 w [(0, 1, 13, X0), (0, 8, 11, X1), (3, 6, 40, cbs), (0, 9, 11, X3), (1, 1, 105, Hd), (1, 1, 32, Id), (1, 1, 128, Ids), (1, 1, 480, Ads), (1, 1, 32, B), (1, 1, 32, Dg), (0, 2, 13, X10), (1, 1, 64, Sp), (1, 0, 64, Sw), (1, 0, 8, Ss), (1, 1, 32, In), (1, 1, 32, Mk), (1, 0, 8, Is), (1, 0, 8, Os), (1, 0, 8, Ks), (1, 1, 64, Kp), (0, 9, 11, X20), (1, 1, 105, Bh), (1, 1, 32, Bd), (3, 7, 4, cps), (1, 1, 28, Mb), (1, 1, 32, Ti), (0, 10, 6, X26), (1, 0, 4, Pr), (1, 0, 1, Nu)] → sy_F 42 n 1 23 77 [(2, pl 1, 0), (2, pl 28, 0), (0, 10, 0), (0, v, 0), (0, 0, 0), (0, v, 0), (0, 4, 0)] [] w Q := by
    intro w B hab hw
    refine sy_Fs (sy_ild xc42_77 rfl rfl sy_refl) ?_
    refine sy_Fs (sy_iflt_f xc42_79 (by decide) (by decide) sy_refl) ?_
    refine sy_Fs (sy_ild xc42_82 rfl rfl sy_refl) ?_
    refine sy_Fs (sy_ild xc42_84 rfl rfl sy_refl) ?_
    refine sy_Fs (sx_ishr (z := (mo_shr v 4)) xc42_86 rfl) ?_
    refine sy_Fs (sy_iconst (v := 1) xc42_87 (by decide) sy_refl) ?_
    refine sy_Fs (sx_iand (z := (mo_and (mo_shr v 4) 1)) xc42_88 rfl) ?_
    refine sy_Fs (sy_iconst (v := 1) xc42_89 (by decide) sy_refl) ?_
    by_cases hz : (mo_and (mo_shr v 4) 1) = 1
    · skip
      refine sy_Fs (sy_icmpne_f xc42_90 (by decide) hz sy_refl) ?_
      refine sy_Fs (sy_aldn xc42_93 rfl rfl sy_refl) ?_
      refine sy_Fs (sy_ildn xc42_94 rfl rfl sy_refl) ?_
      obtain ⟨ret, w, ⟨rfl, B, hab, hw1⟩, hC⟩ := ch_sb10 (n := n) hw hX0 hX1 hX3 hX10 hX20 hX26 hab
      refine sy_Fs (sy_callG (kd := 3) (as := [(2, pl 1, 0), (0, 10, 0)]) (S0 := []) (ret := []) xc42_95 (sy_calV (as := [(2, pl 1, 0), (0, 10, 0)]) (S0 := []) xm42_225 rfl rfl) rfl rfl (sy_rcvm xi44 (wh_at hw 1 rfl)) rfl (sy_oka (sy_oks_cons (sy_ok2 (wh_lt hw 1 (by first | decide | assumption))) (sy_oks_cons (sy_ok0 (by first | decide | assumption | omega | exact mo_rd_lt _ _ | exact mo_add_lt _ _ | exact mo_sub_lt _ _ | exact mo_mul_lt _ _ | exact mo_shl_lt _ _ | exact mo_ushr_lt _ _ | exact mo_or_lt (by decide) (mo_and_lt (mo_rd_lt _ _)) | exact mo_or_lt (mo_shl_lt _ _) (mo_and_lt (mo_rd_lt _ _)))) sy_oks_nil)) rfl xl44) hC (by decide) (by rw [xl44]; decide) sy_refl) ?_
      replace hw := hw1
      refine sy_Fs (sx_iinc (c := 1) (z := 11) (ls' := [(2, pl 1, 0), (2, pl 28, 0), (0, 11, 0), (0, v, 0), (0, 0, 0), (0, v, 0), (0, 4, 0)]) xc42_98 rfl (by decide) (by rw [xl42]; rfl) rfl (by decide) rfl) ?_
      refine sy_Fs (sx_iinc (c := 4294967295) (z := 3) (ls' := [(2, pl 1, 0), (2, pl 28, 0), (0, 11, 0), (0, v, 0), (0, 0, 0), (0, v, 0), (0, 3, 0)]) xc42_101 rfl (by decide) (by rw [xl42]; rfl) rfl (by decide) rfl) ?_
      refine sy_Fs (sy_goto (pc' := 77) xc42_104 (by decide) (by decide) sy_refl) ?_
      exact e4 w B hab hw
    · skip
      refine sy_Fs (sy_icmpne_t (pc' := 98) xc42_90 (by decide) hz (and1_lt _) (by decide) (by decide) sy_refl) ?_
      refine sy_Fs (sx_iinc (c := 1) (z := 11) (ls' := [(2, pl 1, 0), (2, pl 28, 0), (0, 11, 0), (0, v, 0), (0, 0, 0), (0, v, 0), (0, 4, 0)]) xc42_98 rfl (by decide) (by rw [xl42]; rfl) rfl (by decide) rfl) ?_
      refine sy_Fs (sx_iinc (c := 4294967295) (z := 3) (ls' := [(2, pl 1, 0), (2, pl 28, 0), (0, 11, 0), (0, v, 0), (0, 0, 0), (0, v, 0), (0, 3, 0)]) xc42_101 rfl (by decide) (by rw [xl42]; rfl) rfl (by decide) rfl) ?_
      refine sy_Fs (sy_goto (pc' := 77) xc42_104 (by decide) (by decide) sy_refl) ?_
      exact e4 w B hab hw
  have e6 : ∀ (w : mv_T 10) (B : Nat), mv_ab B 0 32 = true → wh 30 pl w0 w [(0, 1, 13, X0), (0, 8, 11, X1), (3, 6, 40, cbs), (0, 9, 11, X3), (1, 1, 105, Hd), (1, 1, 32, Id), (1, 1, 128, Ids), (1, 1, 480, Ads), (1, 1, 32, B), (1, 1, 32, Dg), (0, 2, 13, X10), (1, 1, 64, Sp), (1, 0, 64, Sw), (1, 0, 8, Ss), (1, 1, 32, In), (1, 1, 32, Mk), (1, 0, 8, Is), (1, 0, 8, Os), (1, 0, 8, Ks), (1, 1, 64, Kp), (0, 9, 11, X20), (1, 1, 105, Bh), (1, 1, 32, Bd), (3, 7, 4, cps), (1, 1, 28, Mb), (1, 1, 32, Ti), (0, 10, 6, X26), (1, 0, 4, Pr), (1, 0, 1, Nu)] → sy_F 42 n 1 23 77 [(2, pl 1, 0), (2, pl 28, 0), (0, 9, 0), (0, v, 0), (0, 0, 0), (0, v, 0), (0, 5, 0)] [] w Q := by
    intro w B hab hw
    refine sy_Fs (sy_ild xc42_77 rfl rfl sy_refl) ?_
    refine sy_Fs (sy_iflt_f xc42_79 (by decide) (by decide) sy_refl) ?_
    refine sy_Fs (sy_ild xc42_82 rfl rfl sy_refl) ?_
    refine sy_Fs (sy_ild xc42_84 rfl rfl sy_refl) ?_
    refine sy_Fs (sx_ishr (z := (mo_shr v 5)) xc42_86 rfl) ?_
    refine sy_Fs (sy_iconst (v := 1) xc42_87 (by decide) sy_refl) ?_
    refine sy_Fs (sx_iand (z := (mo_and (mo_shr v 5) 1)) xc42_88 rfl) ?_
    refine sy_Fs (sy_iconst (v := 1) xc42_89 (by decide) sy_refl) ?_
    by_cases hz : (mo_and (mo_shr v 5) 1) = 1
    · skip
      refine sy_Fs (sy_icmpne_f xc42_90 (by decide) hz sy_refl) ?_
      refine sy_Fs (sy_aldn xc42_93 rfl rfl sy_refl) ?_
      refine sy_Fs (sy_ildn xc42_94 rfl rfl sy_refl) ?_
      obtain ⟨ret, w, ⟨rfl, B, hab, hw1⟩, hC⟩ := ch_sb9 (n := n) hw hX0 hX1 hX3 hX10 hX20 hX26 hab
      refine sy_Fs (sy_callG (kd := 3) (as := [(2, pl 1, 0), (0, 9, 0)]) (S0 := []) (ret := []) xc42_95 (sy_calV (as := [(2, pl 1, 0), (0, 9, 0)]) (S0 := []) xm42_225 rfl rfl) rfl rfl (sy_rcvm xi44 (wh_at hw 1 rfl)) rfl (sy_oka (sy_oks_cons (sy_ok2 (wh_lt hw 1 (by first | decide | assumption))) (sy_oks_cons (sy_ok0 (by first | decide | assumption | omega | exact mo_rd_lt _ _ | exact mo_add_lt _ _ | exact mo_sub_lt _ _ | exact mo_mul_lt _ _ | exact mo_shl_lt _ _ | exact mo_ushr_lt _ _ | exact mo_or_lt (by decide) (mo_and_lt (mo_rd_lt _ _)) | exact mo_or_lt (mo_shl_lt _ _) (mo_and_lt (mo_rd_lt _ _)))) sy_oks_nil)) rfl xl44) hC (by decide) (by rw [xl44]; decide) sy_refl) ?_
      replace hw := hw1
      refine sy_Fs (sx_iinc (c := 1) (z := 10) (ls' := [(2, pl 1, 0), (2, pl 28, 0), (0, 10, 0), (0, v, 0), (0, 0, 0), (0, v, 0), (0, 5, 0)]) xc42_98 rfl (by decide) (by rw [xl42]; rfl) rfl (by decide) rfl) ?_
      refine sy_Fs (sx_iinc (c := 4294967295) (z := 4) (ls' := [(2, pl 1, 0), (2, pl 28, 0), (0, 10, 0), (0, v, 0), (0, 0, 0), (0, v, 0), (0, 4, 0)]) xc42_101 rfl (by decide) (by rw [xl42]; rfl) rfl (by decide) rfl) ?_
      refine sy_Fs (sy_goto (pc' := 77) xc42_104 (by decide) (by decide) sy_refl) ?_
      exact e5 w B hab hw
    · skip
      refine sy_Fs (sy_icmpne_t (pc' := 98) xc42_90 (by decide) hz (and1_lt _) (by decide) (by decide) sy_refl) ?_
      refine sy_Fs (sx_iinc (c := 1) (z := 10) (ls' := [(2, pl 1, 0), (2, pl 28, 0), (0, 10, 0), (0, v, 0), (0, 0, 0), (0, v, 0), (0, 5, 0)]) xc42_98 rfl (by decide) (by rw [xl42]; rfl) rfl (by decide) rfl) ?_
      refine sy_Fs (sx_iinc (c := 4294967295) (z := 4) (ls' := [(2, pl 1, 0), (2, pl 28, 0), (0, 10, 0), (0, v, 0), (0, 0, 0), (0, v, 0), (0, 4, 0)]) xc42_101 rfl (by decide) (by rw [xl42]; rfl) rfl (by decide) rfl) ?_
      refine sy_Fs (sy_goto (pc' := 77) xc42_104 (by decide) (by decide) sy_refl) ?_
      exact e5 w B hab hw
  refine sy_Fs (sy_aldn xc42_0 rfl rfl sy_refl) ?_
  refine sy_Fs (sy_gf xc42_1 xf42_30 rfl (wh_at hw 1 rfl) rfl (fh_at hX1 7 rfl rfl) sy_refl) ?_
  refine sy_Fs (sy_iconst (v := 0) xc42_4 (by decide) sy_refl) ?_
  obtain ⟨ret, w, ⟨rfl, hw1⟩, hC⟩ := ch_fill (n := n) hw hX0 hX1 hX3 hX10 hX20 hX26
  refine sy_Fs (sy_callG (kd := 1) (as := [(2, pl 8, 0), (0, 0, 0)]) (S0 := []) (ret := []) xc42_5 (sy_calS (as := [(2, pl 8, 0), (0, 0, 0)]) (S0 := []) xm42_221 rfl rfl) rfl rfl rfl rfl (sy_oka (sy_oks_cons (sy_ok2 (wh_lt hw 8 (by first | decide | assumption))) (sy_oks_cons (sy_ok0 (by first | decide | assumption | omega | exact mo_rd_lt _ _ | exact mo_add_lt _ _ | exact mo_sub_lt _ _ | exact mo_mul_lt _ _ | exact mo_shl_lt _ _ | exact mo_ushr_lt _ _ | exact mo_or_lt (by decide) (mo_and_lt (mo_rd_lt _ _)) | exact mo_or_lt (mo_shl_lt _ _) (mo_and_lt (mo_rd_lt _ _)))) sy_oks_nil)) rfl xl43) hC (by decide) (by rw [xl43]; decide) sy_refl) ?_
  replace hw := hw1
  refine sy_Fs (sy_aldn xc42_8 rfl rfl sy_refl) ?_
  refine sy_Fs (sy_gf xc42_9 xf42_30 rfl (wh_at hw 1 rfl) rfl (fh_at hX1 7 rfl rfl) sy_refl) ?_
  refine sy_Fs (sy_iconst (v := 0) xc42_12 (by decide) sy_refl) ?_
  refine sy_Fs (sy_aldn xc42_13 rfl rfl sy_refl) ?_
  refine sy_Fs (sy_alen xc42_14 (wh_at hw 28 rfl) rfl sy_refl) ?_
  refine sy_Fs (sx_i2b (z := 4294967297) xc42_15 (by decide)) ?_
  refine sy_Fw (i := 8) (x := (1, 1, 32, (mv_wr 32 (fzz Br 32) 0 (mn_b 4294967297)))) hw (by decide) (sy_bas (i := 0) xc42_16 (wh_at hw 8 rfl) rfl (by decide) (by decide) rfl sy_refl) ?_
  intro w hw
  simp only [List.set_cons_zero, List.set_cons_succ] at hw
  refine sy_Fs (sy_bipush (v := 8) xc42_17 (by decide) (by decide) sy_refl) ?_
  refine sy_Fs (sx_istn (j := 2) (ls' := [(2, pl 1, 0), (2, pl 28, 0), (0, 8, 0), (255, 0, 0), (255, 0, 0), (255, 0, 0), (255, 0, 0)]) xc42_19 rfl rfl (sy_ok0 (by first | decide | assumption | omega | exact mo_rd_lt _ _ | exact mo_add_lt _ _ | exact mo_sub_lt _ _ | exact mo_mul_lt _ _ | exact mo_shl_lt _ _ | exact mo_ushr_lt _ _ | exact mo_or_lt (by decide) (mo_and_lt (mo_rd_lt _ _)) | exact mo_or_lt (mo_shl_lt _ _) (mo_and_lt (mo_rd_lt _ _)))) (by rw [xl42]; rfl) rfl rfl) ?_
  refine sy_Fs (sy_iconst (v := 0) xc42_20 (by decide) sy_refl) ?_
  refine sy_Fs (sx_istn (j := 3) (ls' := [(2, pl 1, 0), (2, pl 28, 0), (0, 8, 0), (0, 0, 0), (255, 0, 0), (255, 0, 0), (255, 0, 0)]) xc42_21 rfl rfl (sy_ok0 (by first | decide | assumption | omega | exact mo_rd_lt _ _ | exact mo_add_lt _ _ | exact mo_sub_lt _ _ | exact mo_mul_lt _ _ | exact mo_shl_lt _ _ | exact mo_ushr_lt _ _ | exact mo_or_lt (by decide) (mo_and_lt (mo_rd_lt _ _)) | exact mo_or_lt (mo_shl_lt _ _) (mo_and_lt (mo_rd_lt _ _)))) (by rw [xl42]; rfl) rfl rfl) ?_
  refine sy_Fs (sy_iconst (v := 0) xc42_22 (by decide) sy_refl) ?_
  refine sy_Fs (sx_ist (j := 4) (ls' := [(2, pl 1, 0), (2, pl 28, 0), (0, 8, 0), (0, 0, 0), (0, 0, 0), (255, 0, 0), (255, 0, 0)]) xc42_23 rfl (sy_ok0 (by first | decide | assumption | omega | exact mo_rd_lt _ _ | exact mo_add_lt _ _ | exact mo_sub_lt _ _ | exact mo_mul_lt _ _ | exact mo_shl_lt _ _ | exact mo_ushr_lt _ _ | exact mo_or_lt (by decide) (mo_and_lt (mo_rd_lt _ _)) | exact mo_or_lt (mo_shl_lt _ _) (mo_and_lt (mo_rd_lt _ _)))) (by rw [xl42]; rfl) rfl rfl) ?_
  refine sy_Fs (sy_ild xc42_25 rfl rfl sy_refl) ?_
  refine sy_Fs (sy_aldn xc42_27 rfl rfl sy_refl) ?_
  refine sy_Fs (sy_alen xc42_28 (wh_at hw 28 rfl) rfl sy_refl) ?_
  refine sy_Fs (sy_ge_f xc42_29 (by decide) (by decide) (by decide) sy_refl) ?_
  refine sy_Fs (sy_aldn xc42_32 rfl rfl sy_refl) ?_
  refine sy_Fs (sy_ild xc42_33 rfl rfl sy_refl) ?_
  refine sy_Fs (sx_ial (z := v) xc42_35 (wh_at hw 28 rfl) (by decide) (by decide) hnu) ?_
  refine sy_Fs (sy_ildn xc42_36 rfl rfl sy_refl) ?_
  refine sy_Fs (sx_isub (z := v) xc42_37 (mo_sub_0 hv)) ?_
  refine sy_Fs (sx_ist (j := 5) (ls' := [(2, pl 1, 0), (2, pl 28, 0), (0, 8, 0), (0, 0, 0), (0, 0, 0), (0, v, 0), (255, 0, 0)]) xc42_38 rfl (sy_ok0 (by first | decide | assumption | omega | exact mo_rd_lt _ _ | exact mo_add_lt _ _ | exact mo_sub_lt _ _ | exact mo_mul_lt _ _ | exact mo_shl_lt _ _ | exact mo_ushr_lt _ _ | exact mo_or_lt (by decide) (mo_and_lt (mo_rd_lt _ _)) | exact mo_or_lt (mo_shl_lt _ _) (mo_and_lt (mo_rd_lt _ _)))) (by rw [xl42]; rfl) rfl rfl) ?_
  refine sy_Fs (sy_aldn xc42_40 rfl rfl sy_refl) ?_
  refine sy_Fs (sy_ild xc42_41 rfl rfl sy_refl) ?_
  refine sy_Fs (sx_ial (z := v) xc42_43 (wh_at hw 28 rfl) (by decide) (by decide) hnu) ?_
  refine sy_Fs (sx_istn (j := 3) (ls' := [(2, pl 1, 0), (2, pl 28, 0), (0, 8, 0), (0, v, 0), (0, 0, 0), (0, v, 0), (255, 0, 0)]) xc42_44 rfl rfl (sy_ok0 (by first | decide | assumption | omega | exact mo_rd_lt _ _ | exact mo_add_lt _ _ | exact mo_sub_lt _ _ | exact mo_mul_lt _ _ | exact mo_shl_lt _ _ | exact mo_ushr_lt _ _ | exact mo_or_lt (by decide) (mo_and_lt (mo_rd_lt _ _)) | exact mo_or_lt (mo_shl_lt _ _) (mo_and_lt (mo_rd_lt _ _)))) (by rw [xl42]; rfl) rfl rfl) ?_
  refine sy_Fs (sy_ild xc42_45 rfl rfl sy_refl) ?_
  refine sy_Fs (sy_bipush (v := 64) xc42_47 (by decide) (by decide) sy_refl) ?_
  refine sy_Fs (sx_idiv (z := 0) xc42_49 (pn_ok hv) (pn_div hv)) ?_
  refine sy_Fs (sx_ist (j := 6) (ls' := [(2, pl 1, 0), (2, pl 28, 0), (0, 8, 0), (0, v, 0), (0, 0, 0), (0, v, 0), (0, 0, 0)]) xc42_50 rfl (sy_ok0 (by first | decide | assumption | omega | exact mo_rd_lt _ _ | exact mo_add_lt _ _ | exact mo_sub_lt _ _ | exact mo_mul_lt _ _ | exact mo_shl_lt _ _ | exact mo_ushr_lt _ _ | exact mo_or_lt (by decide) (mo_and_lt (mo_rd_lt _ _)) | exact mo_or_lt (mo_shl_lt _ _) (mo_and_lt (mo_rd_lt _ _)))) (by rw [xl42]; rfl) rfl rfl) ?_
  refine sy_Fs (sy_ild xc42_52 rfl rfl sy_refl) ?_
  refine sy_Fs (sy_le_t (pc' := 71) xc42_54 (by decide)  (by decide) sy_refl) ?_
  refine sy_Fs (sx_iinc (c := 1) (z := 9) (ls' := [(2, pl 1, 0), (2, pl 28, 0), (0, 9, 0), (0, v, 0), (0, 0, 0), (0, v, 0), (0, 0, 0)]) xc42_71 rfl (by decide) (by rw [xl42]; rfl) rfl (by decide) rfl) ?_
  refine sy_Fs (sy_iconst (v := 5) xc42_74 (by decide) sy_refl) ?_
  refine sy_Fs (sx_ist (j := 6) (ls' := [(2, pl 1, 0), (2, pl 28, 0), (0, 9, 0), (0, v, 0), (0, 0, 0), (0, v, 0), (0, 5, 0)]) xc42_75 rfl (sy_ok0 (by first | decide | assumption | omega | exact mo_rd_lt _ _ | exact mo_add_lt _ _ | exact mo_sub_lt _ _ | exact mo_mul_lt _ _ | exact mo_shl_lt _ _ | exact mo_ushr_lt _ _ | exact mo_or_lt (by decide) (mo_and_lt (mo_rd_lt _ _)) | exact mo_or_lt (mo_shl_lt _ _) (mo_and_lt (mo_rd_lt _ _)))) (by rw [xl42]; rfl) rfl rfl) ?_
  exact e6 w _ (ab_wr (fzz_ab Br)) hw
theorem ch_co (hw : wh 30 pl w0 w [(0, 1, 13, X0), (0, 8, 11, X1), (3, 6, 40, cbs), (0, 9, 11, X3), (1, 1, 105, Hd), (1, 1, 32, Id), (1, 1, 128, Ids), (1, 1, 480, Ads), (1, 1, 32, Br), (1, 1, 32, Dg), (0, 2, 13, X10), (1, 1, 64, Sp), (1, 0, 64, Sw), (1, 0, 8, Ss), (1, 1, 32, In), (1, 1, 32, Mk), (1, 0, 8, Is), (1, 0, 8, Os), (1, 0, 8, Ks), (1, 1, 64, Kp), (0, 9, 11, X20), (1, 1, 105, Bh), (1, 1, 32, Bd), (3, 7, 4, cps), (1, 1, 28, Mb), (1, 1, 32, Ti), (0, 10, 6, X26), (1, 0, 4, Pr), (1, 0, 1, Nu)]) (hX0 : fh X0 kX [(2, pl 1, 0), (0, 0, 0)]) (hX1 : fh X1 kM [(0, 1, 0), (2, pl 2, 0), (0, 0, 0), (2, pl 10, 0), (2, pl 6, 0), (2, pl 7, 0), (0, ac, 0), (2, pl 8, 0), (2, pl 9, 0)]) (hX3 : fh X3 kB [(2, pl 5, 0), (2, pl 4, 0), (0, 0, 0), (0, 4, 0), (3, 0, 0)]) (hX10 : fh X10 kS [(2, pl 11, 0), (2, pl 12, 0), (2, pl 13, 0), (2, pl 14, 0), (0, su, 0), (0, sl, 0), (2, pl 15, 0), (2, pl 16, 0), (2, pl 17, 0), (0, 1, 0), (2, pl 18, 0), (2, pl 19, 0), (0, kl, 0)]) (hX20 : fh X20 kN [(2, pl 3, 0), (0, 1, 0), (0, 1, 0), (0, wk, 0), (2, pl 21, 0), (2, pl 22, 0), (2, pl 23, 0), (0, 1, 0), (3, 0, 0), (0, 2, 0), (2, pl 28, 0)]) (hX26 : fh X26 kP [(2, pl 24, 0), (0, 0, 0), (0, 1, 0), (0, 28, 0), (2, pl 25, 0), (2, pl 27, 0)]) (hp20 : pl 20 + 1 = pl 21) (hp21 : pl 21 + 1 = pl 22) (hp22 : pl 22 + 1 = pl 23) (hp23 : pl 23 + 1 = pl 24) (hp24 : pl 24 + 1 = pl 25) (hp25 : pl 25 + 1 = pl 26) (hp26 : pl 26 + 1 = pl 27) (hp27 : pl 27 + 1 = pl 28) (hp28 : pl 28 + 1 = pl 29) (hp29 : pl 29 + 1 = pl 30) (hab : mv_ab Br 0 32 = true) : ∃ ret n' w' dc ds, (ret = [(2, pl 29, 0)] ∧ n' = pl 30 ∧ dc = 1 ∧ ds = 2 ∧ ∃ Y29 : Nat, wh 30 pl w0 w' [(0, 1, 13, X0), (0, 8, 11, X1), (3, 6, 40, cbs), (0, 9, 11, X3), (1, 1, 105, Hd), (1, 1, 32, Id), (1, 1, 128, Ids), (1, 1, 480, Ads), (1, 1, 32, Br), (1, 1, 32, Dg), (0, 2, 13, X10), (1, 1, 64, Sp), (1, 0, 64, Sw), (1, 0, 8, Ss), (1, 1, 32, In), (1, 1, 32, Mk), (1, 0, 8, Is), (1, 0, 8, Os), (1, 0, 8, Ks), (1, 1, 64, Kp), (0, 9, 11, X20), (1, 1, 105, Bh), (1, 1, 32, Bd), (3, 7, 4, cps), (1, 1, 28, Mb), (1, 1, 32, Ti), (0, 10, 6, X26), (1, 0, 4, Pr), (1, 0, 1, Nu), (1, 1, 2, Y29)]) ∧ sy_B 45 (pl 29) 1 22 [(2, pl 8, 0), (0, 2, 0)] w ret n' w' dc ds := by
  have key : sy_A 45 (pl 29) 1 22 0 [(2, pl 8, 0), (0, 2, 0), (255, 0, 0)] [] w (fun ret n' w' dc ds => ret = [(2, pl 29, 0)] ∧ n' = pl 30 ∧ dc = 1 ∧ ds = 2 ∧ ∃ Y29 : Nat, wh 30 pl w0 w' [(0, 1, 13, X0), (0, 8, 11, X1), (3, 6, 40, cbs), (0, 9, 11, X3), (1, 1, 105, Hd), (1, 1, 32, Id), (1, 1, 128, Ids), (1, 1, 480, Ads), (1, 1, 32, Br), (1, 1, 32, Dg), (0, 2, 13, X10), (1, 1, 64, Sp), (1, 0, 64, Sw), (1, 0, 8, Ss), (1, 1, 32, In), (1, 1, 32, Mk), (1, 0, 8, Is), (1, 0, 8, Os), (1, 0, 8, Ks), (1, 1, 64, Kp), (0, 9, 11, X20), (1, 1, 105, Bh), (1, 1, 32, Bd), (3, 7, 4, cps), (1, 1, 28, Mb), (1, 1, 32, Ti), (0, 10, 6, X26), (1, 0, 4, Pr), (1, 0, 1, Nu), (1, 1, 2, Y29)]) := by
    refine sy_As (sy_ildn xc45_0 rfl rfl sy_refl) ?_
    refine sy_As (sy_aldn xc45_1 rfl rfl sy_refl) ?_
    refine sy_As (sy_alen xc45_2 (wh_at hw 8 rfl) rfl sy_refl) ?_
    refine sy_As (sy_icmpne_t (pc' := 14) xc45_3 (by decide) (by decide) (by decide) (by decide) (by decide) sy_refl) ?_
    refine sy_As (sy_ildn xc45_14 rfl rfl sy_refl) ?_
    refine ap_b (K := 29) hw rfl (by decide) hp29 xc45_15 (by decide) ?_
    intro w hw
    simp only [List.cons_append, List.nil_append] at hw
    refine sy_As (sx_astn (j := 2) (ls' := [(2, pl 8, 0), (0, 2, 0), (2, pl 29, 0)]) xc45_17 rfl rfl (sy_ok2 (wh_lt hw 29 (by first | decide | assumption))) (by rw [xl45]; rfl) rfl rfl) ?_
    refine sy_As (sy_aldn xc45_18 rfl rfl sy_refl) ?_
    refine sy_As (sy_iconst (v := 0) xc45_19 (by decide) sy_refl) ?_
    refine sy_As (sy_aldn xc45_20 rfl rfl sy_refl) ?_
    refine sy_As (sy_iconst (v := 0) xc45_21 (by decide) sy_refl) ?_
    refine sy_As (sy_aldn xc45_22 rfl rfl sy_refl) ?_
    refine sy_As (sy_alen xc45_23 (wh_at hw 8 rfl) rfl sy_refl) ?_
    refine sy_As (sy_ildn xc45_24 rfl rfl sy_refl) ?_
    refine sy_As (sy_call8 (as := [(0, 32, 0), (0, 2, 0)]) (S0 := [(0, 0, 0), (2, pl 29, 0), (0, 0, 0), (2, pl 8, 0)]) (S' := [(0, 2, 0), (0, 0, 0), (2, pl 29, 0), (0, 0, 0), (2, pl 8, 0)]) xc45_25 (sy_calS (as := [(0, 32, 0), (0, 2, 0)]) (S0 := [(0, 0, 0), (2, pl 29, 0), (0, 0, 0), (2, pl 8, 0)]) xm45_304 rfl rfl) rfl (by decide) (by show 22 ≤ _; decide) sy_refl) ?_
    refine sy_Aw (i := 29) (x := (1, 1, 2, (mv_cw 32 0 Br 0 0 2))) hw (by decide) (sy_call8 (as := [(2, pl 8, 0), (0, 0, 0), (2, pl 29, 0), (0, 0, 0), (0, 2, 0)]) (S0 := []) xc45_28 (sy_calS (as := [(2, pl 8, 0), (0, 0, 0), (2, pl 29, 0), (0, 0, 0), (0, 2, 0)]) (S0 := []) xm45_150 rfl rfl) (sy_cpb (wh_at hw 8 rfl) (wh_at hw 29 rfl) (by first | decide | assumption | omega) (by first | decide | assumption | omega) (by first | decide | assumption | omega) (by first | decide | assumption | omega) (ab_less hab (by decide))) (by decide) (by decide) sy_refl) ?_
    intro w hw
    simp only [List.set_cons_zero, List.set_cons_succ] at hw
    refine sy_As (sy_aldn xc45_31 rfl rfl sy_refl) ?_
    exact sy_Aa xc45_32 xr45 rfl ⟨rfl, rfl, rfl, rfl, _, hw⟩
  exact sy_Aof (us := [(255, 0, 0)]) (sy_oks_cons (sy_ok2 (wh_lt hw 8 (by first | decide | assumption))) (sy_oks_cons (sy_ok0 (by first | decide | assumption | omega | exact mo_rd_lt _ _ | exact mo_add_lt _ _ | exact mo_sub_lt _ _ | exact mo_mul_lt _ _ | exact mo_shl_lt _ _ | exact mo_ushr_lt _ _ | exact mo_or_lt (by decide) (mo_and_lt (mo_rd_lt _ _)) | exact mo_or_lt (mo_shl_lt _ _) (mo_and_lt (mo_rd_lt _ _)))) sy_oks_nil)) rfl rfl key
theorem ch_mf (hw : wh 30 pl w0 w [(0, 1, 13, X0), (0, 8, 11, X1), (3, 6, 40, cbs), (0, 9, 11, X3), (1, 1, 105, Hd), (1, 1, 32, Id), (1, 1, 128, Ids), (1, 1, 480, Ads), (1, 1, 32, Br), (1, 1, 32, Dg), (0, 2, 13, X10), (1, 1, 64, Sp), (1, 0, 64, Sw), (1, 0, 8, Ss), (1, 1, 32, In), (1, 1, 32, Mk), (1, 0, 8, Is), (1, 0, 8, Os), (1, 0, 8, Ks), (1, 1, 64, Kp), (0, 9, 11, X20), (1, 1, 105, Bh), (1, 1, 32, Bd), (3, 7, 4, cps), (1, 1, 28, Mb), (1, 1, 32, Ti), (0, 10, 6, X26), (1, 0, 4, Pr)]) (hX0 : fh X0 kX [(2, pl 1, 0), (0, 0, 0)]) (hX1 : fh X1 kM [(0, 1, 0), (2, pl 2, 0), (0, 0, 0), (2, pl 10, 0), (2, pl 6, 0), (2, pl 7, 0), (0, ac, 0), (2, pl 8, 0), (2, pl 9, 0)]) (hX3 : fh X3 kB [(2, pl 5, 0), (2, pl 4, 0), (0, 0, 0), (0, 4, 0), (3, 0, 0)]) (hX10 : fh X10 kS [(2, pl 11, 0), (2, pl 12, 0), (2, pl 13, 0), (2, pl 14, 0), (0, su, 0), (0, sl, 0), (2, pl 15, 0), (2, pl 16, 0), (2, pl 17, 0), (0, 1, 0), (2, pl 18, 0), (2, pl 19, 0), (0, kl, 0)]) (hX20 : fh X20 kN [(2, pl 3, 0), (0, 1, 0), (0, 1, 0), (0, wk, 0), (2, pl 21, 0), (2, pl 22, 0), (2, pl 23, 0), (0, 1, 0), (3, 0, 0), (0, 0, 0), (3, 0, 0)]) (hX26 : fh X26 kP [(2, pl 24, 0), (0, 0, 0), (0, 1, 0), (0, 28, 0), (2, pl 25, 0), (2, pl 27, 0)]) (hp20 : pl 20 + 1 = pl 21) (hp21 : pl 21 + 1 = pl 22) (hp22 : pl 22 + 1 = pl 23) (hp23 : pl 23 + 1 = pl 24) (hp24 : pl 24 + 1 = pl 25) (hp25 : pl 25 + 1 = pl 26) (hp26 : pl 26 + 1 = pl 27) (hp27 : pl 27 + 1 = pl 28) (hp28 : pl 28 + 1 = pl 29) (hp29 : pl 29 + 1 = pl 30) (hcps : mv_rd 32 cps 0 = pl 26 + 1) (hmb : mv_ab Mb 8 20 = true) (hne : mv_rd 32 Mk 0 ≠ mv_rd 32 Bh 0) (hsu : su < 64) (hsl : sl < 4294967296) : ∃ ret n' w' dc ds, (ret = [] ∧ n' = pl 30 ∧ dc = 2 ∧ ds = 3 ∧ ∃ Z1 Z7 Z8 Z10 Z11 Z12 Z13 Z14 Z15 Z16 Z17 Z20 Z28 Z29 zu zl : Nat, (zu < 64 ∧ zl < 4294967296) ∧ wh 30 pl w0 w' [(0, 1, 13, X0), (0, 8, 11, Z1), (3, 6, 40, cbs), (0, 9, 11, X3), (1, 1, 105, Hd), (1, 1, 32, Id), (1, 1, 128, Ids), (1, 1, 480, Z7), (1, 1, 32, Z8), (1, 1, 32, Dg), (0, 2, 13, Z10), (1, 1, 64, Z11), (1, 0, 64, Z12), (1, 0, 8, Z13), (1, 1, 32, Z14), (1, 1, 32, Z15), (1, 0, 8, Z16), (1, 0, 8, Z17), (1, 0, 8, Ks), (1, 1, 64, Kp), (0, 9, 11, Z20), (1, 1, 105, Bh), (1, 1, 32, Bd), (3, 7, 4, cps), (1, 1, 28, Mb), (1, 1, 32, Ti), (0, 10, 6, X26), (1, 0, 4, Pr), (1, 0, 1, Z28), (1, 1, 2, Z29)] ∧ fh Z1 kM [(0, 1, 0), (2, pl 2, 0), (0, 0, 0), (2, pl 10, 0), (2, pl 6, 0), (2, pl 7, 0), (0, 1, 0), (2, pl 8, 0), (2, pl 9, 0)] ∧ fh Z10 kS [(2, pl 11, 0), (2, pl 12, 0), (2, pl 13, 0), (2, pl 14, 0), (0, zu, 0), (0, zl, 0), (2, pl 15, 0), (2, pl 16, 0), (2, pl 17, 0), (0, 1, 0), (2, pl 18, 0), (2, pl 19, 0), (0, kl, 0)] ∧ fh Z20 kN [(2, pl 3, 0), (0, 1, 0), (0, 1, 0), (0, wk, 0), (2, pl 21, 0), (2, pl 22, 0), (2, pl 23, 0), (0, 1, 0), (2, pl 29, 0), (0, 2, 0), (2, pl 28, 0)]) ∧ sy_B 31 (pl 28) 5 114 [(2, pl 1, 0), (2, pl 20, 0)] w ret n' w' dc ds := by
  have key : sy_A 31 (pl 28) 5 114 0 [(2, pl 1, 0), (2, pl 20, 0), (255, 0, 0), (255, 0, 0), (255, 0, 0), (255, 0, 0), (255, 0, 0), (255, 0, 0)] [] w (fun ret n' w' dc ds => ret = [] ∧ n' = pl 30 ∧ dc = 2 ∧ ds = 3 ∧ ∃ Z1 Z7 Z8 Z10 Z11 Z12 Z13 Z14 Z15 Z16 Z17 Z20 Z28 Z29 zu zl : Nat, (zu < 64 ∧ zl < 4294967296) ∧ wh 30 pl w0 w' [(0, 1, 13, X0), (0, 8, 11, Z1), (3, 6, 40, cbs), (0, 9, 11, X3), (1, 1, 105, Hd), (1, 1, 32, Id), (1, 1, 128, Ids), (1, 1, 480, Z7), (1, 1, 32, Z8), (1, 1, 32, Dg), (0, 2, 13, Z10), (1, 1, 64, Z11), (1, 0, 64, Z12), (1, 0, 8, Z13), (1, 1, 32, Z14), (1, 1, 32, Z15), (1, 0, 8, Z16), (1, 0, 8, Z17), (1, 0, 8, Ks), (1, 1, 64, Kp), (0, 9, 11, Z20), (1, 1, 105, Bh), (1, 1, 32, Bd), (3, 7, 4, cps), (1, 1, 28, Mb), (1, 1, 32, Ti), (0, 10, 6, X26), (1, 0, 4, Pr), (1, 0, 1, Z28), (1, 1, 2, Z29)] ∧ fh Z1 kM [(0, 1, 0), (2, pl 2, 0), (0, 0, 0), (2, pl 10, 0), (2, pl 6, 0), (2, pl 7, 0), (0, 1, 0), (2, pl 8, 0), (2, pl 9, 0)] ∧ fh Z10 kS [(2, pl 11, 0), (2, pl 12, 0), (2, pl 13, 0), (2, pl 14, 0), (0, zu, 0), (0, zl, 0), (2, pl 15, 0), (2, pl 16, 0), (2, pl 17, 0), (0, 1, 0), (2, pl 18, 0), (2, pl 19, 0), (0, kl, 0)] ∧ fh Z20 kN [(2, pl 3, 0), (0, 1, 0), (0, 1, 0), (0, wk, 0), (2, pl 21, 0), (2, pl 22, 0), (2, pl 23, 0), (0, 1, 0), (2, pl 29, 0), (0, 2, 0), (2, pl 28, 0)]) := by
    refine sy_As (sy_aldn xc31_0 rfl rfl sy_refl) ?_
    refine sy_As (sy_iconst (v := 0) xc31_1 (by decide) sy_refl) ?_
    refine sy_Af (i := 1) (q := 6) (v := (0, 0, 0)) hw hX1 (by decide) (by decide) rfl (sy_ok0 (by first | decide | assumption | omega | exact mo_rd_lt _ _ | exact mo_add_lt _ _ | exact mo_sub_lt _ _ | exact mo_mul_lt _ _ | exact mo_shl_lt _ _ | exact mo_ushr_lt _ _ | exact mo_or_lt (by decide) (mo_and_lt (mo_rd_lt _ _)) | exact mo_or_lt (mo_shl_lt _ _) (mo_and_lt (mo_rd_lt _ _)))) (sx_pf xc31_2 xf31_194 rfl (xg_int xt8_8) xh31_194 (wh_at hw 1 rfl) rfl (sy_ok0 (by first | decide | assumption | omega | exact mo_rd_lt _ _ | exact mo_add_lt _ _ | exact mo_sub_lt _ _ | exact mo_mul_lt _ _ | exact mo_shl_lt _ _ | exact mo_ushr_lt _ _ | exact mo_or_lt (by decide) (mo_and_lt (mo_rd_lt _ _)) | exact mo_or_lt (mo_shl_lt _ _) (mo_and_lt (mo_rd_lt _ _)))) rfl sy_refl) ?_
    intro w X1 hw hX1
    simp only [List.set_cons_zero, List.set_cons_succ] at hw hX1
    refine sy_As (sy_iconst (v := 0) xc31_5 (by decide) sy_refl) ?_
    refine sy_As (sx_istn (j := 2) (ls' := [(2, pl 1, 0), (2, pl 20, 0), (0, 0, 0), (255, 0, 0), (255, 0, 0), (255, 0, 0), (255, 0, 0), (255, 0, 0)]) xc31_6 rfl rfl (sy_ok0 (by first | decide | assumption | omega | exact mo_rd_lt _ _ | exact mo_add_lt _ _ | exact mo_sub_lt _ _ | exact mo_mul_lt _ _ | exact mo_shl_lt _ _ | exact mo_ushr_lt _ _ | exact mo_or_lt (by decide) (mo_and_lt (mo_rd_lt _ _)) | exact mo_or_lt (mo_shl_lt _ _) (mo_and_lt (mo_rd_lt _ _)))) (by rw [xl31]; rfl) rfl rfl) ?_
    refine sy_As (sy_ildn xc31_7 rfl rfl sy_refl) ?_
    refine sy_As (sy_aldn xc31_8 rfl rfl sy_refl) ?_
    refine sy_As (sy_gf xc31_9 xf31_81 rfl (wh_at hw 20 rfl) rfl (fh_at hX20 7 rfl rfl) sy_refl) ?_
    refine sy_As (sy_ge_f xc31_12 (by decide) (by decide) (by decide) sy_refl) ?_
    refine sy_As (sy_aldn xc31_15 rfl rfl sy_refl) ?_
    refine sy_As (sy_gf xc31_16 xf31_115 rfl (wh_at hw 20 rfl) rfl (fh_at hX20 6 rfl rfl) sy_refl) ?_
    refine sy_As (sy_ildn xc31_19 rfl rfl sy_refl) ?_
    refine sy_As (sy_aald (i := 0) xc31_20 (wh_at hw 23 rfl) cg_tP rfl (by decide) (by decide) hcps sy_refl) ?_
    refine sy_As (sx_astn (j := 3) (ls' := [(2, pl 1, 0), (2, pl 20, 0), (0, 0, 0), (2, pl 26, 0), (255, 0, 0), (255, 0, 0), (255, 0, 0), (255, 0, 0)]) xc31_21 rfl rfl (sy_ok2 (wh_lt hw 26 (by first | decide | assumption))) (by rw [xl31]; rfl) rfl rfl) ?_
    refine sy_As (sy_iconst (v := 0) xc31_22 (by decide) sy_refl) ?_
    refine sy_As (sx_ist (j := 4) (ls' := [(2, pl 1, 0), (2, pl 20, 0), (0, 0, 0), (2, pl 26, 0), (0, 0, 0), (255, 0, 0), (255, 0, 0), (255, 0, 0)]) xc31_23 rfl (sy_ok0 (by first | decide | assumption | omega | exact mo_rd_lt _ _ | exact mo_add_lt _ _ | exact mo_sub_lt _ _ | exact mo_mul_lt _ _ | exact mo_shl_lt _ _ | exact mo_ushr_lt _ _ | exact mo_or_lt (by decide) (mo_and_lt (mo_rd_lt _ _)) | exact mo_or_lt (mo_shl_lt _ _) (mo_and_lt (mo_rd_lt _ _)))) (by rw [xl31]; rfl) rfl rfl) ?_
    refine sy_As (sy_ild xc31_25 rfl rfl sy_refl) ?_
    refine sy_As (sy_aldn xc31_27 rfl rfl sy_refl) ?_
    refine sy_As (sy_gf xc31_28 xf31_162 rfl (wh_at hw 26 rfl) rfl (fh_at hX26 2 rfl rfl) sy_refl) ?_
    refine sy_As (sy_ge_f xc31_31 (by decide) (by decide) (by decide) sy_refl) ?_
    refine sy_As (sy_aldn xc31_34 rfl rfl sy_refl) ?_
    refine sy_As (sy_aldn xc31_35 rfl rfl sy_refl) ?_
    refine sy_As (sy_gf xc31_36 xf31_152 rfl (wh_at hw 26 rfl) rfl (fh_at hX26 0 rfl rfl) sy_refl) ?_
    refine sy_As (sy_aldn xc31_39 rfl rfl sy_refl) ?_
    refine sy_As (sy_ild xc31_40 rfl rfl sy_refl) ?_
    refine sy_As (sy_callG (kd := 3) (as := [(2, pl 26, 0), (0, 0, 0)]) (S0 := [(2, pl 24, 0), (2, pl 1, 0)]) (ret := [(0, 8, 0)]) xc31_42 (sy_calV (as := [(2, pl 26, 0), (0, 0, 0)]) (S0 := [(2, pl 24, 0), (2, pl 1, 0)]) xm31_175 rfl rfl) rfl rfl (sy_rcvm xi32 (wh_at hw 26 rfl)) rfl (sy_oka (sy_oks_cons (sy_ok2 (wh_lt hw 26 (by first | decide | assumption))) (sy_oks_cons (sy_ok0 (by first | decide | assumption | omega | exact mo_rd_lt _ _ | exact mo_add_lt _ _ | exact mo_sub_lt _ _ | exact mo_mul_lt _ _ | exact mo_shl_lt _ _ | exact mo_ushr_lt _ _ | exact mo_or_lt (by decide) (mo_and_lt (mo_rd_lt _ _)) | exact mo_or_lt (mo_shl_lt _ _) (mo_and_lt (mo_rd_lt _ _)))) sy_oks_nil)) rfl xl32) (sy_Cw (ch_aa (n := pl 28) hw hX0 hX1 hX3 hX10 hX20 hX26)) (by decide) (by rw [xl32]; decide) sy_refl) ?_
    obtain ⟨ret, w, ⟨rfl, X1, Y7, hw1, hX1x⟩, hC⟩ := ch_ga (n := pl 28) hw hX0 hX1 hX3 hX10 hX20 hX26 hmb
    refine sy_As (sy_callG (kd := 3) (as := [(2, pl 1, 0), (2, pl 24, 0), (0, 8, 0)]) (S0 := []) (ret := []) xc31_45 (sy_calV (as := [(2, pl 1, 0), (2, pl 24, 0), (0, 8, 0)]) (S0 := []) xm31_197 rfl rfl) rfl rfl (sy_rcvm xi34 (wh_at hw 1 rfl)) rfl (sy_oka (sy_oks_cons (sy_ok2 (wh_lt hw 1 (by first | decide | assumption))) (sy_oks_cons (sy_ok2 (wh_lt hw 24 (by first | decide | assumption))) (sy_oks_cons (sy_ok0 (by first | decide | assumption | omega | exact mo_rd_lt _ _ | exact mo_add_lt _ _ | exact mo_sub_lt _ _ | exact mo_mul_lt _ _ | exact mo_shl_lt _ _ | exact mo_ushr_lt _ _ | exact mo_or_lt (by decide) (mo_and_lt (mo_rd_lt _ _)) | exact mo_or_lt (mo_shl_lt _ _) (mo_and_lt (mo_rd_lt _ _)))) sy_oks_nil))) rfl xl34) hC (by decide) (by rw [xl34]; decide) sy_refl) ?_
    replace hw := hw1
    replace hX1 := hX1x
    refine sy_As (sx_iinc (c := 1) (z := 1) (ls' := [(2, pl 1, 0), (2, pl 20, 0), (0, 0, 0), (2, pl 26, 0), (0, 1, 0), (255, 0, 0), (255, 0, 0), (255, 0, 0)]) xc31_48 rfl (by decide) (by rw [xl31]; rfl) rfl (by decide) rfl) ?_
    refine sy_As (sy_goto (pc' := 25) xc31_51 (by decide) (by decide) sy_refl) ?_
    refine sy_As (sy_ild xc31_25 rfl rfl sy_refl) ?_
    refine sy_As (sy_aldn xc31_27 rfl rfl sy_refl) ?_
    refine sy_As (sy_gf xc31_28 xf31_162 rfl (wh_at hw 26 rfl) rfl (fh_at hX26 2 rfl rfl) sy_refl) ?_
    refine sy_As (sy_ge_t (pc' := 54) xc31_31 (by decide) (by decide) (by decide) (by decide) sy_refl) ?_
    refine sy_As (sy_iconst (v := 0) xc31_54 (by decide) sy_refl) ?_
    refine sy_As (sx_ist (j := 4) (ls' := [(2, pl 1, 0), (2, pl 20, 0), (0, 0, 0), (2, pl 26, 0), (0, 0, 0), (255, 0, 0), (255, 0, 0), (255, 0, 0)]) xc31_55 rfl (sy_ok0 (by first | decide | assumption | omega | exact mo_rd_lt _ _ | exact mo_add_lt _ _ | exact mo_sub_lt _ _ | exact mo_mul_lt _ _ | exact mo_shl_lt _ _ | exact mo_ushr_lt _ _ | exact mo_or_lt (by decide) (mo_and_lt (mo_rd_lt _ _)) | exact mo_or_lt (mo_shl_lt _ _) (mo_and_lt (mo_rd_lt _ _)))) (by rw [xl31]; rfl) rfl rfl) ?_
    refine sy_As (sy_ild xc31_57 rfl rfl sy_refl) ?_
    refine sy_As (sy_aldn xc31_59 rfl rfl sy_refl) ?_
    refine sy_As (sy_gf xc31_60 xf31_145 rfl (wh_at hw 26 rfl) rfl (fh_at hX26 1 rfl rfl) sy_refl) ?_
    refine sy_As (sy_ge_t (pc' := 128) xc31_63 (by decide) (by decide) (by decide) (by decide) sy_refl) ?_
    refine sy_As (sx_iinc (c := 1) (z := 1) (ls' := [(2, pl 1, 0), (2, pl 20, 0), (0, 1, 0), (2, pl 26, 0), (0, 0, 0), (255, 0, 0), (255, 0, 0), (255, 0, 0)]) xc31_128 rfl (by decide) (by rw [xl31]; rfl) rfl (by decide) rfl) ?_
    refine sy_As (sy_goto (pc' := 7) xc31_131 (by decide) (by decide) sy_refl) ?_
    refine sy_As (sy_ildn xc31_7 rfl rfl sy_refl) ?_
    refine sy_As (sy_aldn xc31_8 rfl rfl sy_refl) ?_
    refine sy_As (sy_gf xc31_9 xf31_81 rfl (wh_at hw 20 rfl) rfl (fh_at hX20 7 rfl rfl) sy_refl) ?_
    refine sy_As (sy_ge_t (pc' := 134) xc31_12 (by decide) (by decide) (by decide) (by decide) sy_refl) ?_
    refine sy_As (sy_aldn xc31_134 rfl rfl sy_refl) ?_
    refine sy_As (sy_gf xc31_135 xf31_194 rfl (wh_at hw 1 rfl) rfl (fh_at hX1 6 rfl rfl) sy_refl) ?_
    refine ap_i (K := 28) hw rfl (by decide) hp28 xc31_138 (by decide) ?_
    intro w hw
    simp only [List.cons_append, List.nil_append] at hw
    refine sy_As (sx_astn (j := 2) (ls' := [(2, pl 1, 0), (2, pl 20, 0), (2, pl 28, 0), (2, pl 26, 0), (0, 0, 0), (255, 0, 0), (255, 0, 0), (255, 0, 0)]) xc31_140 rfl rfl (sy_ok2 (wh_lt hw 28 (by first | decide | assumption))) (by rw [xl31]; rfl) rfl rfl) ?_
    refine sy_As (sy_iconst (v := 0) xc31_141 (by decide) sy_refl) ?_
    refine sy_As (sx_istn (j := 3) (ls' := [(2, pl 1, 0), (2, pl 20, 0), (2, pl 28, 0), (0, 0, 0), (0, 0, 0), (255, 0, 0), (255, 0, 0), (255, 0, 0)]) xc31_142 rfl rfl (sy_ok0 (by first | decide | assumption | omega | exact mo_rd_lt _ _ | exact mo_add_lt _ _ | exact mo_sub_lt _ _ | exact mo_mul_lt _ _ | exact mo_shl_lt _ _ | exact mo_ushr_lt _ _ | exact mo_or_lt (by decide) (mo_and_lt (mo_rd_lt _ _)) | exact mo_or_lt (mo_shl_lt _ _) (mo_and_lt (mo_rd_lt _ _)))) (by rw [xl31]; rfl) rfl rfl) ?_
    refine sy_As (sy_ildn xc31_143 rfl rfl sy_refl) ?_
    refine sy_As (sy_aldn xc31_144 rfl rfl sy_refl) ?_
    refine sy_As (sy_gf xc31_145 xf31_194 rfl (wh_at hw 1 rfl) rfl (fh_at hX1 6 rfl rfl) sy_refl) ?_
    refine sy_As (sy_ge_f xc31_148 (by decide) (by decide) (by decide) sy_refl) ?_
    refine sy_As (sy_aldn xc31_151 rfl rfl sy_refl) ?_
    refine sy_As (sy_gf xc31_152 xf31_36 rfl (wh_at hw 1 rfl) rfl (fh_at hX1 3 rfl rfl) sy_refl) ?_
    refine sy_As (sy_aldn xc31_155 rfl rfl sy_refl) ?_
    refine sy_As (sy_gf xc31_156 xf31_95 rfl (wh_at hw 20 rfl) rfl (fh_at hX20 4 rfl rfl) sy_refl) ?_
    refine sy_As (sy_aldn xc31_159 rfl rfl sy_refl) ?_
    refine sy_As (sy_gf xc31_160 xf31_27 rfl (wh_at hw 1 rfl) rfl (fh_at hX1 5 rfl rfl) sy_refl) ?_
    refine sy_As (sy_bipush (v := 20) xc31_163 (by decide) (by decide) sy_refl) ?_
    refine sy_As (sy_ildn xc31_165 rfl rfl sy_refl) ?_
    refine sy_As (sx_imul (z := 0) xc31_166 (by decide)) ?_
    obtain ⟨ret, w, ⟨X10, Y11, Y12, Y13, Y14, Y15, Y16, Y17, um, lm, ⟨mk, hmk, rfl⟩, ⟨hsu, hsl⟩, hw1, hX1x⟩, hC⟩ := cf_mo (n := pl 29) hw hX0 hX1 hX3 hX10 hX20 hX26 hne hsu hsl
    refine sy_As (sy_callG (kd := 3) (as := [(2, pl 10, 0), (2, pl 21, 0), (2, pl 7, 0), (0, 0, 0)]) (S0 := []) (ret := [(1, mk, 0)]) xc31_167 (sy_calV (as := [(2, pl 10, 0), (2, pl 21, 0), (2, pl 7, 0), (0, 0, 0)]) (S0 := []) xm31_200 rfl rfl) rfl rfl (sy_rcvm xi36 (wh_at hw 10 rfl)) rfl (sy_oka (sy_oks_cons (sy_ok2 (wh_lt hw 10 (by first | decide | assumption))) (sy_oks_cons (sy_ok2 (wh_lt hw 21 (by first | decide | assumption))) (sy_oks_cons (sy_ok2 (wh_lt hw 7 (by first | decide | assumption))) (sy_oks_cons (sy_ok0 (by first | decide | assumption | omega | exact mo_rd_lt _ _ | exact mo_add_lt _ _ | exact mo_sub_lt _ _ | exact mo_mul_lt _ _ | exact mo_shl_lt _ _ | exact mo_ushr_lt _ _ | exact mo_or_lt (by decide) (mo_and_lt (mo_rd_lt _ _)) | exact mo_or_lt (mo_shl_lt _ _) (mo_and_lt (mo_rd_lt _ _)))) sy_oks_nil)))) rfl xl36) hC (by decide) (by rw [xl36]; decide) sy_refl) ?_
    replace hw := hw1
    replace hX10 := hX1x
    refine sy_As (sx_lst (j := 4) (ls' := [(2, pl 1, 0), (2, pl 20, 0), (2, pl 28, 0), (0, 0, 0), (1, mk, 0), (255, 0, 0), (255, 0, 0), (255, 0, 0)]) xc31_170 rfl (sy_ok1 (by first | decide | assumption | omega | exact mo_rd_lt _ _ | exact mo_add_lt _ _ | exact mo_sub_lt _ _ | exact mo_mul_lt _ _ | exact mo_shl_lt _ _ | exact mo_ushr_lt _ _ | exact mo_or_lt (by decide) (mo_and_lt (mo_rd_lt _ _)) | exact mo_or_lt (mo_shl_lt _ _) (mo_and_lt (mo_rd_lt _ _)))) (by rw [xl31]; rfl) rfl rfl) ?_
    refine sy_As (sx_lld xc31_172 rfl rfl) ?_
    refine sy_As (sy_aldn xc31_174 rfl rfl sy_refl) ?_
    refine sy_As (sy_gf xc31_175 xf31_194 rfl (wh_at hw 1 rfl) rfl (fh_at hX1 6 rfl rfl) sy_refl) ?_
    obtain ⟨ret, w1, ⟨nb, hnb, rfl, rfl⟩, hC⟩ := cf_no (n := pl 29) (w := w) hmk
    refine sy_As (sy_callG (kd := 1) (as := [(1, mk, 0), (0, 1, 0)]) (S0 := []) (ret := [(0, nb, 0)]) xc31_178 (sy_calS (as := [(1, mk, 0), (0, 1, 0)]) (S0 := []) xm31_204 rfl rfl) rfl rfl rfl rfl (sy_oka (sy_oks_cons (sy_ok1 (by first | decide | assumption | omega | exact mo_rd_lt _ _ | exact mo_add_lt _ _ | exact mo_sub_lt _ _ | exact mo_mul_lt _ _ | exact mo_shl_lt _ _ | exact mo_ushr_lt _ _ | exact mo_or_lt (by decide) (mo_and_lt (mo_rd_lt _ _)) | exact mo_or_lt (mo_shl_lt _ _) (mo_and_lt (mo_rd_lt _ _)))) (sy_oks_cons (sy_ok0 (by first | decide | assumption | omega | exact mo_rd_lt _ _ | exact mo_add_lt _ _ | exact mo_sub_lt _ _ | exact mo_mul_lt _ _ | exact mo_shl_lt _ _ | exact mo_ushr_lt _ _ | exact mo_or_lt (by decide) (mo_and_lt (mo_rd_lt _ _)) | exact mo_or_lt (mo_shl_lt _ _) (mo_and_lt (mo_rd_lt _ _)))) sy_oks_nil)) rfl xl41) hC (by decide) (by rw [xl41]; decide) sy_refl) ?_
    refine sy_As (sx_ist (j := 6) (ls' := [(2, pl 1, 0), (2, pl 20, 0), (2, pl 28, 0), (0, 0, 0), (1, mk, 0), (255, 0, 0), (0, nb, 0), (255, 0, 0)]) xc31_181 rfl (sy_ok0 (by first | decide | assumption | omega | exact mo_rd_lt _ _ | exact mo_add_lt _ _ | exact mo_sub_lt _ _ | exact mo_mul_lt _ _ | exact mo_shl_lt _ _ | exact mo_ushr_lt _ _ | exact mo_or_lt (by decide) (mo_and_lt (mo_rd_lt _ _)) | exact mo_or_lt (mo_shl_lt _ _) (mo_and_lt (mo_rd_lt _ _)))) (by rw [xl31]; rfl) rfl rfl) ?_
    refine sy_As (sy_ildn xc31_183 rfl rfl sy_refl) ?_
    refine sy_As (sx_ist (j := 7) (ls' := [(2, pl 1, 0), (2, pl 20, 0), (2, pl 28, 0), (0, 0, 0), (1, mk, 0), (255, 0, 0), (0, nb, 0), (0, 0, 0)]) xc31_184 rfl (sy_ok0 (by first | decide | assumption | omega | exact mo_rd_lt _ _ | exact mo_add_lt _ _ | exact mo_sub_lt _ _ | exact mo_mul_lt _ _ | exact mo_shl_lt _ _ | exact mo_ushr_lt _ _ | exact mo_or_lt (by decide) (mo_and_lt (mo_rd_lt _ _)) | exact mo_or_lt (mo_shl_lt _ _) (mo_and_lt (mo_rd_lt _ _)))) (by rw [xl31]; rfl) rfl rfl) ?_
    refine sy_As (sy_ild xc31_186 rfl rfl sy_refl) ?_
    refine sy_As (sy_le_t (pc' := 218) xc31_188 (by decide)  (by decide) sy_refl) ?_
    refine sy_As (sy_aldn xc31_218 rfl rfl sy_refl) ?_
    refine sy_As (sy_ild xc31_219 rfl rfl sy_refl) ?_
    refine sy_As (sy_ild xc31_221 rfl rfl sy_refl) ?_
    refine sy_Aw (i := 28) (x := (1, 0, 1, (mv_wr 32 0 0 nb))) hw (by decide) (sy_ias (i := 0) xc31_223 (wh_at hw 28 rfl) rfl (by decide) (by decide) rfl sy_refl) ?_
    intro w hw
    simp only [List.set_cons_zero, List.set_cons_succ] at hw
    refine sy_As (sx_iinc (c := 1) (z := 1) (ls' := [(2, pl 1, 0), (2, pl 20, 0), (2, pl 28, 0), (0, 1, 0), (1, mk, 0), (255, 0, 0), (0, nb, 0), (0, 0, 0)]) xc31_224 rfl (by decide) (by rw [xl31]; rfl) rfl (by decide) rfl) ?_
    refine sy_As (sy_goto (pc' := 143) xc31_227 (by decide) (by decide) sy_refl) ?_
    refine sy_As (sy_ildn xc31_143 rfl rfl sy_refl) ?_
    refine sy_As (sy_aldn xc31_144 rfl rfl sy_refl) ?_
    refine sy_As (sy_gf xc31_145 xf31_194 rfl (wh_at hw 1 rfl) rfl (fh_at hX1 6 rfl rfl) sy_refl) ?_
    refine sy_As (sy_ge_t (pc' := 230) xc31_148 (by decide) (by decide) (by decide) (by decide) sy_refl) ?_
    refine sy_As (sy_aldn xc31_230 rfl rfl sy_refl) ?_
    refine sy_As (sy_aldn xc31_231 rfl rfl sy_refl) ?_
    refine sy_Af (i := 20) (q := 10) (v := (2, pl 28, 0)) hw hX20 (by decide) (by decide) rfl (sy_ok2 (wh_lt hw 28 (by first | decide | assumption))) (sx_pf xc31_232 xf31_208 rfl (xg_ref xv9_10) xh31_208 (wh_at hw 20 rfl) rfl (sy_ok2 (wh_lt hw 28 (by first | decide | assumption))) rfl sy_refl) ?_
    intro w X20 hw hX20
    simp only [List.set_cons_zero, List.set_cons_succ] at hw hX20
    refine sy_As (sy_aldn xc31_235 rfl rfl sy_refl) ?_
    refine sy_As (sy_aldn xc31_236 rfl rfl sy_refl) ?_
    refine sy_As (sy_aldn xc31_237 rfl rfl sy_refl) ?_
    obtain ⟨ret, w, ⟨rfl, Y8, hab, hw1⟩, hC⟩ := ch_pn (n := pl 29) hw hX0 hX1 hX3 hX10 hX20 hX26 hnb (rd_wr_same (by omega))
    refine sy_As (sy_callG (kd := 3) (as := [(2, pl 1, 0), (2, pl 28, 0)]) (S0 := [(2, pl 20, 0)]) (ret := [(0, 2, 0)]) xc31_238 (sy_calV (as := [(2, pl 1, 0), (2, pl 28, 0)]) (S0 := [(2, pl 20, 0)]) xm31_211 rfl rfl) rfl rfl (sy_rcvm xi42 (wh_at hw 1 rfl)) rfl (sy_oka (sy_oks_cons (sy_ok2 (wh_lt hw 1 (by first | decide | assumption))) (sy_oks_cons (sy_ok2 (wh_lt hw 28 (by first | decide | assumption))) sy_oks_nil)) rfl xl42) hC (by decide) (by rw [xl42]; decide) sy_refl) ?_
    replace hw := hw1
    refine sy_Af (i := 20) (q := 9) (v := (0, 2, 0)) hw hX20 (by decide) (by decide) rfl (sy_ok0 (by first | decide | assumption | omega | exact mo_rd_lt _ _ | exact mo_add_lt _ _ | exact mo_sub_lt _ _ | exact mo_mul_lt _ _ | exact mo_shl_lt _ _ | exact mo_ushr_lt _ _ | exact mo_or_lt (by decide) (mo_and_lt (mo_rd_lt _ _)) | exact mo_or_lt (mo_shl_lt _ _) (mo_and_lt (mo_rd_lt _ _)))) (sx_pf xc31_241 xf31_132 rfl (xg_int xt9_9) xh31_132 (wh_at hw 20 rfl) rfl (sy_ok0 (by first | decide | assumption | omega | exact mo_rd_lt _ _ | exact mo_add_lt _ _ | exact mo_sub_lt _ _ | exact mo_mul_lt _ _ | exact mo_shl_lt _ _ | exact mo_ushr_lt _ _ | exact mo_or_lt (by decide) (mo_and_lt (mo_rd_lt _ _)) | exact mo_or_lt (mo_shl_lt _ _) (mo_and_lt (mo_rd_lt _ _)))) rfl sy_refl) ?_
    intro w X20 hw hX20
    simp only [List.set_cons_zero, List.set_cons_succ] at hw hX20
    refine sy_As (sy_aldn xc31_244 rfl rfl sy_refl) ?_
    refine sy_As (sy_aldn xc31_245 rfl rfl sy_refl) ?_
    refine sy_As (sy_gf xc31_246 xf31_30 rfl (wh_at hw 1 rfl) rfl (fh_at hX1 7 rfl rfl) sy_refl) ?_
    refine sy_As (sy_aldn xc31_249 rfl rfl sy_refl) ?_
    refine sy_As (sy_gf xc31_250 xf31_132 rfl (wh_at hw 20 rfl) rfl (fh_at hX20 9 rfl rfl) sy_refl) ?_
    obtain ⟨ret, n1, w, dc1, ds1, ⟨rfl, rfl, rfl, rfl, Y29, hw1⟩, hB⟩ := ch_co hw hX0 hX1 hX3 hX10 hX20 hX26 hp20 hp21 hp22 hp23 hp24 hp25 hp26 hp27 hp28 hp29 hab
    refine sy_Acall (kd := 1) (as := [(2, pl 8, 0), (0, 2, 0)]) (S0 := [(2, pl 20, 0)]) (ret := [(2, pl 29, 0)]) xc31_253 (sy_calS (as := [(2, pl 8, 0), (0, 2, 0)]) (S0 := [(2, pl 20, 0)]) xm31_215 rfl rfl) rfl rfl rfl rfl (sy_oka (sy_oks_cons (sy_ok2 (wh_lt hw 8 (by first | decide | assumption))) (sy_oks_cons (sy_ok0 (by first | decide | assumption | omega | exact mo_rd_lt _ _ | exact mo_add_lt _ _ | exact mo_sub_lt _ _ | exact mo_mul_lt _ _ | exact mo_shl_lt _ _ | exact mo_ushr_lt _ _ | exact mo_or_lt (by decide) (mo_and_lt (mo_rd_lt _ _)) | exact mo_or_lt (mo_shl_lt _ _) (mo_and_lt (mo_rd_lt _ _)))) sy_oks_nil)) rfl xl45) hB (by decide) (by rw [xl45]; decide) ?_
    simp only [List.nil_append, List.cons_append]
    replace hw := hw1
    refine sy_Af (i := 20) (q := 8) (v := (2, pl 29, 0)) hw hX20 (by decide) (by decide) rfl (sy_ok2 (wh_lt hw 29 (by first | decide | assumption))) (sx_pf xc31_256 xf31_129 rfl (xg_ref xv9_8) xh31_129 (wh_at hw 20 rfl) rfl (sy_ok2 (wh_lt hw 29 (by first | decide | assumption))) rfl sy_refl) ?_
    intro w X20 hw hX20
    simp only [List.set_cons_zero, List.set_cons_succ] at hw hX20
    exact sy_Av xc31_259 xr31 ⟨rfl, rfl, rfl, rfl, X1, _, _, X10, _, _, _, _, _, _, _, X20, _, _, _, _, ⟨hsu, hsl⟩, hw, hX1, hX10, hX20⟩
  exact sy_Aof (us := [(255, 0, 0), (255, 0, 0), (255, 0, 0), (255, 0, 0), (255, 0, 0), (255, 0, 0)]) (sy_oks_cons (sy_ok2 (wh_lt hw 1 (by first | decide | assumption))) (sy_oks_cons (sy_ok2 (wh_lt hw 20 (by first | decide | assumption))) sy_oks_nil)) rfl rfl key
end GM
