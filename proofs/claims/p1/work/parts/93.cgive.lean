/-! THE CLASS: give, over known cells -/
theorem xc77_0 : tt_cd 77 0 = (2, .iconst 0, 1) := by decide +kernel
theorem xc77_1 : tt_cd 77 1 = (1, .istore_n 2, 1) := by decide +kernel
theorem xl77 : tt_mL 77 = 3 := by decide +kernel
theorem xc77_2 : tt_cd 77 2 = (1, .iload_n 2, 1) := by decide +kernel
theorem xc77_3 : tt_cd 77 3 = (1, .aload_n 0, 1) := by decide +kernel
theorem xc77_4 : tt_cd 77 4 = (3, .getfield 44, 3) := by decide +kernel
theorem xf77_44 : tt_fl 77 44 = (1, 8, 3) := by decide +kernel
theorem xc77_7 : tt_cd 77 7 = (5, .if_icmp .ge 36, 3) := by decide +kernel
theorem xc77_10 : tt_cd 77 10 = (1, .aload_n 0, 1) := by decide +kernel
theorem xc77_11 : tt_cd 77 11 = (3, .getfield 13, 3) := by decide +kernel
theorem xf77_13 : tt_fl 77 13 = (1, 8, 2) := by decide +kernel
theorem xc77_14 : tt_cd 77 14 = (1, .iload_n 2, 1) := by decide +kernel
theorem xc77_15 : tt_cd 77 15 = (3, .aaload, 1) := by decide +kernel
theorem xc77_16 : tt_cd 77 16 = (3, .getfield 48, 3) := by decide +kernel
theorem xf77_48 : tt_fl 77 48 = (2, 9, 5) := by decide +kernel
theorem xc77_19 : tt_cd 77 19 = (2, .iconst 0, 1) := by decide +kernel
theorem xc77_20 : tt_cd 77 20 = (1, .aload_n 1, 1) := by decide +kernel
theorem xc77_21 : tt_cd 77 21 = (2, .iconst 0, 1) := by decide +kernel
theorem xc77_22 : tt_cd 77 22 = (4, .bipush 32, 2) := by decide +kernel
theorem xc77_24 : tt_cd 77 24 = (10, .invokestatic 51, 3) := by decide +kernel
theorem xm77_51 : tt_ml 77 51 = (2, 35, 5) := by decide +kernel
theorem xl35 : tt_mL 35 = 6 := by decide +kernel
theorem xc77_27 : tt_cd 77 27 = (5, .ifCond .eq 10, 3) := by decide +kernel
theorem xc77_30 : tt_cd 77 30 = (1, .aload_n 0, 1) := by decide +kernel
theorem xc77_31 : tt_cd 77 31 = (3, .getfield 13, 3) := by decide +kernel
theorem xc77_34 : tt_cd 77 34 = (1, .iload_n 2, 1) := by decide +kernel
theorem xc77_35 : tt_cd 77 35 = (3, .aaload, 1) := by decide +kernel
theorem xc77_36 : tt_cd 77 36 = (9, .areturn, 1) := by decide +kernel
theorem xr77 : tt_mr 77 = 3 := by decide +kernel
theorem xc75_0 : tt_cd 75 0 = (1, .aload_n 0, 1) := by decide +kernel
theorem xc75_1 : tt_cd 75 1 = (3, .getfield 56, 3) := by decide +kernel
theorem xf75_56 : tt_fl 75 56 = (1, 11, 0) := by decide +kernel
theorem xc75_4 : tt_cd 75 4 = (1, .aload_n 1, 1) := by decide +kernel
theorem xc75_5 : tt_cd 75 5 = (2, .iconst 0, 1) := by decide +kernel
theorem xc75_6 : tt_cd 75 6 = (4, .bipush 105, 2) := by decide +kernel
theorem xc75_8 : tt_cd 75 8 = (1, .aload_n 0, 1) := by decide +kernel
theorem xc75_9 : tt_cd 75 9 = (3, .getfield 53, 3) := by decide +kernel
theorem xf75_53 : tt_fl 75 53 = (1, 11, 18) := by decide +kernel
theorem xc75_12 : tt_cd 75 12 = (10, .invokevirtual 83, 3) := by decide +kernel
theorem xm75_83 : tt_ml 75 83 = (3, 13, 4) := by decide +kernel
theorem xi13 : tt_mci 13 = 2 := by decide +kernel
theorem xl13 : tt_mL 13 = 5 := by decide +kernel
theorem xc75_15 : tt_cd 75 15 = (1, .aload_n 0, 1) := by decide +kernel
theorem xc75_16 : tt_cd 75 16 = (1, .aload_n 0, 1) := by decide +kernel
theorem xc75_17 : tt_cd 75 17 = (3, .getfield 53, 3) := by decide +kernel
theorem xc75_20 : tt_cd 75 20 = (2, .iconst 0, 1) := by decide +kernel
theorem xc75_21 : tt_cd 75 21 = (10, .invokevirtual 89, 3) := by decide +kernel
theorem xm75_89 : tt_ml 75 89 = (3, 76, 2) := by decide +kernel
theorem xi76 : tt_mci 76 = 11 := by decide +kernel
theorem xl76 : tt_mL 76 = 4 := by decide +kernel
theorem xc75_24 : tt_cd 75 24 = (5, .ifCond .lt 5, 3) := by decide +kernel
theorem xc75_27 : tt_cd 75 27 = (2, .iconst 2, 1) := by decide +kernel
theorem xc75_28 : tt_cd 75 28 = (9, .ireturn, 1) := by decide +kernel
theorem xc75_29 : tt_cd 75 29 = (1, .aload_n 0, 1) := by decide +kernel
theorem xc75_30 : tt_cd 75 30 = (1, .aload_n 1, 1) := by decide +kernel
theorem xc75_31 : tt_cd 75 31 = (2, .iconst 0, 1) := by decide +kernel
theorem xc75_32 : tt_cd 75 32 = (10, .invokevirtual 89, 3) := by decide +kernel
theorem xc75_35 : tt_cd 75 35 = (1, .istore_n 2, 1) := by decide +kernel
theorem xl75 : tt_mL 75 = 4 := by decide +kernel
theorem xc75_36 : tt_cd 75 36 = (1, .iload_n 2, 1) := by decide +kernel
theorem xc75_37 : tt_cd 75 37 = (5, .ifCond .lt 17, 3) := by decide +kernel
theorem xc75_54 : tt_cd 75 54 = (2, .iconst 0, 1) := by decide +kernel
theorem xc75_55 : tt_cd 75 55 = (9, .ireturn, 1) := by decide +kernel
theorem xr75 : tt_mr 75 = 1 := by decide +kernel
theorem xc78_0 : tt_cd 78 0 = (1, .aload_n 1, 1) := by decide +kernel
theorem xc78_1 : tt_cd 78 1 = (5, .ifnonnull 7, 3) := by decide +kernel
theorem xc78_8 : tt_cd 78 8 = (1, .aload_n 0, 1) := by decide +kernel
theorem xc78_9 : tt_cd 78 9 = (1, .aload_n 1, 1) := by decide +kernel
theorem xc78_10 : tt_cd 78 10 = (3, .getfield 76, 3) := by decide +kernel
theorem xf78_76 : tt_fl 78 76 = (2, 9, 5) := by decide +kernel
theorem xc78_13 : tt_cd 78 13 = (2, .iconst 0, 1) := by decide +kernel
theorem xc78_14 : tt_cd 78 14 = (10, .invokevirtual 89, 3) := by decide +kernel
theorem xm78_89 : tt_ml 78 89 = (3, 76, 2) := by decide +kernel
theorem xc78_17 : tt_cd 78 17 = (1, .istore 4, 2) := by decide +kernel
theorem xl78 : tt_mL 78 = 5 := by decide +kernel
theorem xc78_19 : tt_cd 78 19 = (1, .iload 4, 2) := by decide +kernel
theorem xc78_21 : tt_cd 78 21 = (5, .ifCond .ge 5, 3) := by decide +kernel
theorem xc78_26 : tt_cd 78 26 = (1, .aload_n 0, 1) := by decide +kernel
theorem xc78_27 : tt_cd 78 27 = (3, .getfield 19, 3) := by decide +kernel
theorem xf78_19 : tt_fl 78 19 = (1, 11, 3) := by decide +kernel
theorem xc78_30 : tt_cd 78 30 = (1, .iload 4, 2) := by decide +kernel
theorem xc78_32 : tt_cd 78 32 = (3, .aaload, 1) := by decide +kernel
theorem xc78_33 : tt_cd 78 33 = (5, .ifnull 5, 3) := by decide +kernel
theorem xc78_38 : tt_cd 78 38 = (1, .aload_n 0, 1) := by decide +kernel
theorem xc78_39 : tt_cd 78 39 = (3, .getfield 56, 3) := by decide +kernel
theorem xf78_56 : tt_fl 78 56 = (1, 11, 0) := by decide +kernel
theorem xc78_42 : tt_cd 78 42 = (1, .aload_n 2, 1) := by decide +kernel
theorem xc78_43 : tt_cd 78 43 = (2, .iconst 0, 1) := by decide +kernel
theorem xc78_44 : tt_cd 78 44 = (1, .iload_n 3, 1) := by decide +kernel
theorem xc78_45 : tt_cd 78 45 = (1, .aload_n 0, 1) := by decide +kernel
theorem xc78_46 : tt_cd 78 46 = (3, .getfield 53, 3) := by decide +kernel
theorem xf78_53 : tt_fl 78 53 = (1, 11, 18) := by decide +kernel
theorem xc78_49 : tt_cd 78 49 = (10, .invokevirtual 83, 3) := by decide +kernel
theorem xm78_83 : tt_ml 78 83 = (3, 13, 4) := by decide +kernel
theorem xc78_52 : tt_cd 78 52 = (1, .aload_n 0, 1) := by decide +kernel
theorem xc78_53 : tt_cd 78 53 = (3, .getfield 53, 3) := by decide +kernel
theorem xc78_56 : tt_cd 78 56 = (2, .iconst 0, 1) := by decide +kernel
theorem xc78_57 : tt_cd 78 57 = (1, .aload_n 0, 1) := by decide +kernel
theorem xc78_58 : tt_cd 78 58 = (3, .getfield 15, 3) := by decide +kernel
theorem xf78_15 : tt_fl 78 15 = (1, 11, 2) := by decide +kernel
theorem xc78_61 : tt_cd 78 61 = (1, .iload 4, 2) := by decide +kernel
theorem xc78_63 : tt_cd 78 63 = (3, .aaload, 1) := by decide +kernel
theorem xc78_64 : tt_cd 78 64 = (3, .getfield 124, 3) := by decide +kernel
theorem xf78_124 : tt_fl 78 124 = (2, 9, 4) := by decide +kernel
theorem xc78_67 : tt_cd 78 67 = (4, .bipush 64, 2) := by decide +kernel
theorem xc78_69 : tt_cd 78 69 = (4, .bipush 32, 2) := by decide +kernel
theorem xc78_71 : tt_cd 78 71 = (10, .invokestatic 79, 3) := by decide +kernel
theorem xm78_79 : tt_ml 78 79 = (2, 35, 5) := by decide +kernel
theorem xc78_74 : tt_cd 78 74 = (5, .ifCond .ne 5, 3) := by decide +kernel
theorem xc78_79 : tt_cd 78 79 = (1, .aload_n 0, 1) := by decide +kernel
theorem xc78_80 : tt_cd 78 80 = (3, .getfield 19, 3) := by decide +kernel
theorem xc78_83 : tt_cd 78 83 = (1, .iload 4, 2) := by decide +kernel
theorem xc78_85 : tt_cd 78 85 = (1, .aload_n 1, 1) := by decide +kernel
theorem xc78_86 : tt_cd 78 86 = (6, .aastore, 1) := by decide +kernel
theorem xc78_87 : tt_cd 78 87 = (1, .aload_n 0, 1) := by decide +kernel
theorem xc78_88 : tt_cd 78 88 = (2, .iconst 1, 1) := by decide +kernel
theorem xc78_89 : tt_cd 78 89 = (6, .putfield 25, 3) := by decide +kernel
theorem xf78_25 : tt_fl 78 25 = (1, 11, 7) := by decide +kernel
theorem xt11_7 : tt_fty 11 7 = .boolean := by decide +kernel
theorem xn11_7 : tt_ffin 11 7 = false := by decide +kernel
theorem xc78_92 : tt_cd 78 92 = (2, .iconst 1, 1) := by decide +kernel
theorem xc78_93 : tt_cd 78 93 = (9, .ireturn, 1) := by decide +kernel
theorem xc78_77 : tt_cd 78 77 = (2, .iconst 0, 1) := by decide +kernel
theorem xc78_78 : tt_cd 78 78 = (9, .ireturn, 1) := by decide +kernel
theorem xr78 : tt_mr 78 = 1 := by decide +kernel
theorem xc22_0 : tt_cd 22 0 = (1, .iload_n 0, 1) := by decide +kernel
theorem xc22_1 : tt_cd 22 1 = (5, .ifCond .ne 7, 3) := by decide +kernel
theorem xc22_4 : tt_cd 22 4 = (2, .iconst 4, 1) := by decide +kernel
theorem xc22_5 : tt_cd 22 5 = (5, .goto 9, 3) := by decide +kernel
theorem xc22_14 : tt_cd 22 14 = (9, .ireturn, 1) := by decide +kernel
theorem xr22 : tt_mr 22 = 1 := by decide +kernel
theorem xc81_0 : tt_cd 81 0 = (1, .iload_n 1, 1) := by decide +kernel
theorem xc81_1 : tt_cd 81 1 = (5, .ifCond .lt 14, 3) := by decide +kernel
theorem xc81_4 : tt_cd 81 4 = (1, .iload_n 1, 1) := by decide +kernel
theorem xc81_5 : tt_cd 81 5 = (1, .iload_n 2, 1) := by decide +kernel
theorem xc81_6 : tt_cd 81 6 = (5, .if_icmp .ge 9, 3) := by decide +kernel
theorem xc81_9 : tt_cd 81 9 = (1, .iload_n 2, 1) := by decide +kernel
theorem xc81_10 : tt_cd 81 10 = (1, .aload_n 0, 1) := by decide +kernel
theorem xc81_11 : tt_cd 81 11 = (3, .arraylength, 1) := by decide +kernel
theorem xc81_12 : tt_cd 81 12 = (5, .if_icmp .le 5, 3) := by decide +kernel
theorem xc81_17 : tt_cd 81 17 = (1, .aload_n 0, 1) := by decide +kernel
theorem xc81_18 : tt_cd 81 18 = (1, .iload_n 1, 1) := by decide +kernel
theorem xc81_19 : tt_cd 81 19 = (3, .baload, 1) := by decide +kernel
theorem xc81_20 : tt_cd 81 20 = (1, .istore_n 3, 1) := by decide +kernel
theorem xl81 : tt_mL 81 = 7 := by decide +kernel
theorem xc81_21 : tt_cd 81 21 = (1, .iload_n 3, 1) := by decide +kernel
theorem xc81_22 : tt_cd 81 22 = (5, .ifCond .lt 8, 3) := by decide +kernel
theorem xc81_25 : tt_cd 81 25 = (1, .iload_n 3, 1) := by decide +kernel
theorem xc81_26 : tt_cd 81 26 = (2, .iconst 4, 1) := by decide +kernel
theorem xc81_27 : tt_cd 81 27 = (5, .if_icmp .le 5, 3) := by decide +kernel
theorem xc81_32 : tt_cd 81 32 = (1, .iload_n 3, 1) := by decide +kernel
theorem xc81_33 : tt_cd 81 33 = (10, .invokestatic 29, 3) := by decide +kernel
theorem xm81_29 : tt_ml 81 29 = (1, 22, 1) := by decide +kernel
theorem xl22 : tt_mL 22 = 1 := by decide +kernel
theorem xc81_36 : tt_cd 81 36 = (1, .istore 4, 2) := by decide +kernel
theorem xc81_38 : tt_cd 81 38 = (1, .iload 4, 2) := by decide +kernel
theorem xc81_40 : tt_cd 81 40 = (1, .iload_n 2, 1) := by decide +kernel
theorem xc81_41 : tt_cd 81 41 = (1, .iload_n 1, 1) := by decide +kernel
theorem xc81_42 : tt_cd 81 42 = (2, .isub, 1) := by decide +kernel
theorem xc81_43 : tt_cd 81 43 = (5, .if_icmp .le 5, 3) := by decide +kernel
theorem xc81_48 : tt_cd 81 48 = (1, .aload_n 0, 1) := by decide +kernel
theorem xc81_49 : tt_cd 81 49 = (1, .iload_n 1, 1) := by decide +kernel
theorem xc81_50 : tt_cd 81 50 = (1, .iload 4, 2) := by decide +kernel
theorem xc81_52 : tt_cd 81 52 = (2, .iadd, 1) := by decide +kernel
theorem xc81_53 : tt_cd 81 53 = (2, .iconst 1, 1) := by decide +kernel
theorem xc81_54 : tt_cd 81 54 = (2, .isub, 1) := by decide +kernel
theorem xc81_55 : tt_cd 81 55 = (3, .baload, 1) := by decide +kernel
theorem xc81_56 : tt_cd 81 56 = (1, .istore 5, 2) := by decide +kernel
theorem xc81_58 : tt_cd 81 58 = (1, .iload 5, 2) := by decide +kernel
theorem xc81_60 : tt_cd 81 60 = (2, .iconst 1, 1) := by decide +kernel
theorem xc81_61 : tt_cd 81 61 = (5, .if_icmp .lt 17, 3) := by decide +kernel
theorem xc81_64 : tt_cd 81 64 = (1, .iload 5, 2) := by decide +kernel
theorem xc81_66 : tt_cd 81 66 = (1, .iload_n 3, 1) := by decide +kernel
theorem xc81_67 : tt_cd 81 67 = (5, .ifCond .ne 7, 3) := by decide +kernel
theorem xc81_70 : tt_cd 81 70 = (2, .iconst 1, 1) := by decide +kernel
theorem xc81_71 : tt_cd 81 71 = (5, .goto 4, 3) := by decide +kernel
theorem xc81_75 : tt_cd 81 75 = (5, .if_icmp .le 5, 3) := by decide +kernel
theorem xc81_80 : tt_cd 81 80 = (1, .iload 4, 2) := by decide +kernel
theorem xc81_82 : tt_cd 81 82 = (4, .bipush 24, 2) := by decide +kernel
theorem xc81_84 : tt_cd 81 84 = (1, .iload 5, 2) := by decide +kernel
theorem xc81_86 : tt_cd 81 86 = (2, .imul, 1) := by decide +kernel
theorem xc81_87 : tt_cd 81 87 = (2, .iadd, 1) := by decide +kernel
theorem xc81_88 : tt_cd 81 88 = (1, .istore 6, 2) := by decide +kernel
theorem xc81_90 : tt_cd 81 90 = (1, .iload 6, 2) := by decide +kernel
theorem xc81_92 : tt_cd 81 92 = (1, .iload_n 2, 1) := by decide +kernel
theorem xc81_93 : tt_cd 81 93 = (1, .iload_n 1, 1) := by decide +kernel
theorem xc81_94 : tt_cd 81 94 = (2, .isub, 1) := by decide +kernel
theorem xc81_95 : tt_cd 81 95 = (5, .if_icmp .le 7, 3) := by decide +kernel
theorem xc81_102 : tt_cd 81 102 = (1, .iload 6, 2) := by decide +kernel
theorem xc81_104 : tt_cd 81 104 = (9, .ireturn, 1) := by decide +kernel
theorem xr81 : tt_mr 81 = 1 := by decide +kernel
theorem xc80_0 : tt_cd 80 0 = (2, .iconst 0, 1) := by decide +kernel
theorem xc80_1 : tt_cd 80 1 = (1, .istore_n 3, 1) := by decide +kernel
theorem xl80 : tt_mL 80 = 6 := by decide +kernel
theorem xc80_2 : tt_cd 80 2 = (2, .iconst 0, 1) := by decide +kernel
theorem xc80_3 : tt_cd 80 3 = (1, .istore 4, 2) := by decide +kernel
theorem xc80_5 : tt_cd 80 5 = (1, .iload_n 3, 1) := by decide +kernel
theorem xc80_6 : tt_cd 80 6 = (4, .bipush 73, 2) := by decide +kernel
theorem xc80_8 : tt_cd 80 8 = (5, .if_icmp .ge 80, 3) := by decide +kernel
theorem xc80_11 : tt_cd 80 11 = (1, .iload 4, 2) := by decide +kernel
theorem xc80_13 : tt_cd 80 13 = (1, .iload_n 2, 1) := by decide +kernel
theorem xc80_14 : tt_cd 80 14 = (5, .if_icmp .ge 74, 3) := by decide +kernel
theorem xc80_17 : tt_cd 80 17 = (1, .aload_n 1, 1) := by decide +kernel
theorem xc80_18 : tt_cd 80 18 = (1, .iload 4, 2) := by decide +kernel
theorem xc80_20 : tt_cd 80 20 = (1, .iload_n 2, 1) := by decide +kernel
theorem xc80_21 : tt_cd 80 21 = (10, .invokestatic 134, 3) := by decide +kernel
theorem xm80_134 : tt_ml 80 134 = (1, 81, 3) := by decide +kernel
theorem xc80_24 : tt_cd 80 24 = (1, .istore 5, 2) := by decide +kernel
theorem xc80_26 : tt_cd 80 26 = (1, .iload 5, 2) := by decide +kernel
theorem xc80_28 : tt_cd 80 28 = (5, .ifCond .ge 5, 3) := by decide +kernel
theorem xc80_33 : tt_cd 80 33 = (1, .aload_n 0, 1) := by decide +kernel
theorem xc80_34 : tt_cd 80 34 = (3, .getfield 56, 3) := by decide +kernel
theorem xf80_56 : tt_fl 80 56 = (1, 11, 0) := by decide +kernel
theorem xc80_37 : tt_cd 80 37 = (10, .invokevirtual 138, 3) := by decide +kernel
theorem xm80_138 : tt_ml 80 138 = (3, 14, 0) := by decide +kernel
theorem xi14 : tt_mci 14 = 2 := by decide +kernel
theorem xl14 : tt_mL 14 = 1 := by decide +kernel
theorem xc80_40 : tt_cd 80 40 = (1, .aload_n 0, 1) := by decide +kernel
theorem xc80_41 : tt_cd 80 41 = (3, .getfield 56, 3) := by decide +kernel
theorem xc80_44 : tt_cd 80 44 = (1, .aload_n 1, 1) := by decide +kernel
theorem xc80_45 : tt_cd 80 45 = (1, .iload 4, 2) := by decide +kernel
theorem xc80_47 : tt_cd 80 47 = (1, .iload 5, 2) := by decide +kernel
theorem xc80_49 : tt_cd 80 49 = (10, .invokevirtual 141, 3) := by decide +kernel
theorem xm80_141 : tt_ml 80 141 = (3, 15, 3) := by decide +kernel
theorem xi15 : tt_mci 15 = 2 := by decide +kernel
theorem xl15 : tt_mL 15 = 5 := by decide +kernel
theorem xc80_52 : tt_cd 80 52 = (1, .aload_n 0, 1) := by decide +kernel
theorem xc80_53 : tt_cd 80 53 = (3, .getfield 56, 3) := by decide +kernel
theorem xc80_56 : tt_cd 80 56 = (1, .aload_n 0, 1) := by decide +kernel
theorem xc80_57 : tt_cd 80 57 = (3, .getfield 49, 3) := by decide +kernel
theorem xf80_49 : tt_fl 80 49 = (1, 11, 17) := by decide +kernel
theorem xc80_60 : tt_cd 80 60 = (4, .bipush 32, 2) := by decide +kernel
theorem xc80_62 : tt_cd 80 62 = (1, .iload_n 3, 1) := by decide +kernel
theorem xc80_63 : tt_cd 80 63 = (2, .imul, 1) := by decide +kernel
theorem xc80_64 : tt_cd 80 64 = (10, .invokevirtual 145, 3) := by decide +kernel
theorem xm80_145 : tt_ml 80 145 = (3, 17, 2) := by decide +kernel
theorem xi17 : tt_mci 17 = 2 := by decide +kernel
theorem xl17 : tt_mL 17 = 3 := by decide +kernel
theorem xc80_67 : tt_cd 80 67 = (1, .iload 4, 2) := by decide +kernel
theorem xc80_69 : tt_cd 80 69 = (1, .iload 5, 2) := by decide +kernel
theorem xc80_71 : tt_cd 80 71 = (4, .bipush 97, 2) := by decide +kernel
theorem xc80_73 : tt_cd 80 73 = (1, .aload_n 1, 1) := by decide +kernel
theorem xc80_74 : tt_cd 80 74 = (1, .iload 4, 2) := by decide +kernel
theorem xc80_76 : tt_cd 80 76 = (3, .baload, 1) := by decide +kernel
theorem xc80_77 : tt_cd 80 77 = (2, .imul, 1) := by decide +kernel
theorem xc80_78 : tt_cd 80 78 = (2, .iadd, 1) := by decide +kernel
theorem xc80_79 : tt_cd 80 79 = (2, .iadd, 1) := by decide +kernel
theorem xc80_80 : tt_cd 80 80 = (1, .istore 4, 2) := by decide +kernel
theorem xc80_82 : tt_cd 80 82 = (1, .iinc 3 1, 3) := by decide +kernel
theorem xc80_85 : tt_cd 80 85 = (5, .goto (-80), 3) := by decide +kernel
theorem xc80_88 : tt_cd 80 88 = (1, .iload 4, 2) := by decide +kernel
theorem xc80_90 : tt_cd 80 90 = (1, .iload_n 2, 1) := by decide +kernel
theorem xc80_91 : tt_cd 80 91 = (5, .if_icmp .ne 7, 3) := by decide +kernel
theorem xc80_94 : tt_cd 80 94 = (1, .iload_n 3, 1) := by decide +kernel
theorem xc80_95 : tt_cd 80 95 = (5, .goto 4, 3) := by decide +kernel
theorem xc80_99 : tt_cd 80 99 = (9, .ireturn, 1) := by decide +kernel
theorem xr80 : tt_mr 80 = 1 := by decide +kernel
theorem xc30_0 : tt_cd 30 0 = (1, .iload_n 2, 1) := by decide +kernel
theorem xc30_1 : tt_cd 30 1 = (1, .istore_n 3, 1) := by decide +kernel
theorem xl30 : tt_mL 30 = 8 := by decide +kernel
theorem xc30_2 : tt_cd 30 2 = (2, .iconst 0, 1) := by decide +kernel
theorem xc30_3 : tt_cd 30 3 = (1, .istore 4, 2) := by decide +kernel
theorem xc30_5 : tt_cd 30 5 = (1, .iload 4, 2) := by decide +kernel
theorem xc30_7 : tt_cd 30 7 = (4, .bipush 31, 2) := by decide +kernel
theorem xc30_9 : tt_cd 30 9 = (5, .if_icmp .ge 94, 3) := by decide +kernel
theorem xc30_12 : tt_cd 30 12 = (1, .iload_n 3, 1) := by decide +kernel
theorem xc30_13 : tt_cd 30 13 = (2, .iconst 1, 1) := by decide +kernel
theorem xc30_14 : tt_cd 30 14 = (5, .if_icmp .le 89, 3) := by decide +kernel
theorem xc30_103 : tt_cd 30 103 = (9, .return_, 1) := by decide +kernel
theorem xr30 : tt_mr 30 = 0 := by decide +kernel
theorem xc79_0 : tt_cd 79 0 = (1, .aload_n 1, 1) := by decide +kernel
theorem xc79_1 : tt_cd 79 1 = (5, .ifnonnull 7, 3) := by decide +kernel
theorem xc79_8 : tt_cd 79 8 = (1, .aload_n 0, 1) := by decide +kernel
theorem xc79_9 : tt_cd 79 9 = (1, .aload_n 1, 1) := by decide +kernel
theorem xc79_10 : tt_cd 79 10 = (3, .getfield 76, 3) := by decide +kernel
theorem xf79_76 : tt_fl 79 76 = (2, 9, 5) := by decide +kernel
theorem xc79_13 : tt_cd 79 13 = (2, .iconst 0, 1) := by decide +kernel
theorem xc79_14 : tt_cd 79 14 = (10, .invokevirtual 89, 3) := by decide +kernel
theorem xm79_89 : tt_ml 79 89 = (3, 76, 2) := by decide +kernel
theorem xc79_17 : tt_cd 79 17 = (1, .istore 4, 2) := by decide +kernel
theorem xl79 : tt_mL 79 = 6 := by decide +kernel
theorem xc79_19 : tt_cd 79 19 = (1, .iload 4, 2) := by decide +kernel
theorem xc79_21 : tt_cd 79 21 = (5, .ifCond .ge 5, 3) := by decide +kernel
theorem xc79_26 : tt_cd 79 26 = (1, .aload_n 0, 1) := by decide +kernel
theorem xc79_27 : tt_cd 79 27 = (3, .getfield 22, 3) := by decide +kernel
theorem xf79_22 : tt_fl 79 22 = (1, 11, 4) := by decide +kernel
theorem xc79_30 : tt_cd 79 30 = (1, .iload 4, 2) := by decide +kernel
theorem xc79_32 : tt_cd 79 32 = (3, .aaload, 1) := by decide +kernel
theorem xc79_33 : tt_cd 79 33 = (5, .ifnull 5, 3) := by decide +kernel
theorem xc79_38 : tt_cd 79 38 = (1, .aload_n 0, 1) := by decide +kernel
theorem xc79_39 : tt_cd 79 39 = (1, .aload_n 2, 1) := by decide +kernel
theorem xc79_40 : tt_cd 79 40 = (1, .iload_n 3, 1) := by decide +kernel
theorem xc79_41 : tt_cd 79 41 = (10, .invokevirtual 127, 3) := by decide +kernel
theorem xm79_127 : tt_ml 79 127 = (3, 80, 2) := by decide +kernel
theorem xi80 : tt_mci 80 = 11 := by decide +kernel
theorem xc79_44 : tt_cd 79 44 = (1, .istore 5, 2) := by decide +kernel
theorem xc79_46 : tt_cd 79 46 = (1, .iload 5, 2) := by decide +kernel
theorem xc79_48 : tt_cd 79 48 = (2, .iconst 1, 1) := by decide +kernel
theorem xc79_49 : tt_cd 79 49 = (5, .if_icmp .ge 5, 3) := by decide +kernel
theorem xc79_54 : tt_cd 79 54 = (1, .aload_n 0, 1) := by decide +kernel
theorem xc79_55 : tt_cd 79 55 = (3, .getfield 56, 3) := by decide +kernel
theorem xf79_56 : tt_fl 79 56 = (1, 11, 0) := by decide +kernel
theorem xc79_58 : tt_cd 79 58 = (1, .aload_n 0, 1) := by decide +kernel
theorem xc79_59 : tt_cd 79 59 = (3, .getfield 49, 3) := by decide +kernel
theorem xf79_49 : tt_fl 79 49 = (1, 11, 17) := by decide +kernel
theorem xc79_62 : tt_cd 79 62 = (1, .iload 5, 2) := by decide +kernel
theorem xc79_64 : tt_cd 79 64 = (10, .invokevirtual 130, 3) := by decide +kernel
theorem xm79_130 : tt_ml 79 130 = (3, 30, 2) := by decide +kernel
theorem xi30 : tt_mci 30 = 2 := by decide +kernel
theorem xc79_67 : tt_cd 79 67 = (1, .aload_n 0, 1) := by decide +kernel
theorem xc79_68 : tt_cd 79 68 = (3, .getfield 49, 3) := by decide +kernel
theorem xc79_71 : tt_cd 79 71 = (2, .iconst 0, 1) := by decide +kernel
theorem xc79_72 : tt_cd 79 72 = (1, .aload_n 0, 1) := by decide +kernel
theorem xc79_73 : tt_cd 79 73 = (3, .getfield 15, 3) := by decide +kernel
theorem xf79_15 : tt_fl 79 15 = (1, 11, 2) := by decide +kernel
theorem xc79_76 : tt_cd 79 76 = (1, .iload 4, 2) := by decide +kernel
theorem xc79_78 : tt_cd 79 78 = (3, .aaload, 1) := by decide +kernel
theorem xc79_79 : tt_cd 79 79 = (3, .getfield 124, 3) := by decide +kernel
theorem xf79_124 : tt_fl 79 124 = (2, 9, 4) := by decide +kernel
theorem xc79_82 : tt_cd 79 82 = (4, .bipush 32, 2) := by decide +kernel
theorem xc79_84 : tt_cd 79 84 = (4, .bipush 32, 2) := by decide +kernel
theorem xc79_86 : tt_cd 79 86 = (10, .invokestatic 79, 3) := by decide +kernel
theorem xm79_79 : tt_ml 79 79 = (2, 35, 5) := by decide +kernel
theorem xc79_89 : tt_cd 79 89 = (5, .ifCond .ne 5, 3) := by decide +kernel
theorem xc79_94 : tt_cd 79 94 = (1, .aload_n 0, 1) := by decide +kernel
theorem xc79_95 : tt_cd 79 95 = (3, .getfield 22, 3) := by decide +kernel
theorem xc79_98 : tt_cd 79 98 = (1, .iload 4, 2) := by decide +kernel
theorem xc79_100 : tt_cd 79 100 = (1, .aload_n 1, 1) := by decide +kernel
theorem xc79_101 : tt_cd 79 101 = (6, .aastore, 1) := by decide +kernel
theorem xc79_102 : tt_cd 79 102 = (1, .aload_n 0, 1) := by decide +kernel
theorem xc79_103 : tt_cd 79 103 = (2, .iconst 1, 1) := by decide +kernel
theorem xc79_104 : tt_cd 79 104 = (6, .putfield 25, 3) := by decide +kernel
theorem xf79_25 : tt_fl 79 25 = (1, 11, 7) := by decide +kernel
theorem xc79_107 : tt_cd 79 107 = (2, .iconst 1, 1) := by decide +kernel
theorem xc79_108 : tt_cd 79 108 = (9, .ireturn, 1) := by decide +kernel
theorem xc79_92 : tt_cd 79 92 = (2, .iconst 0, 1) := by decide +kernel
theorem xc79_93 : tt_cd 79 93 = (9, .ireturn, 1) := by decide +kernel
theorem xr79 : tt_mr 79 = 1 := by decide +kernel
theorem xc73_0 : tt_cd 73 0 = (1, .iload_n 1, 1) := by decide +kernel
theorem xc73_1 : tt_cd 73 1 = (5, .ifCond .ne 15, 3) := by decide +kernel
theorem xc73_4 : tt_cd 73 4 = (1, .aload_n 0, 1) := by decide +kernel
theorem xc73_5 : tt_cd 73 5 = (3, .getfield 11, 3) := by decide +kernel
theorem xf73_11 : tt_fl 73 11 = (1, 9, 4) := by decide +kernel
theorem xc73_8 : tt_cd 73 8 = (4, .bipush 105, 2) := by decide +kernel
theorem xc73_10 : tt_cd 73 10 = (1, .aload_n 2, 1) := by decide +kernel
theorem xc73_11 : tt_cd 73 11 = (2, .iconst 0, 1) := by decide +kernel
theorem xc73_12 : tt_cd 73 12 = (10, .invokestatic 89, 3) := by decide +kernel
theorem xm73_89 : tt_ml 73 89 = (1, 74, 4) := by decide +kernel
theorem xl74 : tt_mL 74 = 4 := by decide +kernel
theorem xc73_15 : tt_cd 73 15 = (9, .ireturn, 1) := by decide +kernel
theorem xr73 : tt_mr 73 = 1 := by decide +kernel
theorem xc73_16 : tt_cd 73 16 = (1, .iload_n 1, 1) := by decide +kernel
theorem xc73_17 : tt_cd 73 17 = (2, .iconst 1, 1) := by decide +kernel
theorem xc73_18 : tt_cd 73 18 = (5, .if_icmp .ne 28, 3) := by decide +kernel
theorem xc73_21 : tt_cd 73 21 = (1, .aload_n 0, 1) := by decide +kernel
theorem xc73_22 : tt_cd 73 22 = (3, .getfield 93, 3) := by decide +kernel
theorem xf73_93 : tt_fl 73 93 = (1, 9, 8) := by decide +kernel
theorem xc73_25 : tt_cd 73 25 = (5, .ifnonnull 7, 3) := by decide +kernel
theorem xc73_32 : tt_cd 73 32 = (1, .aload_n 0, 1) := by decide +kernel
theorem xc73_33 : tt_cd 73 33 = (3, .getfield 93, 3) := by decide +kernel
theorem xc73_36 : tt_cd 73 36 = (1, .aload_n 0, 1) := by decide +kernel
theorem xc73_37 : tt_cd 73 37 = (3, .getfield 96, 3) := by decide +kernel
theorem xf73_96 : tt_fl 73 96 = (1, 9, 9) := by decide +kernel
theorem xc73_40 : tt_cd 73 40 = (1, .aload_n 2, 1) := by decide +kernel
theorem xc73_41 : tt_cd 73 41 = (2, .iconst 0, 1) := by decide +kernel
theorem xc73_42 : tt_cd 73 42 = (10, .invokestatic 89, 3) := by decide +kernel
theorem xc73_45 : tt_cd 73 45 = (9, .ireturn, 1) := by decide +kernel
theorem xc73_46 : tt_cd 73 46 = (2, .iconst 0, 1) := by decide +kernel
theorem xc73_47 : tt_cd 73 47 = (1, .istore_n 3, 1) := by decide +kernel
theorem xl73 : tt_mL 73 = 5 := by decide +kernel
theorem xc73_48 : tt_cd 73 48 = (2, .iconst 0, 1) := by decide +kernel
theorem xc73_49 : tt_cd 73 49 = (1, .istore 4, 2) := by decide +kernel
theorem xc73_51 : tt_cd 73 51 = (1, .iload 4, 2) := by decide +kernel
theorem xc73_53 : tt_cd 73 53 = (1, .aload_n 0, 1) := by decide +kernel
theorem xc73_54 : tt_cd 73 54 = (3, .getfield 67, 3) := by decide +kernel
theorem xf73_67 : tt_fl 73 67 = (1, 9, 7) := by decide +kernel
theorem xc73_57 : tt_cd 73 57 = (5, .if_icmp .ge 36, 3) := by decide +kernel
theorem xc73_60 : tt_cd 73 60 = (1, .aload_n 0, 1) := by decide +kernel
theorem xc73_61 : tt_cd 73 61 = (3, .getfield 20, 3) := by decide +kernel
theorem xf73_20 : tt_fl 73 20 = (1, 9, 6) := by decide +kernel
theorem xc73_64 : tt_cd 73 64 = (1, .iload 4, 2) := by decide +kernel
theorem xc73_66 : tt_cd 73 66 = (3, .aaload, 1) := by decide +kernel
theorem xc73_67 : tt_cd 73 67 = (3, .getfield 99, 3) := by decide +kernel
theorem xf73_99 : tt_fl 73 99 = (2, 10, 0) := by decide +kernel
theorem xc73_70 : tt_cd 73 70 = (1, .aload_n 0, 1) := by decide +kernel
theorem xc73_71 : tt_cd 73 71 = (3, .getfield 20, 3) := by decide +kernel
theorem xc73_74 : tt_cd 73 74 = (1, .iload 4, 2) := by decide +kernel
theorem xc73_76 : tt_cd 73 76 = (3, .aaload, 1) := by decide +kernel
theorem xc73_77 : tt_cd 73 77 = (3, .getfield 99, 3) := by decide +kernel
theorem xc73_80 : tt_cd 73 80 = (3, .arraylength, 1) := by decide +kernel
theorem xc73_81 : tt_cd 73 81 = (1, .aload_n 2, 1) := by decide +kernel
theorem xc73_82 : tt_cd 73 82 = (1, .iload_n 3, 1) := by decide +kernel
theorem xc73_83 : tt_cd 73 83 = (10, .invokestatic 89, 3) := by decide +kernel
theorem xc73_86 : tt_cd 73 86 = (1, .istore_n 3, 1) := by decide +kernel
theorem xc73_87 : tt_cd 73 87 = (1, .iinc 4 1, 3) := by decide +kernel
theorem xc73_90 : tt_cd 73 90 = (5, .goto (-39), 3) := by decide +kernel
theorem xc73_93 : tt_cd 73 93 = (1, .iload_n 3, 1) := by decide +kernel
theorem xc73_94 : tt_cd 73 94 = (9, .ireturn, 1) := by decide +kernel
theorem xc72_0 : tt_cd 72 0 = (1, .aload_n 0, 1) := by decide +kernel
theorem xc72_1 : tt_cd 72 1 = (3, .getfield 88, 3) := by decide +kernel
theorem xf72_88 : tt_fl 72 88 = (1, 1, 7) := by decide +kernel
theorem xc72_4 : tt_cd 72 4 = (1, .iload_n 1, 1) := by decide +kernel
theorem xc72_5 : tt_cd 72 5 = (10, .invokevirtual 92, 3) := by decide +kernel
theorem xm72_92 : tt_ml 72 92 = (3, 53, 1) := by decide +kernel
theorem xi53 : tt_mci 53 = 8 := by decide +kernel
theorem xl53 : tt_mL 53 = 2 := by decide +kernel
theorem xc72_8 : tt_cd 72 8 = (1, .astore 5, 2) := by decide +kernel
theorem xl72 : tt_mL 72 = 8 := by decide +kernel
theorem xc72_10 : tt_cd 72 10 = (1, .aload 5, 2) := by decide +kernel
theorem xc72_12 : tt_cd 72 12 = (5, .ifnull 25, 3) := by decide +kernel
theorem xc72_15 : tt_cd 72 15 = (1, .iload_n 2, 1) := by decide +kernel
theorem xc72_16 : tt_cd 72 16 = (5, .ifCond .lt 21, 3) := by decide +kernel
theorem xc72_19 : tt_cd 72 19 = (1, .iload_n 2, 1) := by decide +kernel
theorem xc72_20 : tt_cd 72 20 = (2, .iconst 2, 1) := by decide +kernel
theorem xc72_21 : tt_cd 72 21 = (5, .if_icmp .gt 16, 3) := by decide +kernel
theorem xc72_24 : tt_cd 72 24 = (1, .iload 4, 2) := by decide +kernel
theorem xc72_26 : tt_cd 72 26 = (5, .ifCond .lt 11, 3) := by decide +kernel
theorem xc72_29 : tt_cd 72 29 = (1, .iload 4, 2) := by decide +kernel
theorem xc72_31 : tt_cd 72 31 = (4, .sipush 255, 3) := by decide +kernel
theorem xc72_34 : tt_cd 72 34 = (5, .if_icmp .le 5, 3) := by decide +kernel
theorem xc72_39 : tt_cd 72 39 = (1, .aload 5, 2) := by decide +kernel
theorem xc72_41 : tt_cd 72 41 = (1, .iload_n 2, 1) := by decide +kernel
theorem xc72_42 : tt_cd 72 42 = (1, .aload_n 0, 1) := by decide +kernel
theorem xc72_43 : tt_cd 72 43 = (3, .getfield 16, 3) := by decide +kernel
theorem xf72_16 : tt_fl 72 16 = (1, 1, 3) := by decide +kernel
theorem xc72_46 : tt_cd 72 46 = (10, .invokevirtual 227, 3) := by decide +kernel
theorem xm72_227 : tt_ml 72 227 = (3, 73, 2) := by decide +kernel
theorem xi73 : tt_mci 73 = 9 := by decide +kernel
theorem xc72_49 : tt_cd 72 49 = (1, .istore 6, 2) := by decide +kernel
theorem xc72_51 : tt_cd 72 51 = (1, .iload 4, 2) := by decide +kernel
theorem xc72_53 : tt_cd 72 53 = (5, .ifCond .le 31, 3) := by decide +kernel
theorem xc72_56 : tt_cd 72 56 = (1, .iload_n 3, 1) := by decide +kernel
theorem xc72_57 : tt_cd 72 57 = (5, .ifCond .lt 9, 3) := by decide +kernel
theorem xc72_60 : tt_cd 72 60 = (1, .iload_n 3, 1) := by decide +kernel
theorem xc72_61 : tt_cd 72 61 = (1, .iload 6, 2) := by decide +kernel
theorem xc72_63 : tt_cd 72 63 = (5, .if_icmp .lt 5, 3) := by decide +kernel
theorem xc72_68 : tt_cd 72 68 = (1, .aload_n 0, 1) := by decide +kernel
theorem xc72_69 : tt_cd 72 69 = (3, .getfield 16, 3) := by decide +kernel
theorem xc72_72 : tt_cd 72 72 = (1, .iload_n 3, 1) := by decide +kernel
theorem xc72_73 : tt_cd 72 73 = (1, .aload_n 0, 1) := by decide +kernel
theorem xc72_74 : tt_cd 72 74 = (3, .getfield 16, 3) := by decide +kernel
theorem xc72_77 : tt_cd 72 77 = (1, .iload_n 3, 1) := by decide +kernel
theorem xc72_78 : tt_cd 72 78 = (3, .baload, 1) := by decide +kernel
theorem xc72_79 : tt_cd 72 79 = (1, .iload 4, 2) := by decide +kernel
theorem xc72_81 : tt_cd 72 81 = (2, .ixor, 1) := by decide +kernel
theorem xc72_82 : tt_cd 72 82 = (2, .i2b, 1) := by decide +kernel
theorem xc72_83 : tt_cd 72 83 = (6, .bastore, 1) := by decide +kernel
theorem xc72_84 : tt_cd 72 84 = (1, .iload_n 2, 1) := by decide +kernel
theorem xc72_85 : tt_cd 72 85 = (5, .ifCond .ne 15, 3) := by decide +kernel
theorem xc72_88 : tt_cd 72 88 = (1, .aload_n 0, 1) := by decide +kernel
theorem xc72_89 : tt_cd 72 89 = (3, .getfield 99, 3) := by decide +kernel
theorem xf72_99 : tt_fl 72 99 = (1, 1, 8) := by decide +kernel
theorem xc72_92 : tt_cd 72 92 = (1, .aload_n 0, 1) := by decide +kernel
theorem xc72_93 : tt_cd 72 93 = (3, .getfield 16, 3) := by decide +kernel
theorem xc72_96 : tt_cd 72 96 = (10, .invokevirtual 231, 3) := by decide +kernel
theorem xm72_231 : tt_ml 72 231 = (3, 75, 1) := by decide +kernel
theorem xi75 : tt_mci 75 = 11 := by decide +kernel
theorem xc72_99 : tt_cd 72 99 = (9, .ireturn, 1) := by decide +kernel
theorem xr72 : tt_mr 72 = 1 := by decide +kernel
theorem xc72_100 : tt_cd 72 100 = (1, .aload_n 0, 1) := by decide +kernel
theorem xc72_101 : tt_cd 72 101 = (3, .getfield 88, 3) := by decide +kernel
theorem xc72_104 : tt_cd 72 104 = (1, .aload 5, 2) := by decide +kernel
theorem xc72_106 : tt_cd 72 106 = (3, .getfield 198, 3) := by decide +kernel
theorem xf72_198 : tt_fl 72 198 = (2, 9, 5) := by decide +kernel
theorem xc72_109 : tt_cd 72 109 = (10, .invokevirtual 235, 3) := by decide +kernel
theorem xm72_235 : tt_ml 72 235 = (3, 77, 1) := by decide +kernel
theorem xi77 : tt_mci 77 = 8 := by decide +kernel
theorem xc72_112 : tt_cd 72 112 = (1, .astore 7, 2) := by decide +kernel
theorem xc72_114 : tt_cd 72 114 = (1, .iload_n 2, 1) := by decide +kernel
theorem xc72_115 : tt_cd 72 115 = (2, .iconst 1, 1) := by decide +kernel
theorem xc72_116 : tt_cd 72 116 = (5, .if_icmp .ne 19, 3) := by decide +kernel
theorem xc72_119 : tt_cd 72 119 = (1, .aload_n 0, 1) := by decide +kernel
theorem xc72_120 : tt_cd 72 120 = (3, .getfield 99, 3) := by decide +kernel
theorem xc72_123 : tt_cd 72 123 = (1, .aload 7, 2) := by decide +kernel
theorem xc72_125 : tt_cd 72 125 = (1, .aload_n 0, 1) := by decide +kernel
theorem xc72_126 : tt_cd 72 126 = (3, .getfield 16, 3) := by decide +kernel
theorem xc72_129 : tt_cd 72 129 = (1, .iload 6, 2) := by decide +kernel
theorem xc72_131 : tt_cd 72 131 = (10, .invokevirtual 239, 3) := by decide +kernel
theorem xm72_239 : tt_ml 72 239 = (3, 78, 3) := by decide +kernel
theorem xi78 : tt_mci 78 = 11 := by decide +kernel
theorem xc72_134 : tt_cd 72 134 = (9, .ireturn, 1) := by decide +kernel
theorem xc72_135 : tt_cd 72 135 = (1, .aload_n 0, 1) := by decide +kernel
theorem xc72_136 : tt_cd 72 136 = (3, .getfield 99, 3) := by decide +kernel
theorem xc72_139 : tt_cd 72 139 = (1, .aload 7, 2) := by decide +kernel
theorem xc72_141 : tt_cd 72 141 = (1, .aload_n 0, 1) := by decide +kernel
theorem xc72_142 : tt_cd 72 142 = (3, .getfield 16, 3) := by decide +kernel
theorem xc72_145 : tt_cd 72 145 = (1, .iload 6, 2) := by decide +kernel
theorem xc72_147 : tt_cd 72 147 = (10, .invokevirtual 243, 3) := by decide +kernel
theorem xm72_243 : tt_ml 72 243 = (3, 79, 3) := by decide +kernel
theorem xi79 : tt_mci 79 = 11 := by decide +kernel
theorem xc72_150 : tt_cd 72 150 = (9, .ireturn, 1) := by decide +kernel
theorem cg_tP : tt_tl[7]? = some (.object "PurseHouse$Payment") := by decide +kernel
section CG
variable {n : Nat} {pl : Nat → Nat} {w0 w : mv_T 10} {X0 X1 X3 X8 X11 X17 cbs Hd Id Fi cps Pb Pl ckn Dg cff cbf Ids Sp Sw Ss In stl su sl : Nat}
theorem cg_first (hw : wh 22 pl w0 w [(0, 1, 13, X0), (0, 8, 11, X1), (3, 6, 40, cbs), (0, 9, 11, X3), (1, 1, 105, Hd), (1, 1, 32, Id), (1, 1, 2, Fi), (3, 7, 4, cps), (0, 10, 6, X8), (1, 1, 28, Pb), (1, 1, 2048, Pl), (0, 11, 19, X11), (3, 6, 60, ckn), (1, 1, 32, Dg), (3, 6, 60, cff), (3, 6, 60, cbf), (1, 1, 2336, Ids), (0, 2, 13, X17), (1, 1, 64, Sp), (1, 0, 64, Sw), (1, 0, 8, Ss), (1, 1, 32, In)]) (hX0 : fh X0 jX [(2, pl 1, 0), (2, pl 10, 0), (2, pl 11, 0)]) (hX1 : fh X1 jM [(0, 1, 0), (2, pl 2, 0)]) (hX3 : fh X3 jB [(2, pl 5, 0), (2, pl 4, 0), (2, pl 6, 0), (0, 2, 0), (0, 1, 0), (2, pl 7, 0)]) (hX8 : fh X8 jP [(2, pl 9, 0)]) (hX11 : fh X11 jU [(2, pl 17, 0), (2, pl 12, 0), (0, 1, 0), (2, pl 13, 0), (2, pl 14, 0), (2, pl 15, 0), (0, stl, 0), (2, pl 16, 0)]) (hX17 : fh X17 jS [(2, pl 18, 0), (2, pl 19, 0), (2, pl 20, 0), (2, pl 21, 0), (0, su, 0), (0, sl, 0)]) (hbs : mv_rd 32 cbs 0 = pl 3 + 1) (hkn : mv_rd 32 ckn 0 = pl 3 + 1) (hff : mv_rd 32 cff 0 = 0) (hbf : mv_rd 32 cbf 0 = 0) (hps : mv_rd 32 cps 0 = pl 8 + 1) (hst : stl < 2) (hsu : su < 64) (hsl : sl < 4294967296)  : sy_D 77 n 1 25 [(2, pl 1, 0), (2, pl 5, 0)] w (fun ret w' => ret = [(2, pl 3, 0)] ∧ w' = w) := by
  have hs : sb_n Id 0 Id 0 32 = 1 := by unfold sb_n; rw [sb_refl]; rfl
  refine sy_Dof (us := [(255, 0, 0)]) (sy_oks_cons (sy_ok2 (wh_lt hw 1 (by first | decide | assumption))) (sy_oks_cons (sy_ok2 (wh_lt hw 5 (by first | decide | assumption))) sy_oks_nil)) rfl rfl ?_
  show sy_F 77 n 1 25 0 [(2, pl 1, 0), (2, pl 5, 0), (255, 0, 0)] [] w _
  refine sy_Fs (sy_iconst (v := 0) xc77_0 (by decide) sy_refl) ?_
  refine sy_Fs (sx_istn (j := 2) (ls' := [(2, pl 1, 0), (2, pl 5, 0), (0, 0, 0)]) xc77_1 rfl rfl (sy_ok0 (by first | decide | assumption | omega | exact mo_rd_lt _ _ | exact mo_add_lt _ _ | exact mo_sub_lt _ _ | exact mo_mul_lt _ _ | exact mo_shl_lt _ _ | exact mo_ushr_lt _ _ | exact mo_or_lt (by decide) (mo_and_lt (mo_rd_lt _ _)) | exact mo_or_lt (mo_shl_lt _ _) (mo_and_lt (mo_rd_lt _ _)))) (by rw [xl77]; rfl) rfl rfl) ?_
  refine sy_Fs (sy_ildn xc77_2 rfl rfl sy_refl) ?_
  refine sy_Fs (sy_aldn xc77_3 rfl rfl sy_refl) ?_
  refine sy_Fs (sy_gf xc77_4 xf77_44 rfl (wh_at hw 1 rfl) rfl (fh_at hX1 0 rfl rfl) sy_refl) ?_
  refine sy_Fs (sy_ge_f xc77_7 (by decide) (by decide) (by decide) sy_refl) ?_
  refine sy_Fs (sy_aldn xc77_10 rfl rfl sy_refl) ?_
  refine sy_Fs (sy_gf xc77_11 xf77_13 rfl (wh_at hw 1 rfl) rfl (fh_at hX1 1 rfl rfl) sy_refl) ?_
  refine sy_Fs (sy_ildn xc77_14 rfl rfl sy_refl) ?_
  refine sy_Fs (sy_aald (i := 0) xc77_15 (wh_at hw 2 rfl) gv_tB rfl (by decide) (by decide) hbs sy_refl) ?_
  refine sy_Fs (sy_gf xc77_16 xf77_48 rfl (wh_at hw 3 rfl) rfl (fh_at hX3 0 rfl rfl) sy_refl) ?_
  refine sy_Fs (sy_iconst (v := 0) xc77_19 (by decide) sy_refl) ?_
  refine sy_Fs (sy_aldn xc77_20 rfl rfl sy_refl) ?_
  refine sy_Fs (sy_iconst (v := 0) xc77_21 (by decide) sy_refl) ?_
  refine sy_Fs (sy_bipush (v := 32) xc77_22 (by decide) (by decide) sy_refl) ?_
  refine sy_Fs (sy_callG (kd := 2) (as := [(2, pl 5, 0), (0, 0, 0), (2, pl 5, 0), (0, 0, 0), (0, 32, 0)]) (S0 := []) (ret := [(0, (sb_n Id 0 Id 0 32), 0)]) xc77_24 (sy_calS (as := [(2, pl 5, 0), (0, 0, 0), (2, pl 5, 0), (0, 0, 0), (0, 32, 0)]) (S0 := []) xm77_51 rfl rfl) rfl rfl rfl rfl (sy_oka (sy_oks_cons (sy_ok2 (wh_lt hw 5 (by first | decide | assumption))) (sy_oks_cons (sy_ok0 (by first | decide | assumption | omega | exact mo_rd_lt _ _ | exact mo_add_lt _ _ | exact mo_sub_lt _ _ | exact mo_mul_lt _ _ | exact mo_shl_lt _ _ | exact mo_ushr_lt _ _ | exact mo_or_lt (by decide) (mo_and_lt (mo_rd_lt _ _)) | exact mo_or_lt (mo_shl_lt _ _) (mo_and_lt (mo_rd_lt _ _)))) (sy_oks_cons (sy_ok2 (wh_lt hw 5 (by first | decide | assumption))) (sy_oks_cons (sy_ok0 (by first | decide | assumption | omega | exact mo_rd_lt _ _ | exact mo_add_lt _ _ | exact mo_sub_lt _ _ | exact mo_mul_lt _ _ | exact mo_shl_lt _ _ | exact mo_ushr_lt _ _ | exact mo_or_lt (by decide) (mo_and_lt (mo_rd_lt _ _)) | exact mo_or_lt (mo_shl_lt _ _) (mo_and_lt (mo_rd_lt _ _)))) (sy_oks_cons (sy_ok0 (by first | decide | assumption | omega | exact mo_rd_lt _ _ | exact mo_add_lt _ _ | exact mo_sub_lt _ _ | exact mo_mul_lt _ _ | exact mo_shl_lt _ _ | exact mo_ushr_lt _ _ | exact mo_or_lt (by decide) (mo_and_lt (mo_rd_lt _ _)) | exact mo_or_lt (mo_shl_lt _ _) (mo_and_lt (mo_rd_lt _ _)))) sy_oks_nil))))) rfl xl35) (sbA_run (wh_lt hw 5 (by first | decide | assumption)) (wh_lt hw 5 (by first | decide | assumption)) (wh_at hw 5 rfl) (wh_at hw 5 rfl) (by first | decide | assumption | omega) (by first | decide | assumption | omega) (by first | decide | assumption | omega) (by first | decide | assumption | omega)) (by decide) (by rw [xl35]; decide) sy_refl) ?_
  rw [hs]
  refine sy_Fs (sy_ifeq_f xc77_27 (by decide) (by decide) (by decide) sy_refl) ?_
  refine sy_Fs (sy_aldn xc77_30 rfl rfl sy_refl) ?_
  refine sy_Fs (sy_gf xc77_31 xf77_13 rfl (wh_at hw 1 rfl) rfl (fh_at hX1 1 rfl rfl) sy_refl) ?_
  refine sy_Fs (sy_ildn xc77_34 rfl rfl sy_refl) ?_
  refine sy_Fs (sy_aald (i := 0) xc77_35 (wh_at hw 2 rfl) gv_tB rfl (by decide) (by decide) hbs sy_refl) ?_
  exact sy_Fa xc77_36 xr77 rfl ⟨rfl, rfl⟩
theorem cg_head (hw : wh 22 pl w0 w [(0, 1, 13, X0), (0, 8, 11, X1), (3, 6, 40, cbs), (0, 9, 11, X3), (1, 1, 105, Hd), (1, 1, 32, Id), (1, 1, 2, Fi), (3, 7, 4, cps), (0, 10, 6, X8), (1, 1, 28, Pb), (1, 1, 2048, Pl), (0, 11, 19, X11), (3, 6, 60, ckn), (1, 1, 32, Dg), (3, 6, 60, cff), (3, 6, 60, cbf), (1, 1, 2336, Ids), (0, 2, 13, X17), (1, 1, 64, Sp), (1, 0, 64, Sw), (1, 0, 8, Ss), (1, 1, 32, In)]) (hX0 : fh X0 jX [(2, pl 1, 0), (2, pl 10, 0), (2, pl 11, 0)]) (hX1 : fh X1 jM [(0, 1, 0), (2, pl 2, 0)]) (hX3 : fh X3 jB [(2, pl 5, 0), (2, pl 4, 0), (2, pl 6, 0), (0, 2, 0), (0, 1, 0), (2, pl 7, 0)]) (hX8 : fh X8 jP [(2, pl 9, 0)]) (hX11 : fh X11 jU [(2, pl 17, 0), (2, pl 12, 0), (0, 1, 0), (2, pl 13, 0), (2, pl 14, 0), (2, pl 15, 0), (0, stl, 0), (2, pl 16, 0)]) (hX17 : fh X17 jS [(2, pl 18, 0), (2, pl 19, 0), (2, pl 20, 0), (2, pl 21, 0), (0, su, 0), (0, sl, 0)]) (hbs : mv_rd 32 cbs 0 = pl 3 + 1) (hkn : mv_rd 32 ckn 0 = pl 3 + 1) (hff : mv_rd 32 cff 0 = 0) (hbf : mv_rd 32 cbf 0 = 0) (hps : mv_rd 32 cps 0 = pl 8 + 1) (hst : stl < 2) (hsu : su < 64) (hsl : sl < 4294967296) {f : Nat → Nat} (hf : ∀ j, j < 105 → mv_rd 32 Pl (0 + j) = f j) (hG : sb_eq Id 0 Pl 0 32 = false) : sy_D 75 n 5 115 [(2, pl 11, 0), (2, pl 10, 0)] w (fun ret w' => ∃ T : Nat, (∀ j, j < 32 → mv_rd 32 T j = bk_D (hs_2 f 105) j) ∧ ret = [(0, gh_a Id T, 0)] ∧ ∃ cs, wh 22 pl w0 w' cs) := by
  refine sy_Dof (us := [(255, 0, 0), (255, 0, 0)]) (sy_oks_cons (sy_ok2 (wh_lt hw 11 (by first | decide | assumption))) (sy_oks_cons (sy_ok2 (wh_lt hw 10 (by first | decide | assumption))) sy_oks_nil)) rfl rfl ?_
  show sy_F 75 n 5 115 0 [(2, pl 11, 0), (2, pl 10, 0), (255, 0, 0), (255, 0, 0)] [] w _
  refine sy_Fs (sy_aldn xc75_0 rfl rfl sy_refl) ?_
  refine sy_Fs (sy_gf xc75_1 xf75_56 rfl (wh_at hw 11 rfl) rfl (fh_at hX11 0 rfl rfl) sy_refl) ?_
  refine sy_Fs (sy_aldn xc75_4 rfl rfl sy_refl) ?_
  refine sy_Fs (sy_iconst (v := 0) xc75_5 (by decide) sy_refl) ?_
  refine sy_Fs (sy_bipush (v := 105) xc75_6 (by decide) (by decide) sy_refl) ?_
  refine sy_Fs (sy_aldn xc75_8 rfl rfl sy_refl) ?_
  refine sy_Fs (sy_gf xc75_9 xf75_53 rfl (wh_at hw 11 rfl) rfl (fh_at hX11 3 rfl rfl) sy_refl) ?_
  obtain ⟨w, X17, P1, W1, S1, I1, T1, u1, l1, hC, hw1, hX1x, hT1⟩ := wc_hash (n := n) (s := (su, sl, Sp, Sw, Ss)) (fa := 0) (nn := 105) (it := 13) (jf := 10) (f := f) hw rfl rfl rfl rfl hX17 rfl rfl rfl rfl rfl rfl rfl (by decide) rfl (by first | decide | assumption | omega) (by first | decide | assumption | omega) (by decide) rfl (by first | decide | assumption | omega) (by first | decide | assumption | omega) hf (by first | decide | assumption | omega)
  refine sy_Fs (sy_callG (kd := 3) (as := [(2, pl 17, 0), (2, pl 10, 0), (0, 0, 0), (0, 105, 0), (2, pl 13, 0)]) (S0 := []) (ret := []) xc75_12 (sy_calV (as := [(2, pl 17, 0), (2, pl 10, 0), (0, 0, 0), (0, 105, 0), (2, pl 13, 0)]) (S0 := []) xm75_83 rfl rfl) rfl rfl (sy_rcvm xi13 (wh_at hw 17 rfl)) rfl (sy_oka (sy_oks_cons (sy_ok2 (wh_lt hw 17 (by first | decide | assumption))) (sy_oks_cons (sy_ok2 (wh_lt hw 10 (by first | decide | assumption))) (sy_oks_cons (sy_ok0 (by first | decide | assumption | omega | exact mo_rd_lt _ _ | exact mo_add_lt _ _ | exact mo_sub_lt _ _ | exact mo_mul_lt _ _ | exact mo_shl_lt _ _ | exact mo_ushr_lt _ _ | exact mo_or_lt (by decide) (mo_and_lt (mo_rd_lt _ _)) | exact mo_or_lt (mo_shl_lt _ _) (mo_and_lt (mo_rd_lt _ _)))) (sy_oks_cons (sy_ok0 (by first | decide | assumption | omega | exact mo_rd_lt _ _ | exact mo_add_lt _ _ | exact mo_sub_lt _ _ | exact mo_mul_lt _ _ | exact mo_shl_lt _ _ | exact mo_ushr_lt _ _ | exact mo_or_lt (by decide) (mo_and_lt (mo_rd_lt _ _)) | exact mo_or_lt (mo_shl_lt _ _) (mo_and_lt (mo_rd_lt _ _)))) (sy_oks_cons (sy_ok2 (wh_lt hw 13 (by first | decide | assumption))) sy_oks_nil))))) rfl xl13) hC (by decide) (by rw [xl13]; decide) sy_refl) ?_
  replace hw := hw1
  replace hX17 := hX1x
  simp only [List.set_cons_zero, List.set_cons_succ] at hw hX17
  refine sy_Fs (sy_aldn xc75_15 rfl rfl sy_refl) ?_
  refine sy_Fs (sy_aldn xc75_16 rfl rfl sy_refl) ?_
  refine sy_Fs (sy_gf xc75_17 xf75_53 rfl (wh_at hw 11 rfl) rfl (fh_at hX11 3 rfl rfl) sy_refl) ?_
  refine sy_Fs (sy_iconst (v := 0) xc75_20 (by decide) sy_refl) ?_
  refine sy_Fs (sy_callG (kd := 3) (as := [(2, pl 11, 0), (2, pl 13, 0), (0, 0, 0)]) (S0 := []) (ret := [(0, (gv_fk Id T1 0), 0)]) xc75_21 (sy_calV (as := [(2, pl 11, 0), (2, pl 13, 0), (0, 0, 0)]) (S0 := []) xm75_89 rfl rfl) rfl rfl (sy_rcvm xi76 (wh_at hw 11 rfl)) rfl (sy_oka (sy_oks_cons (sy_ok2 (wh_lt hw 11 (by first | decide | assumption))) (sy_oks_cons (sy_ok2 (wh_lt hw 13 (by first | decide | assumption))) (sy_oks_cons (sy_ok0 (by first | decide | assumption | omega | exact mo_rd_lt _ _ | exact mo_add_lt _ _ | exact mo_sub_lt _ _ | exact mo_mul_lt _ _ | exact mo_shl_lt _ _ | exact mo_ushr_lt _ _ | exact mo_or_lt (by decide) (mo_and_lt (mo_rd_lt _ _)) | exact mo_or_lt (mo_shl_lt _ _) (mo_and_lt (mo_rd_lt _ _)))) sy_oks_nil))) rfl xl76) (gv_find (wh_lt hw 11 (by first | decide | assumption)) (wh_lt hw 13 (by first | decide | assumption)) (wh_lt hw 5 (by first | decide | assumption)) (wh_at hw 11 rfl) (fh_at hX11 2 rfl rfl) (fh_at hX11 1 rfl rfl) (wh_at hw 12 rfl) hkn (wh_at hw 3 rfl) (fh_at hX3 0 rfl rfl) (wh_at hw 5 rfl) (wh_at hw 13 rfl) (by first | decide | assumption | omega) (by first | decide | assumption | omega)) (by decide) (by rw [xl76]; decide) sy_refl) ?_
  cases hb : sb_eq Id 0 T1 0 32 with
  | true =>
    have e : gv_fk Id T1 0 = 0 := by unfold gv_fk; rw [hb]; rfl
    refine sy_Fs (sy_iflt_f xc75_24 (by decide) (by rw [e]; decide) sy_refl) ?_
    refine sy_Fs (sy_iconst (v := 2) xc75_27 (by decide) sy_refl) ?_
    exact sy_Fi xc75_28 xr75 rfl ⟨T1, fun j hj => by rw [hT1 j, if_pos (by omega)]; rfl, by unfold gh_a; rw [hb]; rfl, _, hw⟩
  | false =>
    have e : gv_fk Id T1 0 = 4294967295 := by unfold gv_fk; rw [hb]; rfl
    have eG : gv_fk Id Pl 0 = 4294967295 := by unfold gv_fk; rw [hG]; rfl
    refine sy_Fs (sy_iflt_t (pc' := 29) xc75_24 (by decide) (by rw [e]; decide) (by rw [e]; decide) (by decide) sy_refl) ?_
    refine sy_Fs (sy_aldn xc75_29 rfl rfl sy_refl) ?_
    refine sy_Fs (sy_aldn xc75_30 rfl rfl sy_refl) ?_
    refine sy_Fs (sy_iconst (v := 0) xc75_31 (by decide) sy_refl) ?_
    refine sy_Fs (sy_callG (kd := 3) (as := [(2, pl 11, 0), (2, pl 10, 0), (0, 0, 0)]) (S0 := []) (ret := [(0, (gv_fk Id Pl 0), 0)]) xc75_32 (sy_calV (as := [(2, pl 11, 0), (2, pl 10, 0), (0, 0, 0)]) (S0 := []) xm75_89 rfl rfl) rfl rfl (sy_rcvm xi76 (wh_at hw 11 rfl)) rfl (sy_oka (sy_oks_cons (sy_ok2 (wh_lt hw 11 (by first | decide | assumption))) (sy_oks_cons (sy_ok2 (wh_lt hw 10 (by first | decide | assumption))) (sy_oks_cons (sy_ok0 (by first | decide | assumption | omega | exact mo_rd_lt _ _ | exact mo_add_lt _ _ | exact mo_sub_lt _ _ | exact mo_mul_lt _ _ | exact mo_shl_lt _ _ | exact mo_ushr_lt _ _ | exact mo_or_lt (by decide) (mo_and_lt (mo_rd_lt _ _)) | exact mo_or_lt (mo_shl_lt _ _) (mo_and_lt (mo_rd_lt _ _)))) sy_oks_nil))) rfl xl76) (gv_find (wh_lt hw 11 (by first | decide | assumption)) (wh_lt hw 10 (by first | decide | assumption)) (wh_lt hw 5 (by first | decide | assumption)) (wh_at hw 11 rfl) (fh_at hX11 2 rfl rfl) (fh_at hX11 1 rfl rfl) (wh_at hw 12 rfl) hkn (wh_at hw 3 rfl) (fh_at hX3 0 rfl rfl) (wh_at hw 5 rfl) (wh_at hw 10 rfl) (by first | decide | assumption | omega) (by first | decide | assumption | omega)) (by decide) (by rw [xl76]; decide) sy_refl) ?_
    rw [eG]
    refine sy_Fs (sx_istn (j := 2) (ls' := [(2, pl 11, 0), (2, pl 10, 0), (0, 4294967295, 0), (255, 0, 0)]) xc75_35 rfl rfl (sy_ok0 (by first | decide | assumption | omega | exact mo_rd_lt _ _ | exact mo_add_lt _ _ | exact mo_sub_lt _ _ | exact mo_mul_lt _ _ | exact mo_shl_lt _ _ | exact mo_ushr_lt _ _ | exact mo_or_lt (by decide) (mo_and_lt (mo_rd_lt _ _)) | exact mo_or_lt (mo_shl_lt _ _) (mo_and_lt (mo_rd_lt _ _)))) (by rw [xl75]; rfl) rfl rfl) ?_
    refine sy_Fs (sy_ildn xc75_36 rfl rfl sy_refl) ?_
    refine sy_Fs (sy_iflt_t (pc' := 54) xc75_37 (by decide) (by decide) (by decide) (by decide) sy_refl) ?_
    refine sy_Fs (sy_iconst (v := 0) xc75_54 (by decide) sy_refl) ?_
    exact sy_Fi xc75_55 xr75 rfl ⟨T1, fun j hj => by rw [hT1 j, if_pos (by omega)]; rfl, by unfold gh_a; rw [hb]; rfl, _, hw⟩
def cg_a (T Hd p : Nat) : Nat := bif sb_eq T 0 Hd p 32 then 1 else 0
theorem cg_filt (hw : wh 22 pl w0 w [(0, 1, 13, X0), (0, 8, 11, X1), (3, 6, 40, cbs), (0, 9, 11, X3), (1, 1, 105, Hd), (1, 1, 32, Id), (1, 1, 2, Fi), (3, 7, 4, cps), (0, 10, 6, X8), (1, 1, 28, Pb), (1, 1, 2048, Pl), (0, 11, 19, X11), (3, 6, 60, ckn), (1, 1, 32, Dg), (3, 6, 60, cff), (3, 6, 60, cbf), (1, 1, 2336, Ids), (0, 2, 13, X17), (1, 1, 64, Sp), (1, 0, 64, Sw), (1, 0, 8, Ss), (1, 1, 32, In)]) (hX0 : fh X0 jX [(2, pl 1, 0), (2, pl 10, 0), (2, pl 11, 0)]) (hX1 : fh X1 jM [(0, 1, 0), (2, pl 2, 0)]) (hX3 : fh X3 jB [(2, pl 5, 0), (2, pl 4, 0), (2, pl 6, 0), (0, 2, 0), (0, 1, 0), (2, pl 7, 0)]) (hX8 : fh X8 jP [(2, pl 9, 0)]) (hX11 : fh X11 jU [(2, pl 17, 0), (2, pl 12, 0), (0, 1, 0), (2, pl 13, 0), (2, pl 14, 0), (2, pl 15, 0), (0, stl, 0), (2, pl 16, 0)]) (hX17 : fh X17 jS [(2, pl 18, 0), (2, pl 19, 0), (2, pl 20, 0), (2, pl 21, 0), (0, su, 0), (0, sl, 0)]) (hbs : mv_rd 32 cbs 0 = pl 3 + 1) (hkn : mv_rd 32 ckn 0 = pl 3 + 1) (hff : mv_rd 32 cff 0 = 0) (hbf : mv_rd 32 cbf 0 = 0) (hps : mv_rd 32 cps 0 = pl 8 + 1) (hst : stl < 2) (hsu : su < 64) (hsl : sl < 4294967296) {f : Nat → Nat} (hf : ∀ j, j < 2 → mv_rd 32 Pl (0 + j) = f j) : sy_D 78 n 5 115 [(2, pl 11, 0), (2, pl 3, 0), (2, pl 10, 0), (0, 2, 0)] w (fun ret w' => ∃ T : Nat, (∀ j, j < 32 → mv_rd 32 T j = bk_D (hs_2 f 2) j) ∧ ret = [(0, cg_a T Hd 64, 0)] ∧ ∃ cs, wh 22 pl w0 w' cs) := by
  have eI : gv_fk Id Id 0 = 0 := by unfold gv_fk; rw [sb_refl]; rfl
  refine sy_Dof (us := [(255, 0, 0)]) (sy_oks_cons (sy_ok2 (wh_lt hw 11 (by first | decide | assumption))) (sy_oks_cons (sy_ok2 (wh_lt hw 3 (by first | decide | assumption))) (sy_oks_cons (sy_ok2 (wh_lt hw 10 (by first | decide | assumption))) (sy_oks_cons (sy_ok0 (by first | decide | assumption | omega | exact mo_rd_lt _ _ | exact mo_add_lt _ _ | exact mo_sub_lt _ _ | exact mo_mul_lt _ _ | exact mo_shl_lt _ _ | exact mo_ushr_lt _ _ | exact mo_or_lt (by decide) (mo_and_lt (mo_rd_lt _ _)) | exact mo_or_lt (mo_shl_lt _ _) (mo_and_lt (mo_rd_lt _ _)))) sy_oks_nil)))) rfl rfl ?_
  show sy_F 78 n 5 115 0 [(2, pl 11, 0), (2, pl 3, 0), (2, pl 10, 0), (0, 2, 0), (255, 0, 0)] [] w _
  refine sy_Fs (sy_aldn xc78_0 rfl rfl sy_refl) ?_
  refine sy_Fs (sy_nnl_t (pc' := 8) xc78_1 (by decide) (by decide) sy_refl) ?_
  refine sy_Fs (sy_aldn xc78_8 rfl rfl sy_refl) ?_
  refine sy_Fs (sy_aldn xc78_9 rfl rfl sy_refl) ?_
  refine sy_Fs (sy_gf xc78_10 xf78_76 rfl (wh_at hw 3 rfl) rfl (fh_at hX3 0 rfl rfl) sy_refl) ?_
  refine sy_Fs (sy_iconst (v := 0) xc78_13 (by decide) sy_refl) ?_
  refine sy_Fs (sy_callG (kd := 3) (as := [(2, pl 11, 0), (2, pl 5, 0), (0, 0, 0)]) (S0 := []) (ret := [(0, (gv_fk Id Id 0), 0)]) xc78_14 (sy_calV (as := [(2, pl 11, 0), (2, pl 5, 0), (0, 0, 0)]) (S0 := []) xm78_89 rfl rfl) rfl rfl (sy_rcvm xi76 (wh_at hw 11 rfl)) rfl (sy_oka (sy_oks_cons (sy_ok2 (wh_lt hw 11 (by first | decide | assumption))) (sy_oks_cons (sy_ok2 (wh_lt hw 5 (by first | decide | assumption))) (sy_oks_cons (sy_ok0 (by first | decide | assumption | omega | exact mo_rd_lt _ _ | exact mo_add_lt _ _ | exact mo_sub_lt _ _ | exact mo_mul_lt _ _ | exact mo_shl_lt _ _ | exact mo_ushr_lt _ _ | exact mo_or_lt (by decide) (mo_and_lt (mo_rd_lt _ _)) | exact mo_or_lt (mo_shl_lt _ _) (mo_and_lt (mo_rd_lt _ _)))) sy_oks_nil))) rfl xl76) (gv_find (wh_lt hw 11 (by first | decide | assumption)) (wh_lt hw 5 (by first | decide | assumption)) (wh_lt hw 5 (by first | decide | assumption)) (wh_at hw 11 rfl) (fh_at hX11 2 rfl rfl) (fh_at hX11 1 rfl rfl) (wh_at hw 12 rfl) hkn (wh_at hw 3 rfl) (fh_at hX3 0 rfl rfl) (wh_at hw 5 rfl) (wh_at hw 5 rfl) (by first | decide | assumption | omega) (by first | decide | assumption | omega)) (by decide) (by rw [xl76]; decide) sy_refl) ?_
  rw [eI]
  refine sy_Fs (sx_ist (j := 4) (ls' := [(2, pl 11, 0), (2, pl 3, 0), (2, pl 10, 0), (0, 2, 0), (0, 0, 0)]) xc78_17 rfl (sy_ok0 (by first | decide | assumption | omega | exact mo_rd_lt _ _ | exact mo_add_lt _ _ | exact mo_sub_lt _ _ | exact mo_mul_lt _ _ | exact mo_shl_lt _ _ | exact mo_ushr_lt _ _ | exact mo_or_lt (by decide) (mo_and_lt (mo_rd_lt _ _)) | exact mo_or_lt (mo_shl_lt _ _) (mo_and_lt (mo_rd_lt _ _)))) (by rw [xl78]; rfl) rfl rfl) ?_
  refine sy_Fs (sy_ild xc78_19 rfl rfl sy_refl) ?_
  refine sy_Fs (sy_ifge_t (pc' := 26) xc78_21 (by decide) (by decide) (by decide) sy_refl) ?_
  refine sy_Fs (sy_aldn xc78_26 rfl rfl sy_refl) ?_
  refine sy_Fs (sy_gf xc78_27 xf78_19 rfl (wh_at hw 11 rfl) rfl (fh_at hX11 4 rfl rfl) sy_refl) ?_
  refine sy_Fs (sy_ild xc78_30 rfl rfl sy_refl) ?_
  refine sy_Fs (sx_aaln xc78_32 (wh_at hw 14 rfl) gv_tB (by decide) (by decide) hff) ?_
  refine sy_Fs (sx_nul_t (pc' := 38) xc78_33 (by decide) (by decide)) ?_
  refine sy_Fs (sy_aldn xc78_38 rfl rfl sy_refl) ?_
  refine sy_Fs (sy_gf xc78_39 xf78_56 rfl (wh_at hw 11 rfl) rfl (fh_at hX11 0 rfl rfl) sy_refl) ?_
  refine sy_Fs (sy_aldn xc78_42 rfl rfl sy_refl) ?_
  refine sy_Fs (sy_iconst (v := 0) xc78_43 (by decide) sy_refl) ?_
  refine sy_Fs (sy_ildn xc78_44 rfl rfl sy_refl) ?_
  refine sy_Fs (sy_aldn xc78_45 rfl rfl sy_refl) ?_
  refine sy_Fs (sy_gf xc78_46 xf78_53 rfl (wh_at hw 11 rfl) rfl (fh_at hX11 3 rfl rfl) sy_refl) ?_
  obtain ⟨w, X17, P1, W1, S1, I1, T1, u1, l1, hC, hw1, hX1x, hT1⟩ := wc_hash (n := n) (s := (su, sl, Sp, Sw, Ss)) (fa := 0) (nn := 2) (it := 13) (jf := 10) (f := f) hw rfl rfl rfl rfl hX17 rfl rfl rfl rfl rfl rfl rfl (by decide) rfl (by first | decide | assumption | omega) (by first | decide | assumption | omega) (by decide) rfl (by first | decide | assumption | omega) (by first | decide | assumption | omega) hf (by first | decide | assumption | omega)
  refine sy_Fs (sy_callG (kd := 3) (as := [(2, pl 17, 0), (2, pl 10, 0), (0, 0, 0), (0, 2, 0), (2, pl 13, 0)]) (S0 := []) (ret := []) xc78_49 (sy_calV (as := [(2, pl 17, 0), (2, pl 10, 0), (0, 0, 0), (0, 2, 0), (2, pl 13, 0)]) (S0 := []) xm78_83 rfl rfl) rfl rfl (sy_rcvm xi13 (wh_at hw 17 rfl)) rfl (sy_oka (sy_oks_cons (sy_ok2 (wh_lt hw 17 (by first | decide | assumption))) (sy_oks_cons (sy_ok2 (wh_lt hw 10 (by first | decide | assumption))) (sy_oks_cons (sy_ok0 (by first | decide | assumption | omega | exact mo_rd_lt _ _ | exact mo_add_lt _ _ | exact mo_sub_lt _ _ | exact mo_mul_lt _ _ | exact mo_shl_lt _ _ | exact mo_ushr_lt _ _ | exact mo_or_lt (by decide) (mo_and_lt (mo_rd_lt _ _)) | exact mo_or_lt (mo_shl_lt _ _) (mo_and_lt (mo_rd_lt _ _)))) (sy_oks_cons (sy_ok0 (by first | decide | assumption | omega | exact mo_rd_lt _ _ | exact mo_add_lt _ _ | exact mo_sub_lt _ _ | exact mo_mul_lt _ _ | exact mo_shl_lt _ _ | exact mo_ushr_lt _ _ | exact mo_or_lt (by decide) (mo_and_lt (mo_rd_lt _ _)) | exact mo_or_lt (mo_shl_lt _ _) (mo_and_lt (mo_rd_lt _ _)))) (sy_oks_cons (sy_ok2 (wh_lt hw 13 (by first | decide | assumption))) sy_oks_nil))))) rfl xl13) hC (by decide) (by rw [xl13]; decide) sy_refl) ?_
  replace hw := hw1
  replace hX17 := hX1x
  simp only [List.set_cons_zero, List.set_cons_succ] at hw hX17
  refine sy_Fs (sy_aldn xc78_52 rfl rfl sy_refl) ?_
  refine sy_Fs (sy_gf xc78_53 xf78_53 rfl (wh_at hw 11 rfl) rfl (fh_at hX11 3 rfl rfl) sy_refl) ?_
  refine sy_Fs (sy_iconst (v := 0) xc78_56 (by decide) sy_refl) ?_
  refine sy_Fs (sy_aldn xc78_57 rfl rfl sy_refl) ?_
  refine sy_Fs (sy_gf xc78_58 xf78_15 rfl (wh_at hw 11 rfl) rfl (fh_at hX11 1 rfl rfl) sy_refl) ?_
  refine sy_Fs (sy_ild xc78_61 rfl rfl sy_refl) ?_
  refine sy_Fs (sy_aald (i := 0) xc78_63 (wh_at hw 12 rfl) gv_tB rfl (by decide) (by decide) hkn sy_refl) ?_
  refine sy_Fs (sy_gf xc78_64 xf78_124 rfl (wh_at hw 3 rfl) rfl (fh_at hX3 1 rfl rfl) sy_refl) ?_
  refine sy_Fs (sy_bipush (v := 64) xc78_67 (by decide) (by decide) sy_refl) ?_
  refine sy_Fs (sy_bipush (v := 32) xc78_69 (by decide) (by decide) sy_refl) ?_
  refine sy_Fs (sy_callG (kd := 2) (as := [(2, pl 13, 0), (0, 0, 0), (2, pl 4, 0), (0, 64, 0), (0, 32, 0)]) (S0 := []) (ret := [(0, (sb_n T1 0 Hd 64 32), 0)]) xc78_71 (sy_calS (as := [(2, pl 13, 0), (0, 0, 0), (2, pl 4, 0), (0, 64, 0), (0, 32, 0)]) (S0 := []) xm78_79 rfl rfl) rfl rfl rfl rfl (sy_oka (sy_oks_cons (sy_ok2 (wh_lt hw 13 (by first | decide | assumption))) (sy_oks_cons (sy_ok0 (by first | decide | assumption | omega | exact mo_rd_lt _ _ | exact mo_add_lt _ _ | exact mo_sub_lt _ _ | exact mo_mul_lt _ _ | exact mo_shl_lt _ _ | exact mo_ushr_lt _ _ | exact mo_or_lt (by decide) (mo_and_lt (mo_rd_lt _ _)) | exact mo_or_lt (mo_shl_lt _ _) (mo_and_lt (mo_rd_lt _ _)))) (sy_oks_cons (sy_ok2 (wh_lt hw 4 (by first | decide | assumption))) (sy_oks_cons (sy_ok0 (by first | decide | assumption | omega | exact mo_rd_lt _ _ | exact mo_add_lt _ _ | exact mo_sub_lt _ _ | exact mo_mul_lt _ _ | exact mo_shl_lt _ _ | exact mo_ushr_lt _ _ | exact mo_or_lt (by decide) (mo_and_lt (mo_rd_lt _ _)) | exact mo_or_lt (mo_shl_lt _ _) (mo_and_lt (mo_rd_lt _ _)))) (sy_oks_cons (sy_ok0 (by first | decide | assumption | omega | exact mo_rd_lt _ _ | exact mo_add_lt _ _ | exact mo_sub_lt _ _ | exact mo_mul_lt _ _ | exact mo_shl_lt _ _ | exact mo_ushr_lt _ _ | exact mo_or_lt (by decide) (mo_and_lt (mo_rd_lt _ _)) | exact mo_or_lt (mo_shl_lt _ _) (mo_and_lt (mo_rd_lt _ _)))) sy_oks_nil))))) rfl xl35) (sbA_run (wh_lt hw 13 (by first | decide | assumption)) (wh_lt hw 4 (by first | decide | assumption)) (wh_at hw 13 rfl) (wh_at hw 4 rfl) (by first | decide | assumption | omega) (by first | decide | assumption | omega) (by first | decide | assumption | omega) (by first | decide | assumption | omega)) (by decide) (by rw [xl35]; decide) sy_refl) ?_
  cases hb : sb_eq T1 0 Hd 64 32 with
  | true =>
    have e : sb_n T1 0 Hd 64 32 = 1 := by unfold sb_n; rw [hb]; rfl
    refine sy_Fs (sy_ifne_t (pc' := 79) xc78_74 (by decide) (by rw [e]; decide) (by rw [e]; decide) (by decide) sy_refl) ?_
    refine sy_Fs (sy_aldn xc78_79 rfl rfl sy_refl) ?_
    refine sy_Fs (sy_gf xc78_80 xf78_19 rfl (wh_at hw 11 rfl) rfl (fh_at hX11 4 rfl rfl) sy_refl) ?_
    refine sy_Fs (sy_ild xc78_83 rfl rfl sy_refl) ?_
    refine sy_Fs (sy_aldn xc78_85 rfl rfl sy_refl) ?_
    refine sy_Fw (i := 14) (x := (3, 6, 60, (mv_wr 32 cff 0 (pl 3 + 1)))) hw (by decide) (sx_aas (i := 0) xc78_86 (wh_at hw 14 rfl) (wh_at hw 3 rfl) gv_tB rfl rfl (by decide) (by decide) rfl sy_refl) ?_
    intro w hw
    simp only [List.set_cons_zero, List.set_cons_succ] at hw
    refine sy_Fs (sy_aldn xc78_87 rfl rfl sy_refl) ?_
    refine sy_Fs (sy_iconst (v := 1) xc78_88 (by decide) sy_refl) ?_
    refine sy_Ff (i := 11) (q := 6) (v := (0, 1, 0)) hw hX11 (by decide) (by decide) rfl (sy_ok0 (by first | decide | assumption | omega | exact mo_rd_lt _ _ | exact mo_add_lt _ _ | exact mo_sub_lt _ _ | exact mo_mul_lt _ _ | exact mo_shl_lt _ _ | exact mo_ushr_lt _ _ | exact mo_or_lt (by decide) (mo_and_lt (mo_rd_lt _ _)) | exact mo_or_lt (mo_shl_lt _ _) (mo_and_lt (mo_rd_lt _ _)))) (sx_pfz xc78_89 xf78_25 rfl xt11_7 xn11_7 (wh_at hw 11 rfl) rfl (by first | decide | assumption | omega | exact mo_rd_lt _ _ | exact mo_add_lt _ _ | exact mo_sub_lt _ _ | exact mo_mul_lt _ _ | exact mo_shl_lt _ _ | exact mo_ushr_lt _ _ | exact mo_or_lt (by decide) (mo_and_lt (mo_rd_lt _ _)) | exact mo_or_lt (mo_shl_lt _ _) (mo_and_lt (mo_rd_lt _ _))) rfl sy_refl) ?_
    intro w X11 hw hX11
    simp only [List.set_cons_zero, List.set_cons_succ] at hw hX11
    refine sy_Fs (sy_iconst (v := 1) xc78_92 (by decide) sy_refl) ?_
    exact sy_Fi xc78_93 xr78 rfl ⟨T1, fun j hj => by rw [hT1 j, if_pos (by omega)]; rfl, by unfold cg_a; rw [hb]; rfl, _, hw⟩
  | false =>
    have e : sb_n T1 0 Hd 64 32 = 0 := by unfold sb_n; rw [hb]; rfl
    refine sy_Fs (sy_ifne_f xc78_74 (by decide) e sy_refl) ?_
    refine sy_Fs (sy_iconst (v := 0) xc78_77 (by decide) sy_refl) ?_
    exact sy_Fi xc78_78 xr78 rfl ⟨T1, fun j hj => by rw [hT1 j, if_pos (by omega)]; rfl, by unfold cg_a; rw [hb]; rfl, _, hw⟩
theorem cg_hb (hw : wh 22 pl w0 w [(0, 1, 13, X0), (0, 8, 11, X1), (3, 6, 40, cbs), (0, 9, 11, X3), (1, 1, 105, Hd), (1, 1, 32, Id), (1, 1, 2, Fi), (3, 7, 4, cps), (0, 10, 6, X8), (1, 1, 28, Pb), (1, 1, 2048, Pl), (0, 11, 19, X11), (3, 6, 60, ckn), (1, 1, 32, Dg), (3, 6, 60, cff), (3, 6, 60, cbf), (1, 1, 2336, Ids), (0, 2, 13, X17), (1, 1, 64, Sp), (1, 0, 64, Sw), (1, 0, 8, Ss), (1, 1, 32, In)]) (hX0 : fh X0 jX [(2, pl 1, 0), (2, pl 10, 0), (2, pl 11, 0)]) (hX1 : fh X1 jM [(0, 1, 0), (2, pl 2, 0)]) (hX3 : fh X3 jB [(2, pl 5, 0), (2, pl 4, 0), (2, pl 6, 0), (0, 2, 0), (0, 1, 0), (2, pl 7, 0)]) (hX8 : fh X8 jP [(2, pl 9, 0)]) (hX11 : fh X11 jU [(2, pl 17, 0), (2, pl 12, 0), (0, 1, 0), (2, pl 13, 0), (2, pl 14, 0), (2, pl 15, 0), (0, stl, 0), (2, pl 16, 0)]) (hX17 : fh X17 jS [(2, pl 18, 0), (2, pl 19, 0), (2, pl 20, 0), (2, pl 21, 0), (0, su, 0), (0, sl, 0)]) (hbs : mv_rd 32 cbs 0 = pl 3 + 1) (hkn : mv_rd 32 ckn 0 = pl 3 + 1) (hff : mv_rd 32 cff 0 = 0) (hbf : mv_rd 32 cbf 0 = 0) (hps : mv_rd 32 cps 0 = pl 8 + 1) (hst : stl < 2) (hsu : su < 64) (hsl : sl < 4294967296)  : sy_D 22 n 0 0 [(0, 0, 0)] w (fun ret w' => ret = [(0, 4, 0)] ∧ w' = w) := by
  refine sy_Dof (us := []) (sy_oks_cons (sy_ok0 (by first | decide | assumption | omega | exact mo_rd_lt _ _ | exact mo_add_lt _ _ | exact mo_sub_lt _ _ | exact mo_mul_lt _ _ | exact mo_shl_lt _ _ | exact mo_ushr_lt _ _ | exact mo_or_lt (by decide) (mo_and_lt (mo_rd_lt _ _)) | exact mo_or_lt (mo_shl_lt _ _) (mo_and_lt (mo_rd_lt _ _)))) sy_oks_nil) rfl rfl ?_
  show sy_F 22 n 0 0 0 [(0, 0, 0)] [] w _
  refine sy_Fs (sy_ildn xc22_0 rfl rfl sy_refl) ?_
  refine sy_Fs (sy_ifne_f xc22_1 (by decide) (by decide) sy_refl) ?_
  refine sy_Fs (sy_iconst (v := 4) xc22_4 (by decide) sy_refl) ?_
  refine sy_Fs (sy_goto (pc' := 14) xc22_5 (by decide) (by decide) sy_refl) ?_
  exact sy_Fi xc22_14 xr22 rfl ⟨rfl, rfl⟩
theorem cg_body (hw : wh 22 pl w0 w [(0, 1, 13, X0), (0, 8, 11, X1), (3, 6, 40, cbs), (0, 9, 11, X3), (1, 1, 105, Hd), (1, 1, 32, Id), (1, 1, 2, Fi), (3, 7, 4, cps), (0, 10, 6, X8), (1, 1, 28, Pb), (1, 1, 2048, Pl), (0, 11, 19, X11), (3, 6, 60, ckn), (1, 1, 32, Dg), (3, 6, 60, cff), (3, 6, 60, cbf), (1, 1, 2336, Ids), (0, 2, 13, X17), (1, 1, 64, Sp), (1, 0, 64, Sw), (1, 0, 8, Ss), (1, 1, 32, In)]) (hX0 : fh X0 jX [(2, pl 1, 0), (2, pl 10, 0), (2, pl 11, 0)]) (hX1 : fh X1 jM [(0, 1, 0), (2, pl 2, 0)]) (hX3 : fh X3 jB [(2, pl 5, 0), (2, pl 4, 0), (2, pl 6, 0), (0, 2, 0), (0, 1, 0), (2, pl 7, 0)]) (hX8 : fh X8 jP [(2, pl 9, 0)]) (hX11 : fh X11 jU [(2, pl 17, 0), (2, pl 12, 0), (0, 1, 0), (2, pl 13, 0), (2, pl 14, 0), (2, pl 15, 0), (0, stl, 0), (2, pl 16, 0)]) (hX17 : fh X17 jS [(2, pl 18, 0), (2, pl 19, 0), (2, pl 20, 0), (2, pl 21, 0), (0, su, 0), (0, sl, 0)]) (hbs : mv_rd 32 cbs 0 = pl 3 + 1) (hkn : mv_rd 32 ckn 0 = pl 3 + 1) (hff : mv_rd 32 cff 0 = 0) (hbf : mv_rd 32 cbf 0 = 0) (hps : mv_rd 32 cps 0 = pl 8 + 1) (hst : stl < 2) (hsu : su < 64) (hsl : sl < 4294967296) (hb0 : mv_rd 32 Pl 0 = 0) (hb3 : mv_rd 32 Pl 3 = 1) : sy_D 81 n 1 20 [(2, pl 10, 0), (0, 0, 0), (0, 28, 0)] w (fun ret w' => ret = [(0, 28, 0)] ∧ w' = w) := by
  refine sy_Dof (us := [(255, 0, 0), (255, 0, 0), (255, 0, 0), (255, 0, 0)]) (sy_oks_cons (sy_ok2 (wh_lt hw 10 (by first | decide | assumption))) (sy_oks_cons (sy_ok0 (by first | decide | assumption | omega | exact mo_rd_lt _ _ | exact mo_add_lt _ _ | exact mo_sub_lt _ _ | exact mo_mul_lt _ _ | exact mo_shl_lt _ _ | exact mo_ushr_lt _ _ | exact mo_or_lt (by decide) (mo_and_lt (mo_rd_lt _ _)) | exact mo_or_lt (mo_shl_lt _ _) (mo_and_lt (mo_rd_lt _ _)))) (sy_oks_cons (sy_ok0 (by first | decide | assumption | omega | exact mo_rd_lt _ _ | exact mo_add_lt _ _ | exact mo_sub_lt _ _ | exact mo_mul_lt _ _ | exact mo_shl_lt _ _ | exact mo_ushr_lt _ _ | exact mo_or_lt (by decide) (mo_and_lt (mo_rd_lt _ _)) | exact mo_or_lt (mo_shl_lt _ _) (mo_and_lt (mo_rd_lt _ _)))) sy_oks_nil))) rfl rfl ?_
  show sy_F 81 n 1 20 0 [(2, pl 10, 0), (0, 0, 0), (0, 28, 0), (255, 0, 0), (255, 0, 0), (255, 0, 0), (255, 0, 0)] [] w _
  refine sy_Fs (sy_ildn xc81_0 rfl rfl sy_refl) ?_
  refine sy_Fs (sy_iflt_f xc81_1 (by decide) (by decide) sy_refl) ?_
  refine sy_Fs (sy_ildn xc81_4 rfl rfl sy_refl) ?_
  refine sy_Fs (sy_ildn xc81_5 rfl rfl sy_refl) ?_
  refine sy_Fs (sy_ge_f xc81_6 (by decide) (by decide) (by decide) sy_refl) ?_
  refine sy_Fs (sy_ildn xc81_9 rfl rfl sy_refl) ?_
  refine sy_Fs (sy_aldn xc81_10 rfl rfl sy_refl) ?_
  refine sy_Fs (sy_alen xc81_11 (wh_at hw 10 rfl) rfl sy_refl) ?_
  refine sy_Fs (sy_icmple_t (pc' := 17) xc81_12 (by decide) (by decide) (by decide) (by decide) sy_refl) ?_
  refine sy_Fs (sy_aldn xc81_17 rfl rfl sy_refl) ?_
  refine sy_Fs (sy_ildn xc81_18 rfl rfl sy_refl) ?_
  refine sy_Fs (sx_bal (z := 0) xc81_19 (wh_at hw 10 rfl) (by decide) (by decide) hb0) ?_
  refine sy_Fs (sx_istn (j := 3) (ls' := [(2, pl 10, 0), (0, 0, 0), (0, 28, 0), (0, 0, 0), (255, 0, 0), (255, 0, 0), (255, 0, 0)]) xc81_20 rfl rfl (sy_ok0 (by first | decide | assumption | omega | exact mo_rd_lt _ _ | exact mo_add_lt _ _ | exact mo_sub_lt _ _ | exact mo_mul_lt _ _ | exact mo_shl_lt _ _ | exact mo_ushr_lt _ _ | exact mo_or_lt (by decide) (mo_and_lt (mo_rd_lt _ _)) | exact mo_or_lt (mo_shl_lt _ _) (mo_and_lt (mo_rd_lt _ _)))) (by rw [xl81]; rfl) rfl rfl) ?_
  refine sy_Fs (sy_ildn xc81_21 rfl rfl sy_refl) ?_
  refine sy_Fs (sy_iflt_f xc81_22 (by decide) (by decide) sy_refl) ?_
  refine sy_Fs (sy_ildn xc81_25 rfl rfl sy_refl) ?_
  refine sy_Fs (sy_iconst (v := 4) xc81_26 (by decide) sy_refl) ?_
  refine sy_Fs (sy_icmple_t (pc' := 32) xc81_27 (by decide) (by decide) (by decide) (by decide) sy_refl) ?_
  refine sy_Fs (sy_ildn xc81_32 rfl rfl sy_refl) ?_
  refine sy_Fs (sy_callG (kd := 1) (as := [(0, 0, 0)]) (S0 := []) (ret := [(0, 4, 0)]) xc81_33 (sy_calS (as := [(0, 0, 0)]) (S0 := []) xm81_29 rfl rfl) rfl rfl rfl rfl (sy_oka (sy_oks_cons (sy_ok0 (by first | decide | assumption | omega | exact mo_rd_lt _ _ | exact mo_add_lt _ _ | exact mo_sub_lt _ _ | exact mo_mul_lt _ _ | exact mo_shl_lt _ _ | exact mo_ushr_lt _ _ | exact mo_or_lt (by decide) (mo_and_lt (mo_rd_lt _ _)) | exact mo_or_lt (mo_shl_lt _ _) (mo_and_lt (mo_rd_lt _ _)))) sy_oks_nil) rfl xl22) (sy_Cw (cg_hb (n := n) hw hX0 hX1 hX3 hX8 hX11 hX17 hbs hkn hff hbf hps hst hsu hsl)) (by decide) (by rw [xl22]; decide) sy_refl) ?_
  refine sy_Fs (sx_ist (j := 4) (ls' := [(2, pl 10, 0), (0, 0, 0), (0, 28, 0), (0, 0, 0), (0, 4, 0), (255, 0, 0), (255, 0, 0)]) xc81_36 rfl (sy_ok0 (by first | decide | assumption | omega | exact mo_rd_lt _ _ | exact mo_add_lt _ _ | exact mo_sub_lt _ _ | exact mo_mul_lt _ _ | exact mo_shl_lt _ _ | exact mo_ushr_lt _ _ | exact mo_or_lt (by decide) (mo_and_lt (mo_rd_lt _ _)) | exact mo_or_lt (mo_shl_lt _ _) (mo_and_lt (mo_rd_lt _ _)))) (by rw [xl81]; rfl) rfl rfl) ?_
  refine sy_Fs (sy_ild xc81_38 rfl rfl sy_refl) ?_
  refine sy_Fs (sy_ildn xc81_40 rfl rfl sy_refl) ?_
  refine sy_Fs (sy_ildn xc81_41 rfl rfl sy_refl) ?_
  refine sy_Fs (sx_isub (z := 28) xc81_42 (by decide)) ?_
  refine sy_Fs (sy_icmple_t (pc' := 48) xc81_43 (by decide) (by decide) (by decide) (by decide) sy_refl) ?_
  refine sy_Fs (sy_aldn xc81_48 rfl rfl sy_refl) ?_
  refine sy_Fs (sy_ildn xc81_49 rfl rfl sy_refl) ?_
  refine sy_Fs (sy_ild xc81_50 rfl rfl sy_refl) ?_
  refine sy_Fs (sx_iadd (z := 4) xc81_52 (by decide)) ?_
  refine sy_Fs (sy_iconst (v := 1) xc81_53 (by decide) sy_refl) ?_
  refine sy_Fs (sx_isub (z := 3) xc81_54 (by decide)) ?_
  refine sy_Fs (sx_bal (z := 1) xc81_55 (wh_at hw 10 rfl) (by decide) (by decide) hb3) ?_
  refine sy_Fs (sx_ist (j := 5) (ls' := [(2, pl 10, 0), (0, 0, 0), (0, 28, 0), (0, 0, 0), (0, 4, 0), (0, 1, 0), (255, 0, 0)]) xc81_56 rfl (sy_ok0 (by first | decide | assumption | omega | exact mo_rd_lt _ _ | exact mo_add_lt _ _ | exact mo_sub_lt _ _ | exact mo_mul_lt _ _ | exact mo_shl_lt _ _ | exact mo_ushr_lt _ _ | exact mo_or_lt (by decide) (mo_and_lt (mo_rd_lt _ _)) | exact mo_or_lt (mo_shl_lt _ _) (mo_and_lt (mo_rd_lt _ _)))) (by rw [xl81]; rfl) rfl rfl) ?_
  refine sy_Fs (sy_ild xc81_58 rfl rfl sy_refl) ?_
  refine sy_Fs (sy_iconst (v := 1) xc81_60 (by decide) sy_refl) ?_
  refine sy_Fs (sy_icmplt_f xc81_61 (by decide) (by decide) (by decide) sy_refl) ?_
  refine sy_Fs (sy_ild xc81_64 rfl rfl sy_refl) ?_
  refine sy_Fs (sy_ildn xc81_66 rfl rfl sy_refl) ?_
  refine sy_Fs (sy_ifne_f xc81_67 (by decide) (by decide) sy_refl) ?_
  refine sy_Fs (sy_iconst (v := 1) xc81_70 (by decide) sy_refl) ?_
  refine sy_Fs (sy_goto (pc' := 75) xc81_71 (by decide) (by decide) sy_refl) ?_
  refine sy_Fs (sy_icmple_t (pc' := 80) xc81_75 (by decide) (by decide) (by decide) (by decide) sy_refl) ?_
  refine sy_Fs (sy_ild xc81_80 rfl rfl sy_refl) ?_
  refine sy_Fs (sy_bipush (v := 24) xc81_82 (by decide) (by decide) sy_refl) ?_
  refine sy_Fs (sy_ild xc81_84 rfl rfl sy_refl) ?_
  refine sy_Fs (sx_imul (z := 24) xc81_86 (by decide)) ?_
  refine sy_Fs (sx_iadd (z := 28) xc81_87 (by decide)) ?_
  refine sy_Fs (sx_ist (j := 6) (ls' := [(2, pl 10, 0), (0, 0, 0), (0, 28, 0), (0, 0, 0), (0, 4, 0), (0, 1, 0), (0, 28, 0)]) xc81_88 rfl (sy_ok0 (by first | decide | assumption | omega | exact mo_rd_lt _ _ | exact mo_add_lt _ _ | exact mo_sub_lt _ _ | exact mo_mul_lt _ _ | exact mo_shl_lt _ _ | exact mo_ushr_lt _ _ | exact mo_or_lt (by decide) (mo_and_lt (mo_rd_lt _ _)) | exact mo_or_lt (mo_shl_lt _ _) (mo_and_lt (mo_rd_lt _ _)))) (by rw [xl81]; rfl) rfl rfl) ?_
  refine sy_Fs (sy_ild xc81_90 rfl rfl sy_refl) ?_
  refine sy_Fs (sy_ildn xc81_92 rfl rfl sy_refl) ?_
  refine sy_Fs (sy_ildn xc81_93 rfl rfl sy_refl) ?_
  refine sy_Fs (sx_isub (z := 28) xc81_94 (by decide)) ?_
  refine sy_Fs (sy_icmple_t (pc' := 102) xc81_95 (by decide) (by decide) (by decide) (by decide) sy_refl) ?_
  refine sy_Fs (sy_ild xc81_102 rfl rfl sy_refl) ?_
  exact sy_Fi xc81_104 xr81 rfl ⟨rfl, rfl⟩
theorem cg_ids (hw : wh 22 pl w0 w [(0, 1, 13, X0), (0, 8, 11, X1), (3, 6, 40, cbs), (0, 9, 11, X3), (1, 1, 105, Hd), (1, 1, 32, Id), (1, 1, 2, Fi), (3, 7, 4, cps), (0, 10, 6, X8), (1, 1, 28, Pb), (1, 1, 2048, Pl), (0, 11, 19, X11), (3, 6, 60, ckn), (1, 1, 32, Dg), (3, 6, 60, cff), (3, 6, 60, cbf), (1, 1, 2336, Ids), (0, 2, 13, X17), (1, 1, 64, Sp), (1, 0, 64, Sw), (1, 0, 8, Ss), (1, 1, 32, In)]) (hX0 : fh X0 jX [(2, pl 1, 0), (2, pl 10, 0), (2, pl 11, 0)]) (hX1 : fh X1 jM [(0, 1, 0), (2, pl 2, 0)]) (hX3 : fh X3 jB [(2, pl 5, 0), (2, pl 4, 0), (2, pl 6, 0), (0, 2, 0), (0, 1, 0), (2, pl 7, 0)]) (hX8 : fh X8 jP [(2, pl 9, 0)]) (hX11 : fh X11 jU [(2, pl 17, 0), (2, pl 12, 0), (0, 1, 0), (2, pl 13, 0), (2, pl 14, 0), (2, pl 15, 0), (0, stl, 0), (2, pl 16, 0)]) (hX17 : fh X17 jS [(2, pl 18, 0), (2, pl 19, 0), (2, pl 20, 0), (2, pl 21, 0), (0, su, 0), (0, sl, 0)]) (hbs : mv_rd 32 cbs 0 = pl 3 + 1) (hkn : mv_rd 32 ckn 0 = pl 3 + 1) (hff : mv_rd 32 cff 0 = 0) (hbf : mv_rd 32 cbf 0 = 0) (hps : mv_rd 32 cps 0 = pl 8 + 1) (hst : stl < 2) (hsu : su < 64) (hsl : sl < 4294967296) {f : Nat → Nat} (hf : ∀ j, j < 28 → mv_rd 32 Pl (0 + j) = f j) (hb0 : mv_rd 32 Pl 0 = 0) (hb3 : mv_rd 32 Pl 3 = 1) : sy_D 80 n 4 91 [(2, pl 11, 0), (2, pl 10, 0), (0, 28, 0)] w (fun ret w' => ret = [(0, 1, 0)] ∧ ∃ T Y17 Yp Yw Ys Yi Yu Yl : Nat, (∀ j, j < 32 → mv_rd 32 T j = bk_D (hs_2 f 28) j) ∧ wh 22 pl w0 w' [(0, 1, 13, X0), (0, 8, 11, X1), (3, 6, 40, cbs), (0, 9, 11, X3), (1, 1, 105, Hd), (1, 1, 32, Id), (1, 1, 2, Fi), (3, 7, 4, cps), (0, 10, 6, X8), (1, 1, 28, Pb), (1, 1, 2048, Pl), (0, 11, 19, X11), (3, 6, 60, ckn), (1, 1, 32, Dg), (3, 6, 60, cff), (3, 6, 60, cbf), (1, 1, 2336, T), (0, 2, 13, Y17), (1, 1, 64, Yp), (1, 0, 64, Yw), (1, 0, 8, Ys), (1, 1, 32, Yi)] ∧ fh Y17 jS [(2, pl 18, 0), (2, pl 19, 0), (2, pl 20, 0), (2, pl 21, 0), (0, Yu, 0), (0, Yl, 0)]) := by
  refine sy_Dof (us := [(255, 0, 0), (255, 0, 0), (255, 0, 0)]) (sy_oks_cons (sy_ok2 (wh_lt hw 11 (by first | decide | assumption))) (sy_oks_cons (sy_ok2 (wh_lt hw 10 (by first | decide | assumption))) (sy_oks_cons (sy_ok0 (by first | decide | assumption | omega | exact mo_rd_lt _ _ | exact mo_add_lt _ _ | exact mo_sub_lt _ _ | exact mo_mul_lt _ _ | exact mo_shl_lt _ _ | exact mo_ushr_lt _ _ | exact mo_or_lt (by decide) (mo_and_lt (mo_rd_lt _ _)) | exact mo_or_lt (mo_shl_lt _ _) (mo_and_lt (mo_rd_lt _ _)))) sy_oks_nil))) rfl rfl ?_
  show sy_F 80 n 4 91 0 [(2, pl 11, 0), (2, pl 10, 0), (0, 28, 0), (255, 0, 0), (255, 0, 0), (255, 0, 0)] [] w _
  refine sy_Fs (sy_iconst (v := 0) xc80_0 (by decide) sy_refl) ?_
  refine sy_Fs (sx_istn (j := 3) (ls' := [(2, pl 11, 0), (2, pl 10, 0), (0, 28, 0), (0, 0, 0), (255, 0, 0), (255, 0, 0)]) xc80_1 rfl rfl (sy_ok0 (by first | decide | assumption | omega | exact mo_rd_lt _ _ | exact mo_add_lt _ _ | exact mo_sub_lt _ _ | exact mo_mul_lt _ _ | exact mo_shl_lt _ _ | exact mo_ushr_lt _ _ | exact mo_or_lt (by decide) (mo_and_lt (mo_rd_lt _ _)) | exact mo_or_lt (mo_shl_lt _ _) (mo_and_lt (mo_rd_lt _ _)))) (by rw [xl80]; rfl) rfl rfl) ?_
  refine sy_Fs (sy_iconst (v := 0) xc80_2 (by decide) sy_refl) ?_
  refine sy_Fs (sx_ist (j := 4) (ls' := [(2, pl 11, 0), (2, pl 10, 0), (0, 28, 0), (0, 0, 0), (0, 0, 0), (255, 0, 0)]) xc80_3 rfl (sy_ok0 (by first | decide | assumption | omega | exact mo_rd_lt _ _ | exact mo_add_lt _ _ | exact mo_sub_lt _ _ | exact mo_mul_lt _ _ | exact mo_shl_lt _ _ | exact mo_ushr_lt _ _ | exact mo_or_lt (by decide) (mo_and_lt (mo_rd_lt _ _)) | exact mo_or_lt (mo_shl_lt _ _) (mo_and_lt (mo_rd_lt _ _)))) (by rw [xl80]; rfl) rfl rfl) ?_
  refine sy_Fs (sy_ildn xc80_5 rfl rfl sy_refl) ?_
  refine sy_Fs (sy_bipush (v := 73) xc80_6 (by decide) (by decide) sy_refl) ?_
  refine sy_Fs (sy_ge_f xc80_8 (by decide) (by decide) (by decide) sy_refl) ?_
  refine sy_Fs (sy_ild xc80_11 rfl rfl sy_refl) ?_
  refine sy_Fs (sy_ildn xc80_13 rfl rfl sy_refl) ?_
  refine sy_Fs (sy_ge_f xc80_14 (by decide) (by decide) (by decide) sy_refl) ?_
  refine sy_Fs (sy_aldn xc80_17 rfl rfl sy_refl) ?_
  refine sy_Fs (sy_ild xc80_18 rfl rfl sy_refl) ?_
  refine sy_Fs (sy_ildn xc80_20 rfl rfl sy_refl) ?_
  refine sy_Fs (sy_callG (kd := 1) (as := [(2, pl 10, 0), (0, 0, 0), (0, 28, 0)]) (S0 := []) (ret := [(0, 28, 0)]) xc80_21 (sy_calS (as := [(2, pl 10, 0), (0, 0, 0), (0, 28, 0)]) (S0 := []) xm80_134 rfl rfl) rfl rfl rfl rfl (sy_oka (sy_oks_cons (sy_ok2 (wh_lt hw 10 (by first | decide | assumption))) (sy_oks_cons (sy_ok0 (by first | decide | assumption | omega | exact mo_rd_lt _ _ | exact mo_add_lt _ _ | exact mo_sub_lt _ _ | exact mo_mul_lt _ _ | exact mo_shl_lt _ _ | exact mo_ushr_lt _ _ | exact mo_or_lt (by decide) (mo_and_lt (mo_rd_lt _ _)) | exact mo_or_lt (mo_shl_lt _ _) (mo_and_lt (mo_rd_lt _ _)))) (sy_oks_cons (sy_ok0 (by first | decide | assumption | omega | exact mo_rd_lt _ _ | exact mo_add_lt _ _ | exact mo_sub_lt _ _ | exact mo_mul_lt _ _ | exact mo_shl_lt _ _ | exact mo_ushr_lt _ _ | exact mo_or_lt (by decide) (mo_and_lt (mo_rd_lt _ _)) | exact mo_or_lt (mo_shl_lt _ _) (mo_and_lt (mo_rd_lt _ _)))) sy_oks_nil))) rfl xl81) (sy_Cw (cg_body (n := n) hw hX0 hX1 hX3 hX8 hX11 hX17 hbs hkn hff hbf hps hst hsu hsl hb0 hb3)) (by decide) (by rw [xl81]; decide) sy_refl) ?_
  refine sy_Fs (sx_ist (j := 5) (ls' := [(2, pl 11, 0), (2, pl 10, 0), (0, 28, 0), (0, 0, 0), (0, 0, 0), (0, 28, 0)]) xc80_24 rfl (sy_ok0 (by first | decide | assumption | omega | exact mo_rd_lt _ _ | exact mo_add_lt _ _ | exact mo_sub_lt _ _ | exact mo_mul_lt _ _ | exact mo_shl_lt _ _ | exact mo_ushr_lt _ _ | exact mo_or_lt (by decide) (mo_and_lt (mo_rd_lt _ _)) | exact mo_or_lt (mo_shl_lt _ _) (mo_and_lt (mo_rd_lt _ _)))) (by rw [xl80]; rfl) rfl rfl) ?_
  refine sy_Fs (sy_ild xc80_26 rfl rfl sy_refl) ?_
  refine sy_Fs (sy_ifge_t (pc' := 33) xc80_28 (by decide) (by decide) (by decide) sy_refl) ?_
  refine sy_Fs (sy_aldn xc80_33 rfl rfl sy_refl) ?_
  refine sy_Fs (sy_gf xc80_34 xf80_56 rfl (wh_at hw 11 rfl) rfl (fh_at hX11 0 rfl rfl) sy_refl) ?_
  obtain ⟨w, X17, hC, hwb, hXbx⟩ := wc_begin (n := n) (s := (su, sl, Sp, Sw, Ss)) hw rfl rfl rfl rfl hX17 rfl rfl rfl rfl rfl
  refine sy_Fs (sy_callG (kd := 3) (as := [(2, pl 17, 0)]) (S0 := []) (ret := []) xc80_37 (sy_calV (as := [(2, pl 17, 0)]) (S0 := []) xm80_138 rfl rfl) rfl rfl (sy_rcvm xi14 (wh_at hw 17 rfl)) rfl (sy_oka (sy_oks_cons (sy_ok2 (wh_lt hw 17 (by first | decide | assumption))) sy_oks_nil) rfl xl14) hC (by decide) (by rw [xl14]; decide) sy_refl) ?_
  replace hw := hwb
  replace hX17 := hXbx
  simp only [List.set_cons_zero, List.set_cons_succ] at hw hX17
  refine sy_Fs (sy_aldn xc80_40 rfl rfl sy_refl) ?_
  refine sy_Fs (sy_gf xc80_41 xf80_56 rfl (wh_at hw 11 rfl) rfl (fh_at hX11 0 rfl rfl) sy_refl) ?_
  refine sy_Fs (sy_aldn xc80_44 rfl rfl sy_refl) ?_
  refine sy_Fs (sy_ild xc80_45 rfl rfl sy_refl) ?_
  refine sy_Fs (sy_ild xc80_47 rfl rfl sy_refl) ?_
  obtain ⟨w, X17, hC, hwp, hXpx⟩ := wc_put (n := n) (s := (sh_b (su, sl, Sp, Sw, Ss))) (jf := 10) (fa := 0) (nn := 28) hw rfl rfl rfl rfl hX17 rfl rfl rfl rfl rfl sh_b_u sh_b_l (by decide) rfl (by first | decide | assumption | omega) (by first | decide | assumption | omega)
  refine sy_Fs (sy_callG (kd := 3) (as := [(2, pl 17, 0), (2, pl 10, 0), (0, 0, 0), (0, 28, 0)]) (S0 := []) (ret := []) xc80_49 (sy_calV (as := [(2, pl 17, 0), (2, pl 10, 0), (0, 0, 0), (0, 28, 0)]) (S0 := []) xm80_141 rfl rfl) rfl rfl (sy_rcvm xi15 (wh_at hw 17 rfl)) rfl (sy_oka (sy_oks_cons (sy_ok2 (wh_lt hw 17 (by first | decide | assumption))) (sy_oks_cons (sy_ok2 (wh_lt hw 10 (by first | decide | assumption))) (sy_oks_cons (sy_ok0 (by first | decide | assumption | omega | exact mo_rd_lt _ _ | exact mo_add_lt _ _ | exact mo_sub_lt _ _ | exact mo_mul_lt _ _ | exact mo_shl_lt _ _ | exact mo_ushr_lt _ _ | exact mo_or_lt (by decide) (mo_and_lt (mo_rd_lt _ _)) | exact mo_or_lt (mo_shl_lt _ _) (mo_and_lt (mo_rd_lt _ _)))) (sy_oks_cons (sy_ok0 (by first | decide | assumption | omega | exact mo_rd_lt _ _ | exact mo_add_lt _ _ | exact mo_sub_lt _ _ | exact mo_mul_lt _ _ | exact mo_shl_lt _ _ | exact mo_ushr_lt _ _ | exact mo_or_lt (by decide) (mo_and_lt (mo_rd_lt _ _)) | exact mo_or_lt (mo_shl_lt _ _) (mo_and_lt (mo_rd_lt _ _)))) sy_oks_nil)))) rfl xl15) hC (by decide) (by rw [xl15]; decide) sy_refl) ?_
  replace hw := hwp
  replace hX17 := hXpx
  simp only [List.set_cons_zero, List.set_cons_succ] at hw hX17
  refine sy_Fs (sy_aldn xc80_52 rfl rfl sy_refl) ?_
  refine sy_Fs (sy_gf xc80_53 xf80_56 rfl (wh_at hw 11 rfl) rfl (fh_at hX11 0 rfl rfl) sy_refl) ?_
  refine sy_Fs (sy_aldn xc80_56 rfl rfl sy_refl) ?_
  refine sy_Fs (sy_gf xc80_57 xf80_49 rfl (wh_at hw 11 rfl) rfl (fh_at hX11 7 rfl rfl) sy_refl) ?_
  refine sy_Fs (sy_bipush (v := 32) xc80_60 (by decide) (by decide) sy_refl) ?_
  refine sy_Fs (sy_ildn xc80_62 rfl rfl sy_refl) ?_
  refine sy_Fs (sx_imul (z := 0) xc80_63 (by decide)) ?_
  obtain ⟨w, X17, hC, hwt, hXtx⟩ := wc_twice (n := n) (s := (sh_p Pl 0 28 (sh_b (su, sl, Sp, Sw, Ss)))) (it := 16) (at_ := 0) hw rfl rfl rfl rfl hX17 rfl rfl rfl rfl rfl rfl rfl (sh_p_ok sh_b_u) sh_p_l (by decide) rfl (by first | decide | assumption | omega) (by first | decide | assumption | omega)
  refine sy_Fs (sy_callG (kd := 3) (as := [(2, pl 17, 0), (2, pl 16, 0), (0, 0, 0)]) (S0 := []) (ret := []) xc80_64 (sy_calV (as := [(2, pl 17, 0), (2, pl 16, 0), (0, 0, 0)]) (S0 := []) xm80_145 rfl rfl) rfl rfl (sy_rcvm xi17 (wh_at hw 17 rfl)) rfl (sy_oka (sy_oks_cons (sy_ok2 (wh_lt hw 17 (by first | decide | assumption))) (sy_oks_cons (sy_ok2 (wh_lt hw 16 (by first | decide | assumption))) (sy_oks_cons (sy_ok0 (by first | decide | assumption | omega | exact mo_rd_lt _ _ | exact mo_add_lt _ _ | exact mo_sub_lt _ _ | exact mo_mul_lt _ _ | exact mo_shl_lt _ _ | exact mo_ushr_lt _ _ | exact mo_or_lt (by decide) (mo_and_lt (mo_rd_lt _ _)) | exact mo_or_lt (mo_shl_lt _ _) (mo_and_lt (mo_rd_lt _ _)))) sy_oks_nil))) rfl xl17) hC (by decide) (by rw [xl17]; decide) sy_refl) ?_
  replace hw := hwt
  replace hX17 := hXtx
  simp only [List.set_cons_zero, List.set_cons_succ] at hw hX17
  refine sy_Fs (sy_ild xc80_67 rfl rfl sy_refl) ?_
  refine sy_Fs (sy_ild xc80_69 rfl rfl sy_refl) ?_
  refine sy_Fs (sy_bipush (v := 97) xc80_71 (by decide) (by decide) sy_refl) ?_
  refine sy_Fs (sy_aldn xc80_73 rfl rfl sy_refl) ?_
  refine sy_Fs (sy_ild xc80_74 rfl rfl sy_refl) ?_
  refine sy_Fs (sx_bal (z := 0) xc80_76 (wh_at hw 10 rfl) (by decide) (by decide) hb0) ?_
  refine sy_Fs (sx_imul (z := 0) xc80_77 (by decide)) ?_
  refine sy_Fs (sx_iadd (z := 28) xc80_78 (by decide)) ?_
  refine sy_Fs (sx_iadd (z := 28) xc80_79 (by decide)) ?_
  refine sy_Fs (sx_ist (j := 4) (ls' := [(2, pl 11, 0), (2, pl 10, 0), (0, 28, 0), (0, 0, 0), (0, 28, 0), (0, 28, 0)]) xc80_80 rfl (sy_ok0 (by first | decide | assumption | omega | exact mo_rd_lt _ _ | exact mo_add_lt _ _ | exact mo_sub_lt _ _ | exact mo_mul_lt _ _ | exact mo_shl_lt _ _ | exact mo_ushr_lt _ _ | exact mo_or_lt (by decide) (mo_and_lt (mo_rd_lt _ _)) | exact mo_or_lt (mo_shl_lt _ _) (mo_and_lt (mo_rd_lt _ _)))) (by rw [xl80]; rfl) rfl rfl) ?_
  refine sy_Fs (sx_iinc (c := 1) (z := 1) (ls' := [(2, pl 11, 0), (2, pl 10, 0), (0, 28, 0), (0, 1, 0), (0, 28, 0), (0, 28, 0)]) xc80_82 rfl (by decide) (by rw [xl80]; rfl) rfl (by decide) rfl) ?_
  refine sy_Fs (sy_goto (pc' := 5) xc80_85 (by decide) (by decide) sy_refl) ?_
  refine sy_Fs (sy_ildn xc80_5 rfl rfl sy_refl) ?_
  refine sy_Fs (sy_bipush (v := 73) xc80_6 (by decide) (by decide) sy_refl) ?_
  refine sy_Fs (sy_ge_f xc80_8 (by decide) (by decide) (by decide) sy_refl) ?_
  refine sy_Fs (sy_ild xc80_11 rfl rfl sy_refl) ?_
  refine sy_Fs (sy_ildn xc80_13 rfl rfl sy_refl) ?_
  refine sy_Fs (sy_ge_t (pc' := 88) xc80_14 (by decide) (by decide) (by decide) (by decide) sy_refl) ?_
  refine sy_Fs (sy_ild xc80_88 rfl rfl sy_refl) ?_
  refine sy_Fs (sy_ildn xc80_90 rfl rfl sy_refl) ?_
  refine sy_Fs (sy_icmpne_f xc80_91 (by decide) (by decide) sy_refl) ?_
  refine sy_Fs (sy_ildn xc80_94 rfl rfl sy_refl) ?_
  refine sy_Fs (sy_goto (pc' := 99) xc80_95 (by decide) (by decide) sy_refl) ?_
  have hT : ∀ j, j < 32 → mv_rd 32 (sh_o Ids 0 (sh_t (sh_p Pl 0 28 (sh_b (su, sl, Sp, Sw, Ss))) In).2.2.2.2 8) j = bk_D (hs_2 f 28) j := by
    intro j hj
    have h := hs_cls (s := (su, sl, Sp, Sw, Ss)) (C := Pl) (fa := 0) (nn := 28) (I := In) (T := Ids) (a := 0) hf (by decide) j
    rw [if_pos (by omega)] at h
    unfold sh_h at h
    exact h
  generalize sh_o Ids 0 (sh_t (sh_p Pl 0 28 (sh_b (su, sl, Sp, Sw, Ss))) In).2.2.2.2 8 = T at hw hT
  generalize sh_t (sh_p Pl 0 28 (sh_b (su, sl, Sp, Sw, Ss))) In = R at hw hX17
  generalize sh_i (sh_p Pl 0 28 (sh_b (su, sl, Sp, Sw, Ss))) In = HI at hw
  exact sy_Fi xc80_99 xr80 rfl ⟨rfl, T, X17, R.2.2.1, R.2.2.2.1, R.2.2.2.2, HI, R.1, R.2.1, hT, hw, hX17⟩
theorem cg_fold2 {cs : List mv_C} (hw : wh 22 pl w0 w cs) : sy_D 30 n 0 0 [(2, pl 17, 0), (2, pl 16, 0), (0, 1, 0)] w (fun ret w' => ret = [] ∧ w' = w) := by
  refine sy_Dof (us := [(255, 0, 0), (255, 0, 0), (255, 0, 0), (255, 0, 0), (255, 0, 0)]) (sy_oks_cons (sy_ok2 (wh_lt hw 17 (by first | decide | assumption))) (sy_oks_cons (sy_ok2 (wh_lt hw 16 (by first | decide | assumption))) (sy_oks_cons (sy_ok0 (by first | decide | assumption | omega | exact mo_rd_lt _ _ | exact mo_add_lt _ _ | exact mo_sub_lt _ _ | exact mo_mul_lt _ _ | exact mo_shl_lt _ _ | exact mo_ushr_lt _ _ | exact mo_or_lt (by decide) (mo_and_lt (mo_rd_lt _ _)) | exact mo_or_lt (mo_shl_lt _ _) (mo_and_lt (mo_rd_lt _ _)))) sy_oks_nil))) rfl rfl ?_
  show sy_F 30 n 0 0 0 [(2, pl 17, 0), (2, pl 16, 0), (0, 1, 0), (255, 0, 0), (255, 0, 0), (255, 0, 0), (255, 0, 0), (255, 0, 0)] [] w _
  refine sy_Fs (sy_ildn xc30_0 rfl rfl sy_refl) ?_
  refine sy_Fs (sx_istn (j := 3) (ls' := [(2, pl 17, 0), (2, pl 16, 0), (0, 1, 0), (0, 1, 0), (255, 0, 0), (255, 0, 0), (255, 0, 0), (255, 0, 0)]) xc30_1 rfl rfl (sy_ok0 (by first | decide | assumption | omega | exact mo_rd_lt _ _ | exact mo_add_lt _ _ | exact mo_sub_lt _ _ | exact mo_mul_lt _ _ | exact mo_shl_lt _ _ | exact mo_ushr_lt _ _ | exact mo_or_lt (by decide) (mo_and_lt (mo_rd_lt _ _)) | exact mo_or_lt (mo_shl_lt _ _) (mo_and_lt (mo_rd_lt _ _)))) (by rw [xl30]; rfl) rfl rfl) ?_
  refine sy_Fs (sy_iconst (v := 0) xc30_2 (by decide) sy_refl) ?_
  refine sy_Fs (sx_ist (j := 4) (ls' := [(2, pl 17, 0), (2, pl 16, 0), (0, 1, 0), (0, 1, 0), (0, 0, 0), (255, 0, 0), (255, 0, 0), (255, 0, 0)]) xc30_3 rfl (sy_ok0 (by first | decide | assumption | omega | exact mo_rd_lt _ _ | exact mo_add_lt _ _ | exact mo_sub_lt _ _ | exact mo_mul_lt _ _ | exact mo_shl_lt _ _ | exact mo_ushr_lt _ _ | exact mo_or_lt (by decide) (mo_and_lt (mo_rd_lt _ _)) | exact mo_or_lt (mo_shl_lt _ _) (mo_and_lt (mo_rd_lt _ _)))) (by rw [xl30]; rfl) rfl rfl) ?_
  refine sy_Fs (sy_ild xc30_5 rfl rfl sy_refl) ?_
  refine sy_Fs (sy_bipush (v := 31) xc30_7 (by decide) (by decide) sy_refl) ?_
  refine sy_Fs (sy_ge_f xc30_9 (by decide) (by decide) (by decide) sy_refl) ?_
  refine sy_Fs (sy_ildn xc30_12 rfl rfl sy_refl) ?_
  refine sy_Fs (sy_iconst (v := 1) xc30_13 (by decide) sy_refl) ?_
  refine sy_Fs (sy_icmple_t (pc' := 103) xc30_14 (by decide) (by decide) (by decide) (by decide) sy_refl) ?_
  exact sy_Fv xc30_103 xr30 ⟨rfl, rfl⟩
theorem cg_blk (hw : wh 22 pl w0 w [(0, 1, 13, X0), (0, 8, 11, X1), (3, 6, 40, cbs), (0, 9, 11, X3), (1, 1, 105, Hd), (1, 1, 32, Id), (1, 1, 2, Fi), (3, 7, 4, cps), (0, 10, 6, X8), (1, 1, 28, Pb), (1, 1, 2048, Pl), (0, 11, 19, X11), (3, 6, 60, ckn), (1, 1, 32, Dg), (3, 6, 60, cff), (3, 6, 60, cbf), (1, 1, 2336, Ids), (0, 2, 13, X17), (1, 1, 64, Sp), (1, 0, 64, Sw), (1, 0, 8, Ss), (1, 1, 32, In)]) (hX0 : fh X0 jX [(2, pl 1, 0), (2, pl 10, 0), (2, pl 11, 0)]) (hX1 : fh X1 jM [(0, 1, 0), (2, pl 2, 0)]) (hX3 : fh X3 jB [(2, pl 5, 0), (2, pl 4, 0), (2, pl 6, 0), (0, 2, 0), (0, 1, 0), (2, pl 7, 0)]) (hX8 : fh X8 jP [(2, pl 9, 0)]) (hX11 : fh X11 jU [(2, pl 17, 0), (2, pl 12, 0), (0, 1, 0), (2, pl 13, 0), (2, pl 14, 0), (2, pl 15, 0), (0, stl, 0), (2, pl 16, 0)]) (hX17 : fh X17 jS [(2, pl 18, 0), (2, pl 19, 0), (2, pl 20, 0), (2, pl 21, 0), (0, su, 0), (0, sl, 0)]) (hbs : mv_rd 32 cbs 0 = pl 3 + 1) (hkn : mv_rd 32 ckn 0 = pl 3 + 1) (hff : mv_rd 32 cff 0 = 0) (hbf : mv_rd 32 cbf 0 = 0) (hps : mv_rd 32 cps 0 = pl 8 + 1) (hst : stl < 2) (hsu : su < 64) (hsl : sl < 4294967296) {f : Nat → Nat} (hf : ∀ j, j < 28 → mv_rd 32 Pl (0 + j) = f j) (hb0 : mv_rd 32 Pl 0 = 0) (hb3 : mv_rd 32 Pl 3 = 1) : sy_D 79 n 5 116 [(2, pl 11, 0), (2, pl 3, 0), (2, pl 10, 0), (0, 28, 0)] w (fun ret w' => ∃ T : Nat, (∀ j, j < 32 → mv_rd 32 T j = bk_D (hs_2 f 28) j) ∧ ret = [(0, cg_a T Hd 32, 0)] ∧ ∃ cs, wh 22 pl w0 w' cs) := by
  have eI : gv_fk Id Id 0 = 0 := by unfold gv_fk; rw [sb_refl]; rfl
  refine sy_Dof (us := [(255, 0, 0), (255, 0, 0)]) (sy_oks_cons (sy_ok2 (wh_lt hw 11 (by first | decide | assumption))) (sy_oks_cons (sy_ok2 (wh_lt hw 3 (by first | decide | assumption))) (sy_oks_cons (sy_ok2 (wh_lt hw 10 (by first | decide | assumption))) (sy_oks_cons (sy_ok0 (by first | decide | assumption | omega | exact mo_rd_lt _ _ | exact mo_add_lt _ _ | exact mo_sub_lt _ _ | exact mo_mul_lt _ _ | exact mo_shl_lt _ _ | exact mo_ushr_lt _ _ | exact mo_or_lt (by decide) (mo_and_lt (mo_rd_lt _ _)) | exact mo_or_lt (mo_shl_lt _ _) (mo_and_lt (mo_rd_lt _ _)))) sy_oks_nil)))) rfl rfl ?_
  show sy_F 79 n 5 116 0 [(2, pl 11, 0), (2, pl 3, 0), (2, pl 10, 0), (0, 28, 0), (255, 0, 0), (255, 0, 0)] [] w _
  refine sy_Fs (sy_aldn xc79_0 rfl rfl sy_refl) ?_
  refine sy_Fs (sy_nnl_t (pc' := 8) xc79_1 (by decide) (by decide) sy_refl) ?_
  refine sy_Fs (sy_aldn xc79_8 rfl rfl sy_refl) ?_
  refine sy_Fs (sy_aldn xc79_9 rfl rfl sy_refl) ?_
  refine sy_Fs (sy_gf xc79_10 xf79_76 rfl (wh_at hw 3 rfl) rfl (fh_at hX3 0 rfl rfl) sy_refl) ?_
  refine sy_Fs (sy_iconst (v := 0) xc79_13 (by decide) sy_refl) ?_
  refine sy_Fs (sy_callG (kd := 3) (as := [(2, pl 11, 0), (2, pl 5, 0), (0, 0, 0)]) (S0 := []) (ret := [(0, (gv_fk Id Id 0), 0)]) xc79_14 (sy_calV (as := [(2, pl 11, 0), (2, pl 5, 0), (0, 0, 0)]) (S0 := []) xm79_89 rfl rfl) rfl rfl (sy_rcvm xi76 (wh_at hw 11 rfl)) rfl (sy_oka (sy_oks_cons (sy_ok2 (wh_lt hw 11 (by first | decide | assumption))) (sy_oks_cons (sy_ok2 (wh_lt hw 5 (by first | decide | assumption))) (sy_oks_cons (sy_ok0 (by first | decide | assumption | omega | exact mo_rd_lt _ _ | exact mo_add_lt _ _ | exact mo_sub_lt _ _ | exact mo_mul_lt _ _ | exact mo_shl_lt _ _ | exact mo_ushr_lt _ _ | exact mo_or_lt (by decide) (mo_and_lt (mo_rd_lt _ _)) | exact mo_or_lt (mo_shl_lt _ _) (mo_and_lt (mo_rd_lt _ _)))) sy_oks_nil))) rfl xl76) (gv_find (wh_lt hw 11 (by first | decide | assumption)) (wh_lt hw 5 (by first | decide | assumption)) (wh_lt hw 5 (by first | decide | assumption)) (wh_at hw 11 rfl) (fh_at hX11 2 rfl rfl) (fh_at hX11 1 rfl rfl) (wh_at hw 12 rfl) hkn (wh_at hw 3 rfl) (fh_at hX3 0 rfl rfl) (wh_at hw 5 rfl) (wh_at hw 5 rfl) (by first | decide | assumption | omega) (by first | decide | assumption | omega)) (by decide) (by rw [xl76]; decide) sy_refl) ?_
  rw [eI]
  refine sy_Fs (sx_ist (j := 4) (ls' := [(2, pl 11, 0), (2, pl 3, 0), (2, pl 10, 0), (0, 28, 0), (0, 0, 0), (255, 0, 0)]) xc79_17 rfl (sy_ok0 (by first | decide | assumption | omega | exact mo_rd_lt _ _ | exact mo_add_lt _ _ | exact mo_sub_lt _ _ | exact mo_mul_lt _ _ | exact mo_shl_lt _ _ | exact mo_ushr_lt _ _ | exact mo_or_lt (by decide) (mo_and_lt (mo_rd_lt _ _)) | exact mo_or_lt (mo_shl_lt _ _) (mo_and_lt (mo_rd_lt _ _)))) (by rw [xl79]; rfl) rfl rfl) ?_
  refine sy_Fs (sy_ild xc79_19 rfl rfl sy_refl) ?_
  refine sy_Fs (sy_ifge_t (pc' := 26) xc79_21 (by decide) (by decide) (by decide) sy_refl) ?_
  refine sy_Fs (sy_aldn xc79_26 rfl rfl sy_refl) ?_
  refine sy_Fs (sy_gf xc79_27 xf79_22 rfl (wh_at hw 11 rfl) rfl (fh_at hX11 5 rfl rfl) sy_refl) ?_
  refine sy_Fs (sy_ild xc79_30 rfl rfl sy_refl) ?_
  refine sy_Fs (sx_aaln xc79_32 (wh_at hw 15 rfl) gv_tB (by decide) (by decide) hbf) ?_
  refine sy_Fs (sx_nul_t (pc' := 38) xc79_33 (by decide) (by decide)) ?_
  refine sy_Fs (sy_aldn xc79_38 rfl rfl sy_refl) ?_
  refine sy_Fs (sy_aldn xc79_39 rfl rfl sy_refl) ?_
  refine sy_Fs (sy_ildn xc79_40 rfl rfl sy_refl) ?_
  obtain ⟨ret, w, ⟨rfl, T, X17, Yp, Yw, Ys, Yi, Yu, Yl, hT, hw1, hX1x⟩, hC⟩ := cg_ids (n := n) hw hX0 hX1 hX3 hX8 hX11 hX17 hbs hkn hff hbf hps hst hsu hsl hf hb0 hb3
  refine sy_Fs (sy_callG (kd := 3) (as := [(2, pl 11, 0), (2, pl 10, 0), (0, 28, 0)]) (S0 := []) (ret := [(0, 1, 0)]) xc79_41 (sy_calV (as := [(2, pl 11, 0), (2, pl 10, 0), (0, 28, 0)]) (S0 := []) xm79_127 rfl rfl) rfl rfl (sy_rcvm xi80 (wh_at hw 11 rfl)) rfl (sy_oka (sy_oks_cons (sy_ok2 (wh_lt hw 11 (by first | decide | assumption))) (sy_oks_cons (sy_ok2 (wh_lt hw 10 (by first | decide | assumption))) (sy_oks_cons (sy_ok0 (by first | decide | assumption | omega | exact mo_rd_lt _ _ | exact mo_add_lt _ _ | exact mo_sub_lt _ _ | exact mo_mul_lt _ _ | exact mo_shl_lt _ _ | exact mo_ushr_lt _ _ | exact mo_or_lt (by decide) (mo_and_lt (mo_rd_lt _ _)) | exact mo_or_lt (mo_shl_lt _ _) (mo_and_lt (mo_rd_lt _ _)))) sy_oks_nil))) rfl xl80) hC (by decide) (by rw [xl80]; decide) sy_refl) ?_
  replace hw := hw1
  replace hX17 := hX1x
  refine sy_Fs (sx_ist (j := 5) (ls' := [(2, pl 11, 0), (2, pl 3, 0), (2, pl 10, 0), (0, 28, 0), (0, 0, 0), (0, 1, 0)]) xc79_44 rfl (sy_ok0 (by first | decide | assumption | omega | exact mo_rd_lt _ _ | exact mo_add_lt _ _ | exact mo_sub_lt _ _ | exact mo_mul_lt _ _ | exact mo_shl_lt _ _ | exact mo_ushr_lt _ _ | exact mo_or_lt (by decide) (mo_and_lt (mo_rd_lt _ _)) | exact mo_or_lt (mo_shl_lt _ _) (mo_and_lt (mo_rd_lt _ _)))) (by rw [xl79]; rfl) rfl rfl) ?_
  refine sy_Fs (sy_ild xc79_46 rfl rfl sy_refl) ?_
  refine sy_Fs (sy_iconst (v := 1) xc79_48 (by decide) sy_refl) ?_
  refine sy_Fs (sy_ge_t (pc' := 54) xc79_49 (by decide) (by decide) (by decide) (by decide) sy_refl) ?_
  refine sy_Fs (sy_aldn xc79_54 rfl rfl sy_refl) ?_
  refine sy_Fs (sy_gf xc79_55 xf79_56 rfl (wh_at hw 11 rfl) rfl (fh_at hX11 0 rfl rfl) sy_refl) ?_
  refine sy_Fs (sy_aldn xc79_58 rfl rfl sy_refl) ?_
  refine sy_Fs (sy_gf xc79_59 xf79_49 rfl (wh_at hw 11 rfl) rfl (fh_at hX11 7 rfl rfl) sy_refl) ?_
  refine sy_Fs (sy_ild xc79_62 rfl rfl sy_refl) ?_
  obtain ⟨ret, w2, ⟨rfl, rfl⟩, hC2⟩ := cg_fold2 (n := n) hw
  refine sy_Fs (sy_callG (kd := 3) (as := [(2, pl 17, 0), (2, pl 16, 0), (0, 1, 0)]) (S0 := []) (ret := []) xc79_64 (sy_calV (as := [(2, pl 17, 0), (2, pl 16, 0), (0, 1, 0)]) (S0 := []) xm79_130 rfl rfl) rfl rfl (sy_rcvm xi30 (wh_at hw 17 rfl)) rfl (sy_oka (sy_oks_cons (sy_ok2 (wh_lt hw 17 (by first | decide | assumption))) (sy_oks_cons (sy_ok2 (wh_lt hw 16 (by first | decide | assumption))) (sy_oks_cons (sy_ok0 (by first | decide | assumption | omega | exact mo_rd_lt _ _ | exact mo_add_lt _ _ | exact mo_sub_lt _ _ | exact mo_mul_lt _ _ | exact mo_shl_lt _ _ | exact mo_ushr_lt _ _ | exact mo_or_lt (by decide) (mo_and_lt (mo_rd_lt _ _)) | exact mo_or_lt (mo_shl_lt _ _) (mo_and_lt (mo_rd_lt _ _)))) sy_oks_nil))) rfl xl30) hC2 (by decide) (by rw [xl30]; decide) sy_refl) ?_
  refine sy_Fs (sy_aldn xc79_67 rfl rfl sy_refl) ?_
  refine sy_Fs (sy_gf xc79_68 xf79_49 rfl (wh_at hw 11 rfl) rfl (fh_at hX11 7 rfl rfl) sy_refl) ?_
  refine sy_Fs (sy_iconst (v := 0) xc79_71 (by decide) sy_refl) ?_
  refine sy_Fs (sy_aldn xc79_72 rfl rfl sy_refl) ?_
  refine sy_Fs (sy_gf xc79_73 xf79_15 rfl (wh_at hw 11 rfl) rfl (fh_at hX11 1 rfl rfl) sy_refl) ?_
  refine sy_Fs (sy_ild xc79_76 rfl rfl sy_refl) ?_
  refine sy_Fs (sy_aald (i := 0) xc79_78 (wh_at hw 12 rfl) gv_tB rfl (by decide) (by decide) hkn sy_refl) ?_
  refine sy_Fs (sy_gf xc79_79 xf79_124 rfl (wh_at hw 3 rfl) rfl (fh_at hX3 1 rfl rfl) sy_refl) ?_
  refine sy_Fs (sy_bipush (v := 32) xc79_82 (by decide) (by decide) sy_refl) ?_
  refine sy_Fs (sy_bipush (v := 32) xc79_84 (by decide) (by decide) sy_refl) ?_
  refine sy_Fs (sy_callG (kd := 2) (as := [(2, pl 16, 0), (0, 0, 0), (2, pl 4, 0), (0, 32, 0), (0, 32, 0)]) (S0 := []) (ret := [(0, (sb_n T 0 Hd 32 32), 0)]) xc79_86 (sy_calS (as := [(2, pl 16, 0), (0, 0, 0), (2, pl 4, 0), (0, 32, 0), (0, 32, 0)]) (S0 := []) xm79_79 rfl rfl) rfl rfl rfl rfl (sy_oka (sy_oks_cons (sy_ok2 (wh_lt hw 16 (by first | decide | assumption))) (sy_oks_cons (sy_ok0 (by first | decide | assumption | omega | exact mo_rd_lt _ _ | exact mo_add_lt _ _ | exact mo_sub_lt _ _ | exact mo_mul_lt _ _ | exact mo_shl_lt _ _ | exact mo_ushr_lt _ _ | exact mo_or_lt (by decide) (mo_and_lt (mo_rd_lt _ _)) | exact mo_or_lt (mo_shl_lt _ _) (mo_and_lt (mo_rd_lt _ _)))) (sy_oks_cons (sy_ok2 (wh_lt hw 4 (by first | decide | assumption))) (sy_oks_cons (sy_ok0 (by first | decide | assumption | omega | exact mo_rd_lt _ _ | exact mo_add_lt _ _ | exact mo_sub_lt _ _ | exact mo_mul_lt _ _ | exact mo_shl_lt _ _ | exact mo_ushr_lt _ _ | exact mo_or_lt (by decide) (mo_and_lt (mo_rd_lt _ _)) | exact mo_or_lt (mo_shl_lt _ _) (mo_and_lt (mo_rd_lt _ _)))) (sy_oks_cons (sy_ok0 (by first | decide | assumption | omega | exact mo_rd_lt _ _ | exact mo_add_lt _ _ | exact mo_sub_lt _ _ | exact mo_mul_lt _ _ | exact mo_shl_lt _ _ | exact mo_ushr_lt _ _ | exact mo_or_lt (by decide) (mo_and_lt (mo_rd_lt _ _)) | exact mo_or_lt (mo_shl_lt _ _) (mo_and_lt (mo_rd_lt _ _)))) sy_oks_nil))))) rfl xl35) (sbA_run (wh_lt hw 16 (by first | decide | assumption)) (wh_lt hw 4 (by first | decide | assumption)) (wh_at hw 16 rfl) (wh_at hw 4 rfl) (by first | decide | assumption | omega) (by first | decide | assumption | omega) (by first | decide | assumption | omega) (by first | decide | assumption | omega)) (by decide) (by rw [xl35]; decide) sy_refl) ?_
  cases hb : sb_eq T 0 Hd 32 32 with
  | true =>
    have e : sb_n T 0 Hd 32 32 = 1 := by unfold sb_n; rw [hb]; rfl
    refine sy_Fs (sy_ifne_t (pc' := 94) xc79_89 (by decide) (by rw [e]; decide) (by rw [e]; decide) (by decide) sy_refl) ?_
    refine sy_Fs (sy_aldn xc79_94 rfl rfl sy_refl) ?_
    refine sy_Fs (sy_gf xc79_95 xf79_22 rfl (wh_at hw 11 rfl) rfl (fh_at hX11 5 rfl rfl) sy_refl) ?_
    refine sy_Fs (sy_ild xc79_98 rfl rfl sy_refl) ?_
    refine sy_Fs (sy_aldn xc79_100 rfl rfl sy_refl) ?_
    refine sy_Fw (i := 15) (x := (3, 6, 60, (mv_wr 32 cbf 0 (pl 3 + 1)))) hw (by decide) (sx_aas (i := 0) xc79_101 (wh_at hw 15 rfl) (wh_at hw 3 rfl) gv_tB rfl rfl (by decide) (by decide) rfl sy_refl) ?_
    intro w hw
    simp only [List.set_cons_zero, List.set_cons_succ] at hw
    refine sy_Fs (sy_aldn xc79_102 rfl rfl sy_refl) ?_
    refine sy_Fs (sy_iconst (v := 1) xc79_103 (by decide) sy_refl) ?_
    refine sy_Ff (i := 11) (q := 6) (v := (0, 1, 0)) hw hX11 (by decide) (by decide) rfl (sy_ok0 (by first | decide | assumption | omega | exact mo_rd_lt _ _ | exact mo_add_lt _ _ | exact mo_sub_lt _ _ | exact mo_mul_lt _ _ | exact mo_shl_lt _ _ | exact mo_ushr_lt _ _ | exact mo_or_lt (by decide) (mo_and_lt (mo_rd_lt _ _)) | exact mo_or_lt (mo_shl_lt _ _) (mo_and_lt (mo_rd_lt _ _)))) (sx_pfz xc79_104 xf79_25 rfl xt11_7 xn11_7 (wh_at hw 11 rfl) rfl (by first | decide | assumption | omega | exact mo_rd_lt _ _ | exact mo_add_lt _ _ | exact mo_sub_lt _ _ | exact mo_mul_lt _ _ | exact mo_shl_lt _ _ | exact mo_ushr_lt _ _ | exact mo_or_lt (by decide) (mo_and_lt (mo_rd_lt _ _)) | exact mo_or_lt (mo_shl_lt _ _) (mo_and_lt (mo_rd_lt _ _))) rfl sy_refl) ?_
    intro w X11 hw hX11
    simp only [List.set_cons_zero, List.set_cons_succ] at hw hX11
    refine sy_Fs (sy_iconst (v := 1) xc79_107 (by decide) sy_refl) ?_
    exact sy_Fi xc79_108 xr79 rfl ⟨T, hT, by unfold cg_a; rw [hb]; rfl, _, hw⟩
  | false =>
    have e : sb_n T 0 Hd 32 32 = 0 := by unfold sb_n; rw [hb]; rfl
    refine sy_Fs (sy_ifne_f xc79_89 (by decide) e sy_refl) ?_
    refine sy_Fs (sy_iconst (v := 0) xc79_92 (by decide) sy_refl) ?_
    exact sy_Fi xc79_93 xr79 rfl ⟨T, hT, by unfold cg_a; rw [hb]; rfl, _, hw⟩
theorem cg_cp0 (hw : wh 22 pl w0 w [(0, 1, 13, X0), (0, 8, 11, X1), (3, 6, 40, cbs), (0, 9, 11, X3), (1, 1, 105, Hd), (1, 1, 32, Id), (1, 1, 2, Fi), (3, 7, 4, cps), (0, 10, 6, X8), (1, 1, 28, Pb), (1, 1, 2048, Pl), (0, 11, 19, X11), (3, 6, 60, ckn), (1, 1, 32, Dg), (3, 6, 60, cff), (3, 6, 60, cbf), (1, 1, 2336, Ids), (0, 2, 13, X17), (1, 1, 64, Sp), (1, 0, 64, Sw), (1, 0, 8, Ss), (1, 1, 32, In)]) (hX0 : fh X0 jX [(2, pl 1, 0), (2, pl 10, 0), (2, pl 11, 0)]) (hX1 : fh X1 jM [(0, 1, 0), (2, pl 2, 0)]) (hX3 : fh X3 jB [(2, pl 5, 0), (2, pl 4, 0), (2, pl 6, 0), (0, 2, 0), (0, 1, 0), (2, pl 7, 0)]) (hX8 : fh X8 jP [(2, pl 9, 0)]) (hX11 : fh X11 jU [(2, pl 17, 0), (2, pl 12, 0), (0, 1, 0), (2, pl 13, 0), (2, pl 14, 0), (2, pl 15, 0), (0, stl, 0), (2, pl 16, 0)]) (hX17 : fh X17 jS [(2, pl 18, 0), (2, pl 19, 0), (2, pl 20, 0), (2, pl 21, 0), (0, su, 0), (0, sl, 0)]) (hbs : mv_rd 32 cbs 0 = pl 3 + 1) (hkn : mv_rd 32 ckn 0 = pl 3 + 1) (hff : mv_rd 32 cff 0 = 0) (hbf : mv_rd 32 cbf 0 = 0) (hps : mv_rd 32 cps 0 = pl 8 + 1) (hst : stl < 2) (hsu : su < 64) (hsl : sl < 4294967296) (hab : mv_ab Hd 0 105 = true) : sy_D 73 n 2 41 [(2, pl 3, 0), (0, 0, 0), (2, pl 10, 0)] w (fun ret w' => ret = [(0, 105, 0)] ∧ wh 22 pl w0 w' [(0, 1, 13, X0), (0, 8, 11, X1), (3, 6, 40, cbs), (0, 9, 11, X3), (1, 1, 105, Hd), (1, 1, 32, Id), (1, 1, 2, Fi), (3, 7, 4, cps), (0, 10, 6, X8), (1, 1, 28, Pb), (1, 1, 2048, (mv_cw 32 Pl Hd 0 0 105)), (0, 11, 19, X11), (3, 6, 60, ckn), (1, 1, 32, Dg), (3, 6, 60, cff), (3, 6, 60, cbf), (1, 1, 2336, Ids), (0, 2, 13, X17), (1, 1, 64, Sp), (1, 0, 64, Sw), (1, 0, 8, Ss), (1, 1, 32, In)]) := by
  refine sy_Dof (us := [(255, 0, 0), (255, 0, 0)]) (sy_oks_cons (sy_ok2 (wh_lt hw 3 (by first | decide | assumption))) (sy_oks_cons (sy_ok0 (by first | decide | assumption | omega | exact mo_rd_lt _ _ | exact mo_add_lt _ _ | exact mo_sub_lt _ _ | exact mo_mul_lt _ _ | exact mo_shl_lt _ _ | exact mo_ushr_lt _ _ | exact mo_or_lt (by decide) (mo_and_lt (mo_rd_lt _ _)) | exact mo_or_lt (mo_shl_lt _ _) (mo_and_lt (mo_rd_lt _ _)))) (sy_oks_cons (sy_ok2 (wh_lt hw 10 (by first | decide | assumption))) sy_oks_nil))) rfl rfl ?_
  show sy_F 73 n 2 41 0 [(2, pl 3, 0), (0, 0, 0), (2, pl 10, 0), (255, 0, 0), (255, 0, 0)] [] w _
  refine sy_Fs (sy_ildn xc73_0 rfl rfl sy_refl) ?_
  refine sy_Fs (sy_ifne_f xc73_1 (by decide) (by decide) sy_refl) ?_
  refine sy_Fs (sy_aldn xc73_4 rfl rfl sy_refl) ?_
  refine sy_Fs (sy_gf xc73_5 xf73_11 rfl (wh_at hw 3 rfl) rfl (fh_at hX3 1 rfl rfl) sy_refl) ?_
  refine sy_Fs (sy_bipush (v := 105) xc73_8 (by decide) (by decide) sy_refl) ?_
  refine sy_Fs (sy_aldn xc73_10 rfl rfl sy_refl) ?_
  refine sy_Fs (sy_iconst (v := 0) xc73_11 (by decide) sy_refl) ?_
  refine sy_Fw (i := 10) (x := (1, 1, 2048, (mv_cw 32 Pl Hd 0 0 105))) hw (by decide) (sy_callG (kd := 1) (as := [(2, pl 4, 0), (0, 105, 0), (2, pl 10, 0), (0, 0, 0)]) (S0 := []) (ret := [(0, 105, 0)]) xc73_12 (sy_calS (as := [(2, pl 4, 0), (0, 105, 0), (2, pl 10, 0), (0, 0, 0)]) (S0 := []) xm73_89 rfl rfl) rfl rfl rfl rfl (sy_oka (sy_oks_cons (sy_ok2 (wh_lt hw 4 (by first | decide | assumption))) (sy_oks_cons (sy_ok0 (by first | decide | assumption | omega | exact mo_rd_lt _ _ | exact mo_add_lt _ _ | exact mo_sub_lt _ _ | exact mo_mul_lt _ _ | exact mo_shl_lt _ _ | exact mo_ushr_lt _ _ | exact mo_or_lt (by decide) (mo_and_lt (mo_rd_lt _ _)) | exact mo_or_lt (mo_shl_lt _ _) (mo_and_lt (mo_rd_lt _ _)))) (sy_oks_cons (sy_ok2 (wh_lt hw 10 (by first | decide | assumption))) (sy_oks_cons (sy_ok0 (by first | decide | assumption | omega | exact mo_rd_lt _ _ | exact mo_add_lt _ _ | exact mo_sub_lt _ _ | exact mo_mul_lt _ _ | exact mo_shl_lt _ _ | exact mo_ushr_lt _ _ | exact mo_or_lt (by decide) (mo_and_lt (mo_rd_lt _ _)) | exact mo_or_lt (mo_shl_lt _ _) (mo_and_lt (mo_rd_lt _ _)))) sy_oks_nil)))) rfl xl74) (gv_copyRow (wh_lt hw 4 (by first | decide | assumption)) (wh_lt hw 10 (by first | decide | assumption)) (wh_at hw 4 rfl) (wh_at hw 10 rfl) (by first | decide | assumption | omega) (by first | decide | assumption | omega) (by first | decide | assumption | omega) (by first | decide | assumption | omega) hab) (by decide) (by rw [xl74]; decide) sy_refl) ?_
  intro w hw
  simp only [List.set_cons_zero, List.set_cons_succ] at hw
  exact sy_Fi xc73_15 xr73 rfl ⟨rfl, hw⟩
theorem cg_cp1 (hw : wh 22 pl w0 w [(0, 1, 13, X0), (0, 8, 11, X1), (3, 6, 40, cbs), (0, 9, 11, X3), (1, 1, 105, Hd), (1, 1, 32, Id), (1, 1, 2, Fi), (3, 7, 4, cps), (0, 10, 6, X8), (1, 1, 28, Pb), (1, 1, 2048, Pl), (0, 11, 19, X11), (3, 6, 60, ckn), (1, 1, 32, Dg), (3, 6, 60, cff), (3, 6, 60, cbf), (1, 1, 2336, Ids), (0, 2, 13, X17), (1, 1, 64, Sp), (1, 0, 64, Sw), (1, 0, 8, Ss), (1, 1, 32, In)]) (hX0 : fh X0 jX [(2, pl 1, 0), (2, pl 10, 0), (2, pl 11, 0)]) (hX1 : fh X1 jM [(0, 1, 0), (2, pl 2, 0)]) (hX3 : fh X3 jB [(2, pl 5, 0), (2, pl 4, 0), (2, pl 6, 0), (0, 2, 0), (0, 1, 0), (2, pl 7, 0)]) (hX8 : fh X8 jP [(2, pl 9, 0)]) (hX11 : fh X11 jU [(2, pl 17, 0), (2, pl 12, 0), (0, 1, 0), (2, pl 13, 0), (2, pl 14, 0), (2, pl 15, 0), (0, stl, 0), (2, pl 16, 0)]) (hX17 : fh X17 jS [(2, pl 18, 0), (2, pl 19, 0), (2, pl 20, 0), (2, pl 21, 0), (0, su, 0), (0, sl, 0)]) (hbs : mv_rd 32 cbs 0 = pl 3 + 1) (hkn : mv_rd 32 ckn 0 = pl 3 + 1) (hff : mv_rd 32 cff 0 = 0) (hbf : mv_rd 32 cbf 0 = 0) (hps : mv_rd 32 cps 0 = pl 8 + 1) (hst : stl < 2) (hsu : su < 64) (hsl : sl < 4294967296) (hab : mv_ab Fi 0 2 = true) : sy_D 73 n 2 41 [(2, pl 3, 0), (0, 1, 0), (2, pl 10, 0)] w (fun ret w' => ret = [(0, 2, 0)] ∧ wh 22 pl w0 w' [(0, 1, 13, X0), (0, 8, 11, X1), (3, 6, 40, cbs), (0, 9, 11, X3), (1, 1, 105, Hd), (1, 1, 32, Id), (1, 1, 2, Fi), (3, 7, 4, cps), (0, 10, 6, X8), (1, 1, 28, Pb), (1, 1, 2048, (mv_cw 32 Pl Fi 0 0 2)), (0, 11, 19, X11), (3, 6, 60, ckn), (1, 1, 32, Dg), (3, 6, 60, cff), (3, 6, 60, cbf), (1, 1, 2336, Ids), (0, 2, 13, X17), (1, 1, 64, Sp), (1, 0, 64, Sw), (1, 0, 8, Ss), (1, 1, 32, In)]) := by
  refine sy_Dof (us := [(255, 0, 0), (255, 0, 0)]) (sy_oks_cons (sy_ok2 (wh_lt hw 3 (by first | decide | assumption))) (sy_oks_cons (sy_ok0 (by first | decide | assumption | omega | exact mo_rd_lt _ _ | exact mo_add_lt _ _ | exact mo_sub_lt _ _ | exact mo_mul_lt _ _ | exact mo_shl_lt _ _ | exact mo_ushr_lt _ _ | exact mo_or_lt (by decide) (mo_and_lt (mo_rd_lt _ _)) | exact mo_or_lt (mo_shl_lt _ _) (mo_and_lt (mo_rd_lt _ _)))) (sy_oks_cons (sy_ok2 (wh_lt hw 10 (by first | decide | assumption))) sy_oks_nil))) rfl rfl ?_
  show sy_F 73 n 2 41 0 [(2, pl 3, 0), (0, 1, 0), (2, pl 10, 0), (255, 0, 0), (255, 0, 0)] [] w _
  refine sy_Fs (sy_ildn xc73_0 rfl rfl sy_refl) ?_
  refine sy_Fs (sy_ifne_t (pc' := 16) xc73_1 (by decide) (by decide) (by decide) (by decide) sy_refl) ?_
  refine sy_Fs (sy_ildn xc73_16 rfl rfl sy_refl) ?_
  refine sy_Fs (sy_iconst (v := 1) xc73_17 (by decide) sy_refl) ?_
  refine sy_Fs (sy_icmpne_f xc73_18 (by decide) (by decide) sy_refl) ?_
  refine sy_Fs (sy_aldn xc73_21 rfl rfl sy_refl) ?_
  refine sy_Fs (sy_gf xc73_22 xf73_93 rfl (wh_at hw 3 rfl) rfl (fh_at hX3 2 rfl rfl) sy_refl) ?_
  refine sy_Fs (sy_nnl_t (pc' := 32) xc73_25 (by decide) (by decide) sy_refl) ?_
  refine sy_Fs (sy_aldn xc73_32 rfl rfl sy_refl) ?_
  refine sy_Fs (sy_gf xc73_33 xf73_93 rfl (wh_at hw 3 rfl) rfl (fh_at hX3 2 rfl rfl) sy_refl) ?_
  refine sy_Fs (sy_aldn xc73_36 rfl rfl sy_refl) ?_
  refine sy_Fs (sy_gf xc73_37 xf73_96 rfl (wh_at hw 3 rfl) rfl (fh_at hX3 3 rfl rfl) sy_refl) ?_
  refine sy_Fs (sy_aldn xc73_40 rfl rfl sy_refl) ?_
  refine sy_Fs (sy_iconst (v := 0) xc73_41 (by decide) sy_refl) ?_
  refine sy_Fw (i := 10) (x := (1, 1, 2048, (mv_cw 32 Pl Fi 0 0 2))) hw (by decide) (sy_callG (kd := 1) (as := [(2, pl 6, 0), (0, 2, 0), (2, pl 10, 0), (0, 0, 0)]) (S0 := []) (ret := [(0, 2, 0)]) xc73_42 (sy_calS (as := [(2, pl 6, 0), (0, 2, 0), (2, pl 10, 0), (0, 0, 0)]) (S0 := []) xm73_89 rfl rfl) rfl rfl rfl rfl (sy_oka (sy_oks_cons (sy_ok2 (wh_lt hw 6 (by first | decide | assumption))) (sy_oks_cons (sy_ok0 (by first | decide | assumption | omega | exact mo_rd_lt _ _ | exact mo_add_lt _ _ | exact mo_sub_lt _ _ | exact mo_mul_lt _ _ | exact mo_shl_lt _ _ | exact mo_ushr_lt _ _ | exact mo_or_lt (by decide) (mo_and_lt (mo_rd_lt _ _)) | exact mo_or_lt (mo_shl_lt _ _) (mo_and_lt (mo_rd_lt _ _)))) (sy_oks_cons (sy_ok2 (wh_lt hw 10 (by first | decide | assumption))) (sy_oks_cons (sy_ok0 (by first | decide | assumption | omega | exact mo_rd_lt _ _ | exact mo_add_lt _ _ | exact mo_sub_lt _ _ | exact mo_mul_lt _ _ | exact mo_shl_lt _ _ | exact mo_ushr_lt _ _ | exact mo_or_lt (by decide) (mo_and_lt (mo_rd_lt _ _)) | exact mo_or_lt (mo_shl_lt _ _) (mo_and_lt (mo_rd_lt _ _)))) sy_oks_nil)))) rfl xl74) (gv_copyRow (wh_lt hw 6 (by first | decide | assumption)) (wh_lt hw 10 (by first | decide | assumption)) (wh_at hw 6 rfl) (wh_at hw 10 rfl) (by first | decide | assumption | omega) (by first | decide | assumption | omega) (by first | decide | assumption | omega) (by first | decide | assumption | omega) hab) (by decide) (by rw [xl74]; decide) sy_refl) ?_
  intro w hw
  simp only [List.set_cons_zero, List.set_cons_succ] at hw
  exact sy_Fi xc73_45 xr73 rfl ⟨rfl, hw⟩
theorem cg_cp2 (hw : wh 22 pl w0 w [(0, 1, 13, X0), (0, 8, 11, X1), (3, 6, 40, cbs), (0, 9, 11, X3), (1, 1, 105, Hd), (1, 1, 32, Id), (1, 1, 2, Fi), (3, 7, 4, cps), (0, 10, 6, X8), (1, 1, 28, Pb), (1, 1, 2048, Pl), (0, 11, 19, X11), (3, 6, 60, ckn), (1, 1, 32, Dg), (3, 6, 60, cff), (3, 6, 60, cbf), (1, 1, 2336, Ids), (0, 2, 13, X17), (1, 1, 64, Sp), (1, 0, 64, Sw), (1, 0, 8, Ss), (1, 1, 32, In)]) (hX0 : fh X0 jX [(2, pl 1, 0), (2, pl 10, 0), (2, pl 11, 0)]) (hX1 : fh X1 jM [(0, 1, 0), (2, pl 2, 0)]) (hX3 : fh X3 jB [(2, pl 5, 0), (2, pl 4, 0), (2, pl 6, 0), (0, 2, 0), (0, 1, 0), (2, pl 7, 0)]) (hX8 : fh X8 jP [(2, pl 9, 0)]) (hX11 : fh X11 jU [(2, pl 17, 0), (2, pl 12, 0), (0, 1, 0), (2, pl 13, 0), (2, pl 14, 0), (2, pl 15, 0), (0, stl, 0), (2, pl 16, 0)]) (hX17 : fh X17 jS [(2, pl 18, 0), (2, pl 19, 0), (2, pl 20, 0), (2, pl 21, 0), (0, su, 0), (0, sl, 0)]) (hbs : mv_rd 32 cbs 0 = pl 3 + 1) (hkn : mv_rd 32 ckn 0 = pl 3 + 1) (hff : mv_rd 32 cff 0 = 0) (hbf : mv_rd 32 cbf 0 = 0) (hps : mv_rd 32 cps 0 = pl 8 + 1) (hst : stl < 2) (hsu : su < 64) (hsl : sl < 4294967296) (hab : mv_ab Pb 0 28 = true) : sy_D 73 n 2 41 [(2, pl 3, 0), (0, 2, 0), (2, pl 10, 0)] w (fun ret w' => ret = [(0, 28, 0)] ∧ wh 22 pl w0 w' [(0, 1, 13, X0), (0, 8, 11, X1), (3, 6, 40, cbs), (0, 9, 11, X3), (1, 1, 105, Hd), (1, 1, 32, Id), (1, 1, 2, Fi), (3, 7, 4, cps), (0, 10, 6, X8), (1, 1, 28, Pb), (1, 1, 2048, (mv_cw 32 Pl Pb 0 0 28)), (0, 11, 19, X11), (3, 6, 60, ckn), (1, 1, 32, Dg), (3, 6, 60, cff), (3, 6, 60, cbf), (1, 1, 2336, Ids), (0, 2, 13, X17), (1, 1, 64, Sp), (1, 0, 64, Sw), (1, 0, 8, Ss), (1, 1, 32, In)]) := by
  refine sy_Dof (us := [(255, 0, 0), (255, 0, 0)]) (sy_oks_cons (sy_ok2 (wh_lt hw 3 (by first | decide | assumption))) (sy_oks_cons (sy_ok0 (by first | decide | assumption | omega | exact mo_rd_lt _ _ | exact mo_add_lt _ _ | exact mo_sub_lt _ _ | exact mo_mul_lt _ _ | exact mo_shl_lt _ _ | exact mo_ushr_lt _ _ | exact mo_or_lt (by decide) (mo_and_lt (mo_rd_lt _ _)) | exact mo_or_lt (mo_shl_lt _ _) (mo_and_lt (mo_rd_lt _ _)))) (sy_oks_cons (sy_ok2 (wh_lt hw 10 (by first | decide | assumption))) sy_oks_nil))) rfl rfl ?_
  show sy_F 73 n 2 41 0 [(2, pl 3, 0), (0, 2, 0), (2, pl 10, 0), (255, 0, 0), (255, 0, 0)] [] w _
  refine sy_Fs (sy_ildn xc73_0 rfl rfl sy_refl) ?_
  refine sy_Fs (sy_ifne_t (pc' := 16) xc73_1 (by decide) (by decide) (by decide) (by decide) sy_refl) ?_
  refine sy_Fs (sy_ildn xc73_16 rfl rfl sy_refl) ?_
  refine sy_Fs (sy_iconst (v := 1) xc73_17 (by decide) sy_refl) ?_
  refine sy_Fs (sy_icmpne_t (pc' := 46) xc73_18 (by decide) (by decide) (by decide) (by decide) (by decide) sy_refl) ?_
  refine sy_Fs (sy_iconst (v := 0) xc73_46 (by decide) sy_refl) ?_
  refine sy_Fs (sx_istn (j := 3) (ls' := [(2, pl 3, 0), (0, 2, 0), (2, pl 10, 0), (0, 0, 0), (255, 0, 0)]) xc73_47 rfl rfl (sy_ok0 (by first | decide | assumption | omega | exact mo_rd_lt _ _ | exact mo_add_lt _ _ | exact mo_sub_lt _ _ | exact mo_mul_lt _ _ | exact mo_shl_lt _ _ | exact mo_ushr_lt _ _ | exact mo_or_lt (by decide) (mo_and_lt (mo_rd_lt _ _)) | exact mo_or_lt (mo_shl_lt _ _) (mo_and_lt (mo_rd_lt _ _)))) (by rw [xl73]; rfl) rfl rfl) ?_
  refine sy_Fs (sy_iconst (v := 0) xc73_48 (by decide) sy_refl) ?_
  refine sy_Fs (sx_ist (j := 4) (ls' := [(2, pl 3, 0), (0, 2, 0), (2, pl 10, 0), (0, 0, 0), (0, 0, 0)]) xc73_49 rfl (sy_ok0 (by first | decide | assumption | omega | exact mo_rd_lt _ _ | exact mo_add_lt _ _ | exact mo_sub_lt _ _ | exact mo_mul_lt _ _ | exact mo_shl_lt _ _ | exact mo_ushr_lt _ _ | exact mo_or_lt (by decide) (mo_and_lt (mo_rd_lt _ _)) | exact mo_or_lt (mo_shl_lt _ _) (mo_and_lt (mo_rd_lt _ _)))) (by rw [xl73]; rfl) rfl rfl) ?_
  refine sy_Fs (sy_ild xc73_51 rfl rfl sy_refl) ?_
  refine sy_Fs (sy_aldn xc73_53 rfl rfl sy_refl) ?_
  refine sy_Fs (sy_gf xc73_54 xf73_67 rfl (wh_at hw 3 rfl) rfl (fh_at hX3 4 rfl rfl) sy_refl) ?_
  refine sy_Fs (sy_ge_f xc73_57 (by decide) (by decide) (by decide) sy_refl) ?_
  refine sy_Fs (sy_aldn xc73_60 rfl rfl sy_refl) ?_
  refine sy_Fs (sy_gf xc73_61 xf73_20 rfl (wh_at hw 3 rfl) rfl (fh_at hX3 5 rfl rfl) sy_refl) ?_
  refine sy_Fs (sy_ild xc73_64 rfl rfl sy_refl) ?_
  refine sy_Fs (sy_aald (i := 0) xc73_66 (wh_at hw 7 rfl) cg_tP rfl (by decide) (by decide) hps sy_refl) ?_
  refine sy_Fs (sy_gf xc73_67 xf73_99 rfl (wh_at hw 8 rfl) rfl (fh_at hX8 0 rfl rfl) sy_refl) ?_
  refine sy_Fs (sy_aldn xc73_70 rfl rfl sy_refl) ?_
  refine sy_Fs (sy_gf xc73_71 xf73_20 rfl (wh_at hw 3 rfl) rfl (fh_at hX3 5 rfl rfl) sy_refl) ?_
  refine sy_Fs (sy_ild xc73_74 rfl rfl sy_refl) ?_
  refine sy_Fs (sy_aald (i := 0) xc73_76 (wh_at hw 7 rfl) cg_tP rfl (by decide) (by decide) hps sy_refl) ?_
  refine sy_Fs (sy_gf xc73_77 xf73_99 rfl (wh_at hw 8 rfl) rfl (fh_at hX8 0 rfl rfl) sy_refl) ?_
  refine sy_Fs (sy_alen xc73_80 (wh_at hw 9 rfl) rfl sy_refl) ?_
  refine sy_Fs (sy_aldn xc73_81 rfl rfl sy_refl) ?_
  refine sy_Fs (sy_ildn xc73_82 rfl rfl sy_refl) ?_
  refine sy_Fw (i := 10) (x := (1, 1, 2048, (mv_cw 32 Pl Pb 0 0 28))) hw (by decide) (sy_callG (kd := 1) (as := [(2, pl 9, 0), (0, 28, 0), (2, pl 10, 0), (0, 0, 0)]) (S0 := []) (ret := [(0, 28, 0)]) xc73_83 (sy_calS (as := [(2, pl 9, 0), (0, 28, 0), (2, pl 10, 0), (0, 0, 0)]) (S0 := []) xm73_89 rfl rfl) rfl rfl rfl rfl (sy_oka (sy_oks_cons (sy_ok2 (wh_lt hw 9 (by first | decide | assumption))) (sy_oks_cons (sy_ok0 (by first | decide | assumption | omega | exact mo_rd_lt _ _ | exact mo_add_lt _ _ | exact mo_sub_lt _ _ | exact mo_mul_lt _ _ | exact mo_shl_lt _ _ | exact mo_ushr_lt _ _ | exact mo_or_lt (by decide) (mo_and_lt (mo_rd_lt _ _)) | exact mo_or_lt (mo_shl_lt _ _) (mo_and_lt (mo_rd_lt _ _)))) (sy_oks_cons (sy_ok2 (wh_lt hw 10 (by first | decide | assumption))) (sy_oks_cons (sy_ok0 (by first | decide | assumption | omega | exact mo_rd_lt _ _ | exact mo_add_lt _ _ | exact mo_sub_lt _ _ | exact mo_mul_lt _ _ | exact mo_shl_lt _ _ | exact mo_ushr_lt _ _ | exact mo_or_lt (by decide) (mo_and_lt (mo_rd_lt _ _)) | exact mo_or_lt (mo_shl_lt _ _) (mo_and_lt (mo_rd_lt _ _)))) sy_oks_nil)))) rfl xl74) (gv_copyRow (wh_lt hw 9 (by first | decide | assumption)) (wh_lt hw 10 (by first | decide | assumption)) (wh_at hw 9 rfl) (wh_at hw 10 rfl) (by first | decide | assumption | omega) (by first | decide | assumption | omega) (by first | decide | assumption | omega) (by first | decide | assumption | omega) hab) (by decide) (by rw [xl74]; decide) sy_refl) ?_
  intro w hw
  simp only [List.set_cons_zero, List.set_cons_succ] at hw
  refine sy_Fs (sx_istn (j := 3) (ls' := [(2, pl 3, 0), (0, 2, 0), (2, pl 10, 0), (0, 28, 0), (0, 0, 0)]) xc73_86 rfl rfl (sy_ok0 (by first | decide | assumption | omega | exact mo_rd_lt _ _ | exact mo_add_lt _ _ | exact mo_sub_lt _ _ | exact mo_mul_lt _ _ | exact mo_shl_lt _ _ | exact mo_ushr_lt _ _ | exact mo_or_lt (by decide) (mo_and_lt (mo_rd_lt _ _)) | exact mo_or_lt (mo_shl_lt _ _) (mo_and_lt (mo_rd_lt _ _)))) (by rw [xl73]; rfl) rfl rfl) ?_
  refine sy_Fs (sx_iinc (c := 1) (z := 1) (ls' := [(2, pl 3, 0), (0, 2, 0), (2, pl 10, 0), (0, 28, 0), (0, 1, 0)]) xc73_87 rfl (by decide) (by rw [xl73]; rfl) rfl (by decide) rfl) ?_
  refine sy_Fs (sy_goto (pc' := 51) xc73_90 (by decide) (by decide) sy_refl) ?_
  refine sy_Fs (sy_ild xc73_51 rfl rfl sy_refl) ?_
  refine sy_Fs (sy_aldn xc73_53 rfl rfl sy_refl) ?_
  refine sy_Fs (sy_gf xc73_54 xf73_67 rfl (wh_at hw 3 rfl) rfl (fh_at hX3 4 rfl rfl) sy_refl) ?_
  refine sy_Fs (sy_ge_t (pc' := 93) xc73_57 (by decide) (by decide) (by decide) (by decide) sy_refl) ?_
  refine sy_Fs (sy_ildn xc73_93 rfl rfl sy_refl) ?_
  exact sy_Fi xc73_94 xr73 rfl ⟨rfl, hw⟩
theorem cg_give0 (hw : wh 22 pl w0 w [(0, 1, 13, X0), (0, 8, 11, X1), (3, 6, 40, cbs), (0, 9, 11, X3), (1, 1, 105, Hd), (1, 1, 32, Id), (1, 1, 2, Fi), (3, 7, 4, cps), (0, 10, 6, X8), (1, 1, 28, Pb), (1, 1, 2048, Pl), (0, 11, 19, X11), (3, 6, 60, ckn), (1, 1, 32, Dg), (3, 6, 60, cff), (3, 6, 60, cbf), (1, 1, 2336, Ids), (0, 2, 13, X17), (1, 1, 64, Sp), (1, 0, 64, Sw), (1, 0, 8, Ss), (1, 1, 32, In)]) (hX0 : fh X0 jX [(2, pl 1, 0), (2, pl 10, 0), (2, pl 11, 0)]) (hX1 : fh X1 jM [(0, 1, 0), (2, pl 2, 0)]) (hX3 : fh X3 jB [(2, pl 5, 0), (2, pl 4, 0), (2, pl 6, 0), (0, 2, 0), (0, 1, 0), (2, pl 7, 0)]) (hX8 : fh X8 jP [(2, pl 9, 0)]) (hX11 : fh X11 jU [(2, pl 17, 0), (2, pl 12, 0), (0, 1, 0), (2, pl 13, 0), (2, pl 14, 0), (2, pl 15, 0), (0, stl, 0), (2, pl 16, 0)]) (hX17 : fh X17 jS [(2, pl 18, 0), (2, pl 19, 0), (2, pl 20, 0), (2, pl 21, 0), (0, su, 0), (0, sl, 0)]) (hbs : mv_rd 32 cbs 0 = pl 3 + 1) (hkn : mv_rd 32 ckn 0 = pl 3 + 1) (hff : mv_rd 32 cff 0 = 0) (hbf : mv_rd 32 cbf 0 = 0) (hps : mv_rd 32 cps 0 = pl 8 + 1) (hst : stl < 2) (hsu : su < 64) (hsl : sl < 4294967296) {place mask : Nat} {f : Nat → Nat} (hab : mv_ab Hd 0 105 = true) (hp : place < 105) (hm1 : 0 < mask) (hm2 : mask ≤ 255) (hf : ∀ j, j < 105 → mv_rd 32 (rg_G (mv_cw 32 Pl Hd 0 0 105) place mask) (0 + j) = f j) (hG : sb_eq Id 0 (rg_G (mv_cw 32 Pl Hd 0 0 105) place mask) 0 32 = false) : sy_D 72 n 6 138 [(2, pl 0, 0), (0, 0, 0), (0, 0, 0), (0, place, 0), (0, mask, 0)] w (fun ret w' => ∃ T : Nat, (∀ j, j < 32 → mv_rd 32 T j = bk_D (hs_2 f 105) j) ∧ ret = [(0, gh_a Id T, 0)] ∧ ∃ cs, wh 22 pl w0 w' cs) := by
  refine sy_Dof (us := [(255, 0, 0), (255, 0, 0), (255, 0, 0)]) (sy_oks_cons (sy_ok2 (wh_lt hw 0 (by first | decide | assumption))) (sy_oks_cons (sy_ok0 (by first | decide | assumption | omega | exact mo_rd_lt _ _ | exact mo_add_lt _ _ | exact mo_sub_lt _ _ | exact mo_mul_lt _ _ | exact mo_shl_lt _ _ | exact mo_ushr_lt _ _ | exact mo_or_lt (by decide) (mo_and_lt (mo_rd_lt _ _)) | exact mo_or_lt (mo_shl_lt _ _) (mo_and_lt (mo_rd_lt _ _)))) (sy_oks_cons (sy_ok0 (by first | decide | assumption | omega | exact mo_rd_lt _ _ | exact mo_add_lt _ _ | exact mo_sub_lt _ _ | exact mo_mul_lt _ _ | exact mo_shl_lt _ _ | exact mo_ushr_lt _ _ | exact mo_or_lt (by decide) (mo_and_lt (mo_rd_lt _ _)) | exact mo_or_lt (mo_shl_lt _ _) (mo_and_lt (mo_rd_lt _ _)))) (sy_oks_cons (sy_ok0 (by first | decide | assumption | omega | exact mo_rd_lt _ _ | exact mo_add_lt _ _ | exact mo_sub_lt _ _ | exact mo_mul_lt _ _ | exact mo_shl_lt _ _ | exact mo_ushr_lt _ _ | exact mo_or_lt (by decide) (mo_and_lt (mo_rd_lt _ _)) | exact mo_or_lt (mo_shl_lt _ _) (mo_and_lt (mo_rd_lt _ _)))) (sy_oks_cons (sy_ok0 (by first | decide | assumption | omega | exact mo_rd_lt _ _ | exact mo_add_lt _ _ | exact mo_sub_lt _ _ | exact mo_mul_lt _ _ | exact mo_shl_lt _ _ | exact mo_ushr_lt _ _ | exact mo_or_lt (by decide) (mo_and_lt (mo_rd_lt _ _)) | exact mo_or_lt (mo_shl_lt _ _) (mo_and_lt (mo_rd_lt _ _)))) sy_oks_nil))))) rfl rfl ?_
  show sy_F 72 n 6 138 0 [(2, pl 0, 0), (0, 0, 0), (0, 0, 0), (0, place, 0), (0, mask, 0), (255, 0, 0), (255, 0, 0), (255, 0, 0)] [] w _
  refine sy_Fs (sy_aldn xc72_0 rfl rfl sy_refl) ?_
  refine sy_Fs (sy_gf xc72_1 xf72_88 rfl (wh_at hw 0 rfl) rfl (fh_at hX0 0 rfl rfl) sy_refl) ?_
  refine sy_Fs (sy_ildn xc72_4 rfl rfl sy_refl) ?_
  refine sy_Fs (sy_callG (kd := 3) (as := [(2, pl 1, 0), (0, 0, 0)]) (S0 := []) (ret := [(2, pl 3, 0)]) xc72_5 (sy_calV (as := [(2, pl 1, 0), (0, 0, 0)]) (S0 := []) xm72_92 rfl rfl) rfl rfl (sy_rcvm xi53 (wh_at hw 1 rfl)) rfl (sy_oka (sy_oks_cons (sy_ok2 (wh_lt hw 1 (by first | decide | assumption))) (sy_oks_cons (sy_ok0 (by first | decide | assumption | omega | exact mo_rd_lt _ _ | exact mo_add_lt _ _ | exact mo_sub_lt _ _ | exact mo_mul_lt _ _ | exact mo_shl_lt _ _ | exact mo_ushr_lt _ _ | exact mo_or_lt (by decide) (mo_and_lt (mo_rd_lt _ _)) | exact mo_or_lt (mo_shl_lt _ _) (mo_and_lt (mo_rd_lt _ _)))) sy_oks_nil)) rfl xl53) (gv_blockAt (wh_lt hw 1 (by first | decide | assumption)) (wh_at hw 1 rfl) (fh_at hX1 0 rfl rfl) (fh_at hX1 1 rfl rfl) (wh_at hw 2 rfl) (by decide) (by decide) hbs) (by decide) (by rw [xl53]; decide) sy_refl) ?_
  refine sy_Fs (sx_ast (j := 5) (ls' := [(2, pl 0, 0), (0, 0, 0), (0, 0, 0), (0, place, 0), (0, mask, 0), (2, pl 3, 0), (255, 0, 0), (255, 0, 0)]) xc72_8 rfl (sy_ok2 (wh_lt hw 3 (by first | decide | assumption))) (by rw [xl72]; rfl) rfl rfl) ?_
  refine sy_Fs (sy_ald xc72_10 rfl rfl sy_refl) ?_
  refine sy_Fs (sy_nul_f xc72_12 (by decide) sy_refl) ?_
  refine sy_Fs (sy_ildn xc72_15 rfl rfl sy_refl) ?_
  refine sy_Fs (sy_iflt_f xc72_16 (by decide) (by decide) sy_refl) ?_
  refine sy_Fs (sy_ildn xc72_19 rfl rfl sy_refl) ?_
  refine sy_Fs (sy_iconst (v := 2) xc72_20 (by decide) sy_refl) ?_
  refine sy_Fs (sy_icmpgt_f xc72_21 (by decide) (by decide) (by decide) sy_refl) ?_
  refine sy_Fs (sy_ild xc72_24 rfl rfl sy_refl) ?_
  refine sy_Fs (sy_iflt_f xc72_26 (by decide) (by omega) sy_refl) ?_
  refine sy_Fs (sy_ild xc72_29 rfl rfl sy_refl) ?_
  refine sy_Fs (sy_sipush (v := 255) xc72_31 (by decide) (by decide) sy_refl) ?_
  refine sy_Fs (sy_icmple_t (pc' := 39) xc72_34 (by decide) hm2 (by decide) (by decide) sy_refl) ?_
  refine sy_Fs (sy_ald xc72_39 rfl rfl sy_refl) ?_
  refine sy_Fs (sy_ildn xc72_41 rfl rfl sy_refl) ?_
  refine sy_Fs (sy_aldn xc72_42 rfl rfl sy_refl) ?_
  refine sy_Fs (sy_gf xc72_43 xf72_16 rfl (wh_at hw 0 rfl) rfl (fh_at hX0 1 rfl rfl) sy_refl) ?_
  obtain ⟨ret, w, ⟨rfl, hw1⟩, hC⟩ := cg_cp0 (n := n) hw hX0 hX1 hX3 hX8 hX11 hX17 hbs hkn hff hbf hps hst hsu hsl hab
  refine sy_Fs (sy_callG (kd := 3) (as := [(2, pl 3, 0), (0, 0, 0), (2, pl 10, 0)]) (S0 := []) (ret := [(0, 105, 0)]) xc72_46 (sy_calV (as := [(2, pl 3, 0), (0, 0, 0), (2, pl 10, 0)]) (S0 := []) xm72_227 rfl rfl) rfl rfl (sy_rcvm xi73 (wh_at hw 3 rfl)) rfl (sy_oka (sy_oks_cons (sy_ok2 (wh_lt hw 3 (by first | decide | assumption))) (sy_oks_cons (sy_ok0 (by first | decide | assumption | omega | exact mo_rd_lt _ _ | exact mo_add_lt _ _ | exact mo_sub_lt _ _ | exact mo_mul_lt _ _ | exact mo_shl_lt _ _ | exact mo_ushr_lt _ _ | exact mo_or_lt (by decide) (mo_and_lt (mo_rd_lt _ _)) | exact mo_or_lt (mo_shl_lt _ _) (mo_and_lt (mo_rd_lt _ _)))) (sy_oks_cons (sy_ok2 (wh_lt hw 10 (by first | decide | assumption))) sy_oks_nil))) rfl xl73) hC (by decide) (by rw [xl73]; decide) sy_refl) ?_
  replace hw := hw1
  refine sy_Fs (sx_ist (j := 6) (ls' := [(2, pl 0, 0), (0, 0, 0), (0, 0, 0), (0, place, 0), (0, mask, 0), (2, pl 3, 0), (0, 105, 0), (255, 0, 0)]) xc72_49 rfl (sy_ok0 (by first | decide | assumption | omega | exact mo_rd_lt _ _ | exact mo_add_lt _ _ | exact mo_sub_lt _ _ | exact mo_mul_lt _ _ | exact mo_shl_lt _ _ | exact mo_ushr_lt _ _ | exact mo_or_lt (by decide) (mo_and_lt (mo_rd_lt _ _)) | exact mo_or_lt (mo_shl_lt _ _) (mo_and_lt (mo_rd_lt _ _)))) (by rw [xl72]; rfl) rfl rfl) ?_
  refine sy_Fs (sy_ild xc72_51 rfl rfl sy_refl) ?_
  refine sy_Fs (sy_le_f xc72_53 (by decide) hm1 (by omega) sy_refl) ?_
  refine sy_Fs (sy_ildn xc72_56 rfl rfl sy_refl) ?_
  refine sy_Fs (sy_iflt_f xc72_57 (by decide) (by omega) sy_refl) ?_
  refine sy_Fs (sy_ildn xc72_60 rfl rfl sy_refl) ?_
  refine sy_Fs (sy_ild xc72_61 rfl rfl sy_refl) ?_
  refine sy_Fs (sy_icmplt_t (pc' := 68) xc72_63 (by decide) hp (by decide) (by decide) sy_refl) ?_
  refine sy_Fs (sy_aldn xc72_68 rfl rfl sy_refl) ?_
  refine sy_Fs (sy_gf xc72_69 xf72_16 rfl (wh_at hw 0 rfl) rfl (fh_at hX0 1 rfl rfl) sy_refl) ?_
  refine sy_Fs (sy_ildn xc72_72 rfl rfl sy_refl) ?_
  refine sy_Fs (sy_aldn xc72_73 rfl rfl sy_refl) ?_
  refine sy_Fs (sy_gf xc72_74 xf72_16 rfl (wh_at hw 0 rfl) rfl (fh_at hX0 1 rfl rfl) sy_refl) ?_
  refine sy_Fs (sy_ildn xc72_77 rfl rfl sy_refl) ?_
  refine sy_Fs (sx_bal (z := (mv_rd 32 (mv_cw 32 Pl Hd 0 0 105) place)) xc72_78 (wh_at hw 10 rfl) (by omega) (by decide) rfl) ?_
  refine sy_Fs (sy_ild xc72_79 rfl rfl sy_refl) ?_
  refine sy_Fs (sx_ixor (z := (mo_xor (mv_rd 32 (mv_cw 32 Pl Hd 0 0 105) place) mask)) xc72_81 rfl) ?_
  refine sy_Fs (sx_i2b (z := (mn_b (mo_xor (mv_rd 32 (mv_cw 32 Pl Hd 0 0 105) place) mask))) xc72_82 rfl) ?_
  refine sy_Fw (i := 10) (x := (1, 1, 2048, (rg_G (mv_cw 32 Pl Hd 0 0 105) place mask))) hw (by decide) (sy_bas (i := place) xc72_83 (wh_at hw 10 rfl) rfl (by omega) (by decide) rfl sy_refl) ?_
  intro w hw
  simp only [List.set_cons_zero, List.set_cons_succ] at hw
  refine sy_Fs (sy_ildn xc72_84 rfl rfl sy_refl) ?_
  refine sy_Fs (sy_ifne_f xc72_85 (by decide) (by decide) sy_refl) ?_
  refine sy_Fs (sy_aldn xc72_88 rfl rfl sy_refl) ?_
  refine sy_Fs (sy_gf xc72_89 xf72_99 rfl (wh_at hw 0 rfl) rfl (fh_at hX0 2 rfl rfl) sy_refl) ?_
  refine sy_Fs (sy_aldn xc72_92 rfl rfl sy_refl) ?_
  refine sy_Fs (sy_gf xc72_93 xf72_16 rfl (wh_at hw 0 rfl) rfl (fh_at hX0 1 rfl rfl) sy_refl) ?_
  obtain ⟨ret, w, ⟨T, hT, rfl, hE⟩, hC⟩ := cg_head (n := n) hw hX0 hX1 hX3 hX8 hX11 hX17 hbs hkn hff hbf hps hst hsu hsl hf hG
  refine sy_Fs (sy_callG (kd := 3) (as := [(2, pl 11, 0), (2, pl 10, 0)]) (S0 := []) (ret := [(0, (gh_a Id T), 0)]) xc72_96 (sy_calV (as := [(2, pl 11, 0), (2, pl 10, 0)]) (S0 := []) xm72_231 rfl rfl) rfl rfl (sy_rcvm xi75 (wh_at hw 11 rfl)) rfl (sy_oka (sy_oks_cons (sy_ok2 (wh_lt hw 11 (by first | decide | assumption))) (sy_oks_cons (sy_ok2 (wh_lt hw 10 (by first | decide | assumption))) sy_oks_nil)) rfl xl75) hC (by decide) (by rw [xl75]; decide) sy_refl) ?_
  exact sy_Fi xc72_99 xr72 rfl ⟨T, hT, rfl, hE⟩
theorem cg_give1 (hw : wh 22 pl w0 w [(0, 1, 13, X0), (0, 8, 11, X1), (3, 6, 40, cbs), (0, 9, 11, X3), (1, 1, 105, Hd), (1, 1, 32, Id), (1, 1, 2, Fi), (3, 7, 4, cps), (0, 10, 6, X8), (1, 1, 28, Pb), (1, 1, 2048, Pl), (0, 11, 19, X11), (3, 6, 60, ckn), (1, 1, 32, Dg), (3, 6, 60, cff), (3, 6, 60, cbf), (1, 1, 2336, Ids), (0, 2, 13, X17), (1, 1, 64, Sp), (1, 0, 64, Sw), (1, 0, 8, Ss), (1, 1, 32, In)]) (hX0 : fh X0 jX [(2, pl 1, 0), (2, pl 10, 0), (2, pl 11, 0)]) (hX1 : fh X1 jM [(0, 1, 0), (2, pl 2, 0)]) (hX3 : fh X3 jB [(2, pl 5, 0), (2, pl 4, 0), (2, pl 6, 0), (0, 2, 0), (0, 1, 0), (2, pl 7, 0)]) (hX8 : fh X8 jP [(2, pl 9, 0)]) (hX11 : fh X11 jU [(2, pl 17, 0), (2, pl 12, 0), (0, 1, 0), (2, pl 13, 0), (2, pl 14, 0), (2, pl 15, 0), (0, stl, 0), (2, pl 16, 0)]) (hX17 : fh X17 jS [(2, pl 18, 0), (2, pl 19, 0), (2, pl 20, 0), (2, pl 21, 0), (0, su, 0), (0, sl, 0)]) (hbs : mv_rd 32 cbs 0 = pl 3 + 1) (hkn : mv_rd 32 ckn 0 = pl 3 + 1) (hff : mv_rd 32 cff 0 = 0) (hbf : mv_rd 32 cbf 0 = 0) (hps : mv_rd 32 cps 0 = pl 8 + 1) (hst : stl < 2) (hsu : su < 64) (hsl : sl < 4294967296) {place mask : Nat} {f : Nat → Nat} (hab : mv_ab Fi 0 2 = true) (hp : place < 2) (hm1 : 0 < mask) (hm2 : mask ≤ 255) (hf : ∀ j, j < 2 → mv_rd 32 (rg_G (mv_cw 32 Pl Fi 0 0 2) place mask) (0 + j) = f j) : sy_D 72 n 6 139 [(2, pl 0, 0), (0, 0, 0), (0, 1, 0), (0, place, 0), (0, mask, 0)] w (fun ret w' => ∃ T : Nat, (∀ j, j < 32 → mv_rd 32 T j = bk_D (hs_2 f 2) j) ∧ ret = [(0, cg_a T Hd 64, 0)] ∧ ∃ cs, wh 22 pl w0 w' cs) := by
  refine sy_Dof (us := [(255, 0, 0), (255, 0, 0), (255, 0, 0)]) (sy_oks_cons (sy_ok2 (wh_lt hw 0 (by first | decide | assumption))) (sy_oks_cons (sy_ok0 (by first | decide | assumption | omega | exact mo_rd_lt _ _ | exact mo_add_lt _ _ | exact mo_sub_lt _ _ | exact mo_mul_lt _ _ | exact mo_shl_lt _ _ | exact mo_ushr_lt _ _ | exact mo_or_lt (by decide) (mo_and_lt (mo_rd_lt _ _)) | exact mo_or_lt (mo_shl_lt _ _) (mo_and_lt (mo_rd_lt _ _)))) (sy_oks_cons (sy_ok0 (by first | decide | assumption | omega | exact mo_rd_lt _ _ | exact mo_add_lt _ _ | exact mo_sub_lt _ _ | exact mo_mul_lt _ _ | exact mo_shl_lt _ _ | exact mo_ushr_lt _ _ | exact mo_or_lt (by decide) (mo_and_lt (mo_rd_lt _ _)) | exact mo_or_lt (mo_shl_lt _ _) (mo_and_lt (mo_rd_lt _ _)))) (sy_oks_cons (sy_ok0 (by first | decide | assumption | omega | exact mo_rd_lt _ _ | exact mo_add_lt _ _ | exact mo_sub_lt _ _ | exact mo_mul_lt _ _ | exact mo_shl_lt _ _ | exact mo_ushr_lt _ _ | exact mo_or_lt (by decide) (mo_and_lt (mo_rd_lt _ _)) | exact mo_or_lt (mo_shl_lt _ _) (mo_and_lt (mo_rd_lt _ _)))) (sy_oks_cons (sy_ok0 (by first | decide | assumption | omega | exact mo_rd_lt _ _ | exact mo_add_lt _ _ | exact mo_sub_lt _ _ | exact mo_mul_lt _ _ | exact mo_shl_lt _ _ | exact mo_ushr_lt _ _ | exact mo_or_lt (by decide) (mo_and_lt (mo_rd_lt _ _)) | exact mo_or_lt (mo_shl_lt _ _) (mo_and_lt (mo_rd_lt _ _)))) sy_oks_nil))))) rfl rfl ?_
  show sy_F 72 n 6 139 0 [(2, pl 0, 0), (0, 0, 0), (0, 1, 0), (0, place, 0), (0, mask, 0), (255, 0, 0), (255, 0, 0), (255, 0, 0)] [] w _
  refine sy_Fs (sy_aldn xc72_0 rfl rfl sy_refl) ?_
  refine sy_Fs (sy_gf xc72_1 xf72_88 rfl (wh_at hw 0 rfl) rfl (fh_at hX0 0 rfl rfl) sy_refl) ?_
  refine sy_Fs (sy_ildn xc72_4 rfl rfl sy_refl) ?_
  refine sy_Fs (sy_callG (kd := 3) (as := [(2, pl 1, 0), (0, 0, 0)]) (S0 := []) (ret := [(2, pl 3, 0)]) xc72_5 (sy_calV (as := [(2, pl 1, 0), (0, 0, 0)]) (S0 := []) xm72_92 rfl rfl) rfl rfl (sy_rcvm xi53 (wh_at hw 1 rfl)) rfl (sy_oka (sy_oks_cons (sy_ok2 (wh_lt hw 1 (by first | decide | assumption))) (sy_oks_cons (sy_ok0 (by first | decide | assumption | omega | exact mo_rd_lt _ _ | exact mo_add_lt _ _ | exact mo_sub_lt _ _ | exact mo_mul_lt _ _ | exact mo_shl_lt _ _ | exact mo_ushr_lt _ _ | exact mo_or_lt (by decide) (mo_and_lt (mo_rd_lt _ _)) | exact mo_or_lt (mo_shl_lt _ _) (mo_and_lt (mo_rd_lt _ _)))) sy_oks_nil)) rfl xl53) (gv_blockAt (wh_lt hw 1 (by first | decide | assumption)) (wh_at hw 1 rfl) (fh_at hX1 0 rfl rfl) (fh_at hX1 1 rfl rfl) (wh_at hw 2 rfl) (by decide) (by decide) hbs) (by decide) (by rw [xl53]; decide) sy_refl) ?_
  refine sy_Fs (sx_ast (j := 5) (ls' := [(2, pl 0, 0), (0, 0, 0), (0, 1, 0), (0, place, 0), (0, mask, 0), (2, pl 3, 0), (255, 0, 0), (255, 0, 0)]) xc72_8 rfl (sy_ok2 (wh_lt hw 3 (by first | decide | assumption))) (by rw [xl72]; rfl) rfl rfl) ?_
  refine sy_Fs (sy_ald xc72_10 rfl rfl sy_refl) ?_
  refine sy_Fs (sy_nul_f xc72_12 (by decide) sy_refl) ?_
  refine sy_Fs (sy_ildn xc72_15 rfl rfl sy_refl) ?_
  refine sy_Fs (sy_iflt_f xc72_16 (by decide) (by decide) sy_refl) ?_
  refine sy_Fs (sy_ildn xc72_19 rfl rfl sy_refl) ?_
  refine sy_Fs (sy_iconst (v := 2) xc72_20 (by decide) sy_refl) ?_
  refine sy_Fs (sy_icmpgt_f xc72_21 (by decide) (by decide) (by decide) sy_refl) ?_
  refine sy_Fs (sy_ild xc72_24 rfl rfl sy_refl) ?_
  refine sy_Fs (sy_iflt_f xc72_26 (by decide) (by omega) sy_refl) ?_
  refine sy_Fs (sy_ild xc72_29 rfl rfl sy_refl) ?_
  refine sy_Fs (sy_sipush (v := 255) xc72_31 (by decide) (by decide) sy_refl) ?_
  refine sy_Fs (sy_icmple_t (pc' := 39) xc72_34 (by decide) hm2 (by decide) (by decide) sy_refl) ?_
  refine sy_Fs (sy_ald xc72_39 rfl rfl sy_refl) ?_
  refine sy_Fs (sy_ildn xc72_41 rfl rfl sy_refl) ?_
  refine sy_Fs (sy_aldn xc72_42 rfl rfl sy_refl) ?_
  refine sy_Fs (sy_gf xc72_43 xf72_16 rfl (wh_at hw 0 rfl) rfl (fh_at hX0 1 rfl rfl) sy_refl) ?_
  obtain ⟨ret, w, ⟨rfl, hw1⟩, hC⟩ := cg_cp1 (n := n) hw hX0 hX1 hX3 hX8 hX11 hX17 hbs hkn hff hbf hps hst hsu hsl hab
  refine sy_Fs (sy_callG (kd := 3) (as := [(2, pl 3, 0), (0, 1, 0), (2, pl 10, 0)]) (S0 := []) (ret := [(0, 2, 0)]) xc72_46 (sy_calV (as := [(2, pl 3, 0), (0, 1, 0), (2, pl 10, 0)]) (S0 := []) xm72_227 rfl rfl) rfl rfl (sy_rcvm xi73 (wh_at hw 3 rfl)) rfl (sy_oka (sy_oks_cons (sy_ok2 (wh_lt hw 3 (by first | decide | assumption))) (sy_oks_cons (sy_ok0 (by first | decide | assumption | omega | exact mo_rd_lt _ _ | exact mo_add_lt _ _ | exact mo_sub_lt _ _ | exact mo_mul_lt _ _ | exact mo_shl_lt _ _ | exact mo_ushr_lt _ _ | exact mo_or_lt (by decide) (mo_and_lt (mo_rd_lt _ _)) | exact mo_or_lt (mo_shl_lt _ _) (mo_and_lt (mo_rd_lt _ _)))) (sy_oks_cons (sy_ok2 (wh_lt hw 10 (by first | decide | assumption))) sy_oks_nil))) rfl xl73) hC (by decide) (by rw [xl73]; decide) sy_refl) ?_
  replace hw := hw1
  refine sy_Fs (sx_ist (j := 6) (ls' := [(2, pl 0, 0), (0, 0, 0), (0, 1, 0), (0, place, 0), (0, mask, 0), (2, pl 3, 0), (0, 2, 0), (255, 0, 0)]) xc72_49 rfl (sy_ok0 (by first | decide | assumption | omega | exact mo_rd_lt _ _ | exact mo_add_lt _ _ | exact mo_sub_lt _ _ | exact mo_mul_lt _ _ | exact mo_shl_lt _ _ | exact mo_ushr_lt _ _ | exact mo_or_lt (by decide) (mo_and_lt (mo_rd_lt _ _)) | exact mo_or_lt (mo_shl_lt _ _) (mo_and_lt (mo_rd_lt _ _)))) (by rw [xl72]; rfl) rfl rfl) ?_
  refine sy_Fs (sy_ild xc72_51 rfl rfl sy_refl) ?_
  refine sy_Fs (sy_le_f xc72_53 (by decide) hm1 (by omega) sy_refl) ?_
  refine sy_Fs (sy_ildn xc72_56 rfl rfl sy_refl) ?_
  refine sy_Fs (sy_iflt_f xc72_57 (by decide) (by omega) sy_refl) ?_
  refine sy_Fs (sy_ildn xc72_60 rfl rfl sy_refl) ?_
  refine sy_Fs (sy_ild xc72_61 rfl rfl sy_refl) ?_
  refine sy_Fs (sy_icmplt_t (pc' := 68) xc72_63 (by decide) hp (by decide) (by decide) sy_refl) ?_
  refine sy_Fs (sy_aldn xc72_68 rfl rfl sy_refl) ?_
  refine sy_Fs (sy_gf xc72_69 xf72_16 rfl (wh_at hw 0 rfl) rfl (fh_at hX0 1 rfl rfl) sy_refl) ?_
  refine sy_Fs (sy_ildn xc72_72 rfl rfl sy_refl) ?_
  refine sy_Fs (sy_aldn xc72_73 rfl rfl sy_refl) ?_
  refine sy_Fs (sy_gf xc72_74 xf72_16 rfl (wh_at hw 0 rfl) rfl (fh_at hX0 1 rfl rfl) sy_refl) ?_
  refine sy_Fs (sy_ildn xc72_77 rfl rfl sy_refl) ?_
  refine sy_Fs (sx_bal (z := (mv_rd 32 (mv_cw 32 Pl Fi 0 0 2) place)) xc72_78 (wh_at hw 10 rfl) (by omega) (by decide) rfl) ?_
  refine sy_Fs (sy_ild xc72_79 rfl rfl sy_refl) ?_
  refine sy_Fs (sx_ixor (z := (mo_xor (mv_rd 32 (mv_cw 32 Pl Fi 0 0 2) place) mask)) xc72_81 rfl) ?_
  refine sy_Fs (sx_i2b (z := (mn_b (mo_xor (mv_rd 32 (mv_cw 32 Pl Fi 0 0 2) place) mask))) xc72_82 rfl) ?_
  refine sy_Fw (i := 10) (x := (1, 1, 2048, (rg_G (mv_cw 32 Pl Fi 0 0 2) place mask))) hw (by decide) (sy_bas (i := place) xc72_83 (wh_at hw 10 rfl) rfl (by omega) (by decide) rfl sy_refl) ?_
  intro w hw
  simp only [List.set_cons_zero, List.set_cons_succ] at hw
  refine sy_Fs (sy_ildn xc72_84 rfl rfl sy_refl) ?_
  refine sy_Fs (sy_ifne_t (pc' := 100) xc72_85 (by decide) (by decide) (by decide) (by decide) sy_refl) ?_
  refine sy_Fs (sy_aldn xc72_100 rfl rfl sy_refl) ?_
  refine sy_Fs (sy_gf xc72_101 xf72_88 rfl (wh_at hw 0 rfl) rfl (fh_at hX0 0 rfl rfl) sy_refl) ?_
  refine sy_Fs (sy_ald xc72_104 rfl rfl sy_refl) ?_
  refine sy_Fs (sy_gf xc72_106 xf72_198 rfl (wh_at hw 3 rfl) rfl (fh_at hX3 0 rfl rfl) sy_refl) ?_
  refine sy_Fs (sy_callG (kd := 3) (as := [(2, pl 1, 0), (2, pl 5, 0)]) (S0 := []) (ret := [(2, pl 3, 0)]) xc72_109 (sy_calV (as := [(2, pl 1, 0), (2, pl 5, 0)]) (S0 := []) xm72_235 rfl rfl) rfl rfl (sy_rcvm xi77 (wh_at hw 1 rfl)) rfl (sy_oka (sy_oks_cons (sy_ok2 (wh_lt hw 1 (by first | decide | assumption))) (sy_oks_cons (sy_ok2 (wh_lt hw 5 (by first | decide | assumption))) sy_oks_nil)) rfl xl77) (sy_Cw (cg_first (n := n) hw hX0 hX1 hX3 hX8 hX11 hX17 hbs hkn hff hbf hps hst hsu hsl)) (by decide) (by rw [xl77]; decide) sy_refl) ?_
  refine sy_Fs (sx_ast (j := 7) (ls' := [(2, pl 0, 0), (0, 0, 0), (0, 1, 0), (0, place, 0), (0, mask, 0), (2, pl 3, 0), (0, 2, 0), (2, pl 3, 0)]) xc72_112 rfl (sy_ok2 (wh_lt hw 3 (by first | decide | assumption))) (by rw [xl72]; rfl) rfl rfl) ?_
  refine sy_Fs (sy_ildn xc72_114 rfl rfl sy_refl) ?_
  refine sy_Fs (sy_iconst (v := 1) xc72_115 (by decide) sy_refl) ?_
  refine sy_Fs (sy_icmpne_f xc72_116 (by decide) (by decide) sy_refl) ?_
  refine sy_Fs (sy_aldn xc72_119 rfl rfl sy_refl) ?_
  refine sy_Fs (sy_gf xc72_120 xf72_99 rfl (wh_at hw 0 rfl) rfl (fh_at hX0 2 rfl rfl) sy_refl) ?_
  refine sy_Fs (sy_ald xc72_123 rfl rfl sy_refl) ?_
  refine sy_Fs (sy_aldn xc72_125 rfl rfl sy_refl) ?_
  refine sy_Fs (sy_gf xc72_126 xf72_16 rfl (wh_at hw 0 rfl) rfl (fh_at hX0 1 rfl rfl) sy_refl) ?_
  refine sy_Fs (sy_ild xc72_129 rfl rfl sy_refl) ?_
  obtain ⟨ret, w, ⟨T, hT, rfl, hE⟩, hC⟩ := cg_filt (n := n) hw hX0 hX1 hX3 hX8 hX11 hX17 hbs hkn hff hbf hps hst hsu hsl hf
  refine sy_Fs (sy_callG (kd := 3) (as := [(2, pl 11, 0), (2, pl 3, 0), (2, pl 10, 0), (0, 2, 0)]) (S0 := []) (ret := [(0, (cg_a T Hd 64), 0)]) xc72_131 (sy_calV (as := [(2, pl 11, 0), (2, pl 3, 0), (2, pl 10, 0), (0, 2, 0)]) (S0 := []) xm72_239 rfl rfl) rfl rfl (sy_rcvm xi78 (wh_at hw 11 rfl)) rfl (sy_oka (sy_oks_cons (sy_ok2 (wh_lt hw 11 (by first | decide | assumption))) (sy_oks_cons (sy_ok2 (wh_lt hw 3 (by first | decide | assumption))) (sy_oks_cons (sy_ok2 (wh_lt hw 10 (by first | decide | assumption))) (sy_oks_cons (sy_ok0 (by first | decide | assumption | omega | exact mo_rd_lt _ _ | exact mo_add_lt _ _ | exact mo_sub_lt _ _ | exact mo_mul_lt _ _ | exact mo_shl_lt _ _ | exact mo_ushr_lt _ _ | exact mo_or_lt (by decide) (mo_and_lt (mo_rd_lt _ _)) | exact mo_or_lt (mo_shl_lt _ _) (mo_and_lt (mo_rd_lt _ _)))) sy_oks_nil)))) rfl xl78) hC (by decide) (by rw [xl78]; decide) sy_refl) ?_
  exact sy_Fi xc72_134 xr72 rfl ⟨T, hT, rfl, hE⟩
theorem cg_give2 (hw : wh 22 pl w0 w [(0, 1, 13, X0), (0, 8, 11, X1), (3, 6, 40, cbs), (0, 9, 11, X3), (1, 1, 105, Hd), (1, 1, 32, Id), (1, 1, 2, Fi), (3, 7, 4, cps), (0, 10, 6, X8), (1, 1, 28, Pb), (1, 1, 2048, Pl), (0, 11, 19, X11), (3, 6, 60, ckn), (1, 1, 32, Dg), (3, 6, 60, cff), (3, 6, 60, cbf), (1, 1, 2336, Ids), (0, 2, 13, X17), (1, 1, 64, Sp), (1, 0, 64, Sw), (1, 0, 8, Ss), (1, 1, 32, In)]) (hX0 : fh X0 jX [(2, pl 1, 0), (2, pl 10, 0), (2, pl 11, 0)]) (hX1 : fh X1 jM [(0, 1, 0), (2, pl 2, 0)]) (hX3 : fh X3 jB [(2, pl 5, 0), (2, pl 4, 0), (2, pl 6, 0), (0, 2, 0), (0, 1, 0), (2, pl 7, 0)]) (hX8 : fh X8 jP [(2, pl 9, 0)]) (hX11 : fh X11 jU [(2, pl 17, 0), (2, pl 12, 0), (0, 1, 0), (2, pl 13, 0), (2, pl 14, 0), (2, pl 15, 0), (0, stl, 0), (2, pl 16, 0)]) (hX17 : fh X17 jS [(2, pl 18, 0), (2, pl 19, 0), (2, pl 20, 0), (2, pl 21, 0), (0, su, 0), (0, sl, 0)]) (hbs : mv_rd 32 cbs 0 = pl 3 + 1) (hkn : mv_rd 32 ckn 0 = pl 3 + 1) (hff : mv_rd 32 cff 0 = 0) (hbf : mv_rd 32 cbf 0 = 0) (hps : mv_rd 32 cps 0 = pl 8 + 1) (hst : stl < 2) (hsu : su < 64) (hsl : sl < 4294967296) {place mask : Nat} {f : Nat → Nat} (hab : mv_ab Pb 0 28 = true) (hp : place < 28) (hm1 : 0 < mask) (hm2 : mask ≤ 255) (hf : ∀ j, j < 28 → mv_rd 32 (rg_G (mv_cw 32 Pl Pb 0 0 28) place mask) (0 + j) = f j) (hb0 : mv_rd 32 (rg_G (mv_cw 32 Pl Pb 0 0 28) place mask) 0 = 0) (hb3 : mv_rd 32 (rg_G (mv_cw 32 Pl Pb 0 0 28) place mask) 3 = 1) : sy_D 72 n 6 141 [(2, pl 0, 0), (0, 0, 0), (0, 2, 0), (0, place, 0), (0, mask, 0)] w (fun ret w' => ∃ T : Nat, (∀ j, j < 32 → mv_rd 32 T j = bk_D (hs_2 f 28) j) ∧ ret = [(0, cg_a T Hd 32, 0)] ∧ ∃ cs, wh 22 pl w0 w' cs) := by
  refine sy_Dof (us := [(255, 0, 0), (255, 0, 0), (255, 0, 0)]) (sy_oks_cons (sy_ok2 (wh_lt hw 0 (by first | decide | assumption))) (sy_oks_cons (sy_ok0 (by first | decide | assumption | omega | exact mo_rd_lt _ _ | exact mo_add_lt _ _ | exact mo_sub_lt _ _ | exact mo_mul_lt _ _ | exact mo_shl_lt _ _ | exact mo_ushr_lt _ _ | exact mo_or_lt (by decide) (mo_and_lt (mo_rd_lt _ _)) | exact mo_or_lt (mo_shl_lt _ _) (mo_and_lt (mo_rd_lt _ _)))) (sy_oks_cons (sy_ok0 (by first | decide | assumption | omega | exact mo_rd_lt _ _ | exact mo_add_lt _ _ | exact mo_sub_lt _ _ | exact mo_mul_lt _ _ | exact mo_shl_lt _ _ | exact mo_ushr_lt _ _ | exact mo_or_lt (by decide) (mo_and_lt (mo_rd_lt _ _)) | exact mo_or_lt (mo_shl_lt _ _) (mo_and_lt (mo_rd_lt _ _)))) (sy_oks_cons (sy_ok0 (by first | decide | assumption | omega | exact mo_rd_lt _ _ | exact mo_add_lt _ _ | exact mo_sub_lt _ _ | exact mo_mul_lt _ _ | exact mo_shl_lt _ _ | exact mo_ushr_lt _ _ | exact mo_or_lt (by decide) (mo_and_lt (mo_rd_lt _ _)) | exact mo_or_lt (mo_shl_lt _ _) (mo_and_lt (mo_rd_lt _ _)))) (sy_oks_cons (sy_ok0 (by first | decide | assumption | omega | exact mo_rd_lt _ _ | exact mo_add_lt _ _ | exact mo_sub_lt _ _ | exact mo_mul_lt _ _ | exact mo_shl_lt _ _ | exact mo_ushr_lt _ _ | exact mo_or_lt (by decide) (mo_and_lt (mo_rd_lt _ _)) | exact mo_or_lt (mo_shl_lt _ _) (mo_and_lt (mo_rd_lt _ _)))) sy_oks_nil))))) rfl rfl ?_
  show sy_F 72 n 6 141 0 [(2, pl 0, 0), (0, 0, 0), (0, 2, 0), (0, place, 0), (0, mask, 0), (255, 0, 0), (255, 0, 0), (255, 0, 0)] [] w _
  refine sy_Fs (sy_aldn xc72_0 rfl rfl sy_refl) ?_
  refine sy_Fs (sy_gf xc72_1 xf72_88 rfl (wh_at hw 0 rfl) rfl (fh_at hX0 0 rfl rfl) sy_refl) ?_
  refine sy_Fs (sy_ildn xc72_4 rfl rfl sy_refl) ?_
  refine sy_Fs (sy_callG (kd := 3) (as := [(2, pl 1, 0), (0, 0, 0)]) (S0 := []) (ret := [(2, pl 3, 0)]) xc72_5 (sy_calV (as := [(2, pl 1, 0), (0, 0, 0)]) (S0 := []) xm72_92 rfl rfl) rfl rfl (sy_rcvm xi53 (wh_at hw 1 rfl)) rfl (sy_oka (sy_oks_cons (sy_ok2 (wh_lt hw 1 (by first | decide | assumption))) (sy_oks_cons (sy_ok0 (by first | decide | assumption | omega | exact mo_rd_lt _ _ | exact mo_add_lt _ _ | exact mo_sub_lt _ _ | exact mo_mul_lt _ _ | exact mo_shl_lt _ _ | exact mo_ushr_lt _ _ | exact mo_or_lt (by decide) (mo_and_lt (mo_rd_lt _ _)) | exact mo_or_lt (mo_shl_lt _ _) (mo_and_lt (mo_rd_lt _ _)))) sy_oks_nil)) rfl xl53) (gv_blockAt (wh_lt hw 1 (by first | decide | assumption)) (wh_at hw 1 rfl) (fh_at hX1 0 rfl rfl) (fh_at hX1 1 rfl rfl) (wh_at hw 2 rfl) (by decide) (by decide) hbs) (by decide) (by rw [xl53]; decide) sy_refl) ?_
  refine sy_Fs (sx_ast (j := 5) (ls' := [(2, pl 0, 0), (0, 0, 0), (0, 2, 0), (0, place, 0), (0, mask, 0), (2, pl 3, 0), (255, 0, 0), (255, 0, 0)]) xc72_8 rfl (sy_ok2 (wh_lt hw 3 (by first | decide | assumption))) (by rw [xl72]; rfl) rfl rfl) ?_
  refine sy_Fs (sy_ald xc72_10 rfl rfl sy_refl) ?_
  refine sy_Fs (sy_nul_f xc72_12 (by decide) sy_refl) ?_
  refine sy_Fs (sy_ildn xc72_15 rfl rfl sy_refl) ?_
  refine sy_Fs (sy_iflt_f xc72_16 (by decide) (by decide) sy_refl) ?_
  refine sy_Fs (sy_ildn xc72_19 rfl rfl sy_refl) ?_
  refine sy_Fs (sy_iconst (v := 2) xc72_20 (by decide) sy_refl) ?_
  refine sy_Fs (sy_icmpgt_f xc72_21 (by decide) (by decide) (by decide) sy_refl) ?_
  refine sy_Fs (sy_ild xc72_24 rfl rfl sy_refl) ?_
  refine sy_Fs (sy_iflt_f xc72_26 (by decide) (by omega) sy_refl) ?_
  refine sy_Fs (sy_ild xc72_29 rfl rfl sy_refl) ?_
  refine sy_Fs (sy_sipush (v := 255) xc72_31 (by decide) (by decide) sy_refl) ?_
  refine sy_Fs (sy_icmple_t (pc' := 39) xc72_34 (by decide) hm2 (by decide) (by decide) sy_refl) ?_
  refine sy_Fs (sy_ald xc72_39 rfl rfl sy_refl) ?_
  refine sy_Fs (sy_ildn xc72_41 rfl rfl sy_refl) ?_
  refine sy_Fs (sy_aldn xc72_42 rfl rfl sy_refl) ?_
  refine sy_Fs (sy_gf xc72_43 xf72_16 rfl (wh_at hw 0 rfl) rfl (fh_at hX0 1 rfl rfl) sy_refl) ?_
  obtain ⟨ret, w, ⟨rfl, hw1⟩, hC⟩ := cg_cp2 (n := n) hw hX0 hX1 hX3 hX8 hX11 hX17 hbs hkn hff hbf hps hst hsu hsl hab
  refine sy_Fs (sy_callG (kd := 3) (as := [(2, pl 3, 0), (0, 2, 0), (2, pl 10, 0)]) (S0 := []) (ret := [(0, 28, 0)]) xc72_46 (sy_calV (as := [(2, pl 3, 0), (0, 2, 0), (2, pl 10, 0)]) (S0 := []) xm72_227 rfl rfl) rfl rfl (sy_rcvm xi73 (wh_at hw 3 rfl)) rfl (sy_oka (sy_oks_cons (sy_ok2 (wh_lt hw 3 (by first | decide | assumption))) (sy_oks_cons (sy_ok0 (by first | decide | assumption | omega | exact mo_rd_lt _ _ | exact mo_add_lt _ _ | exact mo_sub_lt _ _ | exact mo_mul_lt _ _ | exact mo_shl_lt _ _ | exact mo_ushr_lt _ _ | exact mo_or_lt (by decide) (mo_and_lt (mo_rd_lt _ _)) | exact mo_or_lt (mo_shl_lt _ _) (mo_and_lt (mo_rd_lt _ _)))) (sy_oks_cons (sy_ok2 (wh_lt hw 10 (by first | decide | assumption))) sy_oks_nil))) rfl xl73) hC (by decide) (by rw [xl73]; decide) sy_refl) ?_
  replace hw := hw1
  refine sy_Fs (sx_ist (j := 6) (ls' := [(2, pl 0, 0), (0, 0, 0), (0, 2, 0), (0, place, 0), (0, mask, 0), (2, pl 3, 0), (0, 28, 0), (255, 0, 0)]) xc72_49 rfl (sy_ok0 (by first | decide | assumption | omega | exact mo_rd_lt _ _ | exact mo_add_lt _ _ | exact mo_sub_lt _ _ | exact mo_mul_lt _ _ | exact mo_shl_lt _ _ | exact mo_ushr_lt _ _ | exact mo_or_lt (by decide) (mo_and_lt (mo_rd_lt _ _)) | exact mo_or_lt (mo_shl_lt _ _) (mo_and_lt (mo_rd_lt _ _)))) (by rw [xl72]; rfl) rfl rfl) ?_
  refine sy_Fs (sy_ild xc72_51 rfl rfl sy_refl) ?_
  refine sy_Fs (sy_le_f xc72_53 (by decide) hm1 (by omega) sy_refl) ?_
  refine sy_Fs (sy_ildn xc72_56 rfl rfl sy_refl) ?_
  refine sy_Fs (sy_iflt_f xc72_57 (by decide) (by omega) sy_refl) ?_
  refine sy_Fs (sy_ildn xc72_60 rfl rfl sy_refl) ?_
  refine sy_Fs (sy_ild xc72_61 rfl rfl sy_refl) ?_
  refine sy_Fs (sy_icmplt_t (pc' := 68) xc72_63 (by decide) hp (by decide) (by decide) sy_refl) ?_
  refine sy_Fs (sy_aldn xc72_68 rfl rfl sy_refl) ?_
  refine sy_Fs (sy_gf xc72_69 xf72_16 rfl (wh_at hw 0 rfl) rfl (fh_at hX0 1 rfl rfl) sy_refl) ?_
  refine sy_Fs (sy_ildn xc72_72 rfl rfl sy_refl) ?_
  refine sy_Fs (sy_aldn xc72_73 rfl rfl sy_refl) ?_
  refine sy_Fs (sy_gf xc72_74 xf72_16 rfl (wh_at hw 0 rfl) rfl (fh_at hX0 1 rfl rfl) sy_refl) ?_
  refine sy_Fs (sy_ildn xc72_77 rfl rfl sy_refl) ?_
  refine sy_Fs (sx_bal (z := (mv_rd 32 (mv_cw 32 Pl Pb 0 0 28) place)) xc72_78 (wh_at hw 10 rfl) (by omega) (by decide) rfl) ?_
  refine sy_Fs (sy_ild xc72_79 rfl rfl sy_refl) ?_
  refine sy_Fs (sx_ixor (z := (mo_xor (mv_rd 32 (mv_cw 32 Pl Pb 0 0 28) place) mask)) xc72_81 rfl) ?_
  refine sy_Fs (sx_i2b (z := (mn_b (mo_xor (mv_rd 32 (mv_cw 32 Pl Pb 0 0 28) place) mask))) xc72_82 rfl) ?_
  refine sy_Fw (i := 10) (x := (1, 1, 2048, (rg_G (mv_cw 32 Pl Pb 0 0 28) place mask))) hw (by decide) (sy_bas (i := place) xc72_83 (wh_at hw 10 rfl) rfl (by omega) (by decide) rfl sy_refl) ?_
  intro w hw
  simp only [List.set_cons_zero, List.set_cons_succ] at hw
  refine sy_Fs (sy_ildn xc72_84 rfl rfl sy_refl) ?_
  refine sy_Fs (sy_ifne_t (pc' := 100) xc72_85 (by decide) (by decide) (by decide) (by decide) sy_refl) ?_
  refine sy_Fs (sy_aldn xc72_100 rfl rfl sy_refl) ?_
  refine sy_Fs (sy_gf xc72_101 xf72_88 rfl (wh_at hw 0 rfl) rfl (fh_at hX0 0 rfl rfl) sy_refl) ?_
  refine sy_Fs (sy_ald xc72_104 rfl rfl sy_refl) ?_
  refine sy_Fs (sy_gf xc72_106 xf72_198 rfl (wh_at hw 3 rfl) rfl (fh_at hX3 0 rfl rfl) sy_refl) ?_
  refine sy_Fs (sy_callG (kd := 3) (as := [(2, pl 1, 0), (2, pl 5, 0)]) (S0 := []) (ret := [(2, pl 3, 0)]) xc72_109 (sy_calV (as := [(2, pl 1, 0), (2, pl 5, 0)]) (S0 := []) xm72_235 rfl rfl) rfl rfl (sy_rcvm xi77 (wh_at hw 1 rfl)) rfl (sy_oka (sy_oks_cons (sy_ok2 (wh_lt hw 1 (by first | decide | assumption))) (sy_oks_cons (sy_ok2 (wh_lt hw 5 (by first | decide | assumption))) sy_oks_nil)) rfl xl77) (sy_Cw (cg_first (n := n) hw hX0 hX1 hX3 hX8 hX11 hX17 hbs hkn hff hbf hps hst hsu hsl)) (by decide) (by rw [xl77]; decide) sy_refl) ?_
  refine sy_Fs (sx_ast (j := 7) (ls' := [(2, pl 0, 0), (0, 0, 0), (0, 2, 0), (0, place, 0), (0, mask, 0), (2, pl 3, 0), (0, 28, 0), (2, pl 3, 0)]) xc72_112 rfl (sy_ok2 (wh_lt hw 3 (by first | decide | assumption))) (by rw [xl72]; rfl) rfl rfl) ?_
  refine sy_Fs (sy_ildn xc72_114 rfl rfl sy_refl) ?_
  refine sy_Fs (sy_iconst (v := 1) xc72_115 (by decide) sy_refl) ?_
  refine sy_Fs (sy_icmpne_t (pc' := 135) xc72_116 (by decide) (by decide) (by decide) (by decide) (by decide) sy_refl) ?_
  refine sy_Fs (sy_aldn xc72_135 rfl rfl sy_refl) ?_
  refine sy_Fs (sy_gf xc72_136 xf72_99 rfl (wh_at hw 0 rfl) rfl (fh_at hX0 2 rfl rfl) sy_refl) ?_
  refine sy_Fs (sy_ald xc72_139 rfl rfl sy_refl) ?_
  refine sy_Fs (sy_aldn xc72_141 rfl rfl sy_refl) ?_
  refine sy_Fs (sy_gf xc72_142 xf72_16 rfl (wh_at hw 0 rfl) rfl (fh_at hX0 1 rfl rfl) sy_refl) ?_
  refine sy_Fs (sy_ild xc72_145 rfl rfl sy_refl) ?_
  obtain ⟨ret, w, ⟨T, hT, rfl, hE⟩, hC⟩ := cg_blk (n := n) hw hX0 hX1 hX3 hX8 hX11 hX17 hbs hkn hff hbf hps hst hsu hsl hf hb0 hb3
  refine sy_Fs (sy_callG (kd := 3) (as := [(2, pl 11, 0), (2, pl 3, 0), (2, pl 10, 0), (0, 28, 0)]) (S0 := []) (ret := [(0, (cg_a T Hd 32), 0)]) xc72_147 (sy_calV (as := [(2, pl 11, 0), (2, pl 3, 0), (2, pl 10, 0), (0, 28, 0)]) (S0 := []) xm72_243 rfl rfl) rfl rfl (sy_rcvm xi79 (wh_at hw 11 rfl)) rfl (sy_oka (sy_oks_cons (sy_ok2 (wh_lt hw 11 (by first | decide | assumption))) (sy_oks_cons (sy_ok2 (wh_lt hw 3 (by first | decide | assumption))) (sy_oks_cons (sy_ok2 (wh_lt hw 10 (by first | decide | assumption))) (sy_oks_cons (sy_ok0 (by first | decide | assumption | omega | exact mo_rd_lt _ _ | exact mo_add_lt _ _ | exact mo_sub_lt _ _ | exact mo_mul_lt _ _ | exact mo_shl_lt _ _ | exact mo_ushr_lt _ _ | exact mo_or_lt (by decide) (mo_and_lt (mo_rd_lt _ _)) | exact mo_or_lt (mo_shl_lt _ _) (mo_and_lt (mo_rd_lt _ _)))) sy_oks_nil)))) rfl xl79) hC (by decide) (by rw [xl79]; decide) sy_refl) ?_
  exact sy_Fi xc72_150 xr72 rfl ⟨T, hT, rfl, hE⟩
end CG
