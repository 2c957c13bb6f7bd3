/-! THE REFERENCE, III: give of a filter, of a block -/
theorem xc108_0 : tt_cd 108 0 = (2, .iconst 0, 1) := by decide +kernel
theorem xc108_1 : tt_cd 108 1 = (1, .istore_n 2, 1) := by decide +kernel
theorem xl108 : tt_mL 108 = 4 := by decide +kernel
theorem xc108_2 : tt_cd 108 2 = (2, .iconst 0, 1) := by decide +kernel
theorem xc108_3 : tt_cd 108 3 = (1, .istore_n 3, 1) := by decide +kernel
theorem xc108_4 : tt_cd 108 4 = (1, .iload_n 3, 1) := by decide +kernel
theorem xc108_5 : tt_cd 108 5 = (2, .iconst 4, 1) := by decide +kernel
theorem xc108_6 : tt_cd 108 6 = (5, .if_icmp .ge 24, 3) := by decide +kernel
theorem xc108_9 : tt_cd 108 9 = (1, .iload_n 2, 1) := by decide +kernel
theorem xc108_10 : tt_cd 108 10 = (4, .bipush 8, 2) := by decide +kernel
theorem xc108_12 : tt_cd 108 12 = (2, .ishl, 1) := by decide +kernel
theorem xc108_13 : tt_cd 108 13 = (1, .aload_n 0, 1) := by decide +kernel
theorem xc108_14 : tt_cd 108 14 = (1, .iload_n 1, 1) := by decide +kernel
theorem xc108_15 : tt_cd 108 15 = (1, .iload_n 3, 1) := by decide +kernel
theorem xc108_16 : tt_cd 108 16 = (2, .iadd, 1) := by decide +kernel
theorem xc108_17 : tt_cd 108 17 = (3, .baload, 1) := by decide +kernel
theorem xc108_18 : tt_cd 108 18 = (4, .sipush 255, 3) := by decide +kernel
theorem xc108_21 : tt_cd 108 21 = (2, .iand, 1) := by decide +kernel
theorem xc108_22 : tt_cd 108 22 = (2, .ior, 1) := by decide +kernel
theorem xc108_23 : tt_cd 108 23 = (1, .istore_n 2, 1) := by decide +kernel
theorem xc108_24 : tt_cd 108 24 = (1, .iinc 3 1, 3) := by decide +kernel
theorem xc108_27 : tt_cd 108 27 = (5, .goto (-23), 3) := by decide +kernel
theorem xc108_30 : tt_cd 108 30 = (1, .iload_n 2, 1) := by decide +kernel
theorem xc108_31 : tt_cd 108 31 = (9, .ireturn, 1) := by decide +kernel
theorem xr108 : tt_mr 108 = 1 := by decide +kernel
theorem xc148_0 : tt_cd 148 0 = (1, .iload_n 1, 1) := by decide +kernel
theorem xc148_1 : tt_cd 148 1 = (1, .iload_n 2, 1) := by decide +kernel
theorem xc148_2 : tt_cd 148 2 = (5, .if_icmp .ge 17, 3) := by decide +kernel
theorem xc148_5 : tt_cd 148 5 = (1, .aload_n 0, 1) := by decide +kernel
theorem xc148_6 : tt_cd 148 6 = (1, .iload_n 1, 1) := by decide +kernel
theorem xc148_7 : tt_cd 148 7 = (3, .baload, 1) := by decide +kernel
theorem xc148_8 : tt_cd 148 8 = (2, .i2l, 1) := by decide +kernel
theorem xc148_9 : tt_cd 148 9 = (2, .lconst 1, 1) := by decide +kernel
theorem xc148_10 : tt_cd 148 10 = (4, .ldc2_w 248, 3) := by decide +kernel
theorem xk148_248 : tt_kc 148 248 = (2, 4) := by decide +kernel
theorem xc148_13 : tt_cd 148 13 = (10, .invokestatic 147, 3) := by decide +kernel
theorem xm148_147 : tt_ml 148 147 = (1, 98, 3) := by decide +kernel
theorem xc148_16 : tt_cd 148 16 = (5, .ifCond .ne 5, 3) := by decide +kernel
theorem xc148_19 : tt_cd 148 19 = (2, .iconst 0, 1) := by decide +kernel
theorem xc148_20 : tt_cd 148 20 = (9, .ireturn, 1) := by decide +kernel
theorem xr148 : tt_mr 148 = 1 := by decide +kernel
theorem xc147_0 : tt_cd 147 0 = (2, .iconst 0, 1) := by decide +kernel
theorem xc147_1 : tt_cd 147 1 = (1, .istore_n 2, 1) := by decide +kernel
theorem xl147 : tt_mL 147 = 5 := by decide +kernel
theorem xc147_2 : tt_cd 147 2 = (1, .aload_n 0, 1) := by decide +kernel
theorem xc147_3 : tt_cd 147 3 = (2, .iconst 0, 1) := by decide +kernel
theorem xc147_4 : tt_cd 147 4 = (6, .putfield 681, 3) := by decide +kernel
theorem xf147_681 : tt_fl 147 681 = (1, 0, 74) := by decide +kernel
theorem xt0_74 : tt_fty 0 74 = .int := by decide +kernel
theorem xn0_74 : tt_ffin 0 74 = false := by decide +kernel
theorem xc147_7 : tt_cd 147 7 = (1, .iload_n 2, 1) := by decide +kernel
theorem xc147_8 : tt_cd 147 8 = (1, .iload_n 1, 1) := by decide +kernel
theorem xc147_9 : tt_cd 147 9 = (5, .if_icmp .ge 148, 3) := by decide +kernel
theorem xc147_12 : tt_cd 147 12 = (1, .aload_n 0, 1) := by decide +kernel
theorem xc147_13 : tt_cd 147 13 = (3, .getfield 469, 3) := by decide +kernel
theorem xf147_469 : tt_fl 147 469 = (1, 0, 72) := by decide +kernel
theorem xc147_16 : tt_cd 147 16 = (1, .iload_n 2, 1) := by decide +kernel
theorem xc147_17 : tt_cd 147 17 = (1, .iload_n 1, 1) := by decide +kernel
theorem xc147_18 : tt_cd 147 18 = (10, .invokestatic 684, 3) := by decide +kernel
theorem xm147_684 : tt_ml 147 684 = (1, 148, 3) := by decide +kernel
theorem xl148 : tt_mL 148 = 6 := by decide +kernel
theorem xc147_21 : tt_cd 147 21 = (1, .istore_n 3, 1) := by decide +kernel
theorem xc147_22 : tt_cd 147 22 = (1, .iload_n 3, 1) := by decide +kernel
theorem xc147_23 : tt_cd 147 23 = (4, .bipush 97, 2) := by decide +kernel
theorem xc147_25 : tt_cd 147 25 = (1, .aload_n 0, 1) := by decide +kernel
theorem xc147_26 : tt_cd 147 26 = (3, .getfield 469, 3) := by decide +kernel
theorem xc147_29 : tt_cd 147 29 = (1, .iload_n 2, 1) := by decide +kernel
theorem xc147_30 : tt_cd 147 30 = (3, .baload, 1) := by decide +kernel
theorem xc147_31 : tt_cd 147 31 = (2, .imul, 1) := by decide +kernel
theorem xc147_32 : tt_cd 147 32 = (2, .iadd, 1) := by decide +kernel
theorem xc147_33 : tt_cd 147 33 = (1, .istore 4, 2) := by decide +kernel
theorem xc147_35 : tt_cd 147 35 = (1, .aload_n 0, 1) := by decide +kernel
theorem xc147_36 : tt_cd 147 36 = (3, .getfield 469, 3) := by decide +kernel
theorem xc147_39 : tt_cd 147 39 = (1, .iload_n 2, 1) := by decide +kernel
theorem xc147_40 : tt_cd 147 40 = (3, .baload, 1) := by decide +kernel
theorem xc147_41 : tt_cd 147 41 = (5, .ifCond .ne 54, 3) := by decide +kernel
theorem xc147_44 : tt_cd 147 44 = (1, .iload_n 2, 1) := by decide +kernel
theorem xc147_45 : tt_cd 147 45 = (4, .bipush 28, 2) := by decide +kernel
theorem xc147_47 : tt_cd 147 47 = (2, .iadd, 1) := by decide +kernel
theorem xc147_48 : tt_cd 147 48 = (1, .iload_n 1, 1) := by decide +kernel
theorem xc147_49 : tt_cd 147 49 = (5, .if_icmp .gt 41, 3) := by decide +kernel
theorem xc147_52 : tt_cd 147 52 = (1, .aload_n 0, 1) := by decide +kernel
theorem xc147_53 : tt_cd 147 53 = (3, .getfield 469, 3) := by decide +kernel
theorem xc147_56 : tt_cd 147 56 = (1, .iload_n 2, 1) := by decide +kernel
theorem xc147_57 : tt_cd 147 57 = (2, .iconst 3, 1) := by decide +kernel
theorem xc147_58 : tt_cd 147 58 = (2, .iadd, 1) := by decide +kernel
theorem xc147_59 : tt_cd 147 59 = (3, .baload, 1) := by decide +kernel
theorem xc147_60 : tt_cd 147 60 = (2, .iconst 1, 1) := by decide +kernel
theorem xc147_61 : tt_cd 147 61 = (5, .if_icmp .ne 29, 3) := by decide +kernel
theorem xc147_64 : tt_cd 147 64 = (1, .aload_n 0, 1) := by decide +kernel
theorem xc147_65 : tt_cd 147 65 = (3, .getfield 469, 3) := by decide +kernel
theorem xc147_68 : tt_cd 147 68 = (1, .iload_n 2, 1) := by decide +kernel
theorem xc147_69 : tt_cd 147 69 = (2, .iconst 4, 1) := by decide +kernel
theorem xc147_70 : tt_cd 147 70 = (2, .iadd, 1) := by decide +kernel
theorem xc147_71 : tt_cd 147 71 = (10, .invokestatic 164, 3) := by decide +kernel
theorem xm147_164 : tt_ml 147 164 = (1, 108, 2) := by decide +kernel
theorem xc147_74 : tt_cd 147 74 = (2, .i2l, 1) := by decide +kernel
theorem xc147_75 : tt_cd 147 75 = (2, .lconst 1, 1) := by decide +kernel
theorem xc147_76 : tt_cd 147 76 = (4, .ldc2_w 252, 3) := by decide +kernel
theorem xk147_252 : tt_kc 147 252 = (2, 1000000000) := by decide +kernel
theorem xc147_79 : tt_cd 147 79 = (10, .invokestatic 147, 3) := by decide +kernel
theorem xm147_147 : tt_ml 147 147 = (1, 98, 3) := by decide +kernel
theorem xc147_82 : tt_cd 147 82 = (5, .ifCond .eq 8, 3) := by decide +kernel
theorem xc147_85 : tt_cd 147 85 = (4, .bipush 28, 2) := by decide +kernel
theorem xc147_87 : tt_cd 147 87 = (5, .goto 4, 3) := by decide +kernel
theorem xc147_91 : tt_cd 147 91 = (1, .istore_n 3, 1) := by decide +kernel
theorem xc147_92 : tt_cd 147 92 = (1, .iload_n 3, 1) := by decide +kernel
theorem xc147_93 : tt_cd 147 93 = (1, .istore 4, 2) := by decide +kernel
theorem xc147_95 : tt_cd 147 95 = (1, .iload_n 3, 1) := by decide +kernel
theorem xc147_96 : tt_cd 147 96 = (5, .ifCond .eq 20, 3) := by decide +kernel
theorem xc147_99 : tt_cd 147 99 = (1, .iload_n 2, 1) := by decide +kernel
theorem xc147_100 : tt_cd 147 100 = (1, .iload 4, 2) := by decide +kernel
theorem xc147_102 : tt_cd 147 102 = (2, .iadd, 1) := by decide +kernel
theorem xc147_103 : tt_cd 147 103 = (1, .iload_n 1, 1) := by decide +kernel
theorem xc147_104 : tt_cd 147 104 = (5, .if_icmp .gt 12, 3) := by decide +kernel
theorem xc147_107 : tt_cd 147 107 = (1, .aload_n 0, 1) := by decide +kernel
theorem xc147_108 : tt_cd 147 108 = (3, .getfield 681, 3) := by decide +kernel
theorem xc147_111 : tt_cd 147 111 = (4, .bipush 70, 2) := by decide +kernel
theorem xc147_113 : tt_cd 147 113 = (5, .if_icmp .ne 5, 3) := by decide +kernel
theorem xc147_118 : tt_cd 147 118 = (1, .aload_n 0, 1) := by decide +kernel
theorem xc147_119 : tt_cd 147 119 = (1, .aload_n 0, 1) := by decide +kernel
theorem xc147_120 : tt_cd 147 120 = (3, .getfield 469, 3) := by decide +kernel
theorem xc147_123 : tt_cd 147 123 = (1, .iload_n 2, 1) := by decide +kernel
theorem xc147_124 : tt_cd 147 124 = (1, .iload_n 3, 1) := by decide +kernel
theorem xc147_125 : tt_cd 147 125 = (1, .aload_n 0, 1) := by decide +kernel
theorem xc147_126 : tt_cd 147 126 = (3, .getfield 472, 3) := by decide +kernel
theorem xf147_472 : tt_fl 147 472 = (1, 0, 73) := by decide +kernel
theorem xc147_129 : tt_cd 147 129 = (4, .bipush 32, 2) := by decide +kernel
theorem xc147_131 : tt_cd 147 131 = (1, .aload_n 0, 1) := by decide +kernel
theorem xc147_132 : tt_cd 147 132 = (3, .getfield 681, 3) := by decide +kernel
theorem xc147_135 : tt_cd 147 135 = (2, .imul, 1) := by decide +kernel
theorem xc147_136 : tt_cd 147 136 = (10, .invokevirtual 156, 3) := by decide +kernel
theorem xm147_156 : tt_ml 147 156 = (3, 100, 5) := by decide +kernel
theorem xc147_139 : tt_cd 147 139 = (1, .aload_n 0, 1) := by decide +kernel
theorem xc147_140 : tt_cd 147 140 = (2, .dup, 1) := by decide +kernel
theorem xc147_141 : tt_cd 147 141 = (3, .getfield 681, 3) := by decide +kernel
theorem xc147_144 : tt_cd 147 144 = (2, .iconst 1, 1) := by decide +kernel
theorem xc147_145 : tt_cd 147 145 = (2, .iadd, 1) := by decide +kernel
theorem xc147_146 : tt_cd 147 146 = (6, .putfield 681, 3) := by decide +kernel
theorem xc147_149 : tt_cd 147 149 = (1, .iload_n 2, 1) := by decide +kernel
theorem xc147_150 : tt_cd 147 150 = (1, .iload 4, 2) := by decide +kernel
theorem xc147_152 : tt_cd 147 152 = (2, .iadd, 1) := by decide +kernel
theorem xc147_153 : tt_cd 147 153 = (1, .istore_n 2, 1) := by decide +kernel
theorem xc147_154 : tt_cd 147 154 = (5, .goto (-147), 3) := by decide +kernel
theorem xc147_157 : tt_cd 147 157 = (1, .aload_n 0, 1) := by decide +kernel
theorem xc147_158 : tt_cd 147 158 = (3, .getfield 681, 3) := by decide +kernel
theorem xc147_161 : tt_cd 147 161 = (5, .ifCond .le 7, 3) := by decide +kernel
theorem xc147_164 : tt_cd 147 164 = (2, .iconst 1, 1) := by decide +kernel
theorem xc147_165 : tt_cd 147 165 = (5, .goto 4, 3) := by decide +kernel
theorem xc147_169 : tt_cd 147 169 = (9, .ireturn, 1) := by decide +kernel
theorem xr147 : tt_mr 147 = 4 := by decide +kernel
theorem xc149_0 : tt_cd 149 0 = (1, .aload_n 0, 1) := by decide +kernel
theorem xc149_1 : tt_cd 149 1 = (3, .getfield 681, 3) := by decide +kernel
theorem xf149_681 : tt_fl 149 681 = (1, 0, 74) := by decide +kernel
theorem xc149_4 : tt_cd 149 4 = (1, .istore_n 1, 1) := by decide +kernel
theorem xl149 : tt_mL 149 = 4 := by decide +kernel
theorem xc149_5 : tt_cd 149 5 = (1, .aload_n 0, 1) := by decide +kernel
theorem xc149_6 : tt_cd 149 6 = (3, .getfield 472, 3) := by decide +kernel
theorem xf149_472 : tt_fl 149 472 = (1, 0, 73) := by decide +kernel
theorem xc149_9 : tt_cd 149 9 = (2, .iconst 0, 1) := by decide +kernel
theorem xc149_10 : tt_cd 149 10 = (1, .aload_n 0, 1) := by decide +kernel
theorem xc149_11 : tt_cd 149 11 = (3, .getfield 436, 3) := by decide +kernel
theorem xf149_436 : tt_fl 149 436 = (1, 0, 58) := by decide +kernel
theorem xc149_14 : tt_cd 149 14 = (2, .iconst 0, 1) := by decide +kernel
theorem xc149_15 : tt_cd 149 15 = (4, .bipush 32, 2) := by decide +kernel
theorem xc149_17 : tt_cd 149 17 = (1, .iload_n 1, 1) := by decide +kernel
theorem xc149_18 : tt_cd 149 18 = (2, .imul, 1) := by decide +kernel
theorem xc149_19 : tt_cd 149 19 = (10, .invokestatic 184, 3) := by decide +kernel
theorem xm149_184 : tt_ml 149 184 = (1, 110, 5) := by decide +kernel
theorem xc149_22 : tt_cd 149 22 = (1, .iload_n 1, 1) := by decide +kernel
theorem xc149_23 : tt_cd 149 23 = (2, .iconst 1, 1) := by decide +kernel
theorem xc149_24 : tt_cd 149 24 = (5, .if_icmp .le 95, 3) := by decide +kernel
theorem xc149_119 : tt_cd 149 119 = (9, .return_, 1) := by decide +kernel
theorem xr149 : tt_mr 149 = 0 := by decide +kernel
theorem xc146_0 : tt_cd 146 0 = (1, .aload_n 0, 1) := by decide +kernel
theorem xc146_1 : tt_cd 146 1 = (3, .getfield 379, 3) := by decide +kernel
theorem xf146_379 : tt_fl 146 379 = (1, 0, 36) := by decide +kernel
theorem xc146_4 : tt_cd 146 4 = (1, .iload_n 2, 1) := by decide +kernel
theorem xc146_5 : tt_cd 146 5 = (3, .iaload, 1) := by decide +kernel
theorem xc146_6 : tt_cd 146 6 = (1, .istore 5, 2) := by decide +kernel
theorem xl146 : tt_mL 146 = 6 := by decide +kernel
theorem xc146_8 : tt_cd 146 8 = (1, .aload_n 0, 1) := by decide +kernel
theorem xc146_9 : tt_cd 146 9 = (3, .getfield 361, 3) := by decide +kernel
theorem xf146_361 : tt_fl 146 361 = (1, 0, 30) := by decide +kernel
theorem xc146_12 : tt_cd 146 12 = (4, .sipush 1900, 3) := by decide +kernel
theorem xc146_15 : tt_cd 146 15 = (1, .iload_n 2, 1) := by decide +kernel
theorem xc146_16 : tt_cd 146 16 = (2, .imul, 1) := by decide +kernel
theorem xc146_17 : tt_cd 146 17 = (1, .aload_n 0, 1) := by decide +kernel
theorem xc146_18 : tt_cd 146 18 = (3, .getfield 469, 3) := by decide +kernel
theorem xf146_469 : tt_fl 146 469 = (1, 0, 72) := by decide +kernel
theorem xc146_21 : tt_cd 146 21 = (2, .iconst 0, 1) := by decide +kernel
theorem xc146_22 : tt_cd 146 22 = (1, .iload 5, 2) := by decide +kernel
theorem xc146_24 : tt_cd 146 24 = (10, .invokestatic 184, 3) := by decide +kernel
theorem xm146_184 : tt_ml 146 184 = (1, 110, 5) := by decide +kernel
theorem xc146_27 : tt_cd 146 27 = (1, .iload 4, 2) := by decide +kernel
theorem xc146_29 : tt_cd 146 29 = (5, .ifCond .le 19, 3) := by decide +kernel
theorem xc146_32 : tt_cd 146 32 = (1, .aload_n 0, 1) := by decide +kernel
theorem xc146_33 : tt_cd 146 33 = (3, .getfield 469, 3) := by decide +kernel
theorem xc146_36 : tt_cd 146 36 = (1, .iload_n 3, 1) := by decide +kernel
theorem xc146_37 : tt_cd 146 37 = (1, .aload_n 0, 1) := by decide +kernel
theorem xc146_38 : tt_cd 146 38 = (3, .getfield 469, 3) := by decide +kernel
theorem xc146_41 : tt_cd 146 41 = (1, .iload_n 3, 1) := by decide +kernel
theorem xc146_42 : tt_cd 146 42 = (3, .baload, 1) := by decide +kernel
theorem xc146_43 : tt_cd 146 43 = (1, .iload 4, 2) := by decide +kernel
theorem xc146_45 : tt_cd 146 45 = (2, .ixor, 1) := by decide +kernel
theorem xc146_46 : tt_cd 146 46 = (2, .i2b, 1) := by decide +kernel
theorem xc146_47 : tt_cd 146 47 = (6, .bastore, 1) := by decide +kernel
theorem xc146_48 : tt_cd 146 48 = (1, .aload_n 0, 1) := by decide +kernel
theorem xc146_49 : tt_cd 146 49 = (1, .iload 5, 2) := by decide +kernel
theorem xc146_51 : tt_cd 146 51 = (10, .invokevirtual 687, 3) := by decide +kernel
theorem xm146_687 : tt_ml 146 687 = (3, 147, 1) := by decide +kernel
theorem xi147 : tt_mci 147 = 0 := by decide +kernel
theorem xc146_54 : tt_cd 146 54 = (5, .ifCond .ne 5, 3) := by decide +kernel
theorem xc146_59 : tt_cd 146 59 = (1, .aload_n 0, 1) := by decide +kernel
theorem xc146_60 : tt_cd 146 60 = (10, .invokevirtual 690, 3) := by decide +kernel
theorem xm146_690 : tt_ml 146 690 = (3, 149, 0) := by decide +kernel
theorem xi149 : tt_mci 149 = 0 := by decide +kernel
theorem xc146_63 : tt_cd 146 63 = (1, .aload_n 0, 1) := by decide +kernel
theorem xc146_64 : tt_cd 146 64 = (3, .getfield 436, 3) := by decide +kernel
theorem xf146_436 : tt_fl 146 436 = (1, 0, 58) := by decide +kernel
theorem xc146_67 : tt_cd 146 67 = (2, .iconst 0, 1) := by decide +kernel
theorem xc146_68 : tt_cd 146 68 = (1, .aload_n 0, 1) := by decide +kernel
theorem xc146_69 : tt_cd 146 69 = (3, .getfield 442, 3) := by decide +kernel
theorem xf146_442 : tt_fl 146 442 = (1, 0, 62) := by decide +kernel
theorem xc146_72 : tt_cd 146 72 = (4, .bipush 105, 2) := by decide +kernel
theorem xc146_74 : tt_cd 146 74 = (1, .iload_n 1, 1) := by decide +kernel
theorem xc146_75 : tt_cd 146 75 = (2, .imul, 1) := by decide +kernel
theorem xc146_76 : tt_cd 146 76 = (4, .bipush 32, 2) := by decide +kernel
theorem xc146_78 : tt_cd 146 78 = (2, .iadd, 1) := by decide +kernel
theorem xc146_79 : tt_cd 146 79 = (4, .bipush 32, 2) := by decide +kernel
theorem xc146_81 : tt_cd 146 81 = (10, .invokestatic 266, 3) := by decide +kernel
theorem xm146_266 : tt_ml 146 266 = (1, 113, 5) := by decide +kernel
theorem xc146_84 : tt_cd 146 84 = (9, .ireturn, 1) := by decide +kernel
theorem xr146 : tt_mr 146 = 4 := by decide +kernel
theorem xc145_0 : tt_cd 145 0 = (1, .aload_n 0, 1) := by decide +kernel
theorem xc145_1 : tt_cd 145 1 = (3, .getfield 409, 3) := by decide +kernel
theorem xf145_409 : tt_fl 145 409 = (1, 0, 46) := by decide +kernel
theorem xc145_4 : tt_cd 145 4 = (1, .iload_n 2, 1) := by decide +kernel
theorem xc145_5 : tt_cd 145 5 = (3, .iaload, 1) := by decide +kernel
theorem xc145_6 : tt_cd 145 6 = (1, .istore 5, 2) := by decide +kernel
theorem xl145 : tt_mL 145 = 6 := by decide +kernel
theorem xc145_8 : tt_cd 145 8 = (1, .aload_n 0, 1) := by decide +kernel
theorem xc145_9 : tt_cd 145 9 = (3, .getfield 406, 3) := by decide +kernel
theorem xf145_406 : tt_fl 145 406 = (1, 0, 45) := by decide +kernel
theorem xc145_12 : tt_cd 145 12 = (4, .bipush 80, 2) := by decide +kernel
theorem xc145_14 : tt_cd 145 14 = (1, .iload_n 2, 1) := by decide +kernel
theorem xc145_15 : tt_cd 145 15 = (2, .imul, 1) := by decide +kernel
theorem xc145_16 : tt_cd 145 16 = (1, .aload_n 0, 1) := by decide +kernel
theorem xc145_17 : tt_cd 145 17 = (3, .getfield 469, 3) := by decide +kernel
theorem xf145_469 : tt_fl 145 469 = (1, 0, 72) := by decide +kernel
theorem xc145_20 : tt_cd 145 20 = (2, .iconst 0, 1) := by decide +kernel
theorem xc145_21 : tt_cd 145 21 = (1, .iload 5, 2) := by decide +kernel
theorem xc145_23 : tt_cd 145 23 = (10, .invokestatic 184, 3) := by decide +kernel
theorem xm145_184 : tt_ml 145 184 = (1, 110, 5) := by decide +kernel
theorem xc145_26 : tt_cd 145 26 = (1, .iload 4, 2) := by decide +kernel
theorem xc145_28 : tt_cd 145 28 = (5, .ifCond .le 19, 3) := by decide +kernel
theorem xc145_31 : tt_cd 145 31 = (1, .aload_n 0, 1) := by decide +kernel
theorem xc145_32 : tt_cd 145 32 = (3, .getfield 469, 3) := by decide +kernel
theorem xc145_35 : tt_cd 145 35 = (1, .iload_n 3, 1) := by decide +kernel
theorem xc145_36 : tt_cd 145 36 = (1, .aload_n 0, 1) := by decide +kernel
theorem xc145_37 : tt_cd 145 37 = (3, .getfield 469, 3) := by decide +kernel
theorem xc145_40 : tt_cd 145 40 = (1, .iload_n 3, 1) := by decide +kernel
theorem xc145_41 : tt_cd 145 41 = (3, .baload, 1) := by decide +kernel
theorem xc145_42 : tt_cd 145 42 = (1, .iload 4, 2) := by decide +kernel
theorem xc145_44 : tt_cd 145 44 = (2, .ixor, 1) := by decide +kernel
theorem xc145_45 : tt_cd 145 45 = (2, .i2b, 1) := by decide +kernel
theorem xc145_46 : tt_cd 145 46 = (6, .bastore, 1) := by decide +kernel
theorem xc145_47 : tt_cd 145 47 = (1, .aload_n 0, 1) := by decide +kernel
theorem xc145_48 : tt_cd 145 48 = (1, .aload_n 0, 1) := by decide +kernel
theorem xc145_49 : tt_cd 145 49 = (3, .getfield 469, 3) := by decide +kernel
theorem xc145_52 : tt_cd 145 52 = (2, .iconst 0, 1) := by decide +kernel
theorem xc145_53 : tt_cd 145 53 = (1, .iload 5, 2) := by decide +kernel
theorem xc145_55 : tt_cd 145 55 = (1, .aload_n 0, 1) := by decide +kernel
theorem xc145_56 : tt_cd 145 56 = (3, .getfield 153, 3) := by decide +kernel
theorem xf145_153 : tt_fl 145 153 = (1, 0, 18) := by decide +kernel
theorem xc145_59 : tt_cd 145 59 = (2, .iconst 0, 1) := by decide +kernel
theorem xc145_60 : tt_cd 145 60 = (10, .invokevirtual 156, 3) := by decide +kernel
theorem xm145_156 : tt_ml 145 156 = (3, 100, 5) := by decide +kernel
theorem xc145_63 : tt_cd 145 63 = (1, .aload_n 0, 1) := by decide +kernel
theorem xc145_64 : tt_cd 145 64 = (3, .getfield 153, 3) := by decide +kernel
theorem xc145_67 : tt_cd 145 67 = (2, .iconst 0, 1) := by decide +kernel
theorem xc145_68 : tt_cd 145 68 = (1, .aload_n 0, 1) := by decide +kernel
theorem xc145_69 : tt_cd 145 69 = (3, .getfield 442, 3) := by decide +kernel
theorem xf145_442 : tt_fl 145 442 = (1, 0, 62) := by decide +kernel
theorem xc145_72 : tt_cd 145 72 = (4, .bipush 105, 2) := by decide +kernel
theorem xc145_74 : tt_cd 145 74 = (1, .iload_n 1, 1) := by decide +kernel
theorem xc145_75 : tt_cd 145 75 = (2, .imul, 1) := by decide +kernel
theorem xc145_76 : tt_cd 145 76 = (4, .bipush 64, 2) := by decide +kernel
theorem xc145_78 : tt_cd 145 78 = (2, .iadd, 1) := by decide +kernel
theorem xc145_79 : tt_cd 145 79 = (4, .bipush 32, 2) := by decide +kernel
theorem xc145_81 : tt_cd 145 81 = (10, .invokestatic 266, 3) := by decide +kernel
theorem xm145_266 : tt_ml 145 266 = (1, 113, 5) := by decide +kernel
theorem xc145_84 : tt_cd 145 84 = (9, .ireturn, 1) := by decide +kernel
theorem xr145 : tt_mr 145 = 4 := by decide +kernel
theorem xc111_0 : tt_cd 111 0 = (1, .aload_n 0, 1) := by decide +kernel
theorem xc111_1 : tt_cd 111 1 = (2, .iconst 0, 1) := by decide +kernel
theorem xc111_2 : tt_cd 111 2 = (6, .putfield 728, 3) := by decide +kernel
theorem xf111_728 : tt_fl 111 728 = (1, 0, 86) := by decide +kernel
theorem xt0_86 : tt_fty 0 86 = .int := by decide +kernel
theorem xn0_86 : tt_ffin 0 86 = false := by decide +kernel
theorem xc111_5 : tt_cd 111 5 = (2, .iconst 1, 1) := by decide +kernel
theorem xc111_6 : tt_cd 111 6 = (1, .istore_n 1, 1) := by decide +kernel
theorem xl111 : tt_mL 111 = 6 := by decide +kernel
theorem xc111_7 : tt_cd 111 7 = (1, .iload_n 1, 1) := by decide +kernel
theorem xc111_8 : tt_cd 111 8 = (1, .aload_n 0, 1) := by decide +kernel
theorem xc111_9 : tt_cd 111 9 = (3, .getfield 669, 3) := by decide +kernel
theorem xf111_669 : tt_fl 111 669 = (1, 0, 69) := by decide +kernel
theorem xc111_12 : tt_cd 111 12 = (5, .if_icmp .ge 39, 3) := by decide +kernel
theorem xc111_51 : tt_cd 111 51 = (1, .aload_n 0, 1) := by decide +kernel
theorem xc111_52 : tt_cd 111 52 = (3, .getfield 728, 3) := by decide +kernel
theorem xc111_55 : tt_cd 111 55 = (1, .istore_n 1, 1) := by decide +kernel
theorem xc111_56 : tt_cd 111 56 = (1, .iload_n 1, 1) := by decide +kernel
theorem xc111_57 : tt_cd 111 57 = (5, .ifCond .lt 25, 3) := by decide +kernel
theorem xc111_60 : tt_cd 111 60 = (1, .aload_n 0, 1) := by decide +kernel
theorem xc111_61 : tt_cd 111 61 = (3, .getfield 499, 3) := by decide +kernel
theorem xf111_499 : tt_fl 111 499 = (1, 0, 85) := by decide +kernel
theorem xc111_64 : tt_cd 111 64 = (1, .aload_n 0, 1) := by decide +kernel
theorem xc111_65 : tt_cd 111 65 = (3, .getfield 451, 3) := by decide +kernel
theorem xf111_451 : tt_fl 111 451 = (1, 0, 65) := by decide +kernel
theorem xc111_68 : tt_cd 111 68 = (1, .iload_n 1, 1) := by decide +kernel
theorem xc111_69 : tt_cd 111 69 = (3, .iaload, 1) := by decide +kernel
theorem xc111_70 : tt_cd 111 70 = (1, .iload_n 1, 1) := by decide +kernel
theorem xc111_71 : tt_cd 111 71 = (6, .iastore, 1) := by decide +kernel
theorem xc111_72 : tt_cd 111 72 = (1, .aload_n 0, 1) := by decide +kernel
theorem xc111_73 : tt_cd 111 73 = (3, .getfield 448, 3) := by decide +kernel
theorem xf111_448 : tt_fl 111 448 = (1, 0, 64) := by decide +kernel
theorem xc111_76 : tt_cd 111 76 = (1, .iload_n 1, 1) := by decide +kernel
theorem xc111_77 : tt_cd 111 77 = (3, .iaload, 1) := by decide +kernel
theorem xc111_78 : tt_cd 111 78 = (1, .istore_n 1, 1) := by decide +kernel
theorem xc111_79 : tt_cd 111 79 = (5, .goto (-23), 3) := by decide +kernel
theorem xc111_82 : tt_cd 111 82 = (1, .aload_n 0, 1) := by decide +kernel
theorem xc111_83 : tt_cd 111 83 = (2, .iconst 0, 1) := by decide +kernel
theorem xc111_84 : tt_cd 111 84 = (6, .putfield 716, 3) := by decide +kernel
theorem xf111_716 : tt_fl 111 716 = (1, 0, 82) := by decide +kernel
theorem xt0_82 : tt_fty 0 82 = .int := by decide +kernel
theorem xn0_82 : tt_ffin 0 82 = false := by decide +kernel
theorem xc111_87 : tt_cd 111 87 = (1, .aload_n 0, 1) := by decide +kernel
theorem xc111_88 : tt_cd 111 88 = (3, .getfield 478, 3) := by decide +kernel
theorem xf111_478 : tt_fl 111 478 = (1, 0, 76) := by decide +kernel
theorem xc111_91 : tt_cd 111 91 = (2, .iconst 0, 1) := by decide +kernel
theorem xc111_92 : tt_cd 111 92 = (2, .iconst (-1), 1) := by decide +kernel
theorem xc111_93 : tt_cd 111 93 = (6, .iastore, 1) := by decide +kernel
theorem xc111_94 : tt_cd 111 94 = (1, .aload_n 0, 1) := by decide +kernel
theorem xc111_95 : tt_cd 111 95 = (3, .getfield 478, 3) := by decide +kernel
theorem xc111_98 : tt_cd 111 98 = (2, .iconst 1, 1) := by decide +kernel
theorem xc111_99 : tt_cd 111 99 = (2, .iconst (-1), 1) := by decide +kernel
theorem xc111_100 : tt_cd 111 100 = (6, .iastore, 1) := by decide +kernel
theorem xc111_101 : tt_cd 111 101 = (1, .aload_n 0, 1) := by decide +kernel
theorem xc111_102 : tt_cd 111 102 = (4, .bipush (-2), 2) := by decide +kernel
theorem xc111_104 : tt_cd 111 104 = (6, .putfield 502, 3) := by decide +kernel
theorem xf111_502 : tt_fl 111 502 = (1, 0, 87) := by decide +kernel
theorem xt0_87 : tt_fty 0 87 = .int := by decide +kernel
theorem xn0_87 : tt_ffin 0 87 = false := by decide +kernel
theorem xc111_107 : tt_cd 111 107 = (1, .aload_n 0, 1) := by decide +kernel
theorem xc111_108 : tt_cd 111 108 = (2, .iconst 0, 1) := by decide +kernel
theorem xc111_109 : tt_cd 111 109 = (6, .putfield 731, 3) := by decide +kernel
theorem xf111_731 : tt_fl 111 731 = (1, 0, 88) := by decide +kernel
theorem xt0_88 : tt_fty 0 88 = .int := by decide +kernel
theorem xn0_88 : tt_ffin 0 88 = false := by decide +kernel
theorem xc111_112 : tt_cd 111 112 = (2, .iconst 0, 1) := by decide +kernel
theorem xc111_113 : tt_cd 111 113 = (1, .istore_n 1, 1) := by decide +kernel
theorem xc111_114 : tt_cd 111 114 = (1, .iload_n 1, 1) := by decide +kernel
theorem xc111_115 : tt_cd 111 115 = (1, .aload_n 0, 1) := by decide +kernel
theorem xc111_116 : tt_cd 111 116 = (3, .getfield 451, 3) := by decide +kernel
theorem xc111_119 : tt_cd 111 119 = (1, .aload_n 0, 1) := by decide +kernel
theorem xc111_120 : tt_cd 111 120 = (3, .getfield 728, 3) := by decide +kernel
theorem xc111_123 : tt_cd 111 123 = (3, .iaload, 1) := by decide +kernel
theorem xc111_124 : tt_cd 111 124 = (5, .if_icmp .gt 213, 3) := by decide +kernel
theorem xc111_127 : tt_cd 111 127 = (1, .aload_n 0, 1) := by decide +kernel
theorem xc111_128 : tt_cd 111 128 = (3, .getfield 219, 3) := by decide +kernel
theorem xf111_219 : tt_fl 111 219 = (1, 0, 19) := by decide +kernel
theorem xc111_131 : tt_cd 111 131 = (5, .ifCond .eq 206, 3) := by decide +kernel
theorem xc111_337 : tt_cd 111 337 = (9, .return_, 1) := by decide +kernel
theorem xr111 : tt_mr 111 = 0 := by decide +kernel
theorem xc142_49 : tt_cd 142 49 = (1, .iload_n 2, 1) := by decide +kernel
theorem xc142_50 : tt_cd 142 50 = (2, .iconst 1, 1) := by decide +kernel
theorem xc142_51 : tt_cd 142 51 = (5, .if_icmp .ne 12, 3) := by decide +kernel
theorem xc142_54 : tt_cd 142 54 = (1, .aload_n 0, 1) := by decide +kernel
theorem xc142_55 : tt_cd 142 55 = (3, .getfield 409, 3) := by decide +kernel
theorem xf142_409 : tt_fl 142 409 = (1, 0, 46) := by decide +kernel
theorem xc142_58 : tt_cd 142 58 = (1, .iload_n 1, 1) := by decide +kernel
theorem xc142_59 : tt_cd 142 59 = (3, .iaload, 1) := by decide +kernel
theorem xc142_60 : tt_cd 142 60 = (5, .goto 9, 3) := by decide +kernel
theorem xc142_105 : tt_cd 142 105 = (1, .aload_n 0, 1) := by decide +kernel
theorem xc142_106 : tt_cd 142 106 = (1, .aload_n 0, 1) := by decide +kernel
theorem xc142_107 : tt_cd 142 107 = (3, .getfield 385, 3) := by decide +kernel
theorem xf142_385 : tt_fl 142 385 = (1, 0, 38) := by decide +kernel
theorem xc142_110 : tt_cd 142 110 = (4, .bipush 32, 2) := by decide +kernel
theorem xc142_112 : tt_cd 142 112 = (1, .iload_n 1, 1) := by decide +kernel
theorem xc142_113 : tt_cd 142 113 = (2, .imul, 1) := by decide +kernel
theorem xc142_114 : tt_cd 142 114 = (10, .invokevirtual 675, 3) := by decide +kernel
theorem xm142_675 : tt_ml 142 675 = (3, 144, 2) := by decide +kernel
theorem xc142_117 : tt_cd 142 117 = (1, .istore 6, 2) := by decide +kernel
theorem xc142_119 : tt_cd 142 119 = (1, .iload 6, 2) := by decide +kernel
theorem xc142_121 : tt_cd 142 121 = (5, .ifCond .ge 5, 3) := by decide +kernel
theorem xc142_126 : tt_cd 142 126 = (1, .iload_n 2, 1) := by decide +kernel
theorem xc142_127 : tt_cd 142 127 = (2, .iconst 1, 1) := by decide +kernel
theorem xc142_128 : tt_cd 142 128 = (5, .if_icmp .ne 16, 3) := by decide +kernel
theorem xc142_131 : tt_cd 142 131 = (1, .aload_n 0, 1) := by decide +kernel
theorem xc142_132 : tt_cd 142 132 = (3, .getfield 457, 3) := by decide +kernel
theorem xf142_457 : tt_fl 142 457 = (1, 0, 67) := by decide +kernel
theorem xc142_135 : tt_cd 142 135 = (1, .iload 6, 2) := by decide +kernel
theorem xc142_137 : tt_cd 142 137 = (3, .baload, 1) := by decide +kernel
theorem xc142_138 : tt_cd 142 138 = (5, .ifCond .eq 18, 3) := by decide +kernel
theorem xc142_156 : tt_cd 142 156 = (1, .iload_n 2, 1) := by decide +kernel
theorem xc142_157 : tt_cd 142 157 = (2, .iconst 1, 1) := by decide +kernel
theorem xc142_158 : tt_cd 142 158 = (5, .if_icmp .ne 19, 3) := by decide +kernel
theorem xc142_161 : tt_cd 142 161 = (1, .aload_n 0, 1) := by decide +kernel
theorem xc142_162 : tt_cd 142 162 = (1, .iload 6, 2) := by decide +kernel
theorem xc142_164 : tt_cd 142 164 = (1, .iload_n 1, 1) := by decide +kernel
theorem xc142_165 : tt_cd 142 165 = (1, .iload_n 3, 1) := by decide +kernel
theorem xc142_166 : tt_cd 142 166 = (1, .iload 4, 2) := by decide +kernel
theorem xc142_168 : tt_cd 142 168 = (10, .invokevirtual 698, 3) := by decide +kernel
theorem xm142_698 : tt_ml 142 698 = (3, 145, 4) := by decide +kernel
theorem xi145 : tt_mci 145 = 0 := by decide +kernel
theorem xc142_171 : tt_cd 142 171 = (5, .ifCond .ne 21, 3) := by decide +kernel
theorem xc142_192 : tt_cd 142 192 = (1, .iload_n 2, 1) := by decide +kernel
theorem xc142_193 : tt_cd 142 193 = (2, .iconst 1, 1) := by decide +kernel
theorem xc142_194 : tt_cd 142 194 = (5, .if_icmp .ne 14, 3) := by decide +kernel
theorem xc142_197 : tt_cd 142 197 = (1, .aload_n 0, 1) := by decide +kernel
theorem xc142_198 : tt_cd 142 198 = (3, .getfield 457, 3) := by decide +kernel
theorem xc142_201 : tt_cd 142 201 = (1, .iload 6, 2) := by decide +kernel
theorem xc142_203 : tt_cd 142 203 = (2, .iconst 1, 1) := by decide +kernel
theorem xc142_204 : tt_cd 142 204 = (6, .bastore, 1) := by decide +kernel
theorem xc142_205 : tt_cd 142 205 = (5, .goto 11, 3) := by decide +kernel
theorem xc142_216 : tt_cd 142 216 = (1, .aload_n 0, 1) := by decide +kernel
theorem xc142_217 : tt_cd 142 217 = (10, .invokevirtual 228, 3) := by decide +kernel
theorem xm142_228 : tt_ml 142 228 = (3, 111, 0) := by decide +kernel
theorem xi111 : tt_mci 111 = 0 := by decide +kernel
theorem xc142_220 : tt_cd 142 220 = (2, .iconst 1, 1) := by decide +kernel
theorem xc142_221 : tt_cd 142 221 = (9, .ireturn, 1) := by decide +kernel
theorem xc142_174 : tt_cd 142 174 = (5, .goto 16, 3) := by decide +kernel
theorem xc142_190 : tt_cd 142 190 = (2, .iconst 0, 1) := by decide +kernel
theorem xc142_191 : tt_cd 142 191 = (9, .ireturn, 1) := by decide +kernel
theorem xc142_63 : tt_cd 142 63 = (1, .aload_n 0, 1) := by decide +kernel
theorem xc142_64 : tt_cd 142 64 = (3, .getfield 379, 3) := by decide +kernel
theorem xf142_379 : tt_fl 142 379 = (1, 0, 36) := by decide +kernel
theorem xc142_67 : tt_cd 142 67 = (1, .iload_n 1, 1) := by decide +kernel
theorem xc142_68 : tt_cd 142 68 = (3, .iaload, 1) := by decide +kernel
theorem xc142_144 : tt_cd 142 144 = (1, .aload_n 0, 1) := by decide +kernel
theorem xc142_145 : tt_cd 142 145 = (3, .getfield 460, 3) := by decide +kernel
theorem xf142_460 : tt_fl 142 460 = (1, 0, 68) := by decide +kernel
theorem xc142_148 : tt_cd 142 148 = (1, .iload 6, 2) := by decide +kernel
theorem xc142_150 : tt_cd 142 150 = (3, .baload, 1) := by decide +kernel
theorem xc142_151 : tt_cd 142 151 = (5, .ifCond .eq 5, 3) := by decide +kernel
theorem xc142_177 : tt_cd 142 177 = (1, .aload_n 0, 1) := by decide +kernel
theorem xc142_178 : tt_cd 142 178 = (1, .iload 6, 2) := by decide +kernel
theorem xc142_180 : tt_cd 142 180 = (1, .iload_n 1, 1) := by decide +kernel
theorem xc142_181 : tt_cd 142 181 = (1, .iload_n 3, 1) := by decide +kernel
theorem xc142_182 : tt_cd 142 182 = (1, .iload 4, 2) := by decide +kernel
theorem xc142_184 : tt_cd 142 184 = (10, .invokevirtual 702, 3) := by decide +kernel
theorem xm142_702 : tt_ml 142 702 = (3, 146, 4) := by decide +kernel
theorem xi146 : tt_mci 146 = 0 := by decide +kernel
theorem xc142_187 : tt_cd 142 187 = (5, .ifCond .ne 5, 3) := by decide +kernel
theorem xc142_208 : tt_cd 142 208 = (1, .aload_n 0, 1) := by decide +kernel
theorem xc142_209 : tt_cd 142 209 = (3, .getfield 460, 3) := by decide +kernel
theorem xc142_212 : tt_cd 142 212 = (1, .iload 6, 2) := by decide +kernel
theorem xc142_214 : tt_cd 142 214 = (2, .iconst 1, 1) := by decide +kernel
theorem xc142_215 : tt_cd 142 215 = (6, .bastore, 1) := by decide +kernel
theorem sb_n_lt (A a B b m : Nat) : sb_n A a B b m < 2 := by
  unfold sb_n
  cases sb_eq A a B b m <;> decide
section RF
variable {n : Nat} {pl : Nat → Nat} {w0 w : mv_T 10} {X0 Pc Wd Vv St Af Mi Hd Gv Gi Hi Bi Hb Fl Of Ou Fs Bs Hf Hh Bb Oi Ly Hw He Ht Ca Lu th up lp oc co so ms bh : Nat}
def wo_4 (Of : Nat) : Nat := mo_or (mo_shl (mo_or (mo_shl (mo_or (mo_shl (mo_or 0 (mo_and (mv_rd 32 Of 4) 255)) 8) (mo_and (mv_rd 32 Of 5) 255)) 8) (mo_and (mv_rd 32 Of 6) 255)) 8) (mo_and (mv_rd 32 Of 7) 255)
theorem wr_word (hw : wh 29 pl w0 w [(0, 0, 107, X0), (1, 1, 64, Pc), (1, 0, 64, mc_K), (1, 0, 64, Wd), (1, 0, 8, Vv), (1, 0, 8, St), (1, 0, 8, Af), (1, 1, 32, Mi), (1, 1, 4200, Hd), (1, 1, 105, Gv), (1, 1, 32, Gi), (1, 1, 1920, Hi), (1, 1, 1280, Bi), (1, 1, 6300, Hb), (1, 1, 3200, Fl), (1, 1, 1900, Of), (1, 1, 32, Ou), (1, 0, 40, Fs), (1, 0, 40, Bs), (1, 2, 60, Hf), (1, 2, 60, Hh), (1, 1, 76000, Bb), (1, 1, 2304, Oi), (1, 1, 2400, Ly), (1, 0, 60, Hw), (1, 0, 60, He), (1, 0, 60, Ht), (1, 0, 60, Ca), (1, 0, 2, Lu)]) (hX0 : fh X0 jR [(0, th, 0), (2, pl 1, 0), (2, pl 2, 0), (2, pl 3, 0), (2, pl 4, 0), (2, pl 5, 0), (2, pl 6, 0), (2, pl 7, 0), (0, up, 0), (1, lp, 0), (2, pl 8, 0), (2, pl 9, 0), (2, pl 10, 0), (2, pl 11, 0), (2, pl 12, 0), (2, pl 13, 0), (2, pl 14, 0), (2, pl 15, 0), (2, pl 16, 0), (2, pl 17, 0), (2, pl 18, 0), (2, pl 19, 0), (2, pl 20, 0), (2, pl 21, 0), (2, pl 22, 0), (2, pl 23, 0), (2, pl 24, 0), (2, pl 25, 0), (2, pl 26, 0), (2, pl 27, 0), (2, pl 28, 0), (0, 1, 0), (0, 1, 0), (0, oc, 0), (0, co, 0), (0, so, 0), (0, ms, 0), (0, bh, 0), (0, 0, 0)])  : sy_D 108 n 0 0 [(2, pl 15, 0), (0, 4, 0)] w (fun ret w' => ret = [(0, wo_4 Of, 0)] ∧ w' = w) := by
  refine sy_Dof (us := [(255, 0, 0), (255, 0, 0)]) (sy_oks_cons (sy_ok2 (wh_lt hw 15 (by first | decide | assumption))) (sy_oks_cons (sy_ok0 (by first | decide | assumption | omega | exact mo_rd_lt _ _ | exact mo_add_lt _ _ | exact mo_sub_lt _ _ | exact mo_mul_lt _ _ | exact mo_shl_lt _ _ | exact mo_ushr_lt _ _ | exact mo_or_lt (by decide) (mo_and_lt (mo_rd_lt _ _)) | exact mo_or_lt (mo_shl_lt _ _) (mo_and_lt (mo_rd_lt _ _)))) sy_oks_nil)) rfl rfl ?_
  show sy_F 108 n 0 0 0 [(2, pl 15, 0), (0, 4, 0), (255, 0, 0), (255, 0, 0)] [] w _
  refine sy_Fs (sy_iconst (v := 0) xc108_0 (by decide) sy_refl) ?_
  refine sy_Fs (sx_istn (j := 2) (ls' := [(2, pl 15, 0), (0, 4, 0), (0, 0, 0), (255, 0, 0)]) xc108_1 rfl rfl (sy_ok0 (by first | decide | assumption | omega | exact mo_rd_lt _ _ | exact mo_add_lt _ _ | exact mo_sub_lt _ _ | exact mo_mul_lt _ _ | exact mo_shl_lt _ _ | exact mo_ushr_lt _ _ | exact mo_or_lt (by decide) (mo_and_lt (mo_rd_lt _ _)) | exact mo_or_lt (mo_shl_lt _ _) (mo_and_lt (mo_rd_lt _ _)))) (by rw [xl108]; rfl) rfl rfl) ?_
  refine sy_Fs (sy_iconst (v := 0) xc108_2 (by decide) sy_refl) ?_
  refine sy_Fs (sx_istn (j := 3) (ls' := [(2, pl 15, 0), (0, 4, 0), (0, 0, 0), (0, 0, 0)]) xc108_3 rfl rfl (sy_ok0 (by first | decide | assumption | omega | exact mo_rd_lt _ _ | exact mo_add_lt _ _ | exact mo_sub_lt _ _ | exact mo_mul_lt _ _ | exact mo_shl_lt _ _ | exact mo_ushr_lt _ _ | exact mo_or_lt (by decide) (mo_and_lt (mo_rd_lt _ _)) | exact mo_or_lt (mo_shl_lt _ _) (mo_and_lt (mo_rd_lt _ _)))) (by rw [xl108]; rfl) rfl rfl) ?_
  refine sy_Fs (sy_ildn xc108_4 rfl rfl sy_refl) ?_
  refine sy_Fs (sy_iconst (v := 4) xc108_5 (by decide) sy_refl) ?_
  refine sy_Fs (sy_ge_f xc108_6 (by decide) (by decide) (by decide) sy_refl) ?_
  refine sy_Fs (sy_ildn xc108_9 rfl rfl sy_refl) ?_
  refine sy_Fs (sy_bipush (v := 8) xc108_10 (by decide) (by decide) sy_refl) ?_
  refine sy_Fs (sx_ishl (z := 0) xc108_12 (by decide)) ?_
  refine sy_Fs (sy_aldn xc108_13 rfl rfl sy_refl) ?_
  refine sy_Fs (sy_ildn xc108_14 rfl rfl sy_refl) ?_
  refine sy_Fs (sy_ildn xc108_15 rfl rfl sy_refl) ?_
  refine sy_Fs (sx_iadd (z := 4) xc108_16 (by decide)) ?_
  refine sy_Fs (sx_bal (z := (mv_rd 32 Of 4)) xc108_17 (wh_at hw 15 rfl) (by decide) (by decide) rfl) ?_
  refine sy_Fs (sy_sipush (v := 255) xc108_18 (by decide) (by decide) sy_refl) ?_
  refine sy_Fs (sx_iand (z := (mo_and (mv_rd 32 Of 4) 255)) xc108_21 rfl) ?_
  refine sy_Fs (sx_ior (z := (mo_or 0 (mo_and (mv_rd 32 Of 4) 255))) xc108_22 rfl) ?_
  refine sy_Fs (sx_istn (j := 2) (ls' := [(2, pl 15, 0), (0, 4, 0), (0, (mo_or 0 (mo_and (mv_rd 32 Of 4) 255)), 0), (0, 0, 0)]) xc108_23 rfl rfl (sy_ok0 (by first | decide | assumption | omega | exact mo_rd_lt _ _ | exact mo_add_lt _ _ | exact mo_sub_lt _ _ | exact mo_mul_lt _ _ | exact mo_shl_lt _ _ | exact mo_ushr_lt _ _ | exact mo_or_lt (by decide) (mo_and_lt (mo_rd_lt _ _)) | exact mo_or_lt (mo_shl_lt _ _) (mo_and_lt (mo_rd_lt _ _)))) (by rw [xl108]; rfl) rfl rfl) ?_
  refine sy_Fs (sx_iinc (c := 1) (z := 1) (ls' := [(2, pl 15, 0), (0, 4, 0), (0, (mo_or 0 (mo_and (mv_rd 32 Of 4) 255)), 0), (0, 1, 0)]) xc108_24 rfl (by decide) (by rw [xl108]; rfl) rfl (by decide) rfl) ?_
  refine sy_Fs (sy_goto (pc' := 4) xc108_27 (by decide) (by decide) sy_refl) ?_
  refine sy_Fs (sy_ildn xc108_4 rfl rfl sy_refl) ?_
  refine sy_Fs (sy_iconst (v := 4) xc108_5 (by decide) sy_refl) ?_
  refine sy_Fs (sy_ge_f xc108_6 (by decide) (by decide) (by decide) sy_refl) ?_
  refine sy_Fs (sy_ildn xc108_9 rfl rfl sy_refl) ?_
  refine sy_Fs (sy_bipush (v := 8) xc108_10 (by decide) (by decide) sy_refl) ?_
  refine sy_Fs (sx_ishl (z := (mo_shl (mo_or 0 (mo_and (mv_rd 32 Of 4) 255)) 8)) xc108_12 rfl) ?_
  refine sy_Fs (sy_aldn xc108_13 rfl rfl sy_refl) ?_
  refine sy_Fs (sy_ildn xc108_14 rfl rfl sy_refl) ?_
  refine sy_Fs (sy_ildn xc108_15 rfl rfl sy_refl) ?_
  refine sy_Fs (sx_iadd (z := 5) xc108_16 (by decide)) ?_
  refine sy_Fs (sx_bal (z := (mv_rd 32 Of 5)) xc108_17 (wh_at hw 15 rfl) (by decide) (by decide) rfl) ?_
  refine sy_Fs (sy_sipush (v := 255) xc108_18 (by decide) (by decide) sy_refl) ?_
  refine sy_Fs (sx_iand (z := (mo_and (mv_rd 32 Of 5) 255)) xc108_21 rfl) ?_
  refine sy_Fs (sx_ior (z := (mo_or (mo_shl (mo_or 0 (mo_and (mv_rd 32 Of 4) 255)) 8) (mo_and (mv_rd 32 Of 5) 255))) xc108_22 rfl) ?_
  refine sy_Fs (sx_istn (j := 2) (ls' := [(2, pl 15, 0), (0, 4, 0), (0, (mo_or (mo_shl (mo_or 0 (mo_and (mv_rd 32 Of 4) 255)) 8) (mo_and (mv_rd 32 Of 5) 255)), 0), (0, 1, 0)]) xc108_23 rfl rfl (sy_ok0 (by first | decide | assumption | omega | exact mo_rd_lt _ _ | exact mo_add_lt _ _ | exact mo_sub_lt _ _ | exact mo_mul_lt _ _ | exact mo_shl_lt _ _ | exact mo_ushr_lt _ _ | exact mo_or_lt (by decide) (mo_and_lt (mo_rd_lt _ _)) | exact mo_or_lt (mo_shl_lt _ _) (mo_and_lt (mo_rd_lt _ _)))) (by rw [xl108]; rfl) rfl rfl) ?_
  refine sy_Fs (sx_iinc (c := 1) (z := 2) (ls' := [(2, pl 15, 0), (0, 4, 0), (0, (mo_or (mo_shl (mo_or 0 (mo_and (mv_rd 32 Of 4) 255)) 8) (mo_and (mv_rd 32 Of 5) 255)), 0), (0, 2, 0)]) xc108_24 rfl (by decide) (by rw [xl108]; rfl) rfl (by decide) rfl) ?_
  refine sy_Fs (sy_goto (pc' := 4) xc108_27 (by decide) (by decide) sy_refl) ?_
  refine sy_Fs (sy_ildn xc108_4 rfl rfl sy_refl) ?_
  refine sy_Fs (sy_iconst (v := 4) xc108_5 (by decide) sy_refl) ?_
  refine sy_Fs (sy_ge_f xc108_6 (by decide) (by decide) (by decide) sy_refl) ?_
  refine sy_Fs (sy_ildn xc108_9 rfl rfl sy_refl) ?_
  refine sy_Fs (sy_bipush (v := 8) xc108_10 (by decide) (by decide) sy_refl) ?_
  refine sy_Fs (sx_ishl (z := (mo_shl (mo_or (mo_shl (mo_or 0 (mo_and (mv_rd 32 Of 4) 255)) 8) (mo_and (mv_rd 32 Of 5) 255)) 8)) xc108_12 rfl) ?_
  refine sy_Fs (sy_aldn xc108_13 rfl rfl sy_refl) ?_
  refine sy_Fs (sy_ildn xc108_14 rfl rfl sy_refl) ?_
  refine sy_Fs (sy_ildn xc108_15 rfl rfl sy_refl) ?_
  refine sy_Fs (sx_iadd (z := 6) xc108_16 (by decide)) ?_
  refine sy_Fs (sx_bal (z := (mv_rd 32 Of 6)) xc108_17 (wh_at hw 15 rfl) (by decide) (by decide) rfl) ?_
  refine sy_Fs (sy_sipush (v := 255) xc108_18 (by decide) (by decide) sy_refl) ?_
  refine sy_Fs (sx_iand (z := (mo_and (mv_rd 32 Of 6) 255)) xc108_21 rfl) ?_
  refine sy_Fs (sx_ior (z := (mo_or (mo_shl (mo_or (mo_shl (mo_or 0 (mo_and (mv_rd 32 Of 4) 255)) 8) (mo_and (mv_rd 32 Of 5) 255)) 8) (mo_and (mv_rd 32 Of 6) 255))) xc108_22 rfl) ?_
  refine sy_Fs (sx_istn (j := 2) (ls' := [(2, pl 15, 0), (0, 4, 0), (0, (mo_or (mo_shl (mo_or (mo_shl (mo_or 0 (mo_and (mv_rd 32 Of 4) 255)) 8) (mo_and (mv_rd 32 Of 5) 255)) 8) (mo_and (mv_rd 32 Of 6) 255)), 0), (0, 2, 0)]) xc108_23 rfl rfl (sy_ok0 (by first | decide | assumption | omega | exact mo_rd_lt _ _ | exact mo_add_lt _ _ | exact mo_sub_lt _ _ | exact mo_mul_lt _ _ | exact mo_shl_lt _ _ | exact mo_ushr_lt _ _ | exact mo_or_lt (by decide) (mo_and_lt (mo_rd_lt _ _)) | exact mo_or_lt (mo_shl_lt _ _) (mo_and_lt (mo_rd_lt _ _)))) (by rw [xl108]; rfl) rfl rfl) ?_
  refine sy_Fs (sx_iinc (c := 1) (z := 3) (ls' := [(2, pl 15, 0), (0, 4, 0), (0, (mo_or (mo_shl (mo_or (mo_shl (mo_or 0 (mo_and (mv_rd 32 Of 4) 255)) 8) (mo_and (mv_rd 32 Of 5) 255)) 8) (mo_and (mv_rd 32 Of 6) 255)), 0), (0, 3, 0)]) xc108_24 rfl (by decide) (by rw [xl108]; rfl) rfl (by decide) rfl) ?_
  refine sy_Fs (sy_goto (pc' := 4) xc108_27 (by decide) (by decide) sy_refl) ?_
  refine sy_Fs (sy_ildn xc108_4 rfl rfl sy_refl) ?_
  refine sy_Fs (sy_iconst (v := 4) xc108_5 (by decide) sy_refl) ?_
  refine sy_Fs (sy_ge_f xc108_6 (by decide) (by decide) (by decide) sy_refl) ?_
  refine sy_Fs (sy_ildn xc108_9 rfl rfl sy_refl) ?_
  refine sy_Fs (sy_bipush (v := 8) xc108_10 (by decide) (by decide) sy_refl) ?_
  refine sy_Fs (sx_ishl (z := (mo_shl (mo_or (mo_shl (mo_or (mo_shl (mo_or 0 (mo_and (mv_rd 32 Of 4) 255)) 8) (mo_and (mv_rd 32 Of 5) 255)) 8) (mo_and (mv_rd 32 Of 6) 255)) 8)) xc108_12 rfl) ?_
  refine sy_Fs (sy_aldn xc108_13 rfl rfl sy_refl) ?_
  refine sy_Fs (sy_ildn xc108_14 rfl rfl sy_refl) ?_
  refine sy_Fs (sy_ildn xc108_15 rfl rfl sy_refl) ?_
  refine sy_Fs (sx_iadd (z := 7) xc108_16 (by decide)) ?_
  refine sy_Fs (sx_bal (z := (mv_rd 32 Of 7)) xc108_17 (wh_at hw 15 rfl) (by decide) (by decide) rfl) ?_
  refine sy_Fs (sy_sipush (v := 255) xc108_18 (by decide) (by decide) sy_refl) ?_
  refine sy_Fs (sx_iand (z := (mo_and (mv_rd 32 Of 7) 255)) xc108_21 rfl) ?_
  refine sy_Fs (sx_ior (z := (mo_or (mo_shl (mo_or (mo_shl (mo_or (mo_shl (mo_or 0 (mo_and (mv_rd 32 Of 4) 255)) 8) (mo_and (mv_rd 32 Of 5) 255)) 8) (mo_and (mv_rd 32 Of 6) 255)) 8) (mo_and (mv_rd 32 Of 7) 255))) xc108_22 rfl) ?_
  refine sy_Fs (sx_istn (j := 2) (ls' := [(2, pl 15, 0), (0, 4, 0), (0, (mo_or (mo_shl (mo_or (mo_shl (mo_or (mo_shl (mo_or 0 (mo_and (mv_rd 32 Of 4) 255)) 8) (mo_and (mv_rd 32 Of 5) 255)) 8) (mo_and (mv_rd 32 Of 6) 255)) 8) (mo_and (mv_rd 32 Of 7) 255)), 0), (0, 3, 0)]) xc108_23 rfl rfl (sy_ok0 (by first | decide | assumption | omega | exact mo_rd_lt _ _ | exact mo_add_lt _ _ | exact mo_sub_lt _ _ | exact mo_mul_lt _ _ | exact mo_shl_lt _ _ | exact mo_ushr_lt _ _ | exact mo_or_lt (by decide) (mo_and_lt (mo_rd_lt _ _)) | exact mo_or_lt (mo_shl_lt _ _) (mo_and_lt (mo_rd_lt _ _)))) (by rw [xl108]; rfl) rfl rfl) ?_
  refine sy_Fs (sx_iinc (c := 1) (z := 4) (ls' := [(2, pl 15, 0), (0, 4, 0), (0, (mo_or (mo_shl (mo_or (mo_shl (mo_or (mo_shl (mo_or 0 (mo_and (mv_rd 32 Of 4) 255)) 8) (mo_and (mv_rd 32 Of 5) 255)) 8) (mo_and (mv_rd 32 Of 6) 255)) 8) (mo_and (mv_rd 32 Of 7) 255)), 0), (0, 4, 0)]) xc108_24 rfl (by decide) (by rw [xl108]; rfl) rfl (by decide) rfl) ?_
  refine sy_Fs (sy_goto (pc' := 4) xc108_27 (by decide) (by decide) sy_refl) ?_
  refine sy_Fs (sy_ildn xc108_4 rfl rfl sy_refl) ?_
  refine sy_Fs (sy_iconst (v := 4) xc108_5 (by decide) sy_refl) ?_
  refine sy_Fs (sy_ge_t (pc' := 30) xc108_6 (by decide) (by decide) (by decide) (by decide) sy_refl) ?_
  refine sy_Fs (sy_ildn xc108_30 rfl rfl sy_refl) ?_
  exact sy_Fi xc108_31 xr108 rfl ⟨rfl, rfl⟩
theorem wr_plain (hw : wh 29 pl w0 w [(0, 0, 107, X0), (1, 1, 64, Pc), (1, 0, 64, mc_K), (1, 0, 64, Wd), (1, 0, 8, Vv), (1, 0, 8, St), (1, 0, 8, Af), (1, 1, 32, Mi), (1, 1, 4200, Hd), (1, 1, 105, Gv), (1, 1, 32, Gi), (1, 1, 1920, Hi), (1, 1, 1280, Bi), (1, 1, 6300, Hb), (1, 1, 3200, Fl), (1, 1, 1900, Of), (1, 1, 32, Ou), (1, 0, 40, Fs), (1, 0, 40, Bs), (1, 2, 60, Hf), (1, 2, 60, Hh), (1, 1, 76000, Bb), (1, 1, 2304, Oi), (1, 1, 2400, Ly), (1, 0, 60, Hw), (1, 0, 60, He), (1, 0, 60, Ht), (1, 0, 60, Ca), (1, 0, 2, Lu)]) (hX0 : fh X0 jR [(0, th, 0), (2, pl 1, 0), (2, pl 2, 0), (2, pl 3, 0), (2, pl 4, 0), (2, pl 5, 0), (2, pl 6, 0), (2, pl 7, 0), (0, up, 0), (1, lp, 0), (2, pl 8, 0), (2, pl 9, 0), (2, pl 10, 0), (2, pl 11, 0), (2, pl 12, 0), (2, pl 13, 0), (2, pl 14, 0), (2, pl 15, 0), (2, pl 16, 0), (2, pl 17, 0), (2, pl 18, 0), (2, pl 19, 0), (2, pl 20, 0), (2, pl 21, 0), (2, pl 22, 0), (2, pl 23, 0), (2, pl 24, 0), (2, pl 25, 0), (2, pl 26, 0), (2, pl 27, 0), (2, pl 28, 0), (0, 1, 0), (0, 1, 0), (0, oc, 0), (0, co, 0), (0, so, 0), (0, ms, 0), (0, bh, 0), (0, 0, 0)]) (hb0 : mv_rd 32 Of 0 = 0) : sy_D 148 n 1 25 [(2, pl 15, 0), (0, 0, 0), (0, 28, 0)] w (fun ret w' => ret = [(0, 0, 0)] ∧ w' = w) := by
  refine sy_Dof (us := [(255, 0, 0), (255, 0, 0), (255, 0, 0)]) (sy_oks_cons (sy_ok2 (wh_lt hw 15 (by first | decide | assumption))) (sy_oks_cons (sy_ok0 (by first | decide | assumption | omega | exact mo_rd_lt _ _ | exact mo_add_lt _ _ | exact mo_sub_lt _ _ | exact mo_mul_lt _ _ | exact mo_shl_lt _ _ | exact mo_ushr_lt _ _ | exact mo_or_lt (by decide) (mo_and_lt (mo_rd_lt _ _)) | exact mo_or_lt (mo_shl_lt _ _) (mo_and_lt (mo_rd_lt _ _)))) (sy_oks_cons (sy_ok0 (by first | decide | assumption | omega | exact mo_rd_lt _ _ | exact mo_add_lt _ _ | exact mo_sub_lt _ _ | exact mo_mul_lt _ _ | exact mo_shl_lt _ _ | exact mo_ushr_lt _ _ | exact mo_or_lt (by decide) (mo_and_lt (mo_rd_lt _ _)) | exact mo_or_lt (mo_shl_lt _ _) (mo_and_lt (mo_rd_lt _ _)))) sy_oks_nil))) rfl rfl ?_
  show sy_F 148 n 1 25 0 [(2, pl 15, 0), (0, 0, 0), (0, 28, 0), (255, 0, 0), (255, 0, 0), (255, 0, 0)] [] w _
  refine sy_Fs (sy_ildn xc148_0 rfl rfl sy_refl) ?_
  refine sy_Fs (sy_ildn xc148_1 rfl rfl sy_refl) ?_
  refine sy_Fs (sy_ge_f xc148_2 (by decide) (by decide) (by decide) sy_refl) ?_
  refine sy_Fs (sy_aldn xc148_5 rfl rfl sy_refl) ?_
  refine sy_Fs (sy_ildn xc148_6 rfl rfl sy_refl) ?_
  refine sy_Fs (sx_bal (z := 0) xc148_7 (wh_at hw 15 rfl) (by decide) (by decide) hb0) ?_
  refine sy_Fs (sx_i2l xc148_8 (by first | decide | assumption | omega | exact mo_rd_lt _ _ | exact mo_add_lt _ _ | exact mo_sub_lt _ _ | exact mo_mul_lt _ _ | exact mo_shl_lt _ _ | exact mo_ushr_lt _ _ | exact mo_or_lt (by decide) (mo_and_lt (mo_rd_lt _ _)) | exact mo_or_lt (mo_shl_lt _ _) (mo_and_lt (mo_rd_lt _ _)))) ?_
  refine sy_Fs (sy_lconst xc148_9 sy_refl) ?_
  refine sy_Fs (sy_ldc2 (v := 4) xc148_10 xk148_248 sy_refl) ?_
  refine sy_Fs (sy_callG (kd := 1) (as := [(1, 0, 0), (1, 1, 0), (1, 4, 0)]) (S0 := []) (ret := [(0, 0, 0)]) xc148_13 (sy_calS (as := [(1, 0, 0), (1, 1, 0), (1, 4, 0)]) (S0 := []) xm148_147 rfl rfl) rfl rfl rfl rfl (sy_oka (sy_oks_cons (sy_ok1 (by first | decide | assumption | omega | exact mo_rd_lt _ _ | exact mo_add_lt _ _ | exact mo_sub_lt _ _ | exact mo_mul_lt _ _ | exact mo_shl_lt _ _ | exact mo_ushr_lt _ _ | exact mo_or_lt (by decide) (mo_and_lt (mo_rd_lt _ _)) | exact mo_or_lt (mo_shl_lt _ _) (mo_and_lt (mo_rd_lt _ _)))) (sy_oks_cons (sy_ok1 (by first | decide | assumption | omega | exact mo_rd_lt _ _ | exact mo_add_lt _ _ | exact mo_sub_lt _ _ | exact mo_mul_lt _ _ | exact mo_shl_lt _ _ | exact mo_ushr_lt _ _ | exact mo_or_lt (by decide) (mo_and_lt (mo_rd_lt _ _)) | exact mo_or_lt (mo_shl_lt _ _) (mo_and_lt (mo_rd_lt _ _)))) (sy_oks_cons (sy_ok1 (by first | decide | assumption | omega | exact mo_rd_lt _ _ | exact mo_add_lt _ _ | exact mo_sub_lt _ _ | exact mo_mul_lt _ _ | exact mo_shl_lt _ _ | exact mo_ushr_lt _ _ | exact mo_or_lt (by decide) (mo_and_lt (mo_rd_lt _ _)) | exact mo_or_lt (mo_shl_lt _ _) (mo_and_lt (mo_rd_lt _ _)))) sy_oks_nil))) rfl xl98) (wr_inF (n := n) (by first | decide | assumption | omega) (by first | decide | assumption | omega) (by first | decide | assumption | omega)) (by decide) (by rw [xl98]; decide) sy_refl) ?_
  refine sy_Fs (sy_ifne_f xc148_16 (by decide) (by decide) sy_refl) ?_
  refine sy_Fs (sy_iconst (v := 0) xc148_19 (by decide) sy_refl) ?_
  exact sy_Fi xc148_20 xr148 rfl ⟨rfl, rfl⟩
theorem wr_read (hw : wh 29 pl w0 w [(0, 0, 107, X0), (1, 1, 64, Pc), (1, 0, 64, mc_K), (1, 0, 64, Wd), (1, 0, 8, Vv), (1, 0, 8, St), (1, 0, 8, Af), (1, 1, 32, Mi), (1, 1, 4200, Hd), (1, 1, 105, Gv), (1, 1, 32, Gi), (1, 1, 1920, Hi), (1, 1, 1280, Bi), (1, 1, 6300, Hb), (1, 1, 3200, Fl), (1, 1, 1900, Of), (1, 1, 32, Ou), (1, 0, 40, Fs), (1, 0, 40, Bs), (1, 2, 60, Hf), (1, 2, 60, Hh), (1, 1, 76000, Bb), (1, 1, 2304, Oi), (1, 1, 2400, Ly), (1, 0, 60, Hw), (1, 0, 60, He), (1, 0, 60, Ht), (1, 0, 60, Ca), (1, 0, 2, Lu)]) (hX0 : fh X0 jR [(0, th, 0), (2, pl 1, 0), (2, pl 2, 0), (2, pl 3, 0), (2, pl 4, 0), (2, pl 5, 0), (2, pl 6, 0), (2, pl 7, 0), (0, up, 0), (1, lp, 0), (2, pl 8, 0), (2, pl 9, 0), (2, pl 10, 0), (2, pl 11, 0), (2, pl 12, 0), (2, pl 13, 0), (2, pl 14, 0), (2, pl 15, 0), (2, pl 16, 0), (2, pl 17, 0), (2, pl 18, 0), (2, pl 19, 0), (2, pl 20, 0), (2, pl 21, 0), (2, pl 22, 0), (2, pl 23, 0), (2, pl 24, 0), (2, pl 25, 0), (2, pl 26, 0), (2, pl 27, 0), (2, pl 28, 0), (0, 1, 0), (0, 1, 0), (0, oc, 0), (0, co, 0), (0, so, 0), (0, ms, 0), (0, bh, 0), (0, 0, 0)]) (hA : ∀ i, i < 8 → mv_rd 32 Af i = mv_rd 32 hs_S0 i) {f : Nat → Nat} (hf : ∀ j, j < 28 → mv_rd 32 Of (0 + j) = f j) (hb0 : mv_rd 32 Of 0 = 0) (hb3 : mv_rd 32 Of 3 = 1) (hv1 : 1 ≤ wo_4 Of) (hv2 : wo_4 Of ≤ 1000000000) : sy_D 147 n 5 122 [(2, pl 0, 0), (0, 28, 0)] w (fun ret w' => ret = [(0, 1, 0)] ∧ ∃ T Y0 Y1 Y3 Y4 Y5 Y7 Yu Yl : Nat, (∀ j, j < 32 → mv_rd 32 T j = bk_D (hs_2 f 28) j) ∧ wh 29 pl w0 w' [(0, 0, 107, Y0), (1, 1, 64, Y1), (1, 0, 64, mc_K), (1, 0, 64, Y3), (1, 0, 8, Y4), (1, 0, 8, Y5), (1, 0, 8, Af), (1, 1, 32, Y7), (1, 1, 4200, Hd), (1, 1, 105, Gv), (1, 1, 32, Gi), (1, 1, 1920, Hi), (1, 1, 1280, Bi), (1, 1, 6300, Hb), (1, 1, 3200, Fl), (1, 1, 1900, Of), (1, 1, 32, Ou), (1, 0, 40, Fs), (1, 0, 40, Bs), (1, 2, 60, Hf), (1, 2, 60, Hh), (1, 1, 76000, Bb), (1, 1, 2304, T), (1, 1, 2400, Ly), (1, 0, 60, Hw), (1, 0, 60, He), (1, 0, 60, Ht), (1, 0, 60, Ca), (1, 0, 2, Lu)] ∧ fh Y0 jR [(0, th, 0), (2, pl 1, 0), (2, pl 2, 0), (2, pl 3, 0), (2, pl 4, 0), (2, pl 5, 0), (2, pl 6, 0), (2, pl 7, 0), (0, Yu, 0), (1, Yl, 0), (2, pl 8, 0), (2, pl 9, 0), (2, pl 10, 0), (2, pl 11, 0), (2, pl 12, 0), (2, pl 13, 0), (2, pl 14, 0), (2, pl 15, 0), (2, pl 16, 0), (2, pl 17, 0), (2, pl 18, 0), (2, pl 19, 0), (2, pl 20, 0), (2, pl 21, 0), (2, pl 22, 0), (2, pl 23, 0), (2, pl 24, 0), (2, pl 25, 0), (2, pl 26, 0), (2, pl 27, 0), (2, pl 28, 0), (0, 1, 0), (0, 1, 0), (0, 1, 0), (0, co, 0), (0, so, 0), (0, ms, 0), (0, bh, 0), (0, 0, 0)]) := by
  refine sy_Dof (us := [(255, 0, 0), (255, 0, 0), (255, 0, 0)]) (sy_oks_cons (sy_ok2 (wh_lt hw 0 (by first | decide | assumption))) (sy_oks_cons (sy_ok0 (by first | decide | assumption | omega | exact mo_rd_lt _ _ | exact mo_add_lt _ _ | exact mo_sub_lt _ _ | exact mo_mul_lt _ _ | exact mo_shl_lt _ _ | exact mo_ushr_lt _ _ | exact mo_or_lt (by decide) (mo_and_lt (mo_rd_lt _ _)) | exact mo_or_lt (mo_shl_lt _ _) (mo_and_lt (mo_rd_lt _ _)))) sy_oks_nil)) rfl rfl ?_
  show sy_F 147 n 5 122 0 [(2, pl 0, 0), (0, 28, 0), (255, 0, 0), (255, 0, 0), (255, 0, 0)] [] w _
  refine sy_Fs (sy_iconst (v := 0) xc147_0 (by decide) sy_refl) ?_
  refine sy_Fs (sx_istn (j := 2) (ls' := [(2, pl 0, 0), (0, 28, 0), (0, 0, 0), (255, 0, 0), (255, 0, 0)]) xc147_1 rfl rfl (sy_ok0 (by first | decide | assumption | omega | exact mo_rd_lt _ _ | exact mo_add_lt _ _ | exact mo_sub_lt _ _ | exact mo_mul_lt _ _ | exact mo_shl_lt _ _ | exact mo_ushr_lt _ _ | exact mo_or_lt (by decide) (mo_and_lt (mo_rd_lt _ _)) | exact mo_or_lt (mo_shl_lt _ _) (mo_and_lt (mo_rd_lt _ _)))) (by rw [xl147]; rfl) rfl rfl) ?_
  refine sy_Fs (sy_aldn xc147_2 rfl rfl sy_refl) ?_
  refine sy_Fs (sy_iconst (v := 0) xc147_3 (by decide) sy_refl) ?_
  refine sy_Ff (i := 0) (q := 33) (v := (0, 0, 0)) hw hX0 (by decide) (by decide) rfl (sy_ok0 (by first | decide | assumption | omega | exact mo_rd_lt _ _ | exact mo_add_lt _ _ | exact mo_sub_lt _ _ | exact mo_mul_lt _ _ | exact mo_shl_lt _ _ | exact mo_ushr_lt _ _ | exact mo_or_lt (by decide) (mo_and_lt (mo_rd_lt _ _)) | exact mo_or_lt (mo_shl_lt _ _) (mo_and_lt (mo_rd_lt _ _)))) (sy_pfi xc147_4 xf147_681 rfl xt0_74 xn0_74 (wh_at hw 0 rfl) rfl (by first | decide | assumption | omega | exact mo_rd_lt _ _ | exact mo_add_lt _ _ | exact mo_sub_lt _ _ | exact mo_mul_lt _ _ | exact mo_shl_lt _ _ | exact mo_ushr_lt _ _ | exact mo_or_lt (by decide) (mo_and_lt (mo_rd_lt _ _)) | exact mo_or_lt (mo_shl_lt _ _) (mo_and_lt (mo_rd_lt _ _))) rfl sy_refl) ?_
  intro w X0 hw hX0
  simp only [List.set_cons_zero, List.set_cons_succ] at hw hX0
  refine sy_Fs (sy_ildn xc147_7 rfl rfl sy_refl) ?_
  refine sy_Fs (sy_ildn xc147_8 rfl rfl sy_refl) ?_
  refine sy_Fs (sy_ge_f xc147_9 (by decide) (by decide) (by decide) sy_refl) ?_
  refine sy_Fs (sy_aldn xc147_12 rfl rfl sy_refl) ?_
  refine sy_Fs (sy_gf xc147_13 xf147_469 rfl (wh_at hw 0 rfl) rfl (fh_at hX0 17 rfl rfl) sy_refl) ?_
  refine sy_Fs (sy_ildn xc147_16 rfl rfl sy_refl) ?_
  refine sy_Fs (sy_ildn xc147_17 rfl rfl sy_refl) ?_
  refine sy_Fs (sy_callG (kd := 1) (as := [(2, pl 15, 0), (0, 0, 0), (0, 28, 0)]) (S0 := []) (ret := [(0, 0, 0)]) xc147_18 (sy_calS (as := [(2, pl 15, 0), (0, 0, 0), (0, 28, 0)]) (S0 := []) xm147_684 rfl rfl) rfl rfl rfl rfl (sy_oka (sy_oks_cons (sy_ok2 (wh_lt hw 15 (by first | decide | assumption))) (sy_oks_cons (sy_ok0 (by first | decide | assumption | omega | exact mo_rd_lt _ _ | exact mo_add_lt _ _ | exact mo_sub_lt _ _ | exact mo_mul_lt _ _ | exact mo_shl_lt _ _ | exact mo_ushr_lt _ _ | exact mo_or_lt (by decide) (mo_and_lt (mo_rd_lt _ _)) | exact mo_or_lt (mo_shl_lt _ _) (mo_and_lt (mo_rd_lt _ _)))) (sy_oks_cons (sy_ok0 (by first | decide | assumption | omega | exact mo_rd_lt _ _ | exact mo_add_lt _ _ | exact mo_sub_lt _ _ | exact mo_mul_lt _ _ | exact mo_shl_lt _ _ | exact mo_ushr_lt _ _ | exact mo_or_lt (by decide) (mo_and_lt (mo_rd_lt _ _)) | exact mo_or_lt (mo_shl_lt _ _) (mo_and_lt (mo_rd_lt _ _)))) sy_oks_nil))) rfl xl148) (sy_Cw (wr_plain (n := n) hw hX0 hb0)) (by decide) (by rw [xl148]; decide) sy_refl) ?_
  refine sy_Fs (sx_istn (j := 3) (ls' := [(2, pl 0, 0), (0, 28, 0), (0, 0, 0), (0, 0, 0), (255, 0, 0)]) xc147_21 rfl rfl (sy_ok0 (by first | decide | assumption | omega | exact mo_rd_lt _ _ | exact mo_add_lt _ _ | exact mo_sub_lt _ _ | exact mo_mul_lt _ _ | exact mo_shl_lt _ _ | exact mo_ushr_lt _ _ | exact mo_or_lt (by decide) (mo_and_lt (mo_rd_lt _ _)) | exact mo_or_lt (mo_shl_lt _ _) (mo_and_lt (mo_rd_lt _ _)))) (by rw [xl147]; rfl) rfl rfl) ?_
  refine sy_Fs (sy_ildn xc147_22 rfl rfl sy_refl) ?_
  refine sy_Fs (sy_bipush (v := 97) xc147_23 (by decide) (by decide) sy_refl) ?_
  refine sy_Fs (sy_aldn xc147_25 rfl rfl sy_refl) ?_
  refine sy_Fs (sy_gf xc147_26 xf147_469 rfl (wh_at hw 0 rfl) rfl (fh_at hX0 17 rfl rfl) sy_refl) ?_
  refine sy_Fs (sy_ildn xc147_29 rfl rfl sy_refl) ?_
  refine sy_Fs (sx_bal (z := 0) xc147_30 (wh_at hw 15 rfl) (by decide) (by decide) hb0) ?_
  refine sy_Fs (sx_imul (z := 0) xc147_31 (by decide)) ?_
  refine sy_Fs (sx_iadd (z := 0) xc147_32 (by decide)) ?_
  refine sy_Fs (sx_ist (j := 4) (ls' := [(2, pl 0, 0), (0, 28, 0), (0, 0, 0), (0, 0, 0), (0, 0, 0)]) xc147_33 rfl (sy_ok0 (by first | decide | assumption | omega | exact mo_rd_lt _ _ | exact mo_add_lt _ _ | exact mo_sub_lt _ _ | exact mo_mul_lt _ _ | exact mo_shl_lt _ _ | exact mo_ushr_lt _ _ | exact mo_or_lt (by decide) (mo_and_lt (mo_rd_lt _ _)) | exact mo_or_lt (mo_shl_lt _ _) (mo_and_lt (mo_rd_lt _ _)))) (by rw [xl147]; rfl) rfl rfl) ?_
  refine sy_Fs (sy_aldn xc147_35 rfl rfl sy_refl) ?_
  refine sy_Fs (sy_gf xc147_36 xf147_469 rfl (wh_at hw 0 rfl) rfl (fh_at hX0 17 rfl rfl) sy_refl) ?_
  refine sy_Fs (sy_ildn xc147_39 rfl rfl sy_refl) ?_
  refine sy_Fs (sx_bal (z := 0) xc147_40 (wh_at hw 15 rfl) (by decide) (by decide) hb0) ?_
  refine sy_Fs (sy_ifne_f xc147_41 (by decide) (by decide) sy_refl) ?_
  refine sy_Fs (sy_ildn xc147_44 rfl rfl sy_refl) ?_
  refine sy_Fs (sy_bipush (v := 28) xc147_45 (by decide) (by decide) sy_refl) ?_
  refine sy_Fs (sx_iadd (z := 28) xc147_47 (by decide)) ?_
  refine sy_Fs (sy_ildn xc147_48 rfl rfl sy_refl) ?_
  refine sy_Fs (sy_icmpgt_f xc147_49 (by decide) (by decide) (by decide) sy_refl) ?_
  refine sy_Fs (sy_aldn xc147_52 rfl rfl sy_refl) ?_
  refine sy_Fs (sy_gf xc147_53 xf147_469 rfl (wh_at hw 0 rfl) rfl (fh_at hX0 17 rfl rfl) sy_refl) ?_
  refine sy_Fs (sy_ildn xc147_56 rfl rfl sy_refl) ?_
  refine sy_Fs (sy_iconst (v := 3) xc147_57 (by decide) sy_refl) ?_
  refine sy_Fs (sx_iadd (z := 3) xc147_58 (by decide)) ?_
  refine sy_Fs (sx_bal (z := 1) xc147_59 (wh_at hw 15 rfl) (by decide) (by decide) hb3) ?_
  refine sy_Fs (sy_iconst (v := 1) xc147_60 (by decide) sy_refl) ?_
  refine sy_Fs (sy_icmpne_f xc147_61 (by decide) (by decide) sy_refl) ?_
  refine sy_Fs (sy_aldn xc147_64 rfl rfl sy_refl) ?_
  refine sy_Fs (sy_gf xc147_65 xf147_469 rfl (wh_at hw 0 rfl) rfl (fh_at hX0 17 rfl rfl) sy_refl) ?_
  refine sy_Fs (sy_ildn xc147_68 rfl rfl sy_refl) ?_
  refine sy_Fs (sy_iconst (v := 4) xc147_69 (by decide) sy_refl) ?_
  refine sy_Fs (sx_iadd (z := 4) xc147_70 (by decide)) ?_
  refine sy_Fs (sy_callG (kd := 1) (as := [(2, pl 15, 0), (0, 4, 0)]) (S0 := []) (ret := [(0, (wo_4 Of), 0)]) xc147_71 (sy_calS (as := [(2, pl 15, 0), (0, 4, 0)]) (S0 := []) xm147_164 rfl rfl) rfl rfl rfl rfl (sy_oka (sy_oks_cons (sy_ok2 (wh_lt hw 15 (by first | decide | assumption))) (sy_oks_cons (sy_ok0 (by first | decide | assumption | omega | exact mo_rd_lt _ _ | exact mo_add_lt _ _ | exact mo_sub_lt _ _ | exact mo_mul_lt _ _ | exact mo_shl_lt _ _ | exact mo_ushr_lt _ _ | exact mo_or_lt (by decide) (mo_and_lt (mo_rd_lt _ _)) | exact mo_or_lt (mo_shl_lt _ _) (mo_and_lt (mo_rd_lt _ _)))) sy_oks_nil)) rfl xl108) (sy_Cw (wr_word (n := n) hw hX0)) (by decide) (by rw [xl108]; decide) sy_refl) ?_
  refine sy_Fs (sx_i2l xc147_74 (by first | decide | assumption | omega | exact mo_rd_lt _ _ | exact mo_add_lt _ _ | exact mo_sub_lt _ _ | exact mo_mul_lt _ _ | exact mo_shl_lt _ _ | exact mo_ushr_lt _ _ | exact mo_or_lt (by decide) (mo_and_lt (mo_rd_lt _ _)) | exact mo_or_lt (mo_shl_lt _ _) (mo_and_lt (mo_rd_lt _ _)))) ?_
  refine sy_Fs (sy_lconst xc147_75 sy_refl) ?_
  refine sy_Fs (sy_ldc2 (v := 1000000000) xc147_76 xk147_252 sy_refl) ?_
  refine sy_Fs (sy_callG (kd := 1) (as := [(1, (wo_4 Of), 0), (1, 1, 0), (1, 1000000000, 0)]) (S0 := []) (ret := [(0, 1, 0)]) xc147_79 (sy_calS (as := [(1, (wo_4 Of), 0), (1, 1, 0), (1, 1000000000, 0)]) (S0 := []) xm147_147 rfl rfl) rfl rfl rfl rfl (sy_oka (sy_oks_cons (sy_ok1 (by first | decide | assumption | omega | exact mo_rd_lt _ _ | exact mo_add_lt _ _ | exact mo_sub_lt _ _ | exact mo_mul_lt _ _ | exact mo_shl_lt _ _ | exact mo_ushr_lt _ _ | exact mo_or_lt (by decide) (mo_and_lt (mo_rd_lt _ _)) | exact mo_or_lt (mo_shl_lt _ _) (mo_and_lt (mo_rd_lt _ _)))) (sy_oks_cons (sy_ok1 (by first | decide | assumption | omega | exact mo_rd_lt _ _ | exact mo_add_lt _ _ | exact mo_sub_lt _ _ | exact mo_mul_lt _ _ | exact mo_shl_lt _ _ | exact mo_ushr_lt _ _ | exact mo_or_lt (by decide) (mo_and_lt (mo_rd_lt _ _)) | exact mo_or_lt (mo_shl_lt _ _) (mo_and_lt (mo_rd_lt _ _)))) (sy_oks_cons (sy_ok1 (by first | decide | assumption | omega | exact mo_rd_lt _ _ | exact mo_add_lt _ _ | exact mo_sub_lt _ _ | exact mo_mul_lt _ _ | exact mo_shl_lt _ _ | exact mo_ushr_lt _ _ | exact mo_or_lt (by decide) (mo_and_lt (mo_rd_lt _ _)) | exact mo_or_lt (mo_shl_lt _ _) (mo_and_lt (mo_rd_lt _ _)))) sy_oks_nil))) rfl xl98) (wr_in (n := n) (by first | decide | assumption | omega) (by first | decide | assumption | omega) (by first | decide | assumption | omega)) (by decide) (by rw [xl98]; decide) sy_refl) ?_
  refine sy_Fs (sy_ifeq_f xc147_82 (by decide) (by decide) (by decide) sy_refl) ?_
  refine sy_Fs (sy_bipush (v := 28) xc147_85 (by decide) (by decide) sy_refl) ?_
  refine sy_Fs (sy_goto (pc' := 91) xc147_87 (by decide) (by decide) sy_refl) ?_
  refine sy_Fs (sx_istn (j := 3) (ls' := [(2, pl 0, 0), (0, 28, 0), (0, 0, 0), (0, 28, 0), (0, 0, 0)]) xc147_91 rfl rfl (sy_ok0 (by first | decide | assumption | omega | exact mo_rd_lt _ _ | exact mo_add_lt _ _ | exact mo_sub_lt _ _ | exact mo_mul_lt _ _ | exact mo_shl_lt _ _ | exact mo_ushr_lt _ _ | exact mo_or_lt (by decide) (mo_and_lt (mo_rd_lt _ _)) | exact mo_or_lt (mo_shl_lt _ _) (mo_and_lt (mo_rd_lt _ _)))) (by rw [xl147]; rfl) rfl rfl) ?_
  refine sy_Fs (sy_ildn xc147_92 rfl rfl sy_refl) ?_
  refine sy_Fs (sx_ist (j := 4) (ls' := [(2, pl 0, 0), (0, 28, 0), (0, 0, 0), (0, 28, 0), (0, 28, 0)]) xc147_93 rfl (sy_ok0 (by first | decide | assumption | omega | exact mo_rd_lt _ _ | exact mo_add_lt _ _ | exact mo_sub_lt _ _ | exact mo_mul_lt _ _ | exact mo_shl_lt _ _ | exact mo_ushr_lt _ _ | exact mo_or_lt (by decide) (mo_and_lt (mo_rd_lt _ _)) | exact mo_or_lt (mo_shl_lt _ _) (mo_and_lt (mo_rd_lt _ _)))) (by rw [xl147]; rfl) rfl rfl) ?_
  refine sy_Fs (sy_ildn xc147_95 rfl rfl sy_refl) ?_
  refine sy_Fs (sy_ifeq_f xc147_96 (by decide) (by decide) (by decide) sy_refl) ?_
  refine sy_Fs (sy_ildn xc147_99 rfl rfl sy_refl) ?_
  refine sy_Fs (sy_ild xc147_100 rfl rfl sy_refl) ?_
  refine sy_Fs (sx_iadd (z := 28) xc147_102 (by decide)) ?_
  refine sy_Fs (sy_ildn xc147_103 rfl rfl sy_refl) ?_
  refine sy_Fs (sy_icmpgt_f xc147_104 (by decide) (by decide) (by decide) sy_refl) ?_
  refine sy_Fs (sy_aldn xc147_107 rfl rfl sy_refl) ?_
  refine sy_Fs (sy_gf xc147_108 xf147_681 rfl (wh_at hw 0 rfl) rfl (fh_at hX0 33 rfl rfl) sy_refl) ?_
  refine sy_Fs (sy_bipush (v := 70) xc147_111 (by decide) (by decide) sy_refl) ?_
  refine sy_Fs (sy_icmpne_t (pc' := 118) xc147_113 (by decide) (by decide) (by decide) (by decide) (by decide) sy_refl) ?_
  refine sy_Fs (sy_aldn xc147_118 rfl rfl sy_refl) ?_
  refine sy_Fs (sy_aldn xc147_119 rfl rfl sy_refl) ?_
  refine sy_Fs (sy_gf xc147_120 xf147_469 rfl (wh_at hw 0 rfl) rfl (fh_at hX0 17 rfl rfl) sy_refl) ?_
  refine sy_Fs (sy_ildn xc147_123 rfl rfl sy_refl) ?_
  refine sy_Fs (sy_ildn xc147_124 rfl rfl sy_refl) ?_
  refine sy_Fs (sy_aldn xc147_125 rfl rfl sy_refl) ?_
  refine sy_Fs (sy_gf xc147_126 xf147_472 rfl (wh_at hw 0 rfl) rfl (fh_at hX0 24 rfl rfl) sy_refl) ?_
  refine sy_Fs (sy_bipush (v := 32) xc147_129 (by decide) (by decide) sy_refl) ?_
  refine sy_Fs (sy_aldn xc147_131 rfl rfl sy_refl) ?_
  refine sy_Fs (sy_gf xc147_132 xf147_681 rfl (wh_at hw 0 rfl) rfl (fh_at hX0 33 rfl rfl) sy_refl) ?_
  refine sy_Fs (sx_imul (z := 0) xc147_135 (by decide)) ?_
  obtain ⟨w, X0, P1, W1, V1, S1, M1, T1, u1, l1, hC, hw1, hX1x, ⟨hu1, hl1⟩, hT1⟩ := wr_hash (n := n) (fa := 0) (at_ := 0) (nn := 28) (it := 22) (jf := 15) (f := f) hw rfl rfl rfl rfl rfl rfl rfl rfl rfl (by decide) (by decide) rfl (by decide) (by decide) hX0 rfl rfl rfl rfl rfl rfl rfl rfl rfl (by first | decide | assumption | omega) (by first | decide | assumption | omega) (by first | decide | assumption | omega) (by first | decide | assumption | omega) hA hf (by first | decide | assumption | omega)
  refine sy_Fs (sy_callG (kd := 3) (as := [(2, pl 0, 0), (2, pl 15, 0), (0, 0, 0), (0, 28, 0), (2, pl 22, 0), (0, 0, 0)]) (S0 := []) (ret := []) xc147_136 (sy_calV (as := [(2, pl 0, 0), (2, pl 15, 0), (0, 0, 0), (0, 28, 0), (2, pl 22, 0), (0, 0, 0)]) (S0 := []) xm147_156 rfl rfl) rfl rfl (sy_rcvm xi100 (wh_at hw 0 rfl)) rfl (sy_oka (sy_oks_cons (sy_ok2 (wh_lt hw 0 (by first | decide | assumption))) (sy_oks_cons (sy_ok2 (wh_lt hw 15 (by first | decide | assumption))) (sy_oks_cons (sy_ok0 (by first | decide | assumption | omega | exact mo_rd_lt _ _ | exact mo_add_lt _ _ | exact mo_sub_lt _ _ | exact mo_mul_lt _ _ | exact mo_shl_lt _ _ | exact mo_ushr_lt _ _ | exact mo_or_lt (by decide) (mo_and_lt (mo_rd_lt _ _)) | exact mo_or_lt (mo_shl_lt _ _) (mo_and_lt (mo_rd_lt _ _)))) (sy_oks_cons (sy_ok0 (by first | decide | assumption | omega | exact mo_rd_lt _ _ | exact mo_add_lt _ _ | exact mo_sub_lt _ _ | exact mo_mul_lt _ _ | exact mo_shl_lt _ _ | exact mo_ushr_lt _ _ | exact mo_or_lt (by decide) (mo_and_lt (mo_rd_lt _ _)) | exact mo_or_lt (mo_shl_lt _ _) (mo_and_lt (mo_rd_lt _ _)))) (sy_oks_cons (sy_ok2 (wh_lt hw 22 (by first | decide | assumption))) (sy_oks_cons (sy_ok0 (by first | decide | assumption | omega | exact mo_rd_lt _ _ | exact mo_add_lt _ _ | exact mo_sub_lt _ _ | exact mo_mul_lt _ _ | exact mo_shl_lt _ _ | exact mo_ushr_lt _ _ | exact mo_or_lt (by decide) (mo_and_lt (mo_rd_lt _ _)) | exact mo_or_lt (mo_shl_lt _ _) (mo_and_lt (mo_rd_lt _ _)))) sy_oks_nil)))))) rfl xl100) hC (by decide) (by rw [xl100]; decide) sy_refl) ?_
  replace hw := hw1
  replace hX0 := hX1x
  simp only [List.set_cons_zero, List.set_cons_succ] at hw hX0
  refine sy_Fs (sy_aldn xc147_139 rfl rfl sy_refl) ?_
  refine sy_Fs (sy_dup xc147_140 rfl sy_refl) ?_
  refine sy_Fs (sy_gf xc147_141 xf147_681 rfl (wh_at hw 0 rfl) rfl (fh_at hX0 33 rfl rfl) sy_refl) ?_
  refine sy_Fs (sy_iconst (v := 1) xc147_144 (by decide) sy_refl) ?_
  refine sy_Fs (sx_iadd (z := 1) xc147_145 (by decide)) ?_
  refine sy_Ff (i := 0) (q := 33) (v := (0, 1, 0)) hw hX0 (by decide) (by decide) rfl (sy_ok0 (by first | decide | assumption | omega | exact mo_rd_lt _ _ | exact mo_add_lt _ _ | exact mo_sub_lt _ _ | exact mo_mul_lt _ _ | exact mo_shl_lt _ _ | exact mo_ushr_lt _ _ | exact mo_or_lt (by decide) (mo_and_lt (mo_rd_lt _ _)) | exact mo_or_lt (mo_shl_lt _ _) (mo_and_lt (mo_rd_lt _ _)))) (sy_pfi xc147_146 xf147_681 rfl xt0_74 xn0_74 (wh_at hw 0 rfl) rfl (by first | decide | assumption | omega | exact mo_rd_lt _ _ | exact mo_add_lt _ _ | exact mo_sub_lt _ _ | exact mo_mul_lt _ _ | exact mo_shl_lt _ _ | exact mo_ushr_lt _ _ | exact mo_or_lt (by decide) (mo_and_lt (mo_rd_lt _ _)) | exact mo_or_lt (mo_shl_lt _ _) (mo_and_lt (mo_rd_lt _ _))) rfl sy_refl) ?_
  intro w X0 hw hX0
  simp only [List.set_cons_zero, List.set_cons_succ] at hw hX0
  refine sy_Fs (sy_ildn xc147_149 rfl rfl sy_refl) ?_
  refine sy_Fs (sy_ild xc147_150 rfl rfl sy_refl) ?_
  refine sy_Fs (sx_iadd (z := 28) xc147_152 (by decide)) ?_
  refine sy_Fs (sx_istn (j := 2) (ls' := [(2, pl 0, 0), (0, 28, 0), (0, 28, 0), (0, 28, 0), (0, 28, 0)]) xc147_153 rfl rfl (sy_ok0 (by first | decide | assumption | omega | exact mo_rd_lt _ _ | exact mo_add_lt _ _ | exact mo_sub_lt _ _ | exact mo_mul_lt _ _ | exact mo_shl_lt _ _ | exact mo_ushr_lt _ _ | exact mo_or_lt (by decide) (mo_and_lt (mo_rd_lt _ _)) | exact mo_or_lt (mo_shl_lt _ _) (mo_and_lt (mo_rd_lt _ _)))) (by rw [xl147]; rfl) rfl rfl) ?_
  refine sy_Fs (sy_goto (pc' := 7) xc147_154 (by decide) (by decide) sy_refl) ?_
  refine sy_Fs (sy_ildn xc147_7 rfl rfl sy_refl) ?_
  refine sy_Fs (sy_ildn xc147_8 rfl rfl sy_refl) ?_
  refine sy_Fs (sy_ge_t (pc' := 157) xc147_9 (by decide) (by decide) (by decide) (by decide) sy_refl) ?_
  refine sy_Fs (sy_aldn xc147_157 rfl rfl sy_refl) ?_
  refine sy_Fs (sy_gf xc147_158 xf147_681 rfl (wh_at hw 0 rfl) rfl (fh_at hX0 33 rfl rfl) sy_refl) ?_
  refine sy_Fs (sy_le_f xc147_161 (by decide) (by decide) (by decide) sy_refl) ?_
  refine sy_Fs (sy_iconst (v := 1) xc147_164 (by decide) sy_refl) ?_
  refine sy_Fs (sy_goto (pc' := 169) xc147_165 (by decide) (by decide) sy_refl) ?_
  exact sy_Fz xc147_169 xr147 (by first | decide | assumption | omega) ⟨rfl, T1, _, _, _, _, _, _, _, _, fun j hj => by rw [hT1 j, if_pos (by omega)]; rfl, hw, hX0⟩
theorem wr_root (hw : wh 29 pl w0 w [(0, 0, 107, X0), (1, 1, 64, Pc), (1, 0, 64, mc_K), (1, 0, 64, Wd), (1, 0, 8, Vv), (1, 0, 8, St), (1, 0, 8, Af), (1, 1, 32, Mi), (1, 1, 4200, Hd), (1, 1, 105, Gv), (1, 1, 32, Gi), (1, 1, 1920, Hi), (1, 1, 1280, Bi), (1, 1, 6300, Hb), (1, 1, 3200, Fl), (1, 1, 1900, Of), (1, 1, 32, Ou), (1, 0, 40, Fs), (1, 0, 40, Bs), (1, 2, 60, Hf), (1, 2, 60, Hh), (1, 1, 76000, Bb), (1, 1, 2304, Oi), (1, 1, 2400, Ly), (1, 0, 60, Hw), (1, 0, 60, He), (1, 0, 60, Ht), (1, 0, 60, Ca), (1, 0, 2, Lu)]) (hX0 : fh X0 jR [(0, th, 0), (2, pl 1, 0), (2, pl 2, 0), (2, pl 3, 0), (2, pl 4, 0), (2, pl 5, 0), (2, pl 6, 0), (2, pl 7, 0), (0, up, 0), (1, lp, 0), (2, pl 8, 0), (2, pl 9, 0), (2, pl 10, 0), (2, pl 11, 0), (2, pl 12, 0), (2, pl 13, 0), (2, pl 14, 0), (2, pl 15, 0), (2, pl 16, 0), (2, pl 17, 0), (2, pl 18, 0), (2, pl 19, 0), (2, pl 20, 0), (2, pl 21, 0), (2, pl 22, 0), (2, pl 23, 0), (2, pl 24, 0), (2, pl 25, 0), (2, pl 26, 0), (2, pl 27, 0), (2, pl 28, 0), (0, 1, 0), (0, 1, 0), (0, 1, 0), (0, co, 0), (0, so, 0), (0, ms, 0), (0, bh, 0), (0, 0, 0)])  : sy_D 149 n 1 25 [(2, pl 0, 0)] w (fun ret w' => ret = [] ∧ wh 29 pl w0 w' [(0, 0, 107, X0), (1, 1, 64, Pc), (1, 0, 64, mc_K), (1, 0, 64, Wd), (1, 0, 8, Vv), (1, 0, 8, St), (1, 0, 8, Af), (1, 1, 32, Mi), (1, 1, 4200, Hd), (1, 1, 105, Gv), (1, 1, 32, Gi), (1, 1, 1920, Hi), (1, 1, 1280, Bi), (1, 1, 6300, Hb), (1, 1, 3200, Fl), (1, 1, 1900, Of), (1, 1, 32, Ou), (1, 0, 40, Fs), (1, 0, 40, Bs), (1, 2, 60, Hf), (1, 2, 60, Hh), (1, 1, 76000, Bb), (1, 1, 2304, Oi), (1, 1, 2400, (mo_T Ly 0 Oi 0 32)), (1, 0, 60, Hw), (1, 0, 60, He), (1, 0, 60, Ht), (1, 0, 60, Ca), (1, 0, 2, Lu)]) := by
  refine sy_Dof (us := [(255, 0, 0), (255, 0, 0), (255, 0, 0)]) (sy_oks_cons (sy_ok2 (wh_lt hw 0 (by first | decide | assumption))) sy_oks_nil) rfl rfl ?_
  show sy_F 149 n 1 25 0 [(2, pl 0, 0), (255, 0, 0), (255, 0, 0), (255, 0, 0)] [] w _
  refine sy_Fs (sy_aldn xc149_0 rfl rfl sy_refl) ?_
  refine sy_Fs (sy_gf xc149_1 xf149_681 rfl (wh_at hw 0 rfl) rfl (fh_at hX0 33 rfl rfl) sy_refl) ?_
  refine sy_Fs (sx_istn (j := 1) (ls' := [(2, pl 0, 0), (0, 1, 0), (255, 0, 0), (255, 0, 0)]) xc149_4 rfl rfl (sy_ok0 (by first | decide | assumption | omega | exact mo_rd_lt _ _ | exact mo_add_lt _ _ | exact mo_sub_lt _ _ | exact mo_mul_lt _ _ | exact mo_shl_lt _ _ | exact mo_ushr_lt _ _ | exact mo_or_lt (by decide) (mo_and_lt (mo_rd_lt _ _)) | exact mo_or_lt (mo_shl_lt _ _) (mo_and_lt (mo_rd_lt _ _)))) (by rw [xl149]; rfl) rfl rfl) ?_
  refine sy_Fs (sy_aldn xc149_5 rfl rfl sy_refl) ?_
  refine sy_Fs (sy_gf xc149_6 xf149_472 rfl (wh_at hw 0 rfl) rfl (fh_at hX0 24 rfl rfl) sy_refl) ?_
  refine sy_Fs (sy_iconst (v := 0) xc149_9 (by decide) sy_refl) ?_
  refine sy_Fs (sy_aldn xc149_10 rfl rfl sy_refl) ?_
  refine sy_Fs (sy_gf xc149_11 xf149_436 rfl (wh_at hw 0 rfl) rfl (fh_at hX0 25 rfl rfl) sy_refl) ?_
  refine sy_Fs (sy_iconst (v := 0) xc149_14 (by decide) sy_refl) ?_
  refine sy_Fs (sy_bipush (v := 32) xc149_15 (by decide) (by decide) sy_refl) ?_
  refine sy_Fs (sy_ildn xc149_17 rfl rfl sy_refl) ?_
  refine sy_Fs (sx_imul (z := 32) xc149_18 (by decide)) ?_
  refine sy_Fw (i := 23) (x := (1, 1, 2400, (mo_T Ly 0 Oi 0 32))) hw (by decide) (sy_callG (kd := 1) (as := [(2, pl 22, 0), (0, 0, 0), (2, pl 23, 0), (0, 0, 0), (0, 32, 0)]) (S0 := []) (ret := []) xc149_19 (sy_calS (as := [(2, pl 22, 0), (0, 0, 0), (2, pl 23, 0), (0, 0, 0), (0, 32, 0)]) (S0 := []) xm149_184 rfl rfl) rfl rfl rfl rfl (sy_oka (sy_oks_cons (sy_ok2 (wh_lt hw 22 (by first | decide | assumption))) (sy_oks_cons (sy_ok0 (by first | decide | assumption | omega | exact mo_rd_lt _ _ | exact mo_add_lt _ _ | exact mo_sub_lt _ _ | exact mo_mul_lt _ _ | exact mo_shl_lt _ _ | exact mo_ushr_lt _ _ | exact mo_or_lt (by decide) (mo_and_lt (mo_rd_lt _ _)) | exact mo_or_lt (mo_shl_lt _ _) (mo_and_lt (mo_rd_lt _ _)))) (sy_oks_cons (sy_ok2 (wh_lt hw 23 (by first | decide | assumption))) (sy_oks_cons (sy_ok0 (by first | decide | assumption | omega | exact mo_rd_lt _ _ | exact mo_add_lt _ _ | exact mo_sub_lt _ _ | exact mo_mul_lt _ _ | exact mo_shl_lt _ _ | exact mo_ushr_lt _ _ | exact mo_or_lt (by decide) (mo_and_lt (mo_rd_lt _ _)) | exact mo_or_lt (mo_shl_lt _ _) (mo_and_lt (mo_rd_lt _ _)))) (sy_oks_cons (sy_ok0 (by first | decide | assumption | omega | exact mo_rd_lt _ _ | exact mo_add_lt _ _ | exact mo_sub_lt _ _ | exact mo_mul_lt _ _ | exact mo_shl_lt _ _ | exact mo_ushr_lt _ _ | exact mo_or_lt (by decide) (mo_and_lt (mo_rd_lt _ _)) | exact mo_or_lt (mo_shl_lt _ _) (mo_and_lt (mo_rd_lt _ _)))) sy_oks_nil))))) rfl xl110) (wr_move (wh_ne hw 22 23 (by decide) (by decide) (by decide)) (wh_lt hw 22 (by first | decide | assumption)) (wh_lt hw 23 (by first | decide | assumption)) (wh_at hw 22 rfl) (wh_at hw 23 rfl) (by first | decide | assumption | omega) (by first | decide | assumption | omega) (by first | decide | assumption | omega) (by first | decide | assumption | omega)) (by decide) (by rw [xl110]; decide) sy_refl) ?_
  intro w hw
  simp only [List.set_cons_zero, List.set_cons_succ] at hw
  refine sy_Fs (sy_ildn xc149_22 rfl rfl sy_refl) ?_
  refine sy_Fs (sy_iconst (v := 1) xc149_23 (by decide) sy_refl) ?_
  refine sy_Fs (sy_icmple_t (pc' := 119) xc149_24 (by decide) (by decide) (by decide) (by decide) sy_refl) ?_
  exact sy_Fv xc149_119 xr149 ⟨rfl, hw⟩
theorem bk_Dm (St m : Nat) : mn_b (bk_D St m) % 2 ^ 32 = bk_D St m := by
  unfold bk_D
  generalize mo_ushr (mv_rd 32 St (m / 4)) (24 - 8 * (m % 4)) = x
  unfold mn_b
  omega
theorem rg_blk (hw : wh 29 pl w0 w [(0, 0, 107, X0), (1, 1, 64, Pc), (1, 0, 64, mc_K), (1, 0, 64, Wd), (1, 0, 8, Vv), (1, 0, 8, St), (1, 0, 8, Af), (1, 1, 32, Mi), (1, 1, 4200, Hd), (1, 1, 105, Gv), (1, 1, 32, Gi), (1, 1, 1920, Hi), (1, 1, 1280, Bi), (1, 1, 6300, Hb), (1, 1, 3200, Fl), (1, 1, 1900, Of), (1, 1, 32, Ou), (1, 0, 40, Fs), (1, 0, 40, Bs), (1, 2, 60, Hf), (1, 2, 60, Hh), (1, 1, 76000, Bb), (1, 1, 2304, Oi), (1, 1, 2400, Ly), (1, 0, 60, Hw), (1, 0, 60, He), (1, 0, 60, Ht), (1, 0, 60, Ca), (1, 0, 2, Lu)]) (hX0 : fh X0 jR [(0, th, 0), (2, pl 1, 0), (2, pl 2, 0), (2, pl 3, 0), (2, pl 4, 0), (2, pl 5, 0), (2, pl 6, 0), (2, pl 7, 0), (0, up, 0), (1, lp, 0), (2, pl 8, 0), (2, pl 9, 0), (2, pl 10, 0), (2, pl 11, 0), (2, pl 12, 0), (2, pl 13, 0), (2, pl 14, 0), (2, pl 15, 0), (2, pl 16, 0), (2, pl 17, 0), (2, pl 18, 0), (2, pl 19, 0), (2, pl 20, 0), (2, pl 21, 0), (2, pl 22, 0), (2, pl 23, 0), (2, pl 24, 0), (2, pl 25, 0), (2, pl 26, 0), (2, pl 27, 0), (2, pl 28, 0), (0, 1, 0), (0, 1, 0), (0, oc, 0), (0, co, 0), (0, so, 0), (0, ms, 0), (0, bh, 0), (0, 0, 0)]) (hA : ∀ i, i < 8 → mv_rd 32 Af i = mv_rd 32 hs_S0 i) {place mask : Nat} {f : Nat → Nat} (hbs : mv_rd 32 Bs 0 = 28) (hp : place < 28) (hm1 : 0 < mask) (hm2 : mask ≤ 255) (hf : ∀ j, j < 28 → mv_rd 32 (rg_G (mo_T Of 0 Bb 0 28) place mask) (0 + j) = f j) (hb0 : mv_rd 32 (rg_G (mo_T Of 0 Bb 0 28) place mask) 0 = 0) (hb3 : mv_rd 32 (rg_G (mo_T Of 0 Bb 0 28) place mask) 3 = 1) (hv1 : 1 ≤ wo_4 (rg_G (mo_T Of 0 Bb 0 28) place mask)) (hv2 : wo_4 (rg_G (mo_T Of 0 Bb 0 28) place mask) ≤ 1000000000) : sy_D 146 n 6 146 [(2, pl 0, 0), (0, 0, 0), (0, 0, 0), (0, place, 0), (0, mask, 0)] w (fun ret w' => ∃ T : Nat, (∀ j, j < 32 → mv_rd 32 T j = bk_D (hs_2 f 28) j) ∧ ret = [(0, sb_n T 0 Hb 32 32, 0)] ∧ ∃ Y0 Y1 Y3 Y4 Y5 Y7 Yt Yu Yl Yo : Nat, wh 29 pl w0 w' [(0, 0, 107, Y0), (1, 1, 64, Y1), (1, 0, 64, mc_K), (1, 0, 64, Y3), (1, 0, 8, Y4), (1, 0, 8, Y5), (1, 0, 8, Af), (1, 1, 32, Y7), (1, 1, 4200, Hd), (1, 1, 105, Gv), (1, 1, 32, Gi), (1, 1, 1920, Hi), (1, 1, 1280, Bi), (1, 1, 6300, Hb), (1, 1, 3200, Fl), (1, 1, 1900, Yo), (1, 1, 32, Ou), (1, 0, 40, Fs), (1, 0, 40, Bs), (1, 2, 60, Hf), (1, 2, 60, Hh), (1, 1, 76000, Bb), (1, 1, 2304, Yt), (1, 1, 2400, T), (1, 0, 60, Hw), (1, 0, 60, He), (1, 0, 60, Ht), (1, 0, 60, Ca), (1, 0, 2, Lu)] ∧ fh Y0 jR [(0, th, 0), (2, pl 1, 0), (2, pl 2, 0), (2, pl 3, 0), (2, pl 4, 0), (2, pl 5, 0), (2, pl 6, 0), (2, pl 7, 0), (0, Yu, 0), (1, Yl, 0), (2, pl 8, 0), (2, pl 9, 0), (2, pl 10, 0), (2, pl 11, 0), (2, pl 12, 0), (2, pl 13, 0), (2, pl 14, 0), (2, pl 15, 0), (2, pl 16, 0), (2, pl 17, 0), (2, pl 18, 0), (2, pl 19, 0), (2, pl 20, 0), (2, pl 21, 0), (2, pl 22, 0), (2, pl 23, 0), (2, pl 24, 0), (2, pl 25, 0), (2, pl 26, 0), (2, pl 27, 0), (2, pl 28, 0), (0, 1, 0), (0, 1, 0), (0, 1, 0), (0, co, 0), (0, so, 0), (0, ms, 0), (0, bh, 0), (0, 0, 0)]) := by
  refine sy_Dof (us := [(255, 0, 0)]) (sy_oks_cons (sy_ok2 (wh_lt hw 0 (by first | decide | assumption))) (sy_oks_cons (sy_ok0 (by first | decide | assumption | omega | exact mo_rd_lt _ _ | exact mo_add_lt _ _ | exact mo_sub_lt _ _ | exact mo_mul_lt _ _ | exact mo_shl_lt _ _ | exact mo_ushr_lt _ _ | exact mo_or_lt (by decide) (mo_and_lt (mo_rd_lt _ _)) | exact mo_or_lt (mo_shl_lt _ _) (mo_and_lt (mo_rd_lt _ _)))) (sy_oks_cons (sy_ok0 (by first | decide | assumption | omega | exact mo_rd_lt _ _ | exact mo_add_lt _ _ | exact mo_sub_lt _ _ | exact mo_mul_lt _ _ | exact mo_shl_lt _ _ | exact mo_ushr_lt _ _ | exact mo_or_lt (by decide) (mo_and_lt (mo_rd_lt _ _)) | exact mo_or_lt (mo_shl_lt _ _) (mo_and_lt (mo_rd_lt _ _)))) (sy_oks_cons (sy_ok0 (by first | decide | assumption | omega | exact mo_rd_lt _ _ | exact mo_add_lt _ _ | exact mo_sub_lt _ _ | exact mo_mul_lt _ _ | exact mo_shl_lt _ _ | exact mo_ushr_lt _ _ | exact mo_or_lt (by decide) (mo_and_lt (mo_rd_lt _ _)) | exact mo_or_lt (mo_shl_lt _ _) (mo_and_lt (mo_rd_lt _ _)))) (sy_oks_cons (sy_ok0 (by first | decide | assumption | omega | exact mo_rd_lt _ _ | exact mo_add_lt _ _ | exact mo_sub_lt _ _ | exact mo_mul_lt _ _ | exact mo_shl_lt _ _ | exact mo_ushr_lt _ _ | exact mo_or_lt (by decide) (mo_and_lt (mo_rd_lt _ _)) | exact mo_or_lt (mo_shl_lt _ _) (mo_and_lt (mo_rd_lt _ _)))) sy_oks_nil))))) rfl rfl ?_
  show sy_F 146 n 6 146 0 [(2, pl 0, 0), (0, 0, 0), (0, 0, 0), (0, place, 0), (0, mask, 0), (255, 0, 0)] [] w _
  refine sy_Fs (sy_aldn xc146_0 rfl rfl sy_refl) ?_
  refine sy_Fs (sy_gf xc146_1 xf146_379 rfl (wh_at hw 0 rfl) rfl (fh_at hX0 20 rfl rfl) sy_refl) ?_
  refine sy_Fs (sy_ildn xc146_4 rfl rfl sy_refl) ?_
  refine sy_Fs (sx_ial (z := 28) xc146_5 (wh_at hw 18 rfl) (by decide) (by decide) hbs) ?_
  refine sy_Fs (sx_ist (j := 5) (ls' := [(2, pl 0, 0), (0, 0, 0), (0, 0, 0), (0, place, 0), (0, mask, 0), (0, 28, 0)]) xc146_6 rfl (sy_ok0 (by first | decide | assumption | omega | exact mo_rd_lt _ _ | exact mo_add_lt _ _ | exact mo_sub_lt _ _ | exact mo_mul_lt _ _ | exact mo_shl_lt _ _ | exact mo_ushr_lt _ _ | exact mo_or_lt (by decide) (mo_and_lt (mo_rd_lt _ _)) | exact mo_or_lt (mo_shl_lt _ _) (mo_and_lt (mo_rd_lt _ _)))) (by rw [xl146]; rfl) rfl rfl) ?_
  refine sy_Fs (sy_aldn xc146_8 rfl rfl sy_refl) ?_
  refine sy_Fs (sy_gf xc146_9 xf146_361 rfl (wh_at hw 0 rfl) rfl (fh_at hX0 23 rfl rfl) sy_refl) ?_
  refine sy_Fs (sy_sipush (v := 1900) xc146_12 (by decide) (by decide) sy_refl) ?_
  refine sy_Fs (sy_ildn xc146_15 rfl rfl sy_refl) ?_
  refine sy_Fs (sx_imul (z := 0) xc146_16 (by decide)) ?_
  refine sy_Fs (sy_aldn xc146_17 rfl rfl sy_refl) ?_
  refine sy_Fs (sy_gf xc146_18 xf146_469 rfl (wh_at hw 0 rfl) rfl (fh_at hX0 17 rfl rfl) sy_refl) ?_
  refine sy_Fs (sy_iconst (v := 0) xc146_21 (by decide) sy_refl) ?_
  refine sy_Fs (sy_ild xc146_22 rfl rfl sy_refl) ?_
  refine sy_Fw (i := 15) (x := (1, 1, 1900, (mo_T Of 0 Bb 0 28))) hw (by decide) (sy_callG (kd := 1) (as := [(2, pl 21, 0), (0, 0, 0), (2, pl 15, 0), (0, 0, 0), (0, 28, 0)]) (S0 := []) (ret := []) xc146_24 (sy_calS (as := [(2, pl 21, 0), (0, 0, 0), (2, pl 15, 0), (0, 0, 0), (0, 28, 0)]) (S0 := []) xm146_184 rfl rfl) rfl rfl rfl rfl (sy_oka (sy_oks_cons (sy_ok2 (wh_lt hw 21 (by first | decide | assumption))) (sy_oks_cons (sy_ok0 (by first | decide | assumption | omega | exact mo_rd_lt _ _ | exact mo_add_lt _ _ | exact mo_sub_lt _ _ | exact mo_mul_lt _ _ | exact mo_shl_lt _ _ | exact mo_ushr_lt _ _ | exact mo_or_lt (by decide) (mo_and_lt (mo_rd_lt _ _)) | exact mo_or_lt (mo_shl_lt _ _) (mo_and_lt (mo_rd_lt _ _)))) (sy_oks_cons (sy_ok2 (wh_lt hw 15 (by first | decide | assumption))) (sy_oks_cons (sy_ok0 (by first | decide | assumption | omega | exact mo_rd_lt _ _ | exact mo_add_lt _ _ | exact mo_sub_lt _ _ | exact mo_mul_lt _ _ | exact mo_shl_lt _ _ | exact mo_ushr_lt _ _ | exact mo_or_lt (by decide) (mo_and_lt (mo_rd_lt _ _)) | exact mo_or_lt (mo_shl_lt _ _) (mo_and_lt (mo_rd_lt _ _)))) (sy_oks_cons (sy_ok0 (by first | decide | assumption | omega | exact mo_rd_lt _ _ | exact mo_add_lt _ _ | exact mo_sub_lt _ _ | exact mo_mul_lt _ _ | exact mo_shl_lt _ _ | exact mo_ushr_lt _ _ | exact mo_or_lt (by decide) (mo_and_lt (mo_rd_lt _ _)) | exact mo_or_lt (mo_shl_lt _ _) (mo_and_lt (mo_rd_lt _ _)))) sy_oks_nil))))) rfl xl110) (wr_move (wh_ne hw 21 15 (by decide) (by decide) (by decide)) (wh_lt hw 21 (by first | decide | assumption)) (wh_lt hw 15 (by first | decide | assumption)) (wh_at hw 21 rfl) (wh_at hw 15 rfl) (by first | decide | assumption | omega) (by first | decide | assumption | omega) (by first | decide | assumption | omega) (by first | decide | assumption | omega)) (by decide) (by rw [xl110]; decide) sy_refl) ?_
  intro w hw
  simp only [List.set_cons_zero, List.set_cons_succ] at hw
  refine sy_Fs (sy_ild xc146_27 rfl rfl sy_refl) ?_
  refine sy_Fs (sy_le_f xc146_29 (by decide) hm1 (by omega) sy_refl) ?_
  refine sy_Fs (sy_aldn xc146_32 rfl rfl sy_refl) ?_
  refine sy_Fs (sy_gf xc146_33 xf146_469 rfl (wh_at hw 0 rfl) rfl (fh_at hX0 17 rfl rfl) sy_refl) ?_
  refine sy_Fs (sy_ildn xc146_36 rfl rfl sy_refl) ?_
  refine sy_Fs (sy_aldn xc146_37 rfl rfl sy_refl) ?_
  refine sy_Fs (sy_gf xc146_38 xf146_469 rfl (wh_at hw 0 rfl) rfl (fh_at hX0 17 rfl rfl) sy_refl) ?_
  refine sy_Fs (sy_ildn xc146_41 rfl rfl sy_refl) ?_
  refine sy_Fs (sx_bal (z := (mv_rd 32 (mo_T Of 0 Bb 0 28) place)) xc146_42 (wh_at hw 15 rfl) (by omega) (by decide) rfl) ?_
  refine sy_Fs (sy_ild xc146_43 rfl rfl sy_refl) ?_
  refine sy_Fs (sx_ixor (z := (mo_xor (mv_rd 32 (mo_T Of 0 Bb 0 28) place) mask)) xc146_45 rfl) ?_
  refine sy_Fs (sx_i2b (z := (mn_b (mo_xor (mv_rd 32 (mo_T Of 0 Bb 0 28) place) mask))) xc146_46 rfl) ?_
  refine sy_Fw (i := 15) (x := (1, 1, 1900, (rg_G (mo_T Of 0 Bb 0 28) place mask))) hw (by decide) (sy_bas (i := place) xc146_47 (wh_at hw 15 rfl) rfl (by omega) (by decide) rfl sy_refl) ?_
  intro w hw
  simp only [List.set_cons_zero, List.set_cons_succ] at hw
  refine sy_Fs (sy_aldn xc146_48 rfl rfl sy_refl) ?_
  refine sy_Fs (sy_ild xc146_49 rfl rfl sy_refl) ?_
  obtain ⟨ret, w, ⟨rfl, T, X0, Y1, Y3, Y4, Y5, Y7, Yu, Yl, hT, hw1, hX1x⟩, hC⟩ := wr_read (n := n) hw hX0 hA hf hb0 hb3 hv1 hv2
  refine sy_Fs (sy_callG (kd := 3) (as := [(2, pl 0, 0), (0, 28, 0)]) (S0 := []) (ret := [(0, 1, 0)]) xc146_51 (sy_calV (as := [(2, pl 0, 0), (0, 28, 0)]) (S0 := []) xm146_687 rfl rfl) rfl rfl (sy_rcvm xi147 (wh_at hw 0 rfl)) rfl (sy_oka (sy_oks_cons (sy_ok2 (wh_lt hw 0 (by first | decide | assumption))) (sy_oks_cons (sy_ok0 (by first | decide | assumption | omega | exact mo_rd_lt _ _ | exact mo_add_lt _ _ | exact mo_sub_lt _ _ | exact mo_mul_lt _ _ | exact mo_shl_lt _ _ | exact mo_ushr_lt _ _ | exact mo_or_lt (by decide) (mo_and_lt (mo_rd_lt _ _)) | exact mo_or_lt (mo_shl_lt _ _) (mo_and_lt (mo_rd_lt _ _)))) sy_oks_nil)) rfl xl147) hC (by decide) (by rw [xl147]; decide) sy_refl) ?_
  replace hw := hw1
  replace hX0 := hX1x
  refine sy_Fs (sy_ifne_t (pc' := 59) xc146_54 (by decide) (by decide) (by decide) (by decide) sy_refl) ?_
  refine sy_Fs (sy_aldn xc146_59 rfl rfl sy_refl) ?_
  obtain ⟨ret, w, ⟨rfl, hw1⟩, hC⟩ := wr_root (n := n) hw hX0
  refine sy_Fs (sy_callG (kd := 3) (as := [(2, pl 0, 0)]) (S0 := []) (ret := []) xc146_60 (sy_calV (as := [(2, pl 0, 0)]) (S0 := []) xm146_690 rfl rfl) rfl rfl (sy_rcvm xi149 (wh_at hw 0 rfl)) rfl (sy_oka (sy_oks_cons (sy_ok2 (wh_lt hw 0 (by first | decide | assumption))) sy_oks_nil) rfl xl149) hC (by decide) (by rw [xl149]; decide) sy_refl) ?_
  replace hw := hw1
  refine sy_Fs (sy_aldn xc146_63 rfl rfl sy_refl) ?_
  refine sy_Fs (sy_gf xc146_64 xf146_436 rfl (wh_at hw 0 rfl) rfl (fh_at hX0 25 rfl rfl) sy_refl) ?_
  refine sy_Fs (sy_iconst (v := 0) xc146_67 (by decide) sy_refl) ?_
  refine sy_Fs (sy_aldn xc146_68 rfl rfl sy_refl) ?_
  refine sy_Fs (sy_gf xc146_69 xf146_442 rfl (wh_at hw 0 rfl) rfl (fh_at hX0 15 rfl rfl) sy_refl) ?_
  refine sy_Fs (sy_bipush (v := 105) xc146_72 (by decide) (by decide) sy_refl) ?_
  refine sy_Fs (sy_ildn xc146_74 rfl rfl sy_refl) ?_
  refine sy_Fs (sx_imul (z := 0) xc146_75 (by decide)) ?_
  refine sy_Fs (sy_bipush (v := 32) xc146_76 (by decide) (by decide) sy_refl) ?_
  refine sy_Fs (sx_iadd (z := 32) xc146_78 (by decide)) ?_
  refine sy_Fs (sy_bipush (v := 32) xc146_79 (by decide) (by decide) sy_refl) ?_
  refine sy_Fs (sy_callG (kd := 1) (as := [(2, pl 23, 0), (0, 0, 0), (2, pl 13, 0), (0, 32, 0), (0, 32, 0)]) (S0 := []) (ret := [(0, (sb_n (mo_T Ly 0 T 0 32) 0 Hb 32 32), 0)]) xc146_81 (sy_calS (as := [(2, pl 23, 0), (0, 0, 0), (2, pl 13, 0), (0, 32, 0), (0, 32, 0)]) (S0 := []) xm146_266 rfl rfl) rfl rfl rfl rfl (sy_oka (sy_oks_cons (sy_ok2 (wh_lt hw 23 (by first | decide | assumption))) (sy_oks_cons (sy_ok0 (by first | decide | assumption | omega | exact mo_rd_lt _ _ | exact mo_add_lt _ _ | exact mo_sub_lt _ _ | exact mo_mul_lt _ _ | exact mo_shl_lt _ _ | exact mo_ushr_lt _ _ | exact mo_or_lt (by decide) (mo_and_lt (mo_rd_lt _ _)) | exact mo_or_lt (mo_shl_lt _ _) (mo_and_lt (mo_rd_lt _ _)))) (sy_oks_cons (sy_ok2 (wh_lt hw 13 (by first | decide | assumption))) (sy_oks_cons (sy_ok0 (by first | decide | assumption | omega | exact mo_rd_lt _ _ | exact mo_add_lt _ _ | exact mo_sub_lt _ _ | exact mo_mul_lt _ _ | exact mo_shl_lt _ _ | exact mo_ushr_lt _ _ | exact mo_or_lt (by decide) (mo_and_lt (mo_rd_lt _ _)) | exact mo_or_lt (mo_shl_lt _ _) (mo_and_lt (mo_rd_lt _ _)))) (sy_oks_cons (sy_ok0 (by first | decide | assumption | omega | exact mo_rd_lt _ _ | exact mo_add_lt _ _ | exact mo_sub_lt _ _ | exact mo_mul_lt _ _ | exact mo_shl_lt _ _ | exact mo_ushr_lt _ _ | exact mo_or_lt (by decide) (mo_and_lt (mo_rd_lt _ _)) | exact mo_or_lt (mo_shl_lt _ _) (mo_and_lt (mo_rd_lt _ _)))) sy_oks_nil))))) rfl xl113) (sbL_run (wh_lt hw 23 (by first | decide | assumption)) (wh_lt hw 13 (by first | decide | assumption)) (wh_at hw 23 rfl) (wh_at hw 13 rfl) (by first | decide | assumption | omega) (by first | decide | assumption | omega) (by first | decide | assumption | omega) (by first | decide | assumption | omega)) (by decide) (by rw [xl113]; decide) sy_refl) ?_
  refine sy_Fz xc146_84 xr146 (sb_n_lt _ _ _ _ _) ⟨mo_T Ly 0 T 0 32, fun j hj => ?_, rfl, X0, Y1, Y3, Y4, Y5, Y7, T, Yu, Yl, (rg_G (mo_T Of 0 Bb 0 28) place mask), hw, hX0⟩
  rw [mo_T_rd, if_pos (by omega), show 0 + (j - 0) = j by omega, hT j hj]
  exact bk_Dm _ _
theorem rg_filt (hw : wh 29 pl w0 w [(0, 0, 107, X0), (1, 1, 64, Pc), (1, 0, 64, mc_K), (1, 0, 64, Wd), (1, 0, 8, Vv), (1, 0, 8, St), (1, 0, 8, Af), (1, 1, 32, Mi), (1, 1, 4200, Hd), (1, 1, 105, Gv), (1, 1, 32, Gi), (1, 1, 1920, Hi), (1, 1, 1280, Bi), (1, 1, 6300, Hb), (1, 1, 3200, Fl), (1, 1, 1900, Of), (1, 1, 32, Ou), (1, 0, 40, Fs), (1, 0, 40, Bs), (1, 2, 60, Hf), (1, 2, 60, Hh), (1, 1, 76000, Bb), (1, 1, 2304, Oi), (1, 1, 2400, Ly), (1, 0, 60, Hw), (1, 0, 60, He), (1, 0, 60, Ht), (1, 0, 60, Ca), (1, 0, 2, Lu)]) (hX0 : fh X0 jR [(0, th, 0), (2, pl 1, 0), (2, pl 2, 0), (2, pl 3, 0), (2, pl 4, 0), (2, pl 5, 0), (2, pl 6, 0), (2, pl 7, 0), (0, up, 0), (1, lp, 0), (2, pl 8, 0), (2, pl 9, 0), (2, pl 10, 0), (2, pl 11, 0), (2, pl 12, 0), (2, pl 13, 0), (2, pl 14, 0), (2, pl 15, 0), (2, pl 16, 0), (2, pl 17, 0), (2, pl 18, 0), (2, pl 19, 0), (2, pl 20, 0), (2, pl 21, 0), (2, pl 22, 0), (2, pl 23, 0), (2, pl 24, 0), (2, pl 25, 0), (2, pl 26, 0), (2, pl 27, 0), (2, pl 28, 0), (0, 1, 0), (0, 1, 0), (0, oc, 0), (0, co, 0), (0, so, 0), (0, ms, 0), (0, bh, 0), (0, 0, 0)]) (hA : ∀ i, i < 8 → mv_rd 32 Af i = mv_rd 32 hs_S0 i) {place mask : Nat} {f : Nat → Nat} (hfs : mv_rd 32 Fs 0 = 2) (hp : place < 2) (hm1 : 0 < mask) (hm2 : mask ≤ 255) (hf : ∀ j, j < 2 → mv_rd 32 (rg_G (mo_T Of 0 Fl 0 2) place mask) (0 + j) = f j) : sy_D 145 n 5 122 [(2, pl 0, 0), (0, 0, 0), (0, 0, 0), (0, place, 0), (0, mask, 0)] w (fun ret w' => ∃ T : Nat, (∀ j, j < 32 → mv_rd 32 T j = bk_D (hs_2 f 2) j) ∧ ret = [(0, sb_n T 0 Hb 64 32, 0)] ∧ ∃ Y0 P1 W1 V1 S1 M1 u1 l1 Yo : Nat, wh 29 pl w0 w' [(0, 0, 107, Y0), (1, 1, 64, P1), (1, 0, 64, mc_K), (1, 0, 64, W1), (1, 0, 8, V1), (1, 0, 8, S1), (1, 0, 8, Af), (1, 1, 32, M1), (1, 1, 4200, Hd), (1, 1, 105, Gv), (1, 1, 32, Gi), (1, 1, 1920, Hi), (1, 1, 1280, Bi), (1, 1, 6300, Hb), (1, 1, 3200, Fl), (1, 1, 1900, Yo), (1, 1, 32, T), (1, 0, 40, Fs), (1, 0, 40, Bs), (1, 2, 60, Hf), (1, 2, 60, Hh), (1, 1, 76000, Bb), (1, 1, 2304, Oi), (1, 1, 2400, Ly), (1, 0, 60, Hw), (1, 0, 60, He), (1, 0, 60, Ht), (1, 0, 60, Ca), (1, 0, 2, Lu)] ∧ fh Y0 jR [(0, th, 0), (2, pl 1, 0), (2, pl 2, 0), (2, pl 3, 0), (2, pl 4, 0), (2, pl 5, 0), (2, pl 6, 0), (2, pl 7, 0), (0, u1, 0), (1, l1, 0), (2, pl 8, 0), (2, pl 9, 0), (2, pl 10, 0), (2, pl 11, 0), (2, pl 12, 0), (2, pl 13, 0), (2, pl 14, 0), (2, pl 15, 0), (2, pl 16, 0), (2, pl 17, 0), (2, pl 18, 0), (2, pl 19, 0), (2, pl 20, 0), (2, pl 21, 0), (2, pl 22, 0), (2, pl 23, 0), (2, pl 24, 0), (2, pl 25, 0), (2, pl 26, 0), (2, pl 27, 0), (2, pl 28, 0), (0, 1, 0), (0, 1, 0), (0, oc, 0), (0, co, 0), (0, so, 0), (0, ms, 0), (0, bh, 0), (0, 0, 0)]) := by
  refine sy_Dof (us := [(255, 0, 0)]) (sy_oks_cons (sy_ok2 (wh_lt hw 0 (by first | decide | assumption))) (sy_oks_cons (sy_ok0 (by first | decide | assumption | omega | exact mo_rd_lt _ _ | exact mo_add_lt _ _ | exact mo_sub_lt _ _ | exact mo_mul_lt _ _ | exact mo_shl_lt _ _ | exact mo_ushr_lt _ _ | exact mo_or_lt (by decide) (mo_and_lt (mo_rd_lt _ _)) | exact mo_or_lt (mo_shl_lt _ _) (mo_and_lt (mo_rd_lt _ _)))) (sy_oks_cons (sy_ok0 (by first | decide | assumption | omega | exact mo_rd_lt _ _ | exact mo_add_lt _ _ | exact mo_sub_lt _ _ | exact mo_mul_lt _ _ | exact mo_shl_lt _ _ | exact mo_ushr_lt _ _ | exact mo_or_lt (by decide) (mo_and_lt (mo_rd_lt _ _)) | exact mo_or_lt (mo_shl_lt _ _) (mo_and_lt (mo_rd_lt _ _)))) (sy_oks_cons (sy_ok0 (by first | decide | assumption | omega | exact mo_rd_lt _ _ | exact mo_add_lt _ _ | exact mo_sub_lt _ _ | exact mo_mul_lt _ _ | exact mo_shl_lt _ _ | exact mo_ushr_lt _ _ | exact mo_or_lt (by decide) (mo_and_lt (mo_rd_lt _ _)) | exact mo_or_lt (mo_shl_lt _ _) (mo_and_lt (mo_rd_lt _ _)))) (sy_oks_cons (sy_ok0 (by first | decide | assumption | omega | exact mo_rd_lt _ _ | exact mo_add_lt _ _ | exact mo_sub_lt _ _ | exact mo_mul_lt _ _ | exact mo_shl_lt _ _ | exact mo_ushr_lt _ _ | exact mo_or_lt (by decide) (mo_and_lt (mo_rd_lt _ _)) | exact mo_or_lt (mo_shl_lt _ _) (mo_and_lt (mo_rd_lt _ _)))) sy_oks_nil))))) rfl rfl ?_
  show sy_F 145 n 5 122 0 [(2, pl 0, 0), (0, 0, 0), (0, 0, 0), (0, place, 0), (0, mask, 0), (255, 0, 0)] [] w _
  refine sy_Fs (sy_aldn xc145_0 rfl rfl sy_refl) ?_
  refine sy_Fs (sy_gf xc145_1 xf145_409 rfl (wh_at hw 0 rfl) rfl (fh_at hX0 19 rfl rfl) sy_refl) ?_
  refine sy_Fs (sy_ildn xc145_4 rfl rfl sy_refl) ?_
  refine sy_Fs (sx_ial (z := 2) xc145_5 (wh_at hw 17 rfl) (by decide) (by decide) hfs) ?_
  refine sy_Fs (sx_ist (j := 5) (ls' := [(2, pl 0, 0), (0, 0, 0), (0, 0, 0), (0, place, 0), (0, mask, 0), (0, 2, 0)]) xc145_6 rfl (sy_ok0 (by first | decide | assumption | omega | exact mo_rd_lt _ _ | exact mo_add_lt _ _ | exact mo_sub_lt _ _ | exact mo_mul_lt _ _ | exact mo_shl_lt _ _ | exact mo_ushr_lt _ _ | exact mo_or_lt (by decide) (mo_and_lt (mo_rd_lt _ _)) | exact mo_or_lt (mo_shl_lt _ _) (mo_and_lt (mo_rd_lt _ _)))) (by rw [xl145]; rfl) rfl rfl) ?_
  refine sy_Fs (sy_aldn xc145_8 rfl rfl sy_refl) ?_
  refine sy_Fs (sy_gf xc145_9 xf145_406 rfl (wh_at hw 0 rfl) rfl (fh_at hX0 16 rfl rfl) sy_refl) ?_
  refine sy_Fs (sy_bipush (v := 80) xc145_12 (by decide) (by decide) sy_refl) ?_
  refine sy_Fs (sy_ildn xc145_14 rfl rfl sy_refl) ?_
  refine sy_Fs (sx_imul (z := 0) xc145_15 (by decide)) ?_
  refine sy_Fs (sy_aldn xc145_16 rfl rfl sy_refl) ?_
  refine sy_Fs (sy_gf xc145_17 xf145_469 rfl (wh_at hw 0 rfl) rfl (fh_at hX0 17 rfl rfl) sy_refl) ?_
  refine sy_Fs (sy_iconst (v := 0) xc145_20 (by decide) sy_refl) ?_
  refine sy_Fs (sy_ild xc145_21 rfl rfl sy_refl) ?_
  refine sy_Fw (i := 15) (x := (1, 1, 1900, (mo_T Of 0 Fl 0 2))) hw (by decide) (sy_callG (kd := 1) (as := [(2, pl 14, 0), (0, 0, 0), (2, pl 15, 0), (0, 0, 0), (0, 2, 0)]) (S0 := []) (ret := []) xc145_23 (sy_calS (as := [(2, pl 14, 0), (0, 0, 0), (2, pl 15, 0), (0, 0, 0), (0, 2, 0)]) (S0 := []) xm145_184 rfl rfl) rfl rfl rfl rfl (sy_oka (sy_oks_cons (sy_ok2 (wh_lt hw 14 (by first | decide | assumption))) (sy_oks_cons (sy_ok0 (by first | decide | assumption | omega | exact mo_rd_lt _ _ | exact mo_add_lt _ _ | exact mo_sub_lt _ _ | exact mo_mul_lt _ _ | exact mo_shl_lt _ _ | exact mo_ushr_lt _ _ | exact mo_or_lt (by decide) (mo_and_lt (mo_rd_lt _ _)) | exact mo_or_lt (mo_shl_lt _ _) (mo_and_lt (mo_rd_lt _ _)))) (sy_oks_cons (sy_ok2 (wh_lt hw 15 (by first | decide | assumption))) (sy_oks_cons (sy_ok0 (by first | decide | assumption | omega | exact mo_rd_lt _ _ | exact mo_add_lt _ _ | exact mo_sub_lt _ _ | exact mo_mul_lt _ _ | exact mo_shl_lt _ _ | exact mo_ushr_lt _ _ | exact mo_or_lt (by decide) (mo_and_lt (mo_rd_lt _ _)) | exact mo_or_lt (mo_shl_lt _ _) (mo_and_lt (mo_rd_lt _ _)))) (sy_oks_cons (sy_ok0 (by first | decide | assumption | omega | exact mo_rd_lt _ _ | exact mo_add_lt _ _ | exact mo_sub_lt _ _ | exact mo_mul_lt _ _ | exact mo_shl_lt _ _ | exact mo_ushr_lt _ _ | exact mo_or_lt (by decide) (mo_and_lt (mo_rd_lt _ _)) | exact mo_or_lt (mo_shl_lt _ _) (mo_and_lt (mo_rd_lt _ _)))) sy_oks_nil))))) rfl xl110) (wr_move (wh_ne hw 14 15 (by decide) (by decide) (by decide)) (wh_lt hw 14 (by first | decide | assumption)) (wh_lt hw 15 (by first | decide | assumption)) (wh_at hw 14 rfl) (wh_at hw 15 rfl) (by first | decide | assumption | omega) (by first | decide | assumption | omega) (by first | decide | assumption | omega) (by first | decide | assumption | omega)) (by decide) (by rw [xl110]; decide) sy_refl) ?_
  intro w hw
  simp only [List.set_cons_zero, List.set_cons_succ] at hw
  refine sy_Fs (sy_ild xc145_26 rfl rfl sy_refl) ?_
  refine sy_Fs (sy_le_f xc145_28 (by decide) hm1 (by omega) sy_refl) ?_
  refine sy_Fs (sy_aldn xc145_31 rfl rfl sy_refl) ?_
  refine sy_Fs (sy_gf xc145_32 xf145_469 rfl (wh_at hw 0 rfl) rfl (fh_at hX0 17 rfl rfl) sy_refl) ?_
  refine sy_Fs (sy_ildn xc145_35 rfl rfl sy_refl) ?_
  refine sy_Fs (sy_aldn xc145_36 rfl rfl sy_refl) ?_
  refine sy_Fs (sy_gf xc145_37 xf145_469 rfl (wh_at hw 0 rfl) rfl (fh_at hX0 17 rfl rfl) sy_refl) ?_
  refine sy_Fs (sy_ildn xc145_40 rfl rfl sy_refl) ?_
  refine sy_Fs (sx_bal (z := (mv_rd 32 (mo_T Of 0 Fl 0 2) place)) xc145_41 (wh_at hw 15 rfl) (by omega) (by decide) rfl) ?_
  refine sy_Fs (sy_ild xc145_42 rfl rfl sy_refl) ?_
  refine sy_Fs (sx_ixor (z := (mo_xor (mv_rd 32 (mo_T Of 0 Fl 0 2) place) mask)) xc145_44 rfl) ?_
  refine sy_Fs (sx_i2b (z := (mn_b (mo_xor (mv_rd 32 (mo_T Of 0 Fl 0 2) place) mask))) xc145_45 rfl) ?_
  refine sy_Fw (i := 15) (x := (1, 1, 1900, (rg_G (mo_T Of 0 Fl 0 2) place mask))) hw (by decide) (sy_bas (i := place) xc145_46 (wh_at hw 15 rfl) rfl (by omega) (by decide) rfl sy_refl) ?_
  intro w hw
  simp only [List.set_cons_zero, List.set_cons_succ] at hw
  refine sy_Fs (sy_aldn xc145_47 rfl rfl sy_refl) ?_
  refine sy_Fs (sy_aldn xc145_48 rfl rfl sy_refl) ?_
  refine sy_Fs (sy_gf xc145_49 xf145_469 rfl (wh_at hw 0 rfl) rfl (fh_at hX0 17 rfl rfl) sy_refl) ?_
  refine sy_Fs (sy_iconst (v := 0) xc145_52 (by decide) sy_refl) ?_
  refine sy_Fs (sy_ild xc145_53 rfl rfl sy_refl) ?_
  refine sy_Fs (sy_aldn xc145_55 rfl rfl sy_refl) ?_
  refine sy_Fs (sy_gf xc145_56 xf145_153 rfl (wh_at hw 0 rfl) rfl (fh_at hX0 18 rfl rfl) sy_refl) ?_
  refine sy_Fs (sy_iconst (v := 0) xc145_59 (by decide) sy_refl) ?_
  obtain ⟨w, X0, P1, W1, V1, S1, M1, T1, u1, l1, hC, hw1, hX1x, ⟨hu1, hl1⟩, hT1⟩ := wr_hash (n := n) (fa := 0) (at_ := 0) (nn := 2) (it := 16) (jf := 15) (f := f) hw rfl rfl rfl rfl rfl rfl rfl rfl rfl (by decide) (by decide) rfl (by decide) (by decide) hX0 rfl rfl rfl rfl rfl rfl rfl rfl rfl (by first | decide | assumption | omega) (by first | decide | assumption | omega) (by first | decide | assumption | omega) (by first | decide | assumption | omega) hA hf (by first | decide | assumption | omega)
  refine sy_Fs (sy_callG (kd := 3) (as := [(2, pl 0, 0), (2, pl 15, 0), (0, 0, 0), (0, 2, 0), (2, pl 16, 0), (0, 0, 0)]) (S0 := []) (ret := []) xc145_60 (sy_calV (as := [(2, pl 0, 0), (2, pl 15, 0), (0, 0, 0), (0, 2, 0), (2, pl 16, 0), (0, 0, 0)]) (S0 := []) xm145_156 rfl rfl) rfl rfl (sy_rcvm xi100 (wh_at hw 0 rfl)) rfl (sy_oka (sy_oks_cons (sy_ok2 (wh_lt hw 0 (by first | decide | assumption))) (sy_oks_cons (sy_ok2 (wh_lt hw 15 (by first | decide | assumption))) (sy_oks_cons (sy_ok0 (by first | decide | assumption | omega | exact mo_rd_lt _ _ | exact mo_add_lt _ _ | exact mo_sub_lt _ _ | exact mo_mul_lt _ _ | exact mo_shl_lt _ _ | exact mo_ushr_lt _ _ | exact mo_or_lt (by decide) (mo_and_lt (mo_rd_lt _ _)) | exact mo_or_lt (mo_shl_lt _ _) (mo_and_lt (mo_rd_lt _ _)))) (sy_oks_cons (sy_ok0 (by first | decide | assumption | omega | exact mo_rd_lt _ _ | exact mo_add_lt _ _ | exact mo_sub_lt _ _ | exact mo_mul_lt _ _ | exact mo_shl_lt _ _ | exact mo_ushr_lt _ _ | exact mo_or_lt (by decide) (mo_and_lt (mo_rd_lt _ _)) | exact mo_or_lt (mo_shl_lt _ _) (mo_and_lt (mo_rd_lt _ _)))) (sy_oks_cons (sy_ok2 (wh_lt hw 16 (by first | decide | assumption))) (sy_oks_cons (sy_ok0 (by first | decide | assumption | omega | exact mo_rd_lt _ _ | exact mo_add_lt _ _ | exact mo_sub_lt _ _ | exact mo_mul_lt _ _ | exact mo_shl_lt _ _ | exact mo_ushr_lt _ _ | exact mo_or_lt (by decide) (mo_and_lt (mo_rd_lt _ _)) | exact mo_or_lt (mo_shl_lt _ _) (mo_and_lt (mo_rd_lt _ _)))) sy_oks_nil)))))) rfl xl100) hC (by decide) (by rw [xl100]; decide) sy_refl) ?_
  replace hw := hw1
  replace hX0 := hX1x
  simp only [List.set_cons_zero, List.set_cons_succ] at hw hX0
  refine sy_Fs (sy_aldn xc145_63 rfl rfl sy_refl) ?_
  refine sy_Fs (sy_gf xc145_64 xf145_153 rfl (wh_at hw 0 rfl) rfl (fh_at hX0 18 rfl rfl) sy_refl) ?_
  refine sy_Fs (sy_iconst (v := 0) xc145_67 (by decide) sy_refl) ?_
  refine sy_Fs (sy_aldn xc145_68 rfl rfl sy_refl) ?_
  refine sy_Fs (sy_gf xc145_69 xf145_442 rfl (wh_at hw 0 rfl) rfl (fh_at hX0 15 rfl rfl) sy_refl) ?_
  refine sy_Fs (sy_bipush (v := 105) xc145_72 (by decide) (by decide) sy_refl) ?_
  refine sy_Fs (sy_ildn xc145_74 rfl rfl sy_refl) ?_
  refine sy_Fs (sx_imul (z := 0) xc145_75 (by decide)) ?_
  refine sy_Fs (sy_bipush (v := 64) xc145_76 (by decide) (by decide) sy_refl) ?_
  refine sy_Fs (sx_iadd (z := 64) xc145_78 (by decide)) ?_
  refine sy_Fs (sy_bipush (v := 32) xc145_79 (by decide) (by decide) sy_refl) ?_
  refine sy_Fs (sy_callG (kd := 1) (as := [(2, pl 16, 0), (0, 0, 0), (2, pl 13, 0), (0, 64, 0), (0, 32, 0)]) (S0 := []) (ret := [(0, (sb_n T1 0 Hb 64 32), 0)]) xc145_81 (sy_calS (as := [(2, pl 16, 0), (0, 0, 0), (2, pl 13, 0), (0, 64, 0), (0, 32, 0)]) (S0 := []) xm145_266 rfl rfl) rfl rfl rfl rfl (sy_oka (sy_oks_cons (sy_ok2 (wh_lt hw 16 (by first | decide | assumption))) (sy_oks_cons (sy_ok0 (by first | decide | assumption | omega | exact mo_rd_lt _ _ | exact mo_add_lt _ _ | exact mo_sub_lt _ _ | exact mo_mul_lt _ _ | exact mo_shl_lt _ _ | exact mo_ushr_lt _ _ | exact mo_or_lt (by decide) (mo_and_lt (mo_rd_lt _ _)) | exact mo_or_lt (mo_shl_lt _ _) (mo_and_lt (mo_rd_lt _ _)))) (sy_oks_cons (sy_ok2 (wh_lt hw 13 (by first | decide | assumption))) (sy_oks_cons (sy_ok0 (by first | decide | assumption | omega | exact mo_rd_lt _ _ | exact mo_add_lt _ _ | exact mo_sub_lt _ _ | exact mo_mul_lt _ _ | exact mo_shl_lt _ _ | exact mo_ushr_lt _ _ | exact mo_or_lt (by decide) (mo_and_lt (mo_rd_lt _ _)) | exact mo_or_lt (mo_shl_lt _ _) (mo_and_lt (mo_rd_lt _ _)))) (sy_oks_cons (sy_ok0 (by first | decide | assumption | omega | exact mo_rd_lt _ _ | exact mo_add_lt _ _ | exact mo_sub_lt _ _ | exact mo_mul_lt _ _ | exact mo_shl_lt _ _ | exact mo_ushr_lt _ _ | exact mo_or_lt (by decide) (mo_and_lt (mo_rd_lt _ _)) | exact mo_or_lt (mo_shl_lt _ _) (mo_and_lt (mo_rd_lt _ _)))) sy_oks_nil))))) rfl xl113) (sbL_run (wh_lt hw 16 (by first | decide | assumption)) (wh_lt hw 13 (by first | decide | assumption)) (wh_at hw 16 rfl) (wh_at hw 13 rfl) (by first | decide | assumption | omega) (by first | decide | assumption | omega) (by first | decide | assumption | omega) (by first | decide | assumption | omega)) (by decide) (by rw [xl113]; decide) sy_refl) ?_
  exact sy_Fz xc145_84 xr145 (sb_n_lt _ _ _ _ _) ⟨T1, fun j hj => by rw [hT1 j, if_pos (by omega)]; rfl, rfl, X0, P1, W1, V1, S1, M1, u1, l1, (rg_G (mo_T Of 0 Fl 0 2) place mask), hw, hX0⟩
theorem wr_scan (hw : wh 29 pl w0 w [(0, 0, 107, X0), (1, 1, 64, Pc), (1, 0, 64, mc_K), (1, 0, 64, Wd), (1, 0, 8, Vv), (1, 0, 8, St), (1, 0, 8, Af), (1, 1, 32, Mi), (1, 1, 4200, Hd), (1, 1, 105, Gv), (1, 1, 32, Gi), (1, 1, 1920, Hi), (1, 1, 1280, Bi), (1, 1, 6300, Hb), (1, 1, 3200, Fl), (1, 1, 1900, Of), (1, 1, 32, Ou), (1, 0, 40, Fs), (1, 0, 40, Bs), (1, 2, 60, Hf), (1, 2, 60, Hh), (1, 1, 76000, Bb), (1, 1, 2304, Oi), (1, 1, 2400, Ly), (1, 0, 60, Hw), (1, 0, 60, He), (1, 0, 60, Ht), (1, 0, 60, Ca), (1, 0, 2, Lu)]) (hX0 : fh X0 jR [(0, th, 0), (2, pl 1, 0), (2, pl 2, 0), (2, pl 3, 0), (2, pl 4, 0), (2, pl 5, 0), (2, pl 6, 0), (2, pl 7, 0), (0, up, 0), (1, lp, 0), (2, pl 8, 0), (2, pl 9, 0), (2, pl 10, 0), (2, pl 11, 0), (2, pl 12, 0), (2, pl 13, 0), (2, pl 14, 0), (2, pl 15, 0), (2, pl 16, 0), (2, pl 17, 0), (2, pl 18, 0), (2, pl 19, 0), (2, pl 20, 0), (2, pl 21, 0), (2, pl 22, 0), (2, pl 23, 0), (2, pl 24, 0), (2, pl 25, 0), (2, pl 26, 0), (2, pl 27, 0), (2, pl 28, 0), (0, 1, 0), (0, 1, 0), (0, oc, 0), (0, co, 0), (0, so, 0), (0, ms, 0), (0, bh, 0), (0, 0, 0)]) (hht : mv_rd 32 Ht 0 = 0) (hhe : mv_rd 32 He 0 = 4294967294) : sy_D 111 n 0 0 [(2, pl 0, 0)] w (fun ret _ => ret = []) := by
  refine sy_Dof (us := [(255, 0, 0), (255, 0, 0), (255, 0, 0), (255, 0, 0), (255, 0, 0)]) (sy_oks_cons (sy_ok2 (wh_lt hw 0 (by first | decide | assumption))) sy_oks_nil) rfl rfl ?_
  show sy_F 111 n 0 0 0 [(2, pl 0, 0), (255, 0, 0), (255, 0, 0), (255, 0, 0), (255, 0, 0), (255, 0, 0)] [] w _
  refine sy_Fs (sy_aldn xc111_0 rfl rfl sy_refl) ?_
  refine sy_Fs (sy_iconst (v := 0) xc111_1 (by decide) sy_refl) ?_
  refine sy_Ff (i := 0) (q := 37) (v := (0, 0, 0)) hw hX0 (by decide) (by decide) rfl (sy_ok0 (by first | decide | assumption | omega | exact mo_rd_lt _ _ | exact mo_add_lt _ _ | exact mo_sub_lt _ _ | exact mo_mul_lt _ _ | exact mo_shl_lt _ _ | exact mo_ushr_lt _ _ | exact mo_or_lt (by decide) (mo_and_lt (mo_rd_lt _ _)) | exact mo_or_lt (mo_shl_lt _ _) (mo_and_lt (mo_rd_lt _ _)))) (sy_pfi xc111_2 xf111_728 rfl xt0_86 xn0_86 (wh_at hw 0 rfl) rfl (by first | decide | assumption | omega | exact mo_rd_lt _ _ | exact mo_add_lt _ _ | exact mo_sub_lt _ _ | exact mo_mul_lt _ _ | exact mo_shl_lt _ _ | exact mo_ushr_lt _ _ | exact mo_or_lt (by decide) (mo_and_lt (mo_rd_lt _ _)) | exact mo_or_lt (mo_shl_lt _ _) (mo_and_lt (mo_rd_lt _ _))) rfl sy_refl) ?_
  intro w X0 hw hX0
  simp only [List.set_cons_zero, List.set_cons_succ] at hw hX0
  refine sy_Fs (sy_iconst (v := 1) xc111_5 (by decide) sy_refl) ?_
  refine sy_Fs (sx_istn (j := 1) (ls' := [(2, pl 0, 0), (0, 1, 0), (255, 0, 0), (255, 0, 0), (255, 0, 0), (255, 0, 0)]) xc111_6 rfl rfl (sy_ok0 (by first | decide | assumption | omega | exact mo_rd_lt _ _ | exact mo_add_lt _ _ | exact mo_sub_lt _ _ | exact mo_mul_lt _ _ | exact mo_shl_lt _ _ | exact mo_ushr_lt _ _ | exact mo_or_lt (by decide) (mo_and_lt (mo_rd_lt _ _)) | exact mo_or_lt (mo_shl_lt _ _) (mo_and_lt (mo_rd_lt _ _)))) (by rw [xl111]; rfl) rfl rfl) ?_
  refine sy_Fs (sy_ildn xc111_7 rfl rfl sy_refl) ?_
  refine sy_Fs (sy_aldn xc111_8 rfl rfl sy_refl) ?_
  refine sy_Fs (sy_gf xc111_9 xf111_669 rfl (wh_at hw 0 rfl) rfl (fh_at hX0 32 rfl rfl) sy_refl) ?_
  refine sy_Fs (sy_ge_t (pc' := 51) xc111_12 (by decide) (by decide) (by decide) (by decide) sy_refl) ?_
  refine sy_Fs (sy_aldn xc111_51 rfl rfl sy_refl) ?_
  refine sy_Fs (sy_gf xc111_52 xf111_728 rfl (wh_at hw 0 rfl) rfl (fh_at hX0 37 rfl rfl) sy_refl) ?_
  refine sy_Fs (sx_istn (j := 1) (ls' := [(2, pl 0, 0), (0, 0, 0), (255, 0, 0), (255, 0, 0), (255, 0, 0), (255, 0, 0)]) xc111_55 rfl rfl (sy_ok0 (by first | decide | assumption | omega | exact mo_rd_lt _ _ | exact mo_add_lt _ _ | exact mo_sub_lt _ _ | exact mo_mul_lt _ _ | exact mo_shl_lt _ _ | exact mo_ushr_lt _ _ | exact mo_or_lt (by decide) (mo_and_lt (mo_rd_lt _ _)) | exact mo_or_lt (mo_shl_lt _ _) (mo_and_lt (mo_rd_lt _ _)))) (by rw [xl111]; rfl) rfl rfl) ?_
  refine sy_Fs (sy_ildn xc111_56 rfl rfl sy_refl) ?_
  refine sy_Fs (sy_iflt_f xc111_57 (by decide) (by decide) sy_refl) ?_
  refine sy_Fs (sy_aldn xc111_60 rfl rfl sy_refl) ?_
  refine sy_Fs (sy_gf xc111_61 xf111_499 rfl (wh_at hw 0 rfl) rfl (fh_at hX0 29 rfl rfl) sy_refl) ?_
  refine sy_Fs (sy_aldn xc111_64 rfl rfl sy_refl) ?_
  refine sy_Fs (sy_gf xc111_65 xf111_451 rfl (wh_at hw 0 rfl) rfl (fh_at hX0 28 rfl rfl) sy_refl) ?_
  refine sy_Fs (sy_ildn xc111_68 rfl rfl sy_refl) ?_
  refine sy_Fs (sx_ial (z := 0) xc111_69 (wh_at hw 26 rfl) (by decide) (by decide) hht) ?_
  refine sy_Fs (sy_ildn xc111_70 rfl rfl sy_refl) ?_
  refine sy_Fw (i := 27) (x := (1, 0, 60, (mv_wr 32 Ca 0 0))) hw (by decide) (sy_ias (i := 0) xc111_71 (wh_at hw 27 rfl) rfl (by decide) (by decide) rfl sy_refl) ?_
  intro w hw
  simp only [List.set_cons_zero, List.set_cons_succ] at hw
  refine sy_Fs (sy_aldn xc111_72 rfl rfl sy_refl) ?_
  refine sy_Fs (sy_gf xc111_73 xf111_448 rfl (wh_at hw 0 rfl) rfl (fh_at hX0 27 rfl rfl) sy_refl) ?_
  refine sy_Fs (sy_ildn xc111_76 rfl rfl sy_refl) ?_
  refine sy_Fs (sx_ial (z := 4294967294) xc111_77 (wh_at hw 25 rfl) (by decide) (by decide) hhe) ?_
  refine sy_Fs (sx_istn (j := 1) (ls' := [(2, pl 0, 0), (0, 4294967294, 0), (255, 0, 0), (255, 0, 0), (255, 0, 0), (255, 0, 0)]) xc111_78 rfl rfl (sy_ok0 (by first | decide | assumption | omega | exact mo_rd_lt _ _ | exact mo_add_lt _ _ | exact mo_sub_lt _ _ | exact mo_mul_lt _ _ | exact mo_shl_lt _ _ | exact mo_ushr_lt _ _ | exact mo_or_lt (by decide) (mo_and_lt (mo_rd_lt _ _)) | exact mo_or_lt (mo_shl_lt _ _) (mo_and_lt (mo_rd_lt _ _)))) (by rw [xl111]; rfl) rfl rfl) ?_
  refine sy_Fs (sy_goto (pc' := 56) xc111_79 (by decide) (by decide) sy_refl) ?_
  refine sy_Fs (sy_ildn xc111_56 rfl rfl sy_refl) ?_
  refine sy_Fs (sy_iflt_t (pc' := 82) xc111_57 (by decide) (by decide) (by decide) (by decide) sy_refl) ?_
  refine sy_Fs (sy_aldn xc111_82 rfl rfl sy_refl) ?_
  refine sy_Fs (sy_iconst (v := 0) xc111_83 (by decide) sy_refl) ?_
  refine sy_Ff (i := 0) (q := 34) (v := (0, 0, 0)) hw hX0 (by decide) (by decide) rfl (sy_ok0 (by first | decide | assumption | omega | exact mo_rd_lt _ _ | exact mo_add_lt _ _ | exact mo_sub_lt _ _ | exact mo_mul_lt _ _ | exact mo_shl_lt _ _ | exact mo_ushr_lt _ _ | exact mo_or_lt (by decide) (mo_and_lt (mo_rd_lt _ _)) | exact mo_or_lt (mo_shl_lt _ _) (mo_and_lt (mo_rd_lt _ _)))) (sy_pfi xc111_84 xf111_716 rfl xt0_82 xn0_82 (wh_at hw 0 rfl) rfl (by first | decide | assumption | omega | exact mo_rd_lt _ _ | exact mo_add_lt _ _ | exact mo_sub_lt _ _ | exact mo_mul_lt _ _ | exact mo_shl_lt _ _ | exact mo_ushr_lt _ _ | exact mo_or_lt (by decide) (mo_and_lt (mo_rd_lt _ _)) | exact mo_or_lt (mo_shl_lt _ _) (mo_and_lt (mo_rd_lt _ _))) rfl sy_refl) ?_
  intro w X0 hw hX0
  simp only [List.set_cons_zero, List.set_cons_succ] at hw hX0
  refine sy_Fs (sy_aldn xc111_87 rfl rfl sy_refl) ?_
  refine sy_Fs (sy_gf xc111_88 xf111_478 rfl (wh_at hw 0 rfl) rfl (fh_at hX0 30 rfl rfl) sy_refl) ?_
  refine sy_Fs (sy_iconst (v := 0) xc111_91 (by decide) sy_refl) ?_
  refine sy_Fs (sy_iconst (v := 4294967295) xc111_92 (by decide) sy_refl) ?_
  refine sy_Fw (i := 28) (x := (1, 0, 2, (mv_wr 32 Lu 0 4294967295))) hw (by decide) (sy_ias (i := 0) xc111_93 (wh_at hw 28 rfl) rfl (by decide) (by decide) rfl sy_refl) ?_
  intro w hw
  simp only [List.set_cons_zero, List.set_cons_succ] at hw
  refine sy_Fs (sy_aldn xc111_94 rfl rfl sy_refl) ?_
  refine sy_Fs (sy_gf xc111_95 xf111_478 rfl (wh_at hw 0 rfl) rfl (fh_at hX0 30 rfl rfl) sy_refl) ?_
  refine sy_Fs (sy_iconst (v := 1) xc111_98 (by decide) sy_refl) ?_
  refine sy_Fs (sy_iconst (v := 4294967295) xc111_99 (by decide) sy_refl) ?_
  refine sy_Fw (i := 28) (x := (1, 0, 2, (mv_wr 32 (mv_wr 32 Lu 0 4294967295) 1 4294967295))) hw (by decide) (sy_ias (i := 1) xc111_100 (wh_at hw 28 rfl) rfl (by decide) (by decide) rfl sy_refl) ?_
  intro w hw
  simp only [List.set_cons_zero, List.set_cons_succ] at hw
  refine sy_Fs (sy_aldn xc111_101 rfl rfl sy_refl) ?_
  refine sy_Fs (sy_bipush (v := 4294967294) xc111_102 (by decide) (by decide) sy_refl) ?_
  refine sy_Ff (i := 0) (q := 35) (v := (0, 4294967294, 0)) hw hX0 (by decide) (by decide) rfl (sy_ok0 (by first | decide | assumption | omega | exact mo_rd_lt _ _ | exact mo_add_lt _ _ | exact mo_sub_lt _ _ | exact mo_mul_lt _ _ | exact mo_shl_lt _ _ | exact mo_ushr_lt _ _ | exact mo_or_lt (by decide) (mo_and_lt (mo_rd_lt _ _)) | exact mo_or_lt (mo_shl_lt _ _) (mo_and_lt (mo_rd_lt _ _)))) (sy_pfi xc111_104 xf111_502 rfl xt0_87 xn0_87 (wh_at hw 0 rfl) rfl (by first | decide | assumption | omega | exact mo_rd_lt _ _ | exact mo_add_lt _ _ | exact mo_sub_lt _ _ | exact mo_mul_lt _ _ | exact mo_shl_lt _ _ | exact mo_ushr_lt _ _ | exact mo_or_lt (by decide) (mo_and_lt (mo_rd_lt _ _)) | exact mo_or_lt (mo_shl_lt _ _) (mo_and_lt (mo_rd_lt _ _))) rfl sy_refl) ?_
  intro w X0 hw hX0
  simp only [List.set_cons_zero, List.set_cons_succ] at hw hX0
  refine sy_Fs (sy_aldn xc111_107 rfl rfl sy_refl) ?_
  refine sy_Fs (sy_iconst (v := 0) xc111_108 (by decide) sy_refl) ?_
  refine sy_Ff (i := 0) (q := 36) (v := (0, 0, 0)) hw hX0 (by decide) (by decide) rfl (sy_ok0 (by first | decide | assumption | omega | exact mo_rd_lt _ _ | exact mo_add_lt _ _ | exact mo_sub_lt _ _ | exact mo_mul_lt _ _ | exact mo_shl_lt _ _ | exact mo_ushr_lt _ _ | exact mo_or_lt (by decide) (mo_and_lt (mo_rd_lt _ _)) | exact mo_or_lt (mo_shl_lt _ _) (mo_and_lt (mo_rd_lt _ _)))) (sy_pfi xc111_109 xf111_731 rfl xt0_88 xn0_88 (wh_at hw 0 rfl) rfl (by first | decide | assumption | omega | exact mo_rd_lt _ _ | exact mo_add_lt _ _ | exact mo_sub_lt _ _ | exact mo_mul_lt _ _ | exact mo_shl_lt _ _ | exact mo_ushr_lt _ _ | exact mo_or_lt (by decide) (mo_and_lt (mo_rd_lt _ _)) | exact mo_or_lt (mo_shl_lt _ _) (mo_and_lt (mo_rd_lt _ _))) rfl sy_refl) ?_
  intro w X0 hw hX0
  simp only [List.set_cons_zero, List.set_cons_succ] at hw hX0
  refine sy_Fs (sy_iconst (v := 0) xc111_112 (by decide) sy_refl) ?_
  refine sy_Fs (sx_istn (j := 1) (ls' := [(2, pl 0, 0), (0, 0, 0), (255, 0, 0), (255, 0, 0), (255, 0, 0), (255, 0, 0)]) xc111_113 rfl rfl (sy_ok0 (by first | decide | assumption | omega | exact mo_rd_lt _ _ | exact mo_add_lt _ _ | exact mo_sub_lt _ _ | exact mo_mul_lt _ _ | exact mo_shl_lt _ _ | exact mo_ushr_lt _ _ | exact mo_or_lt (by decide) (mo_and_lt (mo_rd_lt _ _)) | exact mo_or_lt (mo_shl_lt _ _) (mo_and_lt (mo_rd_lt _ _)))) (by rw [xl111]; rfl) rfl rfl) ?_
  refine sy_Fs (sy_ildn xc111_114 rfl rfl sy_refl) ?_
  refine sy_Fs (sy_aldn xc111_115 rfl rfl sy_refl) ?_
  refine sy_Fs (sy_gf xc111_116 xf111_451 rfl (wh_at hw 0 rfl) rfl (fh_at hX0 28 rfl rfl) sy_refl) ?_
  refine sy_Fs (sy_aldn xc111_119 rfl rfl sy_refl) ?_
  refine sy_Fs (sy_gf xc111_120 xf111_728 rfl (wh_at hw 0 rfl) rfl (fh_at hX0 37 rfl rfl) sy_refl) ?_
  refine sy_Fs (sx_ial (z := 0) xc111_123 (wh_at hw 26 rfl) (by decide) (by decide) hht) ?_
  refine sy_Fs (sy_icmpgt_f xc111_124 (by decide) (by decide) (by decide) sy_refl) ?_
  refine sy_Fs (sy_aldn xc111_127 rfl rfl sy_refl) ?_
  refine sy_Fs (sy_gf xc111_128 xf111_219 rfl (wh_at hw 0 rfl) rfl (fh_at hX0 38 rfl rfl) sy_refl) ?_
  refine sy_Fs (sy_ifeq_t (pc' := 337) xc111_131 (by decide) (by decide) (by decide) sy_refl) ?_
  exact sy_Fv xc111_337 xr111 rfl
theorem rg_give1 (hw : wh 29 pl w0 w [(0, 0, 107, X0), (1, 1, 64, Pc), (1, 0, 64, mc_K), (1, 0, 64, Wd), (1, 0, 8, Vv), (1, 0, 8, St), (1, 0, 8, Af), (1, 1, 32, Mi), (1, 1, 4200, Hd), (1, 1, 105, Gv), (1, 1, 32, Gi), (1, 1, 1920, Hi), (1, 1, 1280, Bi), (1, 1, 6300, Hb), (1, 1, 3200, Fl), (1, 1, 1900, Of), (1, 1, 32, Ou), (1, 0, 40, Fs), (1, 0, 40, Bs), (1, 2, 60, Hf), (1, 2, 60, Hh), (1, 1, 76000, Bb), (1, 1, 2304, Oi), (1, 1, 2400, Ly), (1, 0, 60, Hw), (1, 0, 60, He), (1, 0, 60, Ht), (1, 0, 60, Ca), (1, 0, 2, Lu)]) (hX0 : fh X0 jR [(0, th, 0), (2, pl 1, 0), (2, pl 2, 0), (2, pl 3, 0), (2, pl 4, 0), (2, pl 5, 0), (2, pl 6, 0), (2, pl 7, 0), (0, up, 0), (1, lp, 0), (2, pl 8, 0), (2, pl 9, 0), (2, pl 10, 0), (2, pl 11, 0), (2, pl 12, 0), (2, pl 13, 0), (2, pl 14, 0), (2, pl 15, 0), (2, pl 16, 0), (2, pl 17, 0), (2, pl 18, 0), (2, pl 19, 0), (2, pl 20, 0), (2, pl 21, 0), (2, pl 22, 0), (2, pl 23, 0), (2, pl 24, 0), (2, pl 25, 0), (2, pl 26, 0), (2, pl 27, 0), (2, pl 28, 0), (0, 1, 0), (0, 1, 0), (0, oc, 0), (0, co, 0), (0, so, 0), (0, ms, 0), (0, bh, 0), (0, 0, 0)]) (hBi : sb_eq Hi 0 Bi 0 32 = true) (hhf : mv_rd 32 Hf 0 = 0) (hhh : mv_rd 32 Hh 0 = 0) (hfs : mv_rd 32 Fs 0 = 2) (hbs : mv_rd 32 Bs 0 = 28) (hht : mv_rd 32 Ht 0 = 0) (hhe : mv_rd 32 He 0 = 4294967294) (hA : ∀ i, i < 8 → mv_rd 32 Af i = mv_rd 32 hs_S0 i) {place mask : Nat} {f : Nat → Nat} (hp : place < 2) (hm1 : 0 < mask) (hm2 : mask ≤ 255) (hf : ∀ j, j < 2 → mv_rd 32 (rg_G (mo_T Of 0 Fl 0 2) place mask) (0 + j) = f j) : sy_D 142 n 6 147 [(2, pl 0, 0), (0, 0, 0), (0, 1, 0), (0, place, 0), (0, mask, 0)] w (fun ret _ => ∃ T : Nat, (∀ j, j < 32 → mv_rd 32 T j = bk_D (hs_2 f 2) j) ∧ ret = [(0, cg_a T Hb 64, 0)]) := by
  have eB : rf_a Hi Bi 0 = 0 := by unfold rf_a; rw [hBi]; rfl
  refine sy_Dof (us := [(255, 0, 0), (255, 0, 0)]) (sy_oks_cons (sy_ok2 (wh_lt hw 0 (by first | decide | assumption))) (sy_oks_cons (sy_ok0 (by first | decide | assumption | omega | exact mo_rd_lt _ _ | exact mo_add_lt _ _ | exact mo_sub_lt _ _ | exact mo_mul_lt _ _ | exact mo_shl_lt _ _ | exact mo_ushr_lt _ _ | exact mo_or_lt (by decide) (mo_and_lt (mo_rd_lt _ _)) | exact mo_or_lt (mo_shl_lt _ _) (mo_and_lt (mo_rd_lt _ _)))) (sy_oks_cons (sy_ok0 (by first | decide | assumption | omega | exact mo_rd_lt _ _ | exact mo_add_lt _ _ | exact mo_sub_lt _ _ | exact mo_mul_lt _ _ | exact mo_shl_lt _ _ | exact mo_ushr_lt _ _ | exact mo_or_lt (by decide) (mo_and_lt (mo_rd_lt _ _)) | exact mo_or_lt (mo_shl_lt _ _) (mo_and_lt (mo_rd_lt _ _)))) (sy_oks_cons (sy_ok0 (by first | decide | assumption | omega | exact mo_rd_lt _ _ | exact mo_add_lt _ _ | exact mo_sub_lt _ _ | exact mo_mul_lt _ _ | exact mo_shl_lt _ _ | exact mo_ushr_lt _ _ | exact mo_or_lt (by decide) (mo_and_lt (mo_rd_lt _ _)) | exact mo_or_lt (mo_shl_lt _ _) (mo_and_lt (mo_rd_lt _ _)))) (sy_oks_cons (sy_ok0 (by first | decide | assumption | omega | exact mo_rd_lt _ _ | exact mo_add_lt _ _ | exact mo_sub_lt _ _ | exact mo_mul_lt _ _ | exact mo_shl_lt _ _ | exact mo_ushr_lt _ _ | exact mo_or_lt (by decide) (mo_and_lt (mo_rd_lt _ _)) | exact mo_or_lt (mo_shl_lt _ _) (mo_and_lt (mo_rd_lt _ _)))) sy_oks_nil))))) rfl rfl ?_
  show sy_F 142 n 6 147 0 [(2, pl 0, 0), (0, 0, 0), (0, 1, 0), (0, place, 0), (0, mask, 0), (255, 0, 0), (255, 0, 0)] [] w _
  refine sy_Fs (sy_aldn xc142_0 rfl rfl sy_refl) ?_
  refine sy_Fs (sy_iconst (v := 0) xc142_1 (by decide) sy_refl) ?_
  refine sy_Ff (i := 0) (q := 0) (v := (0, 0, 0)) hw hX0 (by decide) (by decide) rfl (sy_ok0 (by first | decide | assumption | omega | exact mo_rd_lt _ _ | exact mo_add_lt _ _ | exact mo_sub_lt _ _ | exact mo_mul_lt _ _ | exact mo_shl_lt _ _ | exact mo_ushr_lt _ _ | exact mo_or_lt (by decide) (mo_and_lt (mo_rd_lt _ _)) | exact mo_or_lt (mo_shl_lt _ _) (mo_and_lt (mo_rd_lt _ _)))) (sy_pfi xc142_2 xf142_1 rfl xt0_0 xn0_0 (wh_at hw 0 rfl) rfl (by first | decide | assumption | omega | exact mo_rd_lt _ _ | exact mo_add_lt _ _ | exact mo_sub_lt _ _ | exact mo_mul_lt _ _ | exact mo_shl_lt _ _ | exact mo_ushr_lt _ _ | exact mo_or_lt (by decide) (mo_and_lt (mo_rd_lt _ _)) | exact mo_or_lt (mo_shl_lt _ _) (mo_and_lt (mo_rd_lt _ _))) rfl sy_refl) ?_
  intro w X0 hw hX0
  simp only [List.set_cons_zero, List.set_cons_succ] at hw hX0
  refine sy_Fs (sy_aldn xc142_5 rfl rfl sy_refl) ?_
  refine sy_Fs (sy_ildn xc142_6 rfl rfl sy_refl) ?_
  refine sy_Fs (sy_callG (kd := 3) (as := [(2, pl 0, 0), (0, 0, 0)]) (S0 := []) (ret := [(0, 0, 0)]) xc142_7 (sy_calV (as := [(2, pl 0, 0), (0, 0, 0)]) (S0 := []) xm142_662 rfl rfl) rfl rfl (sy_rcvm xi136 (wh_at hw 0 rfl)) rfl (sy_oka (sy_oks_cons (sy_ok2 (wh_lt hw 0 (by first | decide | assumption))) (sy_oks_cons (sy_ok0 (by first | decide | assumption | omega | exact mo_rd_lt _ _ | exact mo_add_lt _ _ | exact mo_sub_lt _ _ | exact mo_mul_lt _ _ | exact mo_shl_lt _ _ | exact mo_ushr_lt _ _ | exact mo_or_lt (by decide) (mo_and_lt (mo_rd_lt _ _)) | exact mo_or_lt (mo_shl_lt _ _) (mo_and_lt (mo_rd_lt _ _)))) sy_oks_nil)) rfl xl136) (sy_Cw (wr_noBlock (n := n) hw hX0)) (by decide) (by rw [xl136]; decide) sy_refl) ?_
  refine sy_Fs (sy_ifne_f xc142_10 (by decide) (by decide) sy_refl) ?_
  refine sy_Fs (sy_ildn xc142_13 rfl rfl sy_refl) ?_
  refine sy_Fs (sx_i2l xc142_14 (by first | decide | assumption | omega | exact mo_rd_lt _ _ | exact mo_add_lt _ _ | exact mo_sub_lt _ _ | exact mo_mul_lt _ _ | exact mo_shl_lt _ _ | exact mo_ushr_lt _ _ | exact mo_or_lt (by decide) (mo_and_lt (mo_rd_lt _ _)) | exact mo_or_lt (mo_shl_lt _ _) (mo_and_lt (mo_rd_lt _ _)))) ?_
  refine sy_Fs (sy_lconst xc142_15 sy_refl) ?_
  refine sy_Fs (sy_ldc2 (v := 2) xc142_16 xk142_55 sy_refl) ?_
  refine sy_Fs (sy_callG (kd := 1) (as := [(1, 1, 0), (1, 0, 0), (1, 2, 0)]) (S0 := []) (ret := [(0, 1, 0)]) xc142_19 (sy_calS (as := [(1, 1, 0), (1, 0, 0), (1, 2, 0)]) (S0 := []) xm142_147 rfl rfl) rfl rfl rfl rfl (sy_oka (sy_oks_cons (sy_ok1 (by first | decide | assumption | omega | exact mo_rd_lt _ _ | exact mo_add_lt _ _ | exact mo_sub_lt _ _ | exact mo_mul_lt _ _ | exact mo_shl_lt _ _ | exact mo_ushr_lt _ _ | exact mo_or_lt (by decide) (mo_and_lt (mo_rd_lt _ _)) | exact mo_or_lt (mo_shl_lt _ _) (mo_and_lt (mo_rd_lt _ _)))) (sy_oks_cons (sy_ok1 (by first | decide | assumption | omega | exact mo_rd_lt _ _ | exact mo_add_lt _ _ | exact mo_sub_lt _ _ | exact mo_mul_lt _ _ | exact mo_shl_lt _ _ | exact mo_ushr_lt _ _ | exact mo_or_lt (by decide) (mo_and_lt (mo_rd_lt _ _)) | exact mo_or_lt (mo_shl_lt _ _) (mo_and_lt (mo_rd_lt _ _)))) (sy_oks_cons (sy_ok1 (by first | decide | assumption | omega | exact mo_rd_lt _ _ | exact mo_add_lt _ _ | exact mo_sub_lt _ _ | exact mo_mul_lt _ _ | exact mo_shl_lt _ _ | exact mo_ushr_lt _ _ | exact mo_or_lt (by decide) (mo_and_lt (mo_rd_lt _ _)) | exact mo_or_lt (mo_shl_lt _ _) (mo_and_lt (mo_rd_lt _ _)))) sy_oks_nil))) rfl xl98) (wr_in (n := n) (by first | decide | assumption | omega) (by first | decide | assumption | omega) (by first | decide | assumption | omega)) (by decide) (by rw [xl98]; decide) sy_refl) ?_
  refine sy_Fs (sy_ifeq_f xc142_22 (by decide) (by decide) (by decide) sy_refl) ?_
  refine sy_Fs (sy_ild xc142_25 rfl rfl sy_refl) ?_
  refine sy_Fs (sx_i2l xc142_27 (by first | decide | assumption | omega | exact mo_rd_lt _ _ | exact mo_add_lt _ _ | exact mo_sub_lt _ _ | exact mo_mul_lt _ _ | exact mo_shl_lt _ _ | exact mo_ushr_lt _ _ | exact mo_or_lt (by decide) (mo_and_lt (mo_rd_lt _ _)) | exact mo_or_lt (mo_shl_lt _ _) (mo_and_lt (mo_rd_lt _ _)))) ?_
  refine sy_Fs (sy_lconst xc142_28 sy_refl) ?_
  refine sy_Fs (sy_ldc2 (v := 255) xc142_29 xk142_693 sy_refl) ?_
  refine sy_Fs (sy_callG (kd := 1) (as := [(1, mask, 0), (1, 0, 0), (1, 255, 0)]) (S0 := []) (ret := [(0, 1, 0)]) xc142_32 (sy_calS (as := [(1, mask, 0), (1, 0, 0), (1, 255, 0)]) (S0 := []) xm142_147 rfl rfl) rfl rfl rfl rfl (sy_oka (sy_oks_cons (sy_ok1 (by first | decide | assumption | omega | exact mo_rd_lt _ _ | exact mo_add_lt _ _ | exact mo_sub_lt _ _ | exact mo_mul_lt _ _ | exact mo_shl_lt _ _ | exact mo_ushr_lt _ _ | exact mo_or_lt (by decide) (mo_and_lt (mo_rd_lt _ _)) | exact mo_or_lt (mo_shl_lt _ _) (mo_and_lt (mo_rd_lt _ _)))) (sy_oks_cons (sy_ok1 (by first | decide | assumption | omega | exact mo_rd_lt _ _ | exact mo_add_lt _ _ | exact mo_sub_lt _ _ | exact mo_mul_lt _ _ | exact mo_shl_lt _ _ | exact mo_ushr_lt _ _ | exact mo_or_lt (by decide) (mo_and_lt (mo_rd_lt _ _)) | exact mo_or_lt (mo_shl_lt _ _) (mo_and_lt (mo_rd_lt _ _)))) (sy_oks_cons (sy_ok1 (by first | decide | assumption | omega | exact mo_rd_lt _ _ | exact mo_add_lt _ _ | exact mo_sub_lt _ _ | exact mo_mul_lt _ _ | exact mo_shl_lt _ _ | exact mo_ushr_lt _ _ | exact mo_or_lt (by decide) (mo_and_lt (mo_rd_lt _ _)) | exact mo_or_lt (mo_shl_lt _ _) (mo_and_lt (mo_rd_lt _ _)))) sy_oks_nil))) rfl xl98) (wr_in (n := n) (by first | decide | assumption | omega) (by first | decide | assumption | omega) (by first | decide | assumption | omega)) (by decide) (by rw [xl98]; decide) sy_refl) ?_
  refine sy_Fs (sy_ifne_t (pc' := 40) xc142_35 (by decide) (by decide) (by decide) (by decide) sy_refl) ?_
  refine sy_Fs (sy_ildn xc142_40 rfl rfl sy_refl) ?_
  refine sy_Fs (sy_ifne_t (pc' := 49) xc142_41 (by decide) (by decide) (by decide) (by decide) sy_refl) ?_
  refine sy_Fs (sy_ildn xc142_49 rfl rfl sy_refl) ?_
  refine sy_Fs (sy_iconst (v := 1) xc142_50 (by decide) sy_refl) ?_
  refine sy_Fs (sy_icmpne_f xc142_51 (by decide) (by decide) sy_refl) ?_
  refine sy_Fs (sy_aldn xc142_54 rfl rfl sy_refl) ?_
  refine sy_Fs (sy_gf xc142_55 xf142_409 rfl (wh_at hw 0 rfl) rfl (fh_at hX0 19 rfl rfl) sy_refl) ?_
  refine sy_Fs (sy_ildn xc142_58 rfl rfl sy_refl) ?_
  refine sy_Fs (sx_ial (z := 2) xc142_59 (wh_at hw 17 rfl) (by decide) (by decide) hfs) ?_
  refine sy_Fs (sy_goto (pc' := 69) xc142_60 (by decide) (by decide) sy_refl) ?_
  refine sy_Fs (sx_ist (j := 5) (ls' := [(2, pl 0, 0), (0, 0, 0), (0, 1, 0), (0, place, 0), (0, mask, 0), (0, 2, 0), (255, 0, 0)]) xc142_69 rfl (sy_ok0 (by first | decide | assumption | omega | exact mo_rd_lt _ _ | exact mo_add_lt _ _ | exact mo_sub_lt _ _ | exact mo_mul_lt _ _ | exact mo_shl_lt _ _ | exact mo_ushr_lt _ _ | exact mo_or_lt (by decide) (mo_and_lt (mo_rd_lt _ _)) | exact mo_or_lt (mo_shl_lt _ _) (mo_and_lt (mo_rd_lt _ _)))) (by rw [xl142]; rfl) rfl rfl) ?_
  refine sy_Fs (sy_ild xc142_71 rfl rfl sy_refl) ?_
  refine sy_Fs (sy_le_f xc142_73 (by decide) hm1 (by omega) sy_refl) ?_
  refine sy_Fs (sy_ildn xc142_76 rfl rfl sy_refl) ?_
  refine sy_Fs (sx_i2l xc142_77 (by first | decide | assumption | omega | exact mo_rd_lt _ _ | exact mo_add_lt _ _ | exact mo_sub_lt _ _ | exact mo_mul_lt _ _ | exact mo_shl_lt _ _ | exact mo_ushr_lt _ _ | exact mo_or_lt (by decide) (mo_and_lt (mo_rd_lt _ _)) | exact mo_or_lt (mo_shl_lt _ _) (mo_and_lt (mo_rd_lt _ _)))) ?_
  refine sy_Fs (sy_lconst xc142_78 sy_refl) ?_
  refine sy_Fs (sy_ild xc142_79 rfl rfl sy_refl) ?_
  refine sy_Fs (sy_iconst (v := 1) xc142_81 (by decide) sy_refl) ?_
  refine sy_Fs (sx_isub (z := 1) xc142_82 (by decide)) ?_
  refine sy_Fs (sx_i2l xc142_83 (by first | decide | assumption | omega | exact mo_rd_lt _ _ | exact mo_add_lt _ _ | exact mo_sub_lt _ _ | exact mo_mul_lt _ _ | exact mo_shl_lt _ _ | exact mo_ushr_lt _ _ | exact mo_or_lt (by decide) (mo_and_lt (mo_rd_lt _ _)) | exact mo_or_lt (mo_shl_lt _ _) (mo_and_lt (mo_rd_lt _ _)))) ?_
  refine sy_Fs (sy_callG (kd := 1) (as := [(1, place, 0), (1, 0, 0), (1, 1, 0)]) (S0 := []) (ret := [(0, 1, 0)]) xc142_84 (sy_calS (as := [(1, place, 0), (1, 0, 0), (1, 1, 0)]) (S0 := []) xm142_147 rfl rfl) rfl rfl rfl rfl (sy_oka (sy_oks_cons (sy_ok1 (by first | decide | assumption | omega | exact mo_rd_lt _ _ | exact mo_add_lt _ _ | exact mo_sub_lt _ _ | exact mo_mul_lt _ _ | exact mo_shl_lt _ _ | exact mo_ushr_lt _ _ | exact mo_or_lt (by decide) (mo_and_lt (mo_rd_lt _ _)) | exact mo_or_lt (mo_shl_lt _ _) (mo_and_lt (mo_rd_lt _ _)))) (sy_oks_cons (sy_ok1 (by first | decide | assumption | omega | exact mo_rd_lt _ _ | exact mo_add_lt _ _ | exact mo_sub_lt _ _ | exact mo_mul_lt _ _ | exact mo_shl_lt _ _ | exact mo_ushr_lt _ _ | exact mo_or_lt (by decide) (mo_and_lt (mo_rd_lt _ _)) | exact mo_or_lt (mo_shl_lt _ _) (mo_and_lt (mo_rd_lt _ _)))) (sy_oks_cons (sy_ok1 (by first | decide | assumption | omega | exact mo_rd_lt _ _ | exact mo_add_lt _ _ | exact mo_sub_lt _ _ | exact mo_mul_lt _ _ | exact mo_shl_lt _ _ | exact mo_ushr_lt _ _ | exact mo_or_lt (by decide) (mo_and_lt (mo_rd_lt _ _)) | exact mo_or_lt (mo_shl_lt _ _) (mo_and_lt (mo_rd_lt _ _)))) sy_oks_nil))) rfl xl98) (wr_in (n := n) (by first | decide | assumption | omega) (by first | decide | assumption | omega) (by first | decide | assumption | omega)) (by decide) (by rw [xl98]; decide) sy_refl) ?_
  refine sy_Fs (sy_ifne_t (pc' := 92) xc142_87 (by decide) (by decide) (by decide) (by decide) sy_refl) ?_
  refine sy_Fs (sy_ildn xc142_92 rfl rfl sy_refl) ?_
  refine sy_Fs (sy_ifne_t (pc' := 105) xc142_93 (by decide) (by decide) (by decide) (by decide) sy_refl) ?_
  refine sy_Fs (sy_aldn xc142_105 rfl rfl sy_refl) ?_
  refine sy_Fs (sy_aldn xc142_106 rfl rfl sy_refl) ?_
  refine sy_Fs (sy_gf xc142_107 xf142_385 rfl (wh_at hw 0 rfl) rfl (fh_at hX0 14 rfl rfl) sy_refl) ?_
  refine sy_Fs (sy_bipush (v := 32) xc142_110 (by decide) (by decide) sy_refl) ?_
  refine sy_Fs (sy_ildn xc142_112 rfl rfl sy_refl) ?_
  refine sy_Fs (sx_imul (z := 0) xc142_113 (by decide)) ?_
  refine sy_Fs (sy_callG (kd := 3) (as := [(2, pl 0, 0), (2, pl 12, 0), (0, 0, 0)]) (S0 := []) (ret := [(0, (rf_a Hi Bi 0), 0)]) xc142_114 (sy_calV (as := [(2, pl 0, 0), (2, pl 12, 0), (0, 0, 0)]) (S0 := []) xm142_675 rfl rfl) rfl rfl (sy_rcvm xi144 (wh_at hw 0 rfl)) rfl (sy_oka (sy_oks_cons (sy_ok2 (wh_lt hw 0 (by first | decide | assumption))) (sy_oks_cons (sy_ok2 (wh_lt hw 12 (by first | decide | assumption))) (sy_oks_cons (sy_ok0 (by first | decide | assumption | omega | exact mo_rd_lt _ _ | exact mo_add_lt _ _ | exact mo_sub_lt _ _ | exact mo_mul_lt _ _ | exact mo_shl_lt _ _ | exact mo_ushr_lt _ _ | exact mo_or_lt (by decide) (mo_and_lt (mo_rd_lt _ _)) | exact mo_or_lt (mo_shl_lt _ _) (mo_and_lt (mo_rd_lt _ _)))) sy_oks_nil))) rfl xl144) (sy_Cw (wr_find (n := n) hw hX0 (jf := 12) (at_ := 0) (by decide) rfl (by first | decide | assumption | omega) (by first | decide | assumption | omega))) (by decide) (by rw [xl144]; decide) sy_refl) ?_
  rw [eB]
  refine sy_Fs (sx_ist (j := 6) (ls' := [(2, pl 0, 0), (0, 0, 0), (0, 1, 0), (0, place, 0), (0, mask, 0), (0, 2, 0), (0, 0, 0)]) xc142_117 rfl (sy_ok0 (by first | decide | assumption | omega | exact mo_rd_lt _ _ | exact mo_add_lt _ _ | exact mo_sub_lt _ _ | exact mo_mul_lt _ _ | exact mo_shl_lt _ _ | exact mo_ushr_lt _ _ | exact mo_or_lt (by decide) (mo_and_lt (mo_rd_lt _ _)) | exact mo_or_lt (mo_shl_lt _ _) (mo_and_lt (mo_rd_lt _ _)))) (by rw [xl142]; rfl) rfl rfl) ?_
  refine sy_Fs (sy_ild xc142_119 rfl rfl sy_refl) ?_
  refine sy_Fs (sy_ifge_t (pc' := 126) xc142_121 (by decide) (by decide) (by decide) sy_refl) ?_
  refine sy_Fs (sy_ildn xc142_126 rfl rfl sy_refl) ?_
  refine sy_Fs (sy_iconst (v := 1) xc142_127 (by decide) sy_refl) ?_
  refine sy_Fs (sy_icmpne_f xc142_128 (by decide) (by decide) sy_refl) ?_
  refine sy_Fs (sy_aldn xc142_131 rfl rfl sy_refl) ?_
  refine sy_Fs (sy_gf xc142_132 xf142_457 rfl (wh_at hw 0 rfl) rfl (fh_at hX0 21 rfl rfl) sy_refl) ?_
  refine sy_Fs (sy_ild xc142_135 rfl rfl sy_refl) ?_
  refine sy_Fs (sx_zal (z := 0) xc142_137 (wh_at hw 19 rfl) (by decide) (by decide) hhf) ?_
  refine sy_Fs (sy_ifeq_t (pc' := 156) xc142_138 (by decide) (by decide) (by decide) sy_refl) ?_
  refine sy_Fs (sy_ildn xc142_156 rfl rfl sy_refl) ?_
  refine sy_Fs (sy_iconst (v := 1) xc142_157 (by decide) sy_refl) ?_
  refine sy_Fs (sy_icmpne_f xc142_158 (by decide) (by decide) sy_refl) ?_
  refine sy_Fs (sy_aldn xc142_161 rfl rfl sy_refl) ?_
  refine sy_Fs (sy_ild xc142_162 rfl rfl sy_refl) ?_
  refine sy_Fs (sy_ildn xc142_164 rfl rfl sy_refl) ?_
  refine sy_Fs (sy_ildn xc142_165 rfl rfl sy_refl) ?_
  refine sy_Fs (sy_ild xc142_166 rfl rfl sy_refl) ?_
  obtain ⟨ret, w, ⟨T, hT, rfl, X0, P1, W1, V1, S1, M1, u1, l1, Yo, hw1, hX1x⟩, hC⟩ := rg_filt (n := n) hw hX0 hA hfs hp hm1 hm2 hf
  refine sy_Fs (sy_callG (kd := 3) (as := [(2, pl 0, 0), (0, 0, 0), (0, 0, 0), (0, place, 0), (0, mask, 0)]) (S0 := []) (ret := [(0, (sb_n T 0 Hb 64 32), 0)]) xc142_168 (sy_calV (as := [(2, pl 0, 0), (0, 0, 0), (0, 0, 0), (0, place, 0), (0, mask, 0)]) (S0 := []) xm142_698 rfl rfl) rfl rfl (sy_rcvm xi145 (wh_at hw 0 rfl)) rfl (sy_oka (sy_oks_cons (sy_ok2 (wh_lt hw 0 (by first | decide | assumption))) (sy_oks_cons (sy_ok0 (by first | decide | assumption | omega | exact mo_rd_lt _ _ | exact mo_add_lt _ _ | exact mo_sub_lt _ _ | exact mo_mul_lt _ _ | exact mo_shl_lt _ _ | exact mo_ushr_lt _ _ | exact mo_or_lt (by decide) (mo_and_lt (mo_rd_lt _ _)) | exact mo_or_lt (mo_shl_lt _ _) (mo_and_lt (mo_rd_lt _ _)))) (sy_oks_cons (sy_ok0 (by first | decide | assumption | omega | exact mo_rd_lt _ _ | exact mo_add_lt _ _ | exact mo_sub_lt _ _ | exact mo_mul_lt _ _ | exact mo_shl_lt _ _ | exact mo_ushr_lt _ _ | exact mo_or_lt (by decide) (mo_and_lt (mo_rd_lt _ _)) | exact mo_or_lt (mo_shl_lt _ _) (mo_and_lt (mo_rd_lt _ _)))) (sy_oks_cons (sy_ok0 (by first | decide | assumption | omega | exact mo_rd_lt _ _ | exact mo_add_lt _ _ | exact mo_sub_lt _ _ | exact mo_mul_lt _ _ | exact mo_shl_lt _ _ | exact mo_ushr_lt _ _ | exact mo_or_lt (by decide) (mo_and_lt (mo_rd_lt _ _)) | exact mo_or_lt (mo_shl_lt _ _) (mo_and_lt (mo_rd_lt _ _)))) (sy_oks_cons (sy_ok0 (by first | decide | assumption | omega | exact mo_rd_lt _ _ | exact mo_add_lt _ _ | exact mo_sub_lt _ _ | exact mo_mul_lt _ _ | exact mo_shl_lt _ _ | exact mo_ushr_lt _ _ | exact mo_or_lt (by decide) (mo_and_lt (mo_rd_lt _ _)) | exact mo_or_lt (mo_shl_lt _ _) (mo_and_lt (mo_rd_lt _ _)))) sy_oks_nil))))) rfl xl145) hC (by decide) (by rw [xl145]; decide) sy_refl) ?_
  replace hw := hw1
  replace hX0 := hX1x
  cases hb : sb_eq T 0 Hb 64 32 with
  | true =>
    have e : sb_n T 0 Hb 64 32 = 1 := by unfold sb_n; rw [hb]; rfl
    refine sy_Fs (sy_ifne_t (pc' := 192) xc142_171 (by decide) (by rw [e]; decide) (by rw [e]; decide) (by decide) sy_refl) ?_
    refine sy_Fs (sy_ildn xc142_192 rfl rfl sy_refl) ?_
    refine sy_Fs (sy_iconst (v := 1) xc142_193 (by decide) sy_refl) ?_
    refine sy_Fs (sy_icmpne_f xc142_194 (by decide) (by decide) sy_refl) ?_
    refine sy_Fs (sy_aldn xc142_197 rfl rfl sy_refl) ?_
    refine sy_Fs (sy_gf xc142_198 xf142_457 rfl (wh_at hw 0 rfl) rfl (fh_at hX0 21 rfl rfl) sy_refl) ?_
    refine sy_Fs (sy_ild xc142_201 rfl rfl sy_refl) ?_
    refine sy_Fs (sy_iconst (v := 1) xc142_203 (by decide) sy_refl) ?_
    refine sy_Fw (i := 19) (x := (1, 2, 60, (mv_wr 32 Hf 0 1))) hw (by decide) (sx_zas (i := 0) xc142_204 (wh_at hw 19 rfl) rfl (by decide) (by decide) (by decide) rfl sy_refl) ?_
    intro w hw
    simp only [List.set_cons_zero, List.set_cons_succ] at hw
    refine sy_Fs (sy_goto (pc' := 216) xc142_205 (by decide) (by decide) sy_refl) ?_
    refine sy_Fs (sy_aldn xc142_216 rfl rfl sy_refl) ?_
    obtain ⟨ret, w, rfl, hC⟩ := wr_scan (n := n) hw hX0 hht hhe
    refine sy_Fs (sy_callG (kd := 3) (as := [(2, pl 0, 0)]) (S0 := []) (ret := []) xc142_217 (sy_calV (as := [(2, pl 0, 0)]) (S0 := []) xm142_228 rfl rfl) rfl rfl (sy_rcvm xi111 (wh_at hw 0 rfl)) rfl (sy_oka (sy_oks_cons (sy_ok2 (wh_lt hw 0 (by first | decide | assumption))) sy_oks_nil) rfl xl111) hC (by decide) (by rw [xl111]; decide) sy_refl) ?_
    refine sy_Fs (sy_iconst (v := 1) xc142_220 (by decide) sy_refl) ?_
    exact sy_Fi xc142_221 xr142 rfl ⟨T, hT, by unfold cg_a; rw [hb]; rfl⟩
  | false =>
    have e : sb_n T 0 Hb 64 32 = 0 := by unfold sb_n; rw [hb]; rfl
    refine sy_Fs (sy_ifne_f xc142_171 (by decide) e sy_refl) ?_
    refine sy_Fs (sy_goto (pc' := 190) xc142_174 (by decide) (by decide) sy_refl) ?_
    refine sy_Fs (sy_iconst (v := 0) xc142_190 (by decide) sy_refl) ?_
    exact sy_Fi xc142_191 xr142 rfl ⟨T, hT, by unfold cg_a; rw [hb]; rfl⟩
theorem rg_give2 (hw : wh 29 pl w0 w [(0, 0, 107, X0), (1, 1, 64, Pc), (1, 0, 64, mc_K), (1, 0, 64, Wd), (1, 0, 8, Vv), (1, 0, 8, St), (1, 0, 8, Af), (1, 1, 32, Mi), (1, 1, 4200, Hd), (1, 1, 105, Gv), (1, 1, 32, Gi), (1, 1, 1920, Hi), (1, 1, 1280, Bi), (1, 1, 6300, Hb), (1, 1, 3200, Fl), (1, 1, 1900, Of), (1, 1, 32, Ou), (1, 0, 40, Fs), (1, 0, 40, Bs), (1, 2, 60, Hf), (1, 2, 60, Hh), (1, 1, 76000, Bb), (1, 1, 2304, Oi), (1, 1, 2400, Ly), (1, 0, 60, Hw), (1, 0, 60, He), (1, 0, 60, Ht), (1, 0, 60, Ca), (1, 0, 2, Lu)]) (hX0 : fh X0 jR [(0, th, 0), (2, pl 1, 0), (2, pl 2, 0), (2, pl 3, 0), (2, pl 4, 0), (2, pl 5, 0), (2, pl 6, 0), (2, pl 7, 0), (0, up, 0), (1, lp, 0), (2, pl 8, 0), (2, pl 9, 0), (2, pl 10, 0), (2, pl 11, 0), (2, pl 12, 0), (2, pl 13, 0), (2, pl 14, 0), (2, pl 15, 0), (2, pl 16, 0), (2, pl 17, 0), (2, pl 18, 0), (2, pl 19, 0), (2, pl 20, 0), (2, pl 21, 0), (2, pl 22, 0), (2, pl 23, 0), (2, pl 24, 0), (2, pl 25, 0), (2, pl 26, 0), (2, pl 27, 0), (2, pl 28, 0), (0, 1, 0), (0, 1, 0), (0, oc, 0), (0, co, 0), (0, so, 0), (0, ms, 0), (0, bh, 0), (0, 0, 0)]) (hBi : sb_eq Hi 0 Bi 0 32 = true) (hhf : mv_rd 32 Hf 0 = 0) (hhh : mv_rd 32 Hh 0 = 0) (hfs : mv_rd 32 Fs 0 = 2) (hbs : mv_rd 32 Bs 0 = 28) (hht : mv_rd 32 Ht 0 = 0) (hhe : mv_rd 32 He 0 = 4294967294) (hA : ∀ i, i < 8 → mv_rd 32 Af i = mv_rd 32 hs_S0 i) {place mask : Nat} {f : Nat → Nat} (hp : place < 28) (hm1 : 0 < mask) (hm2 : mask ≤ 255) (hf : ∀ j, j < 28 → mv_rd 32 (rg_G (mo_T Of 0 Bb 0 28) place mask) (0 + j) = f j) (hb0 : mv_rd 32 (rg_G (mo_T Of 0 Bb 0 28) place mask) 0 = 0) (hb3 : mv_rd 32 (rg_G (mo_T Of 0 Bb 0 28) place mask) 3 = 1) (hv1 : 1 ≤ wo_4 (rg_G (mo_T Of 0 Bb 0 28) place mask)) (hv2 : wo_4 (rg_G (mo_T Of 0 Bb 0 28) place mask) ≤ 1000000000) : sy_D 142 n 7 171 [(2, pl 0, 0), (0, 0, 0), (0, 2, 0), (0, place, 0), (0, mask, 0)] w (fun ret _ => ∃ T : Nat, (∀ j, j < 32 → mv_rd 32 T j = bk_D (hs_2 f 28) j) ∧ ret = [(0, cg_a T Hb 32, 0)]) := by
  have eB : rf_a Hi Bi 0 = 0 := by unfold rf_a; rw [hBi]; rfl
  refine sy_Dof (us := [(255, 0, 0), (255, 0, 0)]) (sy_oks_cons (sy_ok2 (wh_lt hw 0 (by first | decide | assumption))) (sy_oks_cons (sy_ok0 (by first | decide | assumption | omega | exact mo_rd_lt _ _ | exact mo_add_lt _ _ | exact mo_sub_lt _ _ | exact mo_mul_lt _ _ | exact mo_shl_lt _ _ | exact mo_ushr_lt _ _ | exact mo_or_lt (by decide) (mo_and_lt (mo_rd_lt _ _)) | exact mo_or_lt (mo_shl_lt _ _) (mo_and_lt (mo_rd_lt _ _)))) (sy_oks_cons (sy_ok0 (by first | decide | assumption | omega | exact mo_rd_lt _ _ | exact mo_add_lt _ _ | exact mo_sub_lt _ _ | exact mo_mul_lt _ _ | exact mo_shl_lt _ _ | exact mo_ushr_lt _ _ | exact mo_or_lt (by decide) (mo_and_lt (mo_rd_lt _ _)) | exact mo_or_lt (mo_shl_lt _ _) (mo_and_lt (mo_rd_lt _ _)))) (sy_oks_cons (sy_ok0 (by first | decide | assumption | omega | exact mo_rd_lt _ _ | exact mo_add_lt _ _ | exact mo_sub_lt _ _ | exact mo_mul_lt _ _ | exact mo_shl_lt _ _ | exact mo_ushr_lt _ _ | exact mo_or_lt (by decide) (mo_and_lt (mo_rd_lt _ _)) | exact mo_or_lt (mo_shl_lt _ _) (mo_and_lt (mo_rd_lt _ _)))) (sy_oks_cons (sy_ok0 (by first | decide | assumption | omega | exact mo_rd_lt _ _ | exact mo_add_lt _ _ | exact mo_sub_lt _ _ | exact mo_mul_lt _ _ | exact mo_shl_lt _ _ | exact mo_ushr_lt _ _ | exact mo_or_lt (by decide) (mo_and_lt (mo_rd_lt _ _)) | exact mo_or_lt (mo_shl_lt _ _) (mo_and_lt (mo_rd_lt _ _)))) sy_oks_nil))))) rfl rfl ?_
  show sy_F 142 n 7 171 0 [(2, pl 0, 0), (0, 0, 0), (0, 2, 0), (0, place, 0), (0, mask, 0), (255, 0, 0), (255, 0, 0)] [] w _
  refine sy_Fs (sy_aldn xc142_0 rfl rfl sy_refl) ?_
  refine sy_Fs (sy_iconst (v := 0) xc142_1 (by decide) sy_refl) ?_
  refine sy_Ff (i := 0) (q := 0) (v := (0, 0, 0)) hw hX0 (by decide) (by decide) rfl (sy_ok0 (by first | decide | assumption | omega | exact mo_rd_lt _ _ | exact mo_add_lt _ _ | exact mo_sub_lt _ _ | exact mo_mul_lt _ _ | exact mo_shl_lt _ _ | exact mo_ushr_lt _ _ | exact mo_or_lt (by decide) (mo_and_lt (mo_rd_lt _ _)) | exact mo_or_lt (mo_shl_lt _ _) (mo_and_lt (mo_rd_lt _ _)))) (sy_pfi xc142_2 xf142_1 rfl xt0_0 xn0_0 (wh_at hw 0 rfl) rfl (by first | decide | assumption | omega | exact mo_rd_lt _ _ | exact mo_add_lt _ _ | exact mo_sub_lt _ _ | exact mo_mul_lt _ _ | exact mo_shl_lt _ _ | exact mo_ushr_lt _ _ | exact mo_or_lt (by decide) (mo_and_lt (mo_rd_lt _ _)) | exact mo_or_lt (mo_shl_lt _ _) (mo_and_lt (mo_rd_lt _ _))) rfl sy_refl) ?_
  intro w X0 hw hX0
  simp only [List.set_cons_zero, List.set_cons_succ] at hw hX0
  refine sy_Fs (sy_aldn xc142_5 rfl rfl sy_refl) ?_
  refine sy_Fs (sy_ildn xc142_6 rfl rfl sy_refl) ?_
  refine sy_Fs (sy_callG (kd := 3) (as := [(2, pl 0, 0), (0, 0, 0)]) (S0 := []) (ret := [(0, 0, 0)]) xc142_7 (sy_calV (as := [(2, pl 0, 0), (0, 0, 0)]) (S0 := []) xm142_662 rfl rfl) rfl rfl (sy_rcvm xi136 (wh_at hw 0 rfl)) rfl (sy_oka (sy_oks_cons (sy_ok2 (wh_lt hw 0 (by first | decide | assumption))) (sy_oks_cons (sy_ok0 (by first | decide | assumption | omega | exact mo_rd_lt _ _ | exact mo_add_lt _ _ | exact mo_sub_lt _ _ | exact mo_mul_lt _ _ | exact mo_shl_lt _ _ | exact mo_ushr_lt _ _ | exact mo_or_lt (by decide) (mo_and_lt (mo_rd_lt _ _)) | exact mo_or_lt (mo_shl_lt _ _) (mo_and_lt (mo_rd_lt _ _)))) sy_oks_nil)) rfl xl136) (sy_Cw (wr_noBlock (n := n) hw hX0)) (by decide) (by rw [xl136]; decide) sy_refl) ?_
  refine sy_Fs (sy_ifne_f xc142_10 (by decide) (by decide) sy_refl) ?_
  refine sy_Fs (sy_ildn xc142_13 rfl rfl sy_refl) ?_
  refine sy_Fs (sx_i2l xc142_14 (by first | decide | assumption | omega | exact mo_rd_lt _ _ | exact mo_add_lt _ _ | exact mo_sub_lt _ _ | exact mo_mul_lt _ _ | exact mo_shl_lt _ _ | exact mo_ushr_lt _ _ | exact mo_or_lt (by decide) (mo_and_lt (mo_rd_lt _ _)) | exact mo_or_lt (mo_shl_lt _ _) (mo_and_lt (mo_rd_lt _ _)))) ?_
  refine sy_Fs (sy_lconst xc142_15 sy_refl) ?_
  refine sy_Fs (sy_ldc2 (v := 2) xc142_16 xk142_55 sy_refl) ?_
  refine sy_Fs (sy_callG (kd := 1) (as := [(1, 2, 0), (1, 0, 0), (1, 2, 0)]) (S0 := []) (ret := [(0, 1, 0)]) xc142_19 (sy_calS (as := [(1, 2, 0), (1, 0, 0), (1, 2, 0)]) (S0 := []) xm142_147 rfl rfl) rfl rfl rfl rfl (sy_oka (sy_oks_cons (sy_ok1 (by first | decide | assumption | omega | exact mo_rd_lt _ _ | exact mo_add_lt _ _ | exact mo_sub_lt _ _ | exact mo_mul_lt _ _ | exact mo_shl_lt _ _ | exact mo_ushr_lt _ _ | exact mo_or_lt (by decide) (mo_and_lt (mo_rd_lt _ _)) | exact mo_or_lt (mo_shl_lt _ _) (mo_and_lt (mo_rd_lt _ _)))) (sy_oks_cons (sy_ok1 (by first | decide | assumption | omega | exact mo_rd_lt _ _ | exact mo_add_lt _ _ | exact mo_sub_lt _ _ | exact mo_mul_lt _ _ | exact mo_shl_lt _ _ | exact mo_ushr_lt _ _ | exact mo_or_lt (by decide) (mo_and_lt (mo_rd_lt _ _)) | exact mo_or_lt (mo_shl_lt _ _) (mo_and_lt (mo_rd_lt _ _)))) (sy_oks_cons (sy_ok1 (by first | decide | assumption | omega | exact mo_rd_lt _ _ | exact mo_add_lt _ _ | exact mo_sub_lt _ _ | exact mo_mul_lt _ _ | exact mo_shl_lt _ _ | exact mo_ushr_lt _ _ | exact mo_or_lt (by decide) (mo_and_lt (mo_rd_lt _ _)) | exact mo_or_lt (mo_shl_lt _ _) (mo_and_lt (mo_rd_lt _ _)))) sy_oks_nil))) rfl xl98) (wr_in (n := n) (by first | decide | assumption | omega) (by first | decide | assumption | omega) (by first | decide | assumption | omega)) (by decide) (by rw [xl98]; decide) sy_refl) ?_
  refine sy_Fs (sy_ifeq_f xc142_22 (by decide) (by decide) (by decide) sy_refl) ?_
  refine sy_Fs (sy_ild xc142_25 rfl rfl sy_refl) ?_
  refine sy_Fs (sx_i2l xc142_27 (by first | decide | assumption | omega | exact mo_rd_lt _ _ | exact mo_add_lt _ _ | exact mo_sub_lt _ _ | exact mo_mul_lt _ _ | exact mo_shl_lt _ _ | exact mo_ushr_lt _ _ | exact mo_or_lt (by decide) (mo_and_lt (mo_rd_lt _ _)) | exact mo_or_lt (mo_shl_lt _ _) (mo_and_lt (mo_rd_lt _ _)))) ?_
  refine sy_Fs (sy_lconst xc142_28 sy_refl) ?_
  refine sy_Fs (sy_ldc2 (v := 255) xc142_29 xk142_693 sy_refl) ?_
  refine sy_Fs (sy_callG (kd := 1) (as := [(1, mask, 0), (1, 0, 0), (1, 255, 0)]) (S0 := []) (ret := [(0, 1, 0)]) xc142_32 (sy_calS (as := [(1, mask, 0), (1, 0, 0), (1, 255, 0)]) (S0 := []) xm142_147 rfl rfl) rfl rfl rfl rfl (sy_oka (sy_oks_cons (sy_ok1 (by first | decide | assumption | omega | exact mo_rd_lt _ _ | exact mo_add_lt _ _ | exact mo_sub_lt _ _ | exact mo_mul_lt _ _ | exact mo_shl_lt _ _ | exact mo_ushr_lt _ _ | exact mo_or_lt (by decide) (mo_and_lt (mo_rd_lt _ _)) | exact mo_or_lt (mo_shl_lt _ _) (mo_and_lt (mo_rd_lt _ _)))) (sy_oks_cons (sy_ok1 (by first | decide | assumption | omega | exact mo_rd_lt _ _ | exact mo_add_lt _ _ | exact mo_sub_lt _ _ | exact mo_mul_lt _ _ | exact mo_shl_lt _ _ | exact mo_ushr_lt _ _ | exact mo_or_lt (by decide) (mo_and_lt (mo_rd_lt _ _)) | exact mo_or_lt (mo_shl_lt _ _) (mo_and_lt (mo_rd_lt _ _)))) (sy_oks_cons (sy_ok1 (by first | decide | assumption | omega | exact mo_rd_lt _ _ | exact mo_add_lt _ _ | exact mo_sub_lt _ _ | exact mo_mul_lt _ _ | exact mo_shl_lt _ _ | exact mo_ushr_lt _ _ | exact mo_or_lt (by decide) (mo_and_lt (mo_rd_lt _ _)) | exact mo_or_lt (mo_shl_lt _ _) (mo_and_lt (mo_rd_lt _ _)))) sy_oks_nil))) rfl xl98) (wr_in (n := n) (by first | decide | assumption | omega) (by first | decide | assumption | omega) (by first | decide | assumption | omega)) (by decide) (by rw [xl98]; decide) sy_refl) ?_
  refine sy_Fs (sy_ifne_t (pc' := 40) xc142_35 (by decide) (by decide) (by decide) (by decide) sy_refl) ?_
  refine sy_Fs (sy_ildn xc142_40 rfl rfl sy_refl) ?_
  refine sy_Fs (sy_ifne_t (pc' := 49) xc142_41 (by decide) (by decide) (by decide) (by decide) sy_refl) ?_
  refine sy_Fs (sy_ildn xc142_49 rfl rfl sy_refl) ?_
  refine sy_Fs (sy_iconst (v := 1) xc142_50 (by decide) sy_refl) ?_
  refine sy_Fs (sy_icmpne_t (pc' := 63) xc142_51 (by decide) (by decide) (by decide) (by decide) (by decide) sy_refl) ?_
  refine sy_Fs (sy_aldn xc142_63 rfl rfl sy_refl) ?_
  refine sy_Fs (sy_gf xc142_64 xf142_379 rfl (wh_at hw 0 rfl) rfl (fh_at hX0 20 rfl rfl) sy_refl) ?_
  refine sy_Fs (sy_ildn xc142_67 rfl rfl sy_refl) ?_
  refine sy_Fs (sx_ial (z := 28) xc142_68 (wh_at hw 18 rfl) (by decide) (by decide) hbs) ?_
  refine sy_Fs (sx_ist (j := 5) (ls' := [(2, pl 0, 0), (0, 0, 0), (0, 2, 0), (0, place, 0), (0, mask, 0), (0, 28, 0), (255, 0, 0)]) xc142_69 rfl (sy_ok0 (by first | decide | assumption | omega | exact mo_rd_lt _ _ | exact mo_add_lt _ _ | exact mo_sub_lt _ _ | exact mo_mul_lt _ _ | exact mo_shl_lt _ _ | exact mo_ushr_lt _ _ | exact mo_or_lt (by decide) (mo_and_lt (mo_rd_lt _ _)) | exact mo_or_lt (mo_shl_lt _ _) (mo_and_lt (mo_rd_lt _ _)))) (by rw [xl142]; rfl) rfl rfl) ?_
  refine sy_Fs (sy_ild xc142_71 rfl rfl sy_refl) ?_
  refine sy_Fs (sy_le_f xc142_73 (by decide) hm1 (by omega) sy_refl) ?_
  refine sy_Fs (sy_ildn xc142_76 rfl rfl sy_refl) ?_
  refine sy_Fs (sx_i2l xc142_77 (by first | decide | assumption | omega | exact mo_rd_lt _ _ | exact mo_add_lt _ _ | exact mo_sub_lt _ _ | exact mo_mul_lt _ _ | exact mo_shl_lt _ _ | exact mo_ushr_lt _ _ | exact mo_or_lt (by decide) (mo_and_lt (mo_rd_lt _ _)) | exact mo_or_lt (mo_shl_lt _ _) (mo_and_lt (mo_rd_lt _ _)))) ?_
  refine sy_Fs (sy_lconst xc142_78 sy_refl) ?_
  refine sy_Fs (sy_ild xc142_79 rfl rfl sy_refl) ?_
  refine sy_Fs (sy_iconst (v := 1) xc142_81 (by decide) sy_refl) ?_
  refine sy_Fs (sx_isub (z := 27) xc142_82 (by decide)) ?_
  refine sy_Fs (sx_i2l xc142_83 (by first | decide | assumption | omega | exact mo_rd_lt _ _ | exact mo_add_lt _ _ | exact mo_sub_lt _ _ | exact mo_mul_lt _ _ | exact mo_shl_lt _ _ | exact mo_ushr_lt _ _ | exact mo_or_lt (by decide) (mo_and_lt (mo_rd_lt _ _)) | exact mo_or_lt (mo_shl_lt _ _) (mo_and_lt (mo_rd_lt _ _)))) ?_
  refine sy_Fs (sy_callG (kd := 1) (as := [(1, place, 0), (1, 0, 0), (1, 27, 0)]) (S0 := []) (ret := [(0, 1, 0)]) xc142_84 (sy_calS (as := [(1, place, 0), (1, 0, 0), (1, 27, 0)]) (S0 := []) xm142_147 rfl rfl) rfl rfl rfl rfl (sy_oka (sy_oks_cons (sy_ok1 (by first | decide | assumption | omega | exact mo_rd_lt _ _ | exact mo_add_lt _ _ | exact mo_sub_lt _ _ | exact mo_mul_lt _ _ | exact mo_shl_lt _ _ | exact mo_ushr_lt _ _ | exact mo_or_lt (by decide) (mo_and_lt (mo_rd_lt _ _)) | exact mo_or_lt (mo_shl_lt _ _) (mo_and_lt (mo_rd_lt _ _)))) (sy_oks_cons (sy_ok1 (by first | decide | assumption | omega | exact mo_rd_lt _ _ | exact mo_add_lt _ _ | exact mo_sub_lt _ _ | exact mo_mul_lt _ _ | exact mo_shl_lt _ _ | exact mo_ushr_lt _ _ | exact mo_or_lt (by decide) (mo_and_lt (mo_rd_lt _ _)) | exact mo_or_lt (mo_shl_lt _ _) (mo_and_lt (mo_rd_lt _ _)))) (sy_oks_cons (sy_ok1 (by first | decide | assumption | omega | exact mo_rd_lt _ _ | exact mo_add_lt _ _ | exact mo_sub_lt _ _ | exact mo_mul_lt _ _ | exact mo_shl_lt _ _ | exact mo_ushr_lt _ _ | exact mo_or_lt (by decide) (mo_and_lt (mo_rd_lt _ _)) | exact mo_or_lt (mo_shl_lt _ _) (mo_and_lt (mo_rd_lt _ _)))) sy_oks_nil))) rfl xl98) (wr_in (n := n) (by first | decide | assumption | omega) (by first | decide | assumption | omega) (by first | decide | assumption | omega)) (by decide) (by rw [xl98]; decide) sy_refl) ?_
  refine sy_Fs (sy_ifne_t (pc' := 92) xc142_87 (by decide) (by decide) (by decide) (by decide) sy_refl) ?_
  refine sy_Fs (sy_ildn xc142_92 rfl rfl sy_refl) ?_
  refine sy_Fs (sy_ifne_t (pc' := 105) xc142_93 (by decide) (by decide) (by decide) (by decide) sy_refl) ?_
  refine sy_Fs (sy_aldn xc142_105 rfl rfl sy_refl) ?_
  refine sy_Fs (sy_aldn xc142_106 rfl rfl sy_refl) ?_
  refine sy_Fs (sy_gf xc142_107 xf142_385 rfl (wh_at hw 0 rfl) rfl (fh_at hX0 14 rfl rfl) sy_refl) ?_
  refine sy_Fs (sy_bipush (v := 32) xc142_110 (by decide) (by decide) sy_refl) ?_
  refine sy_Fs (sy_ildn xc142_112 rfl rfl sy_refl) ?_
  refine sy_Fs (sx_imul (z := 0) xc142_113 (by decide)) ?_
  refine sy_Fs (sy_callG (kd := 3) (as := [(2, pl 0, 0), (2, pl 12, 0), (0, 0, 0)]) (S0 := []) (ret := [(0, (rf_a Hi Bi 0), 0)]) xc142_114 (sy_calV (as := [(2, pl 0, 0), (2, pl 12, 0), (0, 0, 0)]) (S0 := []) xm142_675 rfl rfl) rfl rfl (sy_rcvm xi144 (wh_at hw 0 rfl)) rfl (sy_oka (sy_oks_cons (sy_ok2 (wh_lt hw 0 (by first | decide | assumption))) (sy_oks_cons (sy_ok2 (wh_lt hw 12 (by first | decide | assumption))) (sy_oks_cons (sy_ok0 (by first | decide | assumption | omega | exact mo_rd_lt _ _ | exact mo_add_lt _ _ | exact mo_sub_lt _ _ | exact mo_mul_lt _ _ | exact mo_shl_lt _ _ | exact mo_ushr_lt _ _ | exact mo_or_lt (by decide) (mo_and_lt (mo_rd_lt _ _)) | exact mo_or_lt (mo_shl_lt _ _) (mo_and_lt (mo_rd_lt _ _)))) sy_oks_nil))) rfl xl144) (sy_Cw (wr_find (n := n) hw hX0 (jf := 12) (at_ := 0) (by decide) rfl (by first | decide | assumption | omega) (by first | decide | assumption | omega))) (by decide) (by rw [xl144]; decide) sy_refl) ?_
  rw [eB]
  refine sy_Fs (sx_ist (j := 6) (ls' := [(2, pl 0, 0), (0, 0, 0), (0, 2, 0), (0, place, 0), (0, mask, 0), (0, 28, 0), (0, 0, 0)]) xc142_117 rfl (sy_ok0 (by first | decide | assumption | omega | exact mo_rd_lt _ _ | exact mo_add_lt _ _ | exact mo_sub_lt _ _ | exact mo_mul_lt _ _ | exact mo_shl_lt _ _ | exact mo_ushr_lt _ _ | exact mo_or_lt (by decide) (mo_and_lt (mo_rd_lt _ _)) | exact mo_or_lt (mo_shl_lt _ _) (mo_and_lt (mo_rd_lt _ _)))) (by rw [xl142]; rfl) rfl rfl) ?_
  refine sy_Fs (sy_ild xc142_119 rfl rfl sy_refl) ?_
  refine sy_Fs (sy_ifge_t (pc' := 126) xc142_121 (by decide) (by decide) (by decide) sy_refl) ?_
  refine sy_Fs (sy_ildn xc142_126 rfl rfl sy_refl) ?_
  refine sy_Fs (sy_iconst (v := 1) xc142_127 (by decide) sy_refl) ?_
  refine sy_Fs (sy_icmpne_t (pc' := 144) xc142_128 (by decide) (by decide) (by decide) (by decide) (by decide) sy_refl) ?_
  refine sy_Fs (sy_aldn xc142_144 rfl rfl sy_refl) ?_
  refine sy_Fs (sy_gf xc142_145 xf142_460 rfl (wh_at hw 0 rfl) rfl (fh_at hX0 22 rfl rfl) sy_refl) ?_
  refine sy_Fs (sy_ild xc142_148 rfl rfl sy_refl) ?_
  refine sy_Fs (sx_zal (z := 0) xc142_150 (wh_at hw 20 rfl) (by decide) (by decide) hhh) ?_
  refine sy_Fs (sy_ifeq_t (pc' := 156) xc142_151 (by decide) (by decide) (by decide) sy_refl) ?_
  refine sy_Fs (sy_ildn xc142_156 rfl rfl sy_refl) ?_
  refine sy_Fs (sy_iconst (v := 1) xc142_157 (by decide) sy_refl) ?_
  refine sy_Fs (sy_icmpne_t (pc' := 177) xc142_158 (by decide) (by decide) (by decide) (by decide) (by decide) sy_refl) ?_
  refine sy_Fs (sy_aldn xc142_177 rfl rfl sy_refl) ?_
  refine sy_Fs (sy_ild xc142_178 rfl rfl sy_refl) ?_
  refine sy_Fs (sy_ildn xc142_180 rfl rfl sy_refl) ?_
  refine sy_Fs (sy_ildn xc142_181 rfl rfl sy_refl) ?_
  refine sy_Fs (sy_ild xc142_182 rfl rfl sy_refl) ?_
  obtain ⟨ret, w, ⟨T, hT, rfl, X0, Y1, Y3, Y4, Y5, Y7, Yt, Yu, Yl, Yo, hw1, hX1x⟩, hC⟩ := rg_blk (n := n) hw hX0 hA hbs hp hm1 hm2 hf hb0 hb3 hv1 hv2
  refine sy_Fs (sy_callG (kd := 3) (as := [(2, pl 0, 0), (0, 0, 0), (0, 0, 0), (0, place, 0), (0, mask, 0)]) (S0 := []) (ret := [(0, (sb_n T 0 Hb 32 32), 0)]) xc142_184 (sy_calV (as := [(2, pl 0, 0), (0, 0, 0), (0, 0, 0), (0, place, 0), (0, mask, 0)]) (S0 := []) xm142_702 rfl rfl) rfl rfl (sy_rcvm xi146 (wh_at hw 0 rfl)) rfl (sy_oka (sy_oks_cons (sy_ok2 (wh_lt hw 0 (by first | decide | assumption))) (sy_oks_cons (sy_ok0 (by first | decide | assumption | omega | exact mo_rd_lt _ _ | exact mo_add_lt _ _ | exact mo_sub_lt _ _ | exact mo_mul_lt _ _ | exact mo_shl_lt _ _ | exact mo_ushr_lt _ _ | exact mo_or_lt (by decide) (mo_and_lt (mo_rd_lt _ _)) | exact mo_or_lt (mo_shl_lt _ _) (mo_and_lt (mo_rd_lt _ _)))) (sy_oks_cons (sy_ok0 (by first | decide | assumption | omega | exact mo_rd_lt _ _ | exact mo_add_lt _ _ | exact mo_sub_lt _ _ | exact mo_mul_lt _ _ | exact mo_shl_lt _ _ | exact mo_ushr_lt _ _ | exact mo_or_lt (by decide) (mo_and_lt (mo_rd_lt _ _)) | exact mo_or_lt (mo_shl_lt _ _) (mo_and_lt (mo_rd_lt _ _)))) (sy_oks_cons (sy_ok0 (by first | decide | assumption | omega | exact mo_rd_lt _ _ | exact mo_add_lt _ _ | exact mo_sub_lt _ _ | exact mo_mul_lt _ _ | exact mo_shl_lt _ _ | exact mo_ushr_lt _ _ | exact mo_or_lt (by decide) (mo_and_lt (mo_rd_lt _ _)) | exact mo_or_lt (mo_shl_lt _ _) (mo_and_lt (mo_rd_lt _ _)))) (sy_oks_cons (sy_ok0 (by first | decide | assumption | omega | exact mo_rd_lt _ _ | exact mo_add_lt _ _ | exact mo_sub_lt _ _ | exact mo_mul_lt _ _ | exact mo_shl_lt _ _ | exact mo_ushr_lt _ _ | exact mo_or_lt (by decide) (mo_and_lt (mo_rd_lt _ _)) | exact mo_or_lt (mo_shl_lt _ _) (mo_and_lt (mo_rd_lt _ _)))) sy_oks_nil))))) rfl xl146) hC (by decide) (by rw [xl146]; decide) sy_refl) ?_
  replace hw := hw1
  replace hX0 := hX1x
  cases hb : sb_eq T 0 Hb 32 32 with
  | true =>
    have e : sb_n T 0 Hb 32 32 = 1 := by unfold sb_n; rw [hb]; rfl
    refine sy_Fs (sy_ifne_t (pc' := 192) xc142_187 (by decide) (by rw [e]; decide) (by rw [e]; decide) (by decide) sy_refl) ?_
    refine sy_Fs (sy_ildn xc142_192 rfl rfl sy_refl) ?_
    refine sy_Fs (sy_iconst (v := 1) xc142_193 (by decide) sy_refl) ?_
    refine sy_Fs (sy_icmpne_t (pc' := 208) xc142_194 (by decide) (by decide) (by decide) (by decide) (by decide) sy_refl) ?_
    refine sy_Fs (sy_aldn xc142_208 rfl rfl sy_refl) ?_
    refine sy_Fs (sy_gf xc142_209 xf142_460 rfl (wh_at hw 0 rfl) rfl (fh_at hX0 22 rfl rfl) sy_refl) ?_
    refine sy_Fs (sy_ild xc142_212 rfl rfl sy_refl) ?_
    refine sy_Fs (sy_iconst (v := 1) xc142_214 (by decide) sy_refl) ?_
    refine sy_Fw (i := 20) (x := (1, 2, 60, (mv_wr 32 Hh 0 1))) hw (by decide) (sx_zas (i := 0) xc142_215 (wh_at hw 20 rfl) rfl (by decide) (by decide) (by decide) rfl sy_refl) ?_
    intro w hw
    simp only [List.set_cons_zero, List.set_cons_succ] at hw
    refine sy_Fs (sy_aldn xc142_216 rfl rfl sy_refl) ?_
    obtain ⟨ret, w, rfl, hC⟩ := wr_scan (n := n) hw hX0 hht hhe
    refine sy_Fs (sy_callG (kd := 3) (as := [(2, pl 0, 0)]) (S0 := []) (ret := []) xc142_217 (sy_calV (as := [(2, pl 0, 0)]) (S0 := []) xm142_228 rfl rfl) rfl rfl (sy_rcvm xi111 (wh_at hw 0 rfl)) rfl (sy_oka (sy_oks_cons (sy_ok2 (wh_lt hw 0 (by first | decide | assumption))) sy_oks_nil) rfl xl111) hC (by decide) (by rw [xl111]; decide) sy_refl) ?_
    refine sy_Fs (sy_iconst (v := 1) xc142_220 (by decide) sy_refl) ?_
    exact sy_Fi xc142_221 xr142 rfl ⟨T, hT, by unfold cg_a; rw [hb]; rfl⟩
  | false =>
    have e : sb_n T 0 Hb 32 32 = 0 := by unfold sb_n; rw [hb]; rfl
    refine sy_Fs (sy_ifne_f xc142_187 (by decide) e sy_refl) ?_
    refine sy_Fs (sy_iconst (v := 0) xc142_190 (by decide) sy_refl) ?_
    exact sy_Fi xc142_191 xr142 rfl ⟨T, hT, by unfold cg_a; rw [hb]; rfl⟩
end RF
