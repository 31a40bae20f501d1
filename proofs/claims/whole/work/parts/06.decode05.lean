theorem d_M_goes_3 : decode prog_9_method_30_code 3 = .ok (.istore_n 2, 1) := by decide +kernel
theorem d_M_goes_4 : decode prog_9_method_30_code 4 = .ok (.aload_n 0, 1) := by decide +kernel
theorem d_M_goes_5 : decode prog_9_method_30_code 5 = .ok (.aload_n 0, 1) := by decide +kernel
theorem d_M_goes_6 : decode prog_9_method_30_code 6 = .ok (.getfield 23, 3) := by decide +kernel
theorem d_M_goes_9 : decode prog_9_method_30_code 9 = .ok (.iload_n 2, 1) := by decide +kernel
theorem d_M_goes_10 : decode prog_9_method_30_code 10 = .ok (.iconst (1), 1) := by decide +kernel
theorem d_M_goes_11 : decode prog_9_method_30_code 11 = .ok (.iadd, 1) := by decide +kernel
theorem d_M_goes_12 : decode prog_9_method_30_code 12 = .ok (.iaload, 1) := by decide +kernel
theorem d_M_goes_13 : decode prog_9_method_30_code 13 = .ok (.aload_n 0, 1) := by decide +kernel
theorem d_M_goes_14 : decode prog_9_method_30_code 14 = .ok (.getfield 23, 3) := by decide +kernel
theorem d_M_goes_17 : decode prog_9_method_30_code 17 = .ok (.iload_n 2, 1) := by decide +kernel
theorem d_M_goes_18 : decode prog_9_method_30_code 18 = .ok (.iconst (1), 1) := by decide +kernel
theorem d_M_goes_19 : decode prog_9_method_30_code 19 = .ok (.iadd, 1) := by decide +kernel
theorem d_M_goes_20 : decode prog_9_method_30_code 20 = .ok (.iconst (1), 1) := by decide +kernel
theorem d_M_goes_21 : decode prog_9_method_30_code 21 = .ok (.iadd, 1) := by decide +kernel
theorem d_M_goes_22 : decode prog_9_method_30_code 22 = .ok (.iaload, 1) := by decide +kernel
theorem d_M_goes_23 : decode prog_9_method_30_code 23 = .ok (.invokevirtual 166, 3) := by decide +kernel
theorem d_M_goes_26 : decode prog_9_method_30_code 26 = .ok (.iconst (1), 1) := by decide +kernel
theorem d_M_goes_27 : decode prog_9_method_30_code 27 = .ok (.if_icmp .eq (5), 3) := by decide +kernel
theorem d_M_goes_30 : decode prog_9_method_30_code 30 = .ok (.iconst (-1), 1) := by decide +kernel
theorem d_M_goes_31 : decode prog_9_method_30_code 31 = .ok (.ireturn, 1) := by decide +kernel
theorem d_M_goes_32 : decode prog_9_method_30_code 32 = .ok (.aload_n 0, 1) := by decide +kernel
theorem d_M_goes_33 : decode prog_9_method_30_code 33 = .ok (.aload_n 0, 1) := by decide +kernel
theorem d_M_goes_34 : decode prog_9_method_30_code 34 = .ok (.getfield 23, 3) := by decide +kernel
theorem d_M_goes_37 : decode prog_9_method_30_code 37 = .ok (.iload_n 2, 1) := by decide +kernel
theorem d_M_goes_38 : decode prog_9_method_30_code 38 = .ok (.iconst (1), 1) := by decide +kernel
theorem d_M_goes_39 : decode prog_9_method_30_code 39 = .ok (.iadd, 1) := by decide +kernel
theorem d_M_goes_40 : decode prog_9_method_30_code 40 = .ok (.iaload, 1) := by decide +kernel
theorem d_M_goes_41 : decode prog_9_method_30_code 41 = .ok (.aload_n 0, 1) := by decide +kernel
theorem d_M_goes_42 : decode prog_9_method_30_code 42 = .ok (.getfield 23, 3) := by decide +kernel
theorem d_M_goes_45 : decode prog_9_method_30_code 45 = .ok (.iload_n 2, 1) := by decide +kernel
theorem d_M_goes_46 : decode prog_9_method_30_code 46 = .ok (.iconst (1), 1) := by decide +kernel
theorem d_M_goes_47 : decode prog_9_method_30_code 47 = .ok (.iadd, 1) := by decide +kernel
theorem d_M_goes_48 : decode prog_9_method_30_code 48 = .ok (.iconst (1), 1) := by decide +kernel
theorem d_M_goes_49 : decode prog_9_method_30_code 49 = .ok (.iadd, 1) := by decide +kernel
theorem d_M_goes_50 : decode prog_9_method_30_code 50 = .ok (.iaload, 1) := by decide +kernel
theorem d_M_goes_51 : decode prog_9_method_30_code 51 = .ok (.invokevirtual 162, 3) := by decide +kernel
theorem d_M_goes_54 : decode prog_9_method_30_code 54 = .ok (.ifCond .eq (14), 3) := by decide +kernel
theorem d_M_goes_57 : decode prog_9_method_30_code 57 = .ok (.aload_n 0, 1) := by decide +kernel
theorem d_M_goes_58 : decode prog_9_method_30_code 58 = .ok (.getfield 23, 3) := by decide +kernel
theorem d_M_goes_61 : decode prog_9_method_30_code 61 = .ok (.iload_n 2, 1) := by decide +kernel
theorem d_M_goes_62 : decode prog_9_method_30_code 62 = .ok (.iconst (3), 1) := by decide +kernel
theorem d_M_goes_63 : decode prog_9_method_30_code 63 = .ok (.iadd, 1) := by decide +kernel
theorem d_M_goes_64 : decode prog_9_method_30_code 64 = .ok (.iaload, 1) := by decide +kernel
theorem d_M_goes_65 : decode prog_9_method_30_code 65 = .ok (.goto (11), 3) := by decide +kernel
theorem d_M_goes_68 : decode prog_9_method_30_code 68 = .ok (.aload_n 0, 1) := by decide +kernel
theorem d_M_goes_69 : decode prog_9_method_30_code 69 = .ok (.getfield 23, 3) := by decide +kernel
theorem d_M_goes_72 : decode prog_9_method_30_code 72 = .ok (.iload_n 2, 1) := by decide +kernel
theorem d_M_goes_73 : decode prog_9_method_30_code 73 = .ok (.iconst (4), 1) := by decide +kernel
theorem d_M_goes_74 : decode prog_9_method_30_code 74 = .ok (.iadd, 1) := by decide +kernel
theorem d_M_goes_75 : decode prog_9_method_30_code 75 = .ok (.iaload, 1) := by decide +kernel
theorem d_M_goes_76 : decode prog_9_method_30_code 76 = .ok (.ireturn, 1) := by decide +kernel
theorem d_M_putNumber_0 : decode prog_9_method_40_code 0 = .ok (.iload_n 1, 1) := by decide +kernel
theorem d_M_putNumber_1 : decode prog_9_method_40_code 1 = .ok (.i2l, 1) := by decide +kernel
theorem d_M_putNumber_2 : decode prog_9_method_40_code 2 = .ok (.lstore_n 2, 1) := by decide +kernel
theorem d_M_putNumber_3 : decode prog_9_method_40_code 3 = .ok (.iload_n 1, 1) := by decide +kernel
theorem d_M_putNumber_4 : decode prog_9_method_40_code 4 = .ok (.ifCond .ge (12), 3) := by decide +kernel
theorem d_M_putNumber_7 : decode prog_9_method_40_code 7 = .ok (.aload_n 0, 1) := by decide +kernel
theorem d_M_putNumber_8 : decode prog_9_method_40_code 8 = .ok (.bipush (45), 2) := by decide +kernel
theorem d_M_putNumber_10 : decode prog_9_method_40_code 10 = .ok (.invokevirtual 204, 3) := by decide +kernel
theorem d_M_putNumber_13 : decode prog_9_method_40_code 13 = .ok (.lload_n 2, 1) := by decide +kernel
theorem d_M_putNumber_14 : decode prog_9_method_40_code 14 = .ok (.lneg, 1) := by decide +kernel
theorem d_M_putNumber_15 : decode prog_9_method_40_code 15 = .ok (.lstore_n 2, 1) := by decide +kernel
theorem d_M_putNumber_16 : decode prog_9_method_40_code 16 = .ok (.lconst 1, 1) := by decide +kernel
theorem d_M_putNumber_17 : decode prog_9_method_40_code 17 = .ok (.lstore 4, 2) := by decide +kernel
theorem d_M_putNumber_19 : decode prog_9_method_40_code 19 = .ok (.lload 4, 2) := by decide +kernel
theorem d_M_putNumber_21 : decode prog_9_method_40_code 21 = .ok (.ldc2_w 95, 3) := by decide +kernel
theorem d_M_putNumber_24 : decode prog_9_method_40_code 24 = .ok (.lmul, 1) := by decide +kernel
theorem d_M_putNumber_25 : decode prog_9_method_40_code 25 = .ok (.lload_n 2, 1) := by decide +kernel
theorem d_M_putNumber_26 : decode prog_9_method_40_code 26 = .ok (.lcmp, 1) := by decide +kernel
theorem d_M_putNumber_27 : decode prog_9_method_40_code 27 = .ok (.ifCond .gt (14), 3) := by decide +kernel
theorem d_M_putNumber_30 : decode prog_9_method_40_code 30 = .ok (.lload 4, 2) := by decide +kernel
theorem d_M_putNumber_32 : decode prog_9_method_40_code 32 = .ok (.ldc2_w 95, 3) := by decide +kernel
theorem d_M_putNumber_35 : decode prog_9_method_40_code 35 = .ok (.lmul, 1) := by decide +kernel
theorem d_M_putNumber_36 : decode prog_9_method_40_code 36 = .ok (.lstore 4, 2) := by decide +kernel
theorem d_M_putNumber_38 : decode prog_9_method_40_code 38 = .ok (.goto (-19), 3) := by decide +kernel
theorem d_M_putNumber_41 : decode prog_9_method_40_code 41 = .ok (.lload 4, 2) := by decide +kernel
theorem d_M_putNumber_43 : decode prog_9_method_40_code 43 = .ok (.lconst 0, 1) := by decide +kernel
theorem d_M_putNumber_44 : decode prog_9_method_40_code 44 = .ok (.lcmp, 1) := by decide +kernel
theorem d_M_putNumber_45 : decode prog_9_method_40_code 45 = .ok (.ifCond .le (30), 3) := by decide +kernel
theorem d_M_putNumber_48 : decode prog_9_method_40_code 48 = .ok (.aload_n 0, 1) := by decide +kernel
theorem d_M_putNumber_49 : decode prog_9_method_40_code 49 = .ok (.bipush (48), 2) := by decide +kernel
theorem d_M_putNumber_51 : decode prog_9_method_40_code 51 = .ok (.lload_n 2, 1) := by decide +kernel
theorem d_M_putNumber_52 : decode prog_9_method_40_code 52 = .ok (.lload 4, 2) := by decide +kernel
theorem d_M_putNumber_54 : decode prog_9_method_40_code 54 = .ok (.ldiv, 1) := by decide +kernel
theorem d_M_putNumber_55 : decode prog_9_method_40_code 55 = .ok (.ldc2_w 95, 3) := by decide +kernel
theorem d_M_putNumber_58 : decode prog_9_method_40_code 58 = .ok (.lrem, 1) := by decide +kernel
theorem d_M_putNumber_59 : decode prog_9_method_40_code 59 = .ok (.l2i, 1) := by decide +kernel
theorem d_M_putNumber_60 : decode prog_9_method_40_code 60 = .ok (.iadd, 1) := by decide +kernel
theorem d_M_putNumber_61 : decode prog_9_method_40_code 61 = .ok (.invokevirtual 204, 3) := by decide +kernel
theorem d_M_putNumber_64 : decode prog_9_method_40_code 64 = .ok (.lload 4, 2) := by decide +kernel
theorem d_M_putNumber_66 : decode prog_9_method_40_code 66 = .ok (.ldc2_w 95, 3) := by decide +kernel
theorem d_M_putNumber_69 : decode prog_9_method_40_code 69 = .ok (.ldiv, 1) := by decide +kernel
theorem d_M_putNumber_70 : decode prog_9_method_40_code 70 = .ok (.lstore 4, 2) := by decide +kernel
theorem d_M_putNumber_72 : decode prog_9_method_40_code 72 = .ok (.goto (-31), 3) := by decide +kernel
theorem d_M_putNumber_75 : decode prog_9_method_40_code 75 = .ok (.return_, 1) := by decide +kernel
theorem d_M_done_0 : decode prog_9_method_51_code 0 = .ok (.bipush (7), 2) := by decide +kernel
theorem d_M_done_2 : decode prog_9_method_51_code 2 = .ok (.iload_n 1, 1) := by decide +kernel
theorem d_M_done_3 : decode prog_9_method_51_code 3 = .ok (.imul, 1) := by decide +kernel
theorem d_M_done_4 : decode prog_9_method_51_code 4 = .ok (.istore_n 2, 1) := by decide +kernel
theorem d_M_done_5 : decode prog_9_method_51_code 5 = .ok (.iconst (0), 1) := by decide +kernel
theorem d_M_done_6 : decode prog_9_method_51_code 6 = .ok (.istore_n 3, 1) := by decide +kernel
theorem d_M_done_7 : decode prog_9_method_51_code 7 = .ok (.aload_n 0, 1) := by decide +kernel
theorem d_M_done_8 : decode prog_9_method_51_code 8 = .ok (.getfield 20, 3) := by decide +kernel
theorem d_M_done_11 : decode prog_9_method_51_code 11 = .ok (.iload_n 2, 1) := by decide +kernel
theorem d_M_done_12 : decode prog_9_method_51_code 12 = .ok (.iconst (1), 1) := by decide +kernel
theorem d_M_done_13 : decode prog_9_method_51_code 13 = .ok (.iadd, 1) := by decide +kernel
theorem d_M_done_14 : decode prog_9_method_51_code 14 = .ok (.iaload, 1) := by decide +kernel
theorem d_M_done_15 : decode prog_9_method_51_code 15 = .ok (.ifCond .ne (41), 3) := by decide +kernel
theorem d_M_done_18 : decode prog_9_method_51_code 18 = .ok (.aload_n 0, 1) := by decide +kernel
theorem d_M_done_19 : decode prog_9_method_51_code 19 = .ok (.getfield 228, 3) := by decide +kernel
theorem d_M_done_22 : decode prog_9_method_51_code 22 = .ok (.aload_n 0, 1) := by decide +kernel
theorem d_M_done_23 : decode prog_9_method_51_code 23 = .ok (.getfield 225, 3) := by decide +kernel
theorem d_M_done_26 : decode prog_9_method_51_code 26 = .ok (.if_icmp .ge (15), 3) := by decide +kernel
theorem d_M_done_29 : decode prog_9_method_51_code 29 = .ok (.aload_n 0, 1) := by decide +kernel
theorem d_M_done_30 : decode prog_9_method_51_code 30 = .ok (.getfield 60, 3) := by decide +kernel
theorem d_M_done_33 : decode prog_9_method_51_code 33 = .ok (.aload_n 0, 1) := by decide +kernel
theorem d_M_done_34 : decode prog_9_method_51_code 34 = .ok (.getfield 228, 3) := by decide +kernel
theorem d_M_done_37 : decode prog_9_method_51_code 37 = .ok (.iaload, 1) := by decide +kernel
theorem d_M_done_38 : decode prog_9_method_51_code 38 = .ok (.goto (4), 3) := by decide +kernel
theorem d_M_done_41 : decode prog_9_method_51_code 41 = .ok (.iconst (0), 1) := by decide +kernel
theorem d_M_done_42 : decode prog_9_method_51_code 42 = .ok (.istore_n 3, 1) := by decide +kernel
theorem d_M_done_43 : decode prog_9_method_51_code 43 = .ok (.aload_n 0, 1) := by decide +kernel
theorem d_M_done_44 : decode prog_9_method_51_code 44 = .ok (.dup, 1) := by decide +kernel
theorem d_M_done_45 : decode prog_9_method_51_code 45 = .ok (.getfield 228, 3) := by decide +kernel
theorem d_M_done_48 : decode prog_9_method_51_code 48 = .ok (.iconst (1), 1) := by decide +kernel
theorem d_M_done_49 : decode prog_9_method_51_code 49 = .ok (.iadd, 1) := by decide +kernel
theorem d_M_done_50 : decode prog_9_method_51_code 50 = .ok (.putfield 228, 3) := by decide +kernel
theorem d_M_done_53 : decode prog_9_method_51_code 53 = .ok (.goto (77), 3) := by decide +kernel
theorem d_M_done_56 : decode prog_9_method_51_code 56 = .ok (.aload_n 0, 1) := by decide +kernel
theorem d_M_done_57 : decode prog_9_method_51_code 57 = .ok (.aload_n 0, 1) := by decide +kernel
theorem d_M_done_58 : decode prog_9_method_51_code 58 = .ok (.getfield 20, 3) := by decide +kernel
theorem d_M_done_61 : decode prog_9_method_51_code 61 = .ok (.iload_n 2, 1) := by decide +kernel
theorem d_M_done_62 : decode prog_9_method_51_code 62 = .ok (.iconst (3), 1) := by decide +kernel
theorem d_M_done_63 : decode prog_9_method_51_code 63 = .ok (.iadd, 1) := by decide +kernel
theorem d_M_done_64 : decode prog_9_method_51_code 64 = .ok (.iaload, 1) := by decide +kernel
theorem d_M_done_65 : decode prog_9_method_51_code 65 = .ok (.aload_n 0, 1) := by decide +kernel
theorem d_M_done_66 : decode prog_9_method_51_code 66 = .ok (.getfield 20, 3) := by decide +kernel
theorem d_M_done_69 : decode prog_9_method_51_code 69 = .ok (.iload_n 2, 1) := by decide +kernel
theorem d_M_done_70 : decode prog_9_method_51_code 70 = .ok (.iconst (3), 1) := by decide +kernel
theorem d_M_done_71 : decode prog_9_method_51_code 71 = .ok (.iadd, 1) := by decide +kernel
theorem d_M_done_72 : decode prog_9_method_51_code 72 = .ok (.iconst (1), 1) := by decide +kernel
theorem d_M_done_73 : decode prog_9_method_51_code 73 = .ok (.iadd, 1) := by decide +kernel
theorem d_M_done_74 : decode prog_9_method_51_code 74 = .ok (.iaload, 1) := by decide +kernel
theorem d_M_done_75 : decode prog_9_method_51_code 75 = .ok (.invokevirtual 231, 3) := by decide +kernel
theorem d_M_done_78 : decode prog_9_method_51_code 78 = .ok (.istore_n 3, 1) := by decide +kernel
theorem d_M_done_79 : decode prog_9_method_51_code 79 = .ok (.aload_n 0, 1) := by decide +kernel
theorem d_M_done_80 : decode prog_9_method_51_code 80 = .ok (.getfield 20, 3) := by decide +kernel
theorem d_M_done_83 : decode prog_9_method_51_code 83 = .ok (.iload_n 2, 1) := by decide +kernel
theorem d_M_done_84 : decode prog_9_method_51_code 84 = .ok (.iconst (1), 1) := by decide +kernel
theorem d_M_done_85 : decode prog_9_method_51_code 85 = .ok (.iadd, 1) := by decide +kernel
theorem d_M_done_86 : decode prog_9_method_51_code 86 = .ok (.iaload, 1) := by decide +kernel
theorem d_M_done_87 : decode prog_9_method_51_code 87 = .ok (.iconst (2), 1) := by decide +kernel
theorem d_M_done_88 : decode prog_9_method_51_code 88 = .ok (.if_icmp .ne (40), 3) := by decide +kernel
theorem d_M_done_91 : decode prog_9_method_51_code 91 = .ok (.aload_n 0, 1) := by decide +kernel
theorem d_M_done_92 : decode prog_9_method_51_code 92 = .ok (.getfield 20, 3) := by decide +kernel
theorem d_M_done_95 : decode prog_9_method_51_code 95 = .ok (.iload_n 2, 1) := by decide +kernel
theorem d_M_done_96 : decode prog_9_method_51_code 96 = .ok (.iconst (2), 1) := by decide +kernel
theorem d_M_done_97 : decode prog_9_method_51_code 97 = .ok (.iadd, 1) := by decide +kernel
theorem d_M_done_98 : decode prog_9_method_51_code 98 = .ok (.iaload, 1) := by decide +kernel
theorem d_M_done_99 : decode prog_9_method_51_code 99 = .ok (.iload_n 3, 1) := by decide +kernel
theorem d_M_done_100 : decode prog_9_method_51_code 100 = .ok (.aload_n 0, 1) := by decide +kernel
theorem d_M_done_101 : decode prog_9_method_51_code 101 = .ok (.aload_n 0, 1) := by decide +kernel
theorem d_M_done_102 : decode prog_9_method_51_code 102 = .ok (.getfield 20, 3) := by decide +kernel
theorem d_M_done_105 : decode prog_9_method_51_code 105 = .ok (.iload_n 2, 1) := by decide +kernel
theorem d_M_done_106 : decode prog_9_method_51_code 106 = .ok (.iconst (5), 1) := by decide +kernel
theorem d_M_done_107 : decode prog_9_method_51_code 107 = .ok (.iadd, 1) := by decide +kernel
theorem d_M_done_108 : decode prog_9_method_51_code 108 = .ok (.iaload, 1) := by decide +kernel
theorem d_M_done_109 : decode prog_9_method_51_code 109 = .ok (.aload_n 0, 1) := by decide +kernel
theorem d_M_done_110 : decode prog_9_method_51_code 110 = .ok (.getfield 20, 3) := by decide +kernel
theorem d_M_done_113 : decode prog_9_method_51_code 113 = .ok (.iload_n 2, 1) := by decide +kernel
theorem d_M_done_114 : decode prog_9_method_51_code 114 = .ok (.iconst (5), 1) := by decide +kernel
theorem d_M_done_115 : decode prog_9_method_51_code 115 = .ok (.iadd, 1) := by decide +kernel
theorem d_M_done_116 : decode prog_9_method_51_code 116 = .ok (.iconst (1), 1) := by decide +kernel
theorem d_M_done_117 : decode prog_9_method_51_code 117 = .ok (.iadd, 1) := by decide +kernel
theorem d_M_done_118 : decode prog_9_method_51_code 118 = .ok (.iaload, 1) := by decide +kernel
theorem d_M_done_119 : decode prog_9_method_51_code 119 = .ok (.invokevirtual 231, 3) := by decide +kernel
theorem d_M_done_122 : decode prog_9_method_51_code 122 = .ok (.invokestatic 169, 3) := by decide +kernel
theorem d_M_done_125 : decode prog_9_method_51_code 125 = .ok (.goto (4), 3) := by decide +kernel
theorem d_M_done_128 : decode prog_9_method_51_code 128 = .ok (.iload_n 3, 1) := by decide +kernel
theorem d_M_done_129 : decode prog_9_method_51_code 129 = .ok (.istore_n 3, 1) := by decide +kernel
theorem d_M_done_130 : decode prog_9_method_51_code 130 = .ok (.aload_n 0, 1) := by decide +kernel
theorem d_M_done_131 : decode prog_9_method_51_code 131 = .ok (.getfield 63, 3) := by decide +kernel
theorem d_M_done_134 : decode prog_9_method_51_code 134 = .ok (.aload_n 0, 1) := by decide +kernel
theorem d_M_done_135 : decode prog_9_method_51_code 135 = .ok (.getfield 20, 3) := by decide +kernel
theorem d_M_done_138 : decode prog_9_method_51_code 138 = .ok (.iload_n 2, 1) := by decide +kernel
theorem d_M_done_139 : decode prog_9_method_51_code 139 = .ok (.iconst (0), 1) := by decide +kernel
theorem d_M_done_140 : decode prog_9_method_51_code 140 = .ok (.iadd, 1) := by decide +kernel
theorem d_M_done_141 : decode prog_9_method_51_code 141 = .ok (.iaload, 1) := by decide +kernel
theorem d_M_done_142 : decode prog_9_method_51_code 142 = .ok (.iload_n 3, 1) := by decide +kernel
theorem d_M_done_143 : decode prog_9_method_51_code 143 = .ok (.iastore, 1) := by decide +kernel
theorem d_M_done_144 : decode prog_9_method_51_code 144 = .ok (.return_, 1) := by decide +kernel
theorem d_F_rewriteOperand_0 : decode prog_2_method_14_code 0 = .ok (.aload_n 0, 1) := by decide +kernel
theorem d_F_rewriteOperand_1 : decode prog_2_method_14_code 1 = .ok (.getfield 32, 3) := by decide +kernel
theorem d_F_rewriteOperand_4 : decode prog_2_method_14_code 4 = .ok (.aload_n 1, 1) := by decide +kernel
theorem d_F_rewriteOperand_5 : decode prog_2_method_14_code 5 = .ok (.iload_n 2, 1) := by decide +kernel
theorem d_F_rewriteOperand_6 : decode prog_2_method_14_code 6 = .ok (.invokevirtual 97, 3) := by decide +kernel
theorem d_F_rewriteOperand_9 : decode prog_2_method_14_code 9 = .ok (.ifCond .eq (19), 3) := by decide +kernel
theorem d_F_rewriteOperand_12 : decode prog_2_method_14_code 12 = .ok (.aload_n 3, 1) := by decide +kernel
theorem d_F_rewriteOperand_13 : decode prog_2_method_14_code 13 = .ok (.aload_n 0, 1) := by decide +kernel
theorem d_F_rewriteOperand_14 : decode prog_2_method_14_code 14 = .ok (.getfield 32, 3) := by decide +kernel
theorem d_F_rewriteOperand_17 : decode prog_2_method_14_code 17 = .ok (.aload_n 1, 1) := by decide +kernel
theorem d_F_rewriteOperand_18 : decode prog_2_method_14_code 18 = .ok (.iload_n 2, 1) := by decide +kernel
theorem d_F_rewriteOperand_19 : decode prog_2_method_14_code 19 = .ok (.invokevirtual 100, 3) := by decide +kernel
theorem d_F_rewriteOperand_22 : decode prog_2_method_14_code 22 = .ok (.invokevirtual 143, 3) := by decide +kernel
theorem d_F_rewriteOperand_25 : decode prog_2_method_14_code 25 = .ok (.goto (16), 3) := by decide +kernel
theorem d_F_rewriteOperand_28 : decode prog_2_method_14_code 28 = .ok (.aload_n 3, 1) := by decide +kernel
theorem d_F_rewriteOperand_29 : decode prog_2_method_14_code 29 = .ok (.bipush (97), 2) := by decide +kernel
theorem d_F_rewriteOperand_31 : decode prog_2_method_14_code 31 = .ok (.aload_n 1, 1) := by decide +kernel
theorem d_F_rewriteOperand_32 : decode prog_2_method_14_code 32 = .ok (.getfield 155, 3) := by decide +kernel
theorem d_F_rewriteOperand_35 : decode prog_2_method_14_code 35 = .ok (.iload_n 2, 1) := by decide +kernel
theorem d_F_rewriteOperand_36 : decode prog_2_method_14_code 36 = .ok (.iaload, 1) := by decide +kernel
theorem d_F_rewriteOperand_37 : decode prog_2_method_14_code 37 = .ok (.iadd, 1) := by decide +kernel
theorem d_F_rewriteOperand_38 : decode prog_2_method_14_code 38 = .ok (.invokevirtual 127, 3) := by decide +kernel
theorem d_F_rewriteOperand_41 : decode prog_2_method_14_code 41 = .ok (.return_, 1) := by decide +kernel
theorem d_G_goalFor_0 : decode prog_4_method_10_code 0 = .ok (.aload_n 0, 1) := by decide +kernel
theorem d_G_goalFor_1 : decode prog_4_method_10_code 1 = .ok (.getfield 28, 3) := by decide +kernel
theorem d_G_goalFor_4 : decode prog_4_method_10_code 4 = .ok (.iload_n 1, 1) := by decide +kernel
theorem d_G_goalFor_5 : decode prog_4_method_10_code 5 = .ok (.iaload, 1) := by decide +kernel
theorem d_G_goalFor_6 : decode prog_4_method_10_code 6 = .ok (.iconst (2), 1) := by decide +kernel
theorem d_G_goalFor_7 : decode prog_4_method_10_code 7 = .ok (.if_icmp .ne (11), 3) := by decide +kernel
theorem d_G_goalFor_10 : decode prog_4_method_10_code 10 = .ok (.iload_n 2, 1) := by decide +kernel
theorem d_G_goalFor_11 : decode prog_4_method_10_code 11 = .ok (.ifCond .ne (7), 3) := by decide +kernel
theorem d_G_goalFor_14 : decode prog_4_method_10_code 14 = .ok (.iconst (1), 1) := by decide +kernel
theorem d_G_goalFor_15 : decode prog_4_method_10_code 15 = .ok (.goto (4), 3) := by decide +kernel
theorem d_G_goalFor_18 : decode prog_4_method_10_code 18 = .ok (.iconst (0), 1) := by decide +kernel
theorem d_G_goalFor_19 : decode prog_4_method_10_code 19 = .ok (.istore_n 3, 1) := by decide +kernel
theorem d_G_goalFor_20 : decode prog_4_method_10_code 20 = .ok (.aload_n 0, 1) := by decide +kernel
theorem d_G_goalFor_21 : decode prog_4_method_10_code 21 = .ok (.iload_n 1, 1) := by decide +kernel
theorem d_G_goalFor_22 : decode prog_4_method_10_code 22 = .ok (.iload_n 3, 1) := by decide +kernel
theorem d_G_goalFor_23 : decode prog_4_method_10_code 23 = .ok (.ifCond .eq (7), 3) := by decide +kernel
theorem d_G_goalFor_26 : decode prog_4_method_10_code 26 = .ok (.iconst (1), 1) := by decide +kernel
theorem d_G_goalFor_27 : decode prog_4_method_10_code 27 = .ok (.goto (4), 3) := by decide +kernel
theorem d_G_goalFor_30 : decode prog_4_method_10_code 30 = .ok (.iconst (0), 1) := by decide +kernel
theorem d_G_goalFor_31 : decode prog_4_method_10_code 31 = .ok (.invokevirtual 45, 3) := by decide +kernel
theorem d_G_goalFor_34 : decode prog_4_method_10_code 34 = .ok (.ireturn, 1) := by decide +kernel
theorem d_R_fillGoal_0 : decode prog_5_method_10_code 0 = .ok (.aload_n 0, 1) := by decide +kernel
theorem d_R_fillGoal_1 : decode prog_5_method_10_code 1 = .ok (.getfield 23, 3) := by decide +kernel
theorem d_R_fillGoal_4 : decode prog_5_method_10_code 4 = .ok (.getfield 108, 3) := by decide +kernel
theorem d_R_fillGoal_7 : decode prog_5_method_10_code 7 = .ok (.iload_n 1, 1) := by decide +kernel
theorem d_R_fillGoal_8 : decode prog_5_method_10_code 8 = .ok (.invokestatic 121, 3) := by decide +kernel
theorem d_R_fillGoal_11 : decode prog_5_method_10_code 11 = .ok (.istore_n 2, 1) := by decide +kernel
theorem d_R_fillGoal_12 : decode prog_5_method_10_code 12 = .ok (.aload_n 0, 1) := by decide +kernel
theorem d_R_fillGoal_13 : decode prog_5_method_10_code 13 = .ok (.invokevirtual 45, 3) := by decide +kernel
theorem d_R_fillGoal_16 : decode prog_5_method_10_code 16 = .ok (.pop, 1) := by decide +kernel
theorem d_R_fillGoal_17 : decode prog_5_method_10_code 17 = .ok (.aload_n 0, 1) := by decide +kernel
theorem d_R_fillGoal_18 : decode prog_5_method_10_code 18 = .ok (.getfield 9, 3) := by decide +kernel
theorem d_R_fillGoal_21 : decode prog_5_method_10_code 21 = .ok (.iload_n 2, 1) := by decide +kernel
theorem d_R_fillGoal_22 : decode prog_5_method_10_code 22 = .ok (.aload_n 0, 1) := by decide +kernel
theorem d_R_fillGoal_23 : decode prog_5_method_10_code 23 = .ok (.getfield 32, 3) := by decide +kernel
theorem d_R_fillGoal_26 : decode prog_5_method_10_code 26 = .ok (.iastore, 1) := by decide +kernel
theorem d_R_fillGoal_27 : decode prog_5_method_10_code 27 = .ok (.aload_n 0, 1) := by decide +kernel
theorem d_R_fillGoal_28 : decode prog_5_method_10_code 28 = .ok (.iconst (0), 1) := by decide +kernel
theorem d_R_fillGoal_29 : decode prog_5_method_10_code 29 = .ok (.invokevirtual 101, 3) := by decide +kernel
theorem d_R_fillGoal_32 : decode prog_5_method_10_code 32 = .ok (.ifCond .ne (5), 3) := by decide +kernel
theorem d_R_fillGoal_35 : decode prog_5_method_10_code 35 = .ok (.iconst (0), 1) := by decide +kernel
theorem d_R_fillGoal_36 : decode prog_5_method_10_code 36 = .ok (.ireturn, 1) := by decide +kernel
theorem d_R_fillGoal_37 : decode prog_5_method_10_code 37 = .ok (.aload_n 0, 1) := by decide +kernel
theorem d_R_fillGoal_38 : decode prog_5_method_10_code 38 = .ok (.getfield 23, 3) := by decide +kernel
theorem d_R_fillGoal_41 : decode prog_5_method_10_code 41 = .ok (.getfield 125, 3) := by decide +kernel
theorem d_R_fillGoal_44 : decode prog_5_method_10_code 44 = .ok (.iload_n 2, 1) := by decide +kernel
theorem d_R_fillGoal_45 : decode prog_5_method_10_code 45 = .ok (.aload_n 0, 1) := by decide +kernel
theorem d_R_fillGoal_46 : decode prog_5_method_10_code 46 = .ok (.getfield 105, 3) := by decide +kernel
theorem d_R_fillGoal_49 : decode prog_5_method_10_code 49 = .ok (.iastore, 1) := by decide +kernel
theorem d_R_fillGoal_50 : decode prog_5_method_10_code 50 = .ok (.iconst (1), 1) := by decide +kernel
theorem d_R_fillGoal_51 : decode prog_5_method_10_code 51 = .ok (.ireturn, 1) := by decide +kernel
theorem d_R_allGoalsThere_0 : decode prog_5_method_12_code 0 = .ok (.iconst (0), 1) := by decide +kernel
theorem d_R_allGoalsThere_1 : decode prog_5_method_12_code 1 = .ok (.istore_n 1, 1) := by decide +kernel
theorem d_R_allGoalsThere_2 : decode prog_5_method_12_code 2 = .ok (.iload_n 1, 1) := by decide +kernel
theorem d_R_allGoalsThere_3 : decode prog_5_method_12_code 3 = .ok (.aload_n 0, 1) := by decide +kernel
theorem d_R_allGoalsThere_4 : decode prog_5_method_12_code 4 = .ok (.getfield 23, 3) := by decide +kernel
theorem d_R_allGoalsThere_7 : decode prog_5_method_12_code 7 = .ok (.getfield 108, 3) := by decide +kernel
theorem d_R_allGoalsThere_10 : decode prog_5_method_12_code 10 = .ok (.if_icmp .ge (65), 3) := by decide +kernel
theorem d_R_allGoalsThere_13 : decode prog_5_method_12_code 13 = .ok (.iconst (0), 1) := by decide +kernel
theorem d_R_allGoalsThere_14 : decode prog_5_method_12_code 14 = .ok (.istore_n 2, 1) := by decide +kernel
theorem d_R_allGoalsThere_15 : decode prog_5_method_12_code 15 = .ok (.iload_n 2, 1) := by decide +kernel
theorem d_R_allGoalsThere_16 : decode prog_5_method_12_code 16 = .ok (.aload_n 0, 1) := by decide +kernel
theorem d_R_allGoalsThere_17 : decode prog_5_method_12_code 17 = .ok (.getfield 23, 3) := by decide +kernel
theorem d_R_allGoalsThere_20 : decode prog_5_method_12_code 20 = .ok (.getfield 143, 3) := by decide +kernel
theorem d_R_allGoalsThere_23 : decode prog_5_method_12_code 23 = .ok (.iload_n 1, 1) := by decide +kernel
theorem d_R_allGoalsThere_24 : decode prog_5_method_12_code 24 = .ok (.iaload, 1) := by decide +kernel
theorem d_R_allGoalsThere_25 : decode prog_5_method_12_code 25 = .ok (.if_icmp .ge (44), 3) := by decide +kernel
theorem d_R_allGoalsThere_28 : decode prog_5_method_12_code 28 = .ok (.aload_n 0, 1) := by decide +kernel
theorem d_R_allGoalsThere_29 : decode prog_5_method_12_code 29 = .ok (.getfield 23, 3) := by decide +kernel
theorem d_R_allGoalsThere_32 : decode prog_5_method_12_code 32 = .ok (.iload_n 1, 1) := by decide +kernel
theorem d_R_allGoalsThere_33 : decode prog_5_method_12_code 33 = .ok (.iload_n 2, 1) := by decide +kernel
theorem d_R_allGoalsThere_34 : decode prog_5_method_12_code 34 = .ok (.invokevirtual 146, 3) := by decide +kernel
theorem d_R_allGoalsThere_37 : decode prog_5_method_12_code 37 = .ok (.aload_n 0, 1) := by decide +kernel
theorem d_R_allGoalsThere_38 : decode prog_5_method_12_code 38 = .ok (.getfield 23, 3) := by decide +kernel
theorem d_R_allGoalsThere_41 : decode prog_5_method_12_code 41 = .ok (.getfield 108, 3) := by decide +kernel
theorem d_R_allGoalsThere_44 : decode prog_5_method_12_code 44 = .ok (.if_icmp .lt (19), 3) := by decide +kernel
theorem d_R_allGoalsThere_47 : decode prog_5_method_12_code 47 = .ok (.aload_n 0, 1) := by decide +kernel
theorem d_R_allGoalsThere_48 : decode prog_5_method_12_code 48 = .ok (.iconst (4), 1) := by decide +kernel
theorem d_R_allGoalsThere_49 : decode prog_5_method_12_code 49 = .ok (.aload_n 0, 1) := by decide +kernel
theorem d_R_allGoalsThere_50 : decode prog_5_method_12_code 50 = .ok (.getfield 9, 3) := by decide +kernel
theorem d_R_allGoalsThere_53 : decode prog_5_method_12_code 53 = .ok (.iload_n 1, 1) := by decide +kernel
theorem d_R_allGoalsThere_54 : decode prog_5_method_12_code 54 = .ok (.iload_n 2, 1) := by decide +kernel
theorem d_R_allGoalsThere_55 : decode prog_5_method_12_code 55 = .ok (.invokestatic 121, 3) := by decide +kernel
theorem d_R_allGoalsThere_58 : decode prog_5_method_12_code 58 = .ok (.iaload, 1) := by decide +kernel
theorem d_R_allGoalsThere_59 : decode prog_5_method_12_code 59 = .ok (.invokevirtual 52, 3) := by decide +kernel
theorem d_R_allGoalsThere_62 : decode prog_5_method_12_code 62 = .ok (.ireturn, 1) := by decide +kernel
theorem d_R_allGoalsThere_63 : decode prog_5_method_12_code 63 = .ok (.iinc 2 (1), 3) := by decide +kernel
theorem d_R_allGoalsThere_66 : decode prog_5_method_12_code 66 = .ok (.goto (-51), 3) := by decide +kernel
theorem d_R_allGoalsThere_69 : decode prog_5_method_12_code 69 = .ok (.iinc 1 (1), 3) := by decide +kernel
theorem d_R_allGoalsThere_72 : decode prog_5_method_12_code 72 = .ok (.goto (-70), 3) := by decide +kernel
theorem d_R_allGoalsThere_75 : decode prog_5_method_12_code 75 = .ok (.iconst (1), 1) := by decide +kernel
theorem d_R_allGoalsThere_76 : decode prog_5_method_12_code 76 = .ok (.ireturn, 1) := by decide +kernel
theorem d_R_pass_0 : decode prog_5_method_5_code 0 = .ok (.aload_n 0, 1) := by decide +kernel
theorem d_R_pass_1 : decode prog_5_method_5_code 1 = .ok (.invokevirtual 45, 3) := by decide +kernel
theorem d_R_pass_4 : decode prog_5_method_5_code 4 = .ok (.iload_n 1, 1) := by decide +kernel
theorem d_R_pass_5 : decode prog_5_method_5_code 5 = .ok (.if_icmp .eq (13), 3) := by decide +kernel
theorem d_R_pass_8 : decode prog_5_method_5_code 8 = .ok (.aload_n 0, 1) := by decide +kernel
theorem d_R_pass_9 : decode prog_5_method_5_code 9 = .ok (.iconst (1), 1) := by decide +kernel
theorem d_R_pass_10 : decode prog_5_method_5_code 10 = .ok (.aload_n 0, 1) := by decide +kernel
theorem d_R_pass_11 : decode prog_5_method_5_code 11 = .ok (.getfield 32, 3) := by decide +kernel
theorem d_R_pass_14 : decode prog_5_method_5_code 14 = .ok (.invokevirtual 52, 3) := by decide +kernel
theorem d_R_pass_17 : decode prog_5_method_5_code 17 = .ok (.ireturn, 1) := by decide +kernel
theorem d_R_pass_18 : decode prog_5_method_5_code 18 = .ok (.aload_n 0, 1) := by decide +kernel
theorem d_R_pass_19 : decode prog_5_method_5_code 19 = .ok (.dup, 1) := by decide +kernel
theorem d_R_pass_20 : decode prog_5_method_5_code 20 = .ok (.getfield 32, 3) := by decide +kernel
theorem d_R_pass_23 : decode prog_5_method_5_code 23 = .ok (.iconst (1), 1) := by decide +kernel
theorem d_R_pass_24 : decode prog_5_method_5_code 24 = .ok (.iadd, 1) := by decide +kernel
theorem d_R_pass_25 : decode prog_5_method_5_code 25 = .ok (.putfield 32, 3) := by decide +kernel
theorem d_R_pass_28 : decode prog_5_method_5_code 28 = .ok (.iconst (1), 1) := by decide +kernel
theorem d_R_pass_29 : decode prog_5_method_5_code 29 = .ok (.ireturn, 1) := by decide +kernel
theorem d_R_fillOperand_0 : decode prog_5_method_8_code 0 = .ok (.aload_n 0, 1) := by decide +kernel
theorem d_R_fillOperand_1 : decode prog_5_method_8_code 1 = .ok (.invokevirtual 45, 3) := by decide +kernel
theorem d_R_fillOperand_4 : decode prog_5_method_8_code 4 = .ok (.istore_n 2, 1) := by decide +kernel
theorem d_R_fillOperand_5 : decode prog_5_method_8_code 5 = .ok (.iload_n 2, 1) := by decide +kernel
theorem d_R_fillOperand_6 : decode prog_5_method_8_code 6 = .ok (.invokestatic 65, 3) := by decide +kernel
theorem d_R_fillOperand_9 : decode prog_5_method_8_code 9 = .ok (.ifCond .eq (28), 3) := by decide +kernel
theorem d_R_fillOperand_12 : decode prog_5_method_8_code 12 = .ok (.aload_n 0, 1) := by decide +kernel
theorem d_R_fillOperand_13 : decode prog_5_method_8_code 13 = .ok (.dup, 1) := by decide +kernel
theorem d_R_fillOperand_14 : decode prog_5_method_8_code 14 = .ok (.getfield 32, 3) := by decide +kernel
theorem d_R_fillOperand_17 : decode prog_5_method_8_code 17 = .ok (.iconst (1), 1) := by decide +kernel
theorem d_R_fillOperand_18 : decode prog_5_method_8_code 18 = .ok (.iadd, 1) := by decide +kernel
theorem d_R_fillOperand_19 : decode prog_5_method_8_code 19 = .ok (.putfield 32, 3) := by decide +kernel
theorem d_R_fillOperand_22 : decode prog_5_method_8_code 22 = .ok (.aload_n 0, 1) := by decide +kernel
theorem d_R_fillOperand_23 : decode prog_5_method_8_code 23 = .ok (.getfield 23, 3) := by decide +kernel
theorem d_R_fillOperand_26 : decode prog_5_method_8_code 26 = .ok (.iload_n 1, 1) := by decide +kernel
theorem d_R_fillOperand_27 : decode prog_5_method_8_code 27 = .ok (.iconst (1), 1) := by decide +kernel
theorem d_R_fillOperand_28 : decode prog_5_method_8_code 28 = .ok (.iload_n 2, 1) := by decide +kernel
theorem d_R_fillOperand_29 : decode prog_5_method_8_code 29 = .ok (.bipush (97), 2) := by decide +kernel
theorem d_R_fillOperand_31 : decode prog_5_method_8_code 31 = .ok (.isub, 1) := by decide +kernel
theorem d_R_fillOperand_32 : decode prog_5_method_8_code 32 = .ok (.invokevirtual 97, 3) := by decide +kernel
theorem d_R_fillOperand_35 : decode prog_5_method_8_code 35 = .ok (.iconst (1), 1) := by decide +kernel
theorem d_R_fillOperand_36 : decode prog_5_method_8_code 36 = .ok (.ireturn, 1) := by decide +kernel
theorem d_R_fillOperand_37 : decode prog_5_method_8_code 37 = .ok (.aload_n 0, 1) := by decide +kernel
theorem d_R_fillOperand_38 : decode prog_5_method_8_code 38 = .ok (.iconst (1), 1) := by decide +kernel
theorem d_R_fillOperand_39 : decode prog_5_method_8_code 39 = .ok (.invokevirtual 101, 3) := by decide +kernel
