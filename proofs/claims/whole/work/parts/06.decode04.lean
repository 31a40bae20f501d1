theorem d_V_settled_16 : decode prog_7_method_7_code 16 = .ok (.invokevirtual 41, 3) := by decide +kernel
theorem d_V_settled_19 : decode prog_7_method_7_code 19 = .ok (.istore 4, 2) := by decide +kernel
theorem d_V_settled_21 : decode prog_7_method_7_code 21 = .ok (.aload_n 1, 1) := by decide +kernel
theorem d_V_settled_22 : decode prog_7_method_7_code 22 = .ok (.getfield 27, 3) := by decide +kernel
theorem d_V_settled_25 : decode prog_7_method_7_code 25 = .ok (.iload_n 2, 1) := by decide +kernel
theorem d_V_settled_26 : decode prog_7_method_7_code 26 = .ok (.iaload, 1) := by decide +kernel
theorem d_V_settled_27 : decode prog_7_method_7_code 27 = .ok (.iload_n 3, 1) := by decide +kernel
theorem d_V_settled_28 : decode prog_7_method_7_code 28 = .ok (.iload 4, 2) := by decide +kernel
theorem d_V_settled_30 : decode prog_7_method_7_code 30 = .ok (.invokestatic 45, 3) := by decide +kernel
theorem d_V_settled_33 : decode prog_7_method_7_code 33 = .ok (.ireturn, 1) := by decide +kernel
theorem d_M_want_0 : decode prog_9_method_10_code 0 = .ok (.aload_n 0, 1) := by decide +kernel
theorem d_M_want_1 : decode prog_9_method_10_code 1 = .ok (.invokevirtual 80, 3) := by decide +kernel
theorem d_M_want_4 : decode prog_9_method_10_code 4 = .ok (.aload_n 0, 1) := by decide +kernel
theorem d_M_want_5 : decode prog_9_method_10_code 5 = .ok (.aload_n 0, 1) := by decide +kernel
theorem d_M_want_6 : decode prog_9_method_10_code 6 = .ok (.getfield 77, 3) := by decide +kernel
theorem d_M_want_9 : decode prog_9_method_10_code 9 = .ok (.invokevirtual 83, 3) := by decide +kernel
theorem d_M_want_12 : decode prog_9_method_10_code 12 = .ok (.iload_n 1, 1) := by decide +kernel
theorem d_M_want_13 : decode prog_9_method_10_code 13 = .ok (.if_icmp .ne (16), 3) := by decide +kernel
theorem d_M_want_16 : decode prog_9_method_10_code 16 = .ok (.aload_n 0, 1) := by decide +kernel
theorem d_M_want_17 : decode prog_9_method_10_code 17 = .ok (.dup, 1) := by decide +kernel
theorem d_M_want_18 : decode prog_9_method_10_code 18 = .ok (.getfield 77, 3) := by decide +kernel
theorem d_M_want_21 : decode prog_9_method_10_code 21 = .ok (.iconst (1), 1) := by decide +kernel
theorem d_M_want_22 : decode prog_9_method_10_code 22 = .ok (.iadd, 1) := by decide +kernel
theorem d_M_want_23 : decode prog_9_method_10_code 23 = .ok (.putfield 77, 3) := by decide +kernel
theorem d_M_want_26 : decode prog_9_method_10_code 26 = .ok (.goto (12), 3) := by decide +kernel
theorem d_M_want_29 : decode prog_9_method_10_code 29 = .ok (.aload_n 0, 1) := by decide +kernel
theorem d_M_want_30 : decode prog_9_method_10_code 30 = .ok (.iconst (1), 1) := by decide +kernel
theorem d_M_want_31 : decode prog_9_method_10_code 31 = .ok (.aload_n 0, 1) := by decide +kernel
theorem d_M_want_32 : decode prog_9_method_10_code 32 = .ok (.getfield 77, 3) := by decide +kernel
theorem d_M_want_35 : decode prog_9_method_10_code 35 = .ok (.invokevirtual 87, 3) := by decide +kernel
theorem d_M_want_38 : decode prog_9_method_10_code 38 = .ok (.return_, 1) := by decide +kernel
theorem d_M_number0_0 : decode prog_9_method_11_code 0 = .ok (.aload_n 0, 1) := by decide +kernel
theorem d_M_number0_1 : decode prog_9_method_11_code 1 = .ok (.getfield 77, 3) := by decide +kernel
theorem d_M_number0_4 : decode prog_9_method_11_code 4 = .ok (.istore_n 2, 1) := by decide +kernel
theorem d_M_number0_5 : decode prog_9_method_11_code 5 = .ok (.iload_n 1, 1) := by decide +kernel
theorem d_M_number0_6 : decode prog_9_method_11_code 6 = .ok (.ifCond .eq (20), 3) := by decide +kernel
theorem d_M_number0_9 : decode prog_9_method_11_code 9 = .ok (.aload_n 0, 1) := by decide +kernel
theorem d_M_number0_10 : decode prog_9_method_11_code 10 = .ok (.aload_n 0, 1) := by decide +kernel
theorem d_M_number0_11 : decode prog_9_method_11_code 11 = .ok (.getfield 77, 3) := by decide +kernel
theorem d_M_number0_14 : decode prog_9_method_11_code 14 = .ok (.invokevirtual 83, 3) := by decide +kernel
theorem d_M_number0_17 : decode prog_9_method_11_code 17 = .ok (.bipush (45), 2) := by decide +kernel
theorem d_M_number0_19 : decode prog_9_method_11_code 19 = .ok (.if_icmp .ne (7), 3) := by decide +kernel
theorem d_M_number0_22 : decode prog_9_method_11_code 22 = .ok (.iconst (1), 1) := by decide +kernel
theorem d_M_number0_23 : decode prog_9_method_11_code 23 = .ok (.goto (4), 3) := by decide +kernel
theorem d_M_number0_26 : decode prog_9_method_11_code 26 = .ok (.iconst (0), 1) := by decide +kernel
theorem d_M_number0_27 : decode prog_9_method_11_code 27 = .ok (.istore_n 3, 1) := by decide +kernel
theorem d_M_number0_28 : decode prog_9_method_11_code 28 = .ok (.aload_n 0, 1) := by decide +kernel
theorem d_M_number0_29 : decode prog_9_method_11_code 29 = .ok (.iload_n 3, 1) := by decide +kernel
theorem d_M_number0_30 : decode prog_9_method_11_code 30 = .ok (.ifCond .eq (12), 3) := by decide +kernel
theorem d_M_number0_33 : decode prog_9_method_11_code 33 = .ok (.aload_n 0, 1) := by decide +kernel
theorem d_M_number0_34 : decode prog_9_method_11_code 34 = .ok (.getfield 77, 3) := by decide +kernel
theorem d_M_number0_37 : decode prog_9_method_11_code 37 = .ok (.iconst (1), 1) := by decide +kernel
theorem d_M_number0_38 : decode prog_9_method_11_code 38 = .ok (.iadd, 1) := by decide +kernel
theorem d_M_number0_39 : decode prog_9_method_11_code 39 = .ok (.goto (7), 3) := by decide +kernel
theorem d_M_number0_42 : decode prog_9_method_11_code 42 = .ok (.aload_n 0, 1) := by decide +kernel
theorem d_M_number0_43 : decode prog_9_method_11_code 43 = .ok (.getfield 77, 3) := by decide +kernel
theorem d_M_number0_46 : decode prog_9_method_11_code 46 = .ok (.putfield 77, 3) := by decide +kernel
theorem d_M_number0_49 : decode prog_9_method_11_code 49 = .ok (.aload_n 0, 1) := by decide +kernel
theorem d_M_number0_50 : decode prog_9_method_11_code 50 = .ok (.aload_n 0, 1) := by decide +kernel
theorem d_M_number0_51 : decode prog_9_method_11_code 51 = .ok (.getfield 77, 3) := by decide +kernel
theorem d_M_number0_54 : decode prog_9_method_11_code 54 = .ok (.invokevirtual 83, 3) := by decide +kernel
theorem d_M_number0_57 : decode prog_9_method_11_code 57 = .ok (.invokestatic 91, 3) := by decide +kernel
theorem d_M_number0_60 : decode prog_9_method_11_code 60 = .ok (.ifCond .ne (14), 3) := by decide +kernel
theorem d_M_number0_63 : decode prog_9_method_11_code 63 = .ok (.aload_n 0, 1) := by decide +kernel
theorem d_M_number0_64 : decode prog_9_method_11_code 64 = .ok (.iconst (1), 1) := by decide +kernel
theorem d_M_number0_65 : decode prog_9_method_11_code 65 = .ok (.aload_n 0, 1) := by decide +kernel
theorem d_M_number0_66 : decode prog_9_method_11_code 66 = .ok (.getfield 77, 3) := by decide +kernel
theorem d_M_number0_69 : decode prog_9_method_11_code 69 = .ok (.invokevirtual 87, 3) := by decide +kernel
theorem d_M_number0_72 : decode prog_9_method_11_code 72 = .ok (.iconst (0), 1) := by decide +kernel
theorem d_M_number0_73 : decode prog_9_method_11_code 73 = .ok (.ireturn, 1) := by decide +kernel
theorem d_M_number0_74 : decode prog_9_method_11_code 74 = .ok (.lconst 0, 1) := by decide +kernel
theorem d_M_number0_75 : decode prog_9_method_11_code 75 = .ok (.lstore 4, 2) := by decide +kernel
theorem d_M_number0_77 : decode prog_9_method_11_code 77 = .ok (.aload_n 0, 1) := by decide +kernel
theorem d_M_number0_78 : decode prog_9_method_11_code 78 = .ok (.aload_n 0, 1) := by decide +kernel
theorem d_M_number0_79 : decode prog_9_method_11_code 79 = .ok (.getfield 77, 3) := by decide +kernel
theorem d_M_number0_82 : decode prog_9_method_11_code 82 = .ok (.invokevirtual 83, 3) := by decide +kernel
theorem d_M_number0_85 : decode prog_9_method_11_code 85 = .ok (.invokestatic 91, 3) := by decide +kernel
theorem d_M_number0_88 : decode prog_9_method_11_code 88 = .ok (.ifCond .eq (57), 3) := by decide +kernel
theorem d_M_number0_91 : decode prog_9_method_11_code 91 = .ok (.lload 4, 2) := by decide +kernel
theorem d_M_number0_93 : decode prog_9_method_11_code 93 = .ok (.ldc2_w 95, 3) := by decide +kernel
theorem d_M_number0_96 : decode prog_9_method_11_code 96 = .ok (.lmul, 1) := by decide +kernel
theorem d_M_number0_97 : decode prog_9_method_11_code 97 = .ok (.aload_n 0, 1) := by decide +kernel
theorem d_M_number0_98 : decode prog_9_method_11_code 98 = .ok (.aload_n 0, 1) := by decide +kernel
theorem d_M_number0_99 : decode prog_9_method_11_code 99 = .ok (.getfield 77, 3) := by decide +kernel
theorem d_M_number0_102 : decode prog_9_method_11_code 102 = .ok (.invokevirtual 83, 3) := by decide +kernel
theorem d_M_number0_105 : decode prog_9_method_11_code 105 = .ok (.i2l, 1) := by decide +kernel
theorem d_M_number0_106 : decode prog_9_method_11_code 106 = .ok (.ladd, 1) := by decide +kernel
theorem d_M_number0_107 : decode prog_9_method_11_code 107 = .ok (.ldc2_w 97, 3) := by decide +kernel
theorem d_M_number0_110 : decode prog_9_method_11_code 110 = .ok (.lsub, 1) := by decide +kernel
theorem d_M_number0_111 : decode prog_9_method_11_code 111 = .ok (.lstore 4, 2) := by decide +kernel
theorem d_M_number0_113 : decode prog_9_method_11_code 113 = .ok (.lload 4, 2) := by decide +kernel
theorem d_M_number0_115 : decode prog_9_method_11_code 115 = .ok (.ldc2_w 99, 3) := by decide +kernel
theorem d_M_number0_118 : decode prog_9_method_11_code 118 = .ok (.lcmp, 1) := by decide +kernel
theorem d_M_number0_119 : decode prog_9_method_11_code 119 = .ok (.ifCond .le (9), 3) := by decide +kernel
theorem d_M_number0_122 : decode prog_9_method_11_code 122 = .ok (.ldc2_w 99, 3) := by decide +kernel
theorem d_M_number0_125 : decode prog_9_method_11_code 125 = .ok (.goto (5), 3) := by decide +kernel
theorem d_M_number0_128 : decode prog_9_method_11_code 128 = .ok (.lload 4, 2) := by decide +kernel
theorem d_M_number0_130 : decode prog_9_method_11_code 130 = .ok (.lstore 4, 2) := by decide +kernel
theorem d_M_number0_132 : decode prog_9_method_11_code 132 = .ok (.aload_n 0, 1) := by decide +kernel
theorem d_M_number0_133 : decode prog_9_method_11_code 133 = .ok (.dup, 1) := by decide +kernel
theorem d_M_number0_134 : decode prog_9_method_11_code 134 = .ok (.getfield 77, 3) := by decide +kernel
theorem d_M_number0_137 : decode prog_9_method_11_code 137 = .ok (.iconst (1), 1) := by decide +kernel
theorem d_M_number0_138 : decode prog_9_method_11_code 138 = .ok (.iadd, 1) := by decide +kernel
theorem d_M_number0_139 : decode prog_9_method_11_code 139 = .ok (.putfield 77, 3) := by decide +kernel
theorem d_M_number0_142 : decode prog_9_method_11_code 142 = .ok (.goto (-65), 3) := by decide +kernel
theorem d_M_number0_145 : decode prog_9_method_11_code 145 = .ok (.iload_n 3, 1) := by decide +kernel
theorem d_M_number0_146 : decode prog_9_method_11_code 146 = .ok (.ifCond .eq (9), 3) := by decide +kernel
theorem d_M_number0_149 : decode prog_9_method_11_code 149 = .ok (.lload 4, 2) := by decide +kernel
theorem d_M_number0_151 : decode prog_9_method_11_code 151 = .ok (.lneg, 1) := by decide +kernel
theorem d_M_number0_152 : decode prog_9_method_11_code 152 = .ok (.goto (5), 3) := by decide +kernel
theorem d_M_number0_155 : decode prog_9_method_11_code 155 = .ok (.lload 4, 2) := by decide +kernel
theorem d_M_number0_157 : decode prog_9_method_11_code 157 = .ok (.lstore 4, 2) := by decide +kernel
theorem d_M_number0_159 : decode prog_9_method_11_code 159 = .ok (.lload 4, 2) := by decide +kernel
theorem d_M_number0_161 : decode prog_9_method_11_code 161 = .ok (.ldc2_w 101, 3) := by decide +kernel
theorem d_M_number0_164 : decode prog_9_method_11_code 164 = .ok (.lcmp, 1) := by decide +kernel
theorem d_M_number0_165 : decode prog_9_method_11_code 165 = .ok (.ifCond .lt (12), 3) := by decide +kernel
theorem d_M_number0_168 : decode prog_9_method_11_code 168 = .ok (.lload 4, 2) := by decide +kernel
theorem d_M_number0_170 : decode prog_9_method_11_code 170 = .ok (.ldc2_w 103, 3) := by decide +kernel
theorem d_M_number0_173 : decode prog_9_method_11_code 173 = .ok (.lcmp, 1) := by decide +kernel
theorem d_M_number0_174 : decode prog_9_method_11_code 174 = .ok (.ifCond .le (11), 3) := by decide +kernel
theorem d_M_number0_177 : decode prog_9_method_11_code 177 = .ok (.aload_n 0, 1) := by decide +kernel
theorem d_M_number0_178 : decode prog_9_method_11_code 178 = .ok (.iconst (2), 1) := by decide +kernel
theorem d_M_number0_179 : decode prog_9_method_11_code 179 = .ok (.iload_n 2, 1) := by decide +kernel
theorem d_M_number0_180 : decode prog_9_method_11_code 180 = .ok (.invokevirtual 87, 3) := by decide +kernel
theorem d_M_number0_183 : decode prog_9_method_11_code 183 = .ok (.iconst (0), 1) := by decide +kernel
theorem d_M_number0_184 : decode prog_9_method_11_code 184 = .ok (.ireturn, 1) := by decide +kernel
theorem d_M_number0_185 : decode prog_9_method_11_code 185 = .ok (.lload 4, 2) := by decide +kernel
theorem d_M_number0_187 : decode prog_9_method_11_code 187 = .ok (.l2i, 1) := by decide +kernel
theorem d_M_number0_188 : decode prog_9_method_11_code 188 = .ok (.ireturn, 1) := by decide +kernel
theorem d_M_checkTargets_0 : decode prog_9_method_19_code 0 = .ok (.iconst (0), 1) := by decide +kernel
theorem d_M_checkTargets_1 : decode prog_9_method_19_code 1 = .ok (.istore_n 1, 1) := by decide +kernel
theorem d_M_checkTargets_2 : decode prog_9_method_19_code 2 = .ok (.iload_n 1, 1) := by decide +kernel
theorem d_M_checkTargets_3 : decode prog_9_method_19_code 3 = .ok (.aload_n 0, 1) := by decide +kernel
theorem d_M_checkTargets_4 : decode prog_9_method_19_code 4 = .ok (.getfield 118, 3) := by decide +kernel
theorem d_M_checkTargets_7 : decode prog_9_method_19_code 7 = .ok (.if_icmp .ge (69), 3) := by decide +kernel
theorem d_M_checkTargets_10 : decode prog_9_method_19_code 10 = .ok (.iconst (0), 1) := by decide +kernel
theorem d_M_checkTargets_11 : decode prog_9_method_19_code 11 = .ok (.istore_n 2, 1) := by decide +kernel
theorem d_M_checkTargets_12 : decode prog_9_method_19_code 12 = .ok (.iload_n 2, 1) := by decide +kernel
theorem d_M_checkTargets_13 : decode prog_9_method_19_code 13 = .ok (.iconst (2), 1) := by decide +kernel
theorem d_M_checkTargets_14 : decode prog_9_method_19_code 14 = .ok (.if_icmp .ge (56), 3) := by decide +kernel
theorem d_M_checkTargets_17 : decode prog_9_method_19_code 17 = .ok (.aload_n 0, 1) := by decide +kernel
theorem d_M_checkTargets_18 : decode prog_9_method_19_code 18 = .ok (.getfield 38, 3) := by decide +kernel
theorem d_M_checkTargets_21 : decode prog_9_method_19_code 21 = .ok (.iconst (2), 1) := by decide +kernel
theorem d_M_checkTargets_22 : decode prog_9_method_19_code 22 = .ok (.iload_n 1, 1) := by decide +kernel
theorem d_M_checkTargets_23 : decode prog_9_method_19_code 23 = .ok (.imul, 1) := by decide +kernel
theorem d_M_checkTargets_24 : decode prog_9_method_19_code 24 = .ok (.iload_n 2, 1) := by decide +kernel
theorem d_M_checkTargets_25 : decode prog_9_method_19_code 25 = .ok (.iadd, 1) := by decide +kernel
theorem d_M_checkTargets_26 : decode prog_9_method_19_code 26 = .ok (.iaload, 1) := by decide +kernel
theorem d_M_checkTargets_27 : decode prog_9_method_19_code 27 = .ok (.ifCond .lt (37), 3) := by decide +kernel
theorem d_M_checkTargets_30 : decode prog_9_method_19_code 30 = .ok (.aload_n 0, 1) := by decide +kernel
theorem d_M_checkTargets_31 : decode prog_9_method_19_code 31 = .ok (.getfield 32, 3) := by decide +kernel
theorem d_M_checkTargets_34 : decode prog_9_method_19_code 34 = .ok (.iconst (5), 1) := by decide +kernel
theorem d_M_checkTargets_35 : decode prog_9_method_19_code 35 = .ok (.iload_n 1, 1) := by decide +kernel
theorem d_M_checkTargets_36 : decode prog_9_method_19_code 36 = .ok (.imul, 1) := by decide +kernel
theorem d_M_checkTargets_37 : decode prog_9_method_19_code 37 = .ok (.iconst (3), 1) := by decide +kernel
theorem d_M_checkTargets_38 : decode prog_9_method_19_code 38 = .ok (.iadd, 1) := by decide +kernel
theorem d_M_checkTargets_39 : decode prog_9_method_19_code 39 = .ok (.iload_n 2, 1) := by decide +kernel
theorem d_M_checkTargets_40 : decode prog_9_method_19_code 40 = .ok (.iadd, 1) := by decide +kernel
theorem d_M_checkTargets_41 : decode prog_9_method_19_code 41 = .ok (.iaload, 1) := by decide +kernel
theorem d_M_checkTargets_42 : decode prog_9_method_19_code 42 = .ok (.aload_n 0, 1) := by decide +kernel
theorem d_M_checkTargets_43 : decode prog_9_method_19_code 43 = .ok (.getfield 118, 3) := by decide +kernel
theorem d_M_checkTargets_46 : decode prog_9_method_19_code 46 = .ok (.if_icmp .lt (18), 3) := by decide +kernel
theorem d_M_checkTargets_49 : decode prog_9_method_19_code 49 = .ok (.aload_n 0, 1) := by decide +kernel
theorem d_M_checkTargets_50 : decode prog_9_method_19_code 50 = .ok (.iconst (4), 1) := by decide +kernel
theorem d_M_checkTargets_51 : decode prog_9_method_19_code 51 = .ok (.aload_n 0, 1) := by decide +kernel
theorem d_M_checkTargets_52 : decode prog_9_method_19_code 52 = .ok (.getfield 38, 3) := by decide +kernel
theorem d_M_checkTargets_55 : decode prog_9_method_19_code 55 = .ok (.iconst (2), 1) := by decide +kernel
theorem d_M_checkTargets_56 : decode prog_9_method_19_code 56 = .ok (.iload_n 1, 1) := by decide +kernel
theorem d_M_checkTargets_57 : decode prog_9_method_19_code 57 = .ok (.imul, 1) := by decide +kernel
theorem d_M_checkTargets_58 : decode prog_9_method_19_code 58 = .ok (.iload_n 2, 1) := by decide +kernel
theorem d_M_checkTargets_59 : decode prog_9_method_19_code 59 = .ok (.iadd, 1) := by decide +kernel
theorem d_M_checkTargets_60 : decode prog_9_method_19_code 60 = .ok (.iaload, 1) := by decide +kernel
theorem d_M_checkTargets_61 : decode prog_9_method_19_code 61 = .ok (.invokevirtual 87, 3) := by decide +kernel
theorem d_M_checkTargets_64 : decode prog_9_method_19_code 64 = .ok (.iinc 2 (1), 3) := by decide +kernel
theorem d_M_checkTargets_67 : decode prog_9_method_19_code 67 = .ok (.goto (-55), 3) := by decide +kernel
theorem d_M_checkTargets_70 : decode prog_9_method_19_code 70 = .ok (.iinc 1 (1), 3) := by decide +kernel
theorem d_M_checkTargets_73 : decode prog_9_method_19_code 73 = .ok (.goto (-71), 3) := by decide +kernel
theorem d_M_checkTargets_76 : decode prog_9_method_19_code 76 = .ok (.return_, 1) := by decide +kernel
theorem d_M_make_0 : decode prog_9_method_26_code 0 = .ok (.bipush (7), 2) := by decide +kernel
theorem d_M_make_2 : decode prog_9_method_26_code 2 = .ok (.iload_n 1, 1) := by decide +kernel
theorem d_M_make_3 : decode prog_9_method_26_code 3 = .ok (.imul, 1) := by decide +kernel
theorem d_M_make_4 : decode prog_9_method_26_code 4 = .ok (.istore_n 2, 1) := by decide +kernel
theorem d_M_make_5 : decode prog_9_method_26_code 5 = .ok (.aload_n 0, 1) := by decide +kernel
theorem d_M_make_6 : decode prog_9_method_26_code 6 = .ok (.getfield 20, 3) := by decide +kernel
theorem d_M_make_9 : decode prog_9_method_26_code 9 = .ok (.iload_n 2, 1) := by decide +kernel
theorem d_M_make_10 : decode prog_9_method_26_code 10 = .ok (.iconst (1), 1) := by decide +kernel
theorem d_M_make_11 : decode prog_9_method_26_code 11 = .ok (.iadd, 1) := by decide +kernel
theorem d_M_make_12 : decode prog_9_method_26_code 12 = .ok (.iaload, 1) := by decide +kernel
theorem d_M_make_13 : decode prog_9_method_26_code 13 = .ok (.ifCond .ne (14), 3) := by decide +kernel
theorem d_M_make_16 : decode prog_9_method_26_code 16 = .ok (.aload_n 0, 1) := by decide +kernel
theorem d_M_make_17 : decode prog_9_method_26_code 17 = .ok (.iconst (2), 1) := by decide +kernel
theorem d_M_make_18 : decode prog_9_method_26_code 18 = .ok (.putfield 156, 3) := by decide +kernel
theorem d_M_make_21 : decode prog_9_method_26_code 21 = .ok (.aload_n 0, 1) := by decide +kernel
theorem d_M_make_22 : decode prog_9_method_26_code 22 = .ok (.iconst (0), 1) := by decide +kernel
theorem d_M_make_23 : decode prog_9_method_26_code 23 = .ok (.putfield 159, 3) := by decide +kernel
theorem d_M_make_26 : decode prog_9_method_26_code 26 = .ok (.return_, 1) := by decide +kernel
theorem d_M_make_27 : decode prog_9_method_26_code 27 = .ok (.aload_n 0, 1) := by decide +kernel
theorem d_M_make_28 : decode prog_9_method_26_code 28 = .ok (.aload_n 0, 1) := by decide +kernel
theorem d_M_make_29 : decode prog_9_method_26_code 29 = .ok (.getfield 20, 3) := by decide +kernel
theorem d_M_make_32 : decode prog_9_method_26_code 32 = .ok (.iload_n 2, 1) := by decide +kernel
theorem d_M_make_33 : decode prog_9_method_26_code 33 = .ok (.iconst (3), 1) := by decide +kernel
theorem d_M_make_34 : decode prog_9_method_26_code 34 = .ok (.iadd, 1) := by decide +kernel
theorem d_M_make_35 : decode prog_9_method_26_code 35 = .ok (.iaload, 1) := by decide +kernel
theorem d_M_make_36 : decode prog_9_method_26_code 36 = .ok (.aload_n 0, 1) := by decide +kernel
theorem d_M_make_37 : decode prog_9_method_26_code 37 = .ok (.getfield 20, 3) := by decide +kernel
theorem d_M_make_40 : decode prog_9_method_26_code 40 = .ok (.iload_n 2, 1) := by decide +kernel
theorem d_M_make_41 : decode prog_9_method_26_code 41 = .ok (.iconst (3), 1) := by decide +kernel
theorem d_M_make_42 : decode prog_9_method_26_code 42 = .ok (.iadd, 1) := by decide +kernel
theorem d_M_make_43 : decode prog_9_method_26_code 43 = .ok (.iconst (1), 1) := by decide +kernel
theorem d_M_make_44 : decode prog_9_method_26_code 44 = .ok (.iadd, 1) := by decide +kernel
theorem d_M_make_45 : decode prog_9_method_26_code 45 = .ok (.iaload, 1) := by decide +kernel
theorem d_M_make_46 : decode prog_9_method_26_code 46 = .ok (.invokevirtual 162, 3) := by decide +kernel
theorem d_M_make_49 : decode prog_9_method_26_code 49 = .ok (.istore_n 3, 1) := by decide +kernel
theorem d_M_make_50 : decode prog_9_method_26_code 50 = .ok (.aload_n 0, 1) := by decide +kernel
theorem d_M_make_51 : decode prog_9_method_26_code 51 = .ok (.aload_n 0, 1) := by decide +kernel
theorem d_M_make_52 : decode prog_9_method_26_code 52 = .ok (.getfield 20, 3) := by decide +kernel
theorem d_M_make_55 : decode prog_9_method_26_code 55 = .ok (.iload_n 2, 1) := by decide +kernel
theorem d_M_make_56 : decode prog_9_method_26_code 56 = .ok (.iconst (3), 1) := by decide +kernel
theorem d_M_make_57 : decode prog_9_method_26_code 57 = .ok (.iadd, 1) := by decide +kernel
theorem d_M_make_58 : decode prog_9_method_26_code 58 = .ok (.iaload, 1) := by decide +kernel
theorem d_M_make_59 : decode prog_9_method_26_code 59 = .ok (.aload_n 0, 1) := by decide +kernel
theorem d_M_make_60 : decode prog_9_method_26_code 60 = .ok (.getfield 20, 3) := by decide +kernel
theorem d_M_make_63 : decode prog_9_method_26_code 63 = .ok (.iload_n 2, 1) := by decide +kernel
theorem d_M_make_64 : decode prog_9_method_26_code 64 = .ok (.iconst (3), 1) := by decide +kernel
theorem d_M_make_65 : decode prog_9_method_26_code 65 = .ok (.iadd, 1) := by decide +kernel
theorem d_M_make_66 : decode prog_9_method_26_code 66 = .ok (.iconst (1), 1) := by decide +kernel
theorem d_M_make_67 : decode prog_9_method_26_code 67 = .ok (.iadd, 1) := by decide +kernel
theorem d_M_make_68 : decode prog_9_method_26_code 68 = .ok (.iaload, 1) := by decide +kernel
theorem d_M_make_69 : decode prog_9_method_26_code 69 = .ok (.invokevirtual 166, 3) := by decide +kernel
theorem d_M_make_72 : decode prog_9_method_26_code 72 = .ok (.istore 4, 2) := by decide +kernel
theorem d_M_make_74 : decode prog_9_method_26_code 74 = .ok (.aload_n 0, 1) := by decide +kernel
theorem d_M_make_75 : decode prog_9_method_26_code 75 = .ok (.iload 4, 2) := by decide +kernel
theorem d_M_make_77 : decode prog_9_method_26_code 77 = .ok (.putfield 156, 3) := by decide +kernel
theorem d_M_make_80 : decode prog_9_method_26_code 80 = .ok (.aload_n 0, 1) := by decide +kernel
theorem d_M_make_81 : decode prog_9_method_26_code 81 = .ok (.iload_n 3, 1) := by decide +kernel
theorem d_M_make_82 : decode prog_9_method_26_code 82 = .ok (.putfield 159, 3) := by decide +kernel
theorem d_M_make_85 : decode prog_9_method_26_code 85 = .ok (.aload_n 0, 1) := by decide +kernel
theorem d_M_make_86 : decode prog_9_method_26_code 86 = .ok (.getfield 20, 3) := by decide +kernel
theorem d_M_make_89 : decode prog_9_method_26_code 89 = .ok (.iload_n 2, 1) := by decide +kernel
theorem d_M_make_90 : decode prog_9_method_26_code 90 = .ok (.iconst (1), 1) := by decide +kernel
theorem d_M_make_91 : decode prog_9_method_26_code 91 = .ok (.iadd, 1) := by decide +kernel
theorem d_M_make_92 : decode prog_9_method_26_code 92 = .ok (.iaload, 1) := by decide +kernel
theorem d_M_make_93 : decode prog_9_method_26_code 93 = .ok (.iconst (2), 1) := by decide +kernel
theorem d_M_make_94 : decode prog_9_method_26_code 94 = .ok (.if_icmp .ne (176), 3) := by decide +kernel
theorem d_M_make_97 : decode prog_9_method_26_code 97 = .ok (.aload_n 0, 1) := by decide +kernel
theorem d_M_make_98 : decode prog_9_method_26_code 98 = .ok (.aload_n 0, 1) := by decide +kernel
theorem d_M_make_99 : decode prog_9_method_26_code 99 = .ok (.getfield 20, 3) := by decide +kernel
theorem d_M_make_102 : decode prog_9_method_26_code 102 = .ok (.iload_n 2, 1) := by decide +kernel
theorem d_M_make_103 : decode prog_9_method_26_code 103 = .ok (.iconst (5), 1) := by decide +kernel
theorem d_M_make_104 : decode prog_9_method_26_code 104 = .ok (.iadd, 1) := by decide +kernel
theorem d_M_make_105 : decode prog_9_method_26_code 105 = .ok (.iaload, 1) := by decide +kernel
theorem d_M_make_106 : decode prog_9_method_26_code 106 = .ok (.aload_n 0, 1) := by decide +kernel
theorem d_M_make_107 : decode prog_9_method_26_code 107 = .ok (.getfield 20, 3) := by decide +kernel
theorem d_M_make_110 : decode prog_9_method_26_code 110 = .ok (.iload_n 2, 1) := by decide +kernel
theorem d_M_make_111 : decode prog_9_method_26_code 111 = .ok (.iconst (5), 1) := by decide +kernel
theorem d_M_make_112 : decode prog_9_method_26_code 112 = .ok (.iadd, 1) := by decide +kernel
theorem d_M_make_113 : decode prog_9_method_26_code 113 = .ok (.iconst (1), 1) := by decide +kernel
theorem d_M_make_114 : decode prog_9_method_26_code 114 = .ok (.iadd, 1) := by decide +kernel
theorem d_M_make_115 : decode prog_9_method_26_code 115 = .ok (.iaload, 1) := by decide +kernel
theorem d_M_make_116 : decode prog_9_method_26_code 116 = .ok (.invokevirtual 162, 3) := by decide +kernel
theorem d_M_make_119 : decode prog_9_method_26_code 119 = .ok (.istore 5, 2) := by decide +kernel
theorem d_M_make_121 : decode prog_9_method_26_code 121 = .ok (.aload_n 0, 1) := by decide +kernel
theorem d_M_make_122 : decode prog_9_method_26_code 122 = .ok (.aload_n 0, 1) := by decide +kernel
theorem d_M_make_123 : decode prog_9_method_26_code 123 = .ok (.getfield 20, 3) := by decide +kernel
theorem d_M_make_126 : decode prog_9_method_26_code 126 = .ok (.iload_n 2, 1) := by decide +kernel
theorem d_M_make_127 : decode prog_9_method_26_code 127 = .ok (.iconst (5), 1) := by decide +kernel
theorem d_M_make_128 : decode prog_9_method_26_code 128 = .ok (.iadd, 1) := by decide +kernel
theorem d_M_make_129 : decode prog_9_method_26_code 129 = .ok (.iaload, 1) := by decide +kernel
theorem d_M_make_130 : decode prog_9_method_26_code 130 = .ok (.aload_n 0, 1) := by decide +kernel
theorem d_M_make_131 : decode prog_9_method_26_code 131 = .ok (.getfield 20, 3) := by decide +kernel
theorem d_M_make_134 : decode prog_9_method_26_code 134 = .ok (.iload_n 2, 1) := by decide +kernel
theorem d_M_make_135 : decode prog_9_method_26_code 135 = .ok (.iconst (5), 1) := by decide +kernel
theorem d_M_make_136 : decode prog_9_method_26_code 136 = .ok (.iadd, 1) := by decide +kernel
theorem d_M_make_137 : decode prog_9_method_26_code 137 = .ok (.iconst (1), 1) := by decide +kernel
theorem d_M_make_138 : decode prog_9_method_26_code 138 = .ok (.iadd, 1) := by decide +kernel
theorem d_M_make_139 : decode prog_9_method_26_code 139 = .ok (.iaload, 1) := by decide +kernel
theorem d_M_make_140 : decode prog_9_method_26_code 140 = .ok (.invokevirtual 166, 3) := by decide +kernel
theorem d_M_make_143 : decode prog_9_method_26_code 143 = .ok (.istore 6, 2) := by decide +kernel
theorem d_M_make_145 : decode prog_9_method_26_code 145 = .ok (.iload 4, 2) := by decide +kernel
theorem d_M_make_147 : decode prog_9_method_26_code 147 = .ok (.iconst (1), 1) := by decide +kernel
theorem d_M_make_148 : decode prog_9_method_26_code 148 = .ok (.if_icmp .ne (7), 3) := by decide +kernel
theorem d_M_make_151 : decode prog_9_method_26_code 151 = .ok (.iload_n 3, 1) := by decide +kernel
theorem d_M_make_152 : decode prog_9_method_26_code 152 = .ok (.ifCond .eq (14), 3) := by decide +kernel
theorem d_M_make_155 : decode prog_9_method_26_code 155 = .ok (.iload 6, 2) := by decide +kernel
theorem d_M_make_157 : decode prog_9_method_26_code 157 = .ok (.iconst (1), 1) := by decide +kernel
theorem d_M_make_158 : decode prog_9_method_26_code 158 = .ok (.if_icmp .ne (12), 3) := by decide +kernel
theorem d_M_make_161 : decode prog_9_method_26_code 161 = .ok (.iload 5, 2) := by decide +kernel
theorem d_M_make_163 : decode prog_9_method_26_code 163 = .ok (.ifCond .ne (7), 3) := by decide +kernel
theorem d_M_make_166 : decode prog_9_method_26_code 166 = .ok (.iconst (1), 1) := by decide +kernel
theorem d_M_make_167 : decode prog_9_method_26_code 167 = .ok (.goto (4), 3) := by decide +kernel
theorem d_M_make_170 : decode prog_9_method_26_code 170 = .ok (.iconst (0), 1) := by decide +kernel
theorem d_M_make_171 : decode prog_9_method_26_code 171 = .ok (.istore 7, 2) := by decide +kernel
theorem d_M_make_173 : decode prog_9_method_26_code 173 = .ok (.iload 7, 2) := by decide +kernel
theorem d_M_make_175 : decode prog_9_method_26_code 175 = .ok (.ifCond .eq (31), 3) := by decide +kernel
theorem d_M_make_178 : decode prog_9_method_26_code 178 = .ok (.aload_n 0, 1) := by decide +kernel
theorem d_M_make_179 : decode prog_9_method_26_code 179 = .ok (.getfield 20, 3) := by decide +kernel
theorem d_M_make_182 : decode prog_9_method_26_code 182 = .ok (.iload_n 2, 1) := by decide +kernel
theorem d_M_make_183 : decode prog_9_method_26_code 183 = .ok (.iconst (2), 1) := by decide +kernel
theorem d_M_make_184 : decode prog_9_method_26_code 184 = .ok (.iadd, 1) := by decide +kernel
theorem d_M_make_185 : decode prog_9_method_26_code 185 = .ok (.iaload, 1) := by decide +kernel
theorem d_M_make_186 : decode prog_9_method_26_code 186 = .ok (.iconst (2), 1) := by decide +kernel
theorem d_M_make_187 : decode prog_9_method_26_code 187 = .ok (.if_icmp .eq (15), 3) := by decide +kernel
theorem d_M_make_190 : decode prog_9_method_26_code 190 = .ok (.aload_n 0, 1) := by decide +kernel
theorem d_M_make_191 : decode prog_9_method_26_code 191 = .ok (.getfield 20, 3) := by decide +kernel
theorem d_M_make_194 : decode prog_9_method_26_code 194 = .ok (.iload_n 2, 1) := by decide +kernel
theorem d_M_make_195 : decode prog_9_method_26_code 195 = .ok (.iconst (2), 1) := by decide +kernel
theorem d_M_make_196 : decode prog_9_method_26_code 196 = .ok (.iadd, 1) := by decide +kernel
theorem d_M_make_197 : decode prog_9_method_26_code 197 = .ok (.iaload, 1) := by decide +kernel
theorem d_M_make_198 : decode prog_9_method_26_code 198 = .ok (.iconst (5), 1) := by decide +kernel
theorem d_M_make_199 : decode prog_9_method_26_code 199 = .ok (.if_icmp .ne (7), 3) := by decide +kernel
theorem d_M_make_202 : decode prog_9_method_26_code 202 = .ok (.iconst (1), 1) := by decide +kernel
theorem d_M_make_203 : decode prog_9_method_26_code 203 = .ok (.goto (4), 3) := by decide +kernel
theorem d_M_make_206 : decode prog_9_method_26_code 206 = .ok (.iconst (0), 1) := by decide +kernel
theorem d_M_make_207 : decode prog_9_method_26_code 207 = .ok (.istore 8, 2) := by decide +kernel
theorem d_M_make_209 : decode prog_9_method_26_code 209 = .ok (.aload_n 0, 1) := by decide +kernel
theorem d_M_make_210 : decode prog_9_method_26_code 210 = .ok (.iload 8, 2) := by decide +kernel
theorem d_M_make_212 : decode prog_9_method_26_code 212 = .ok (.ifCond .ne (15), 3) := by decide +kernel
theorem d_M_make_215 : decode prog_9_method_26_code 215 = .ok (.iload 4, 2) := by decide +kernel
theorem d_M_make_217 : decode prog_9_method_26_code 217 = .ok (.iconst (1), 1) := by decide +kernel
theorem d_M_make_218 : decode prog_9_method_26_code 218 = .ok (.if_icmp .ne (13), 3) := by decide +kernel
theorem d_M_make_221 : decode prog_9_method_26_code 221 = .ok (.iload 6, 2) := by decide +kernel
theorem d_M_make_223 : decode prog_9_method_26_code 223 = .ok (.iconst (1), 1) := by decide +kernel
theorem d_M_make_224 : decode prog_9_method_26_code 224 = .ok (.if_icmp .ne (7), 3) := by decide +kernel
theorem d_M_make_227 : decode prog_9_method_26_code 227 = .ok (.iconst (1), 1) := by decide +kernel
theorem d_M_make_228 : decode prog_9_method_26_code 228 = .ok (.goto (4), 3) := by decide +kernel
theorem d_M_make_231 : decode prog_9_method_26_code 231 = .ok (.iconst (2), 1) := by decide +kernel
theorem d_M_make_232 : decode prog_9_method_26_code 232 = .ok (.putfield 156, 3) := by decide +kernel
theorem d_M_make_235 : decode prog_9_method_26_code 235 = .ok (.aload_n 0, 1) := by decide +kernel
theorem d_M_make_236 : decode prog_9_method_26_code 236 = .ok (.iload 8, 2) := by decide +kernel
theorem d_M_make_238 : decode prog_9_method_26_code 238 = .ok (.ifCond .ne (11), 3) := by decide +kernel
theorem d_M_make_241 : decode prog_9_method_26_code 241 = .ok (.aload_n 0, 1) := by decide +kernel
theorem d_M_make_242 : decode prog_9_method_26_code 242 = .ok (.getfield 156, 3) := by decide +kernel
theorem d_M_make_245 : decode prog_9_method_26_code 245 = .ok (.iconst (2), 1) := by decide +kernel
theorem d_M_make_246 : decode prog_9_method_26_code 246 = .ok (.if_icmp .ne (7), 3) := by decide +kernel
theorem d_M_make_249 : decode prog_9_method_26_code 249 = .ok (.iconst (0), 1) := by decide +kernel
theorem d_M_make_250 : decode prog_9_method_26_code 250 = .ok (.goto (17), 3) := by decide +kernel
theorem d_M_make_253 : decode prog_9_method_26_code 253 = .ok (.aload_n 0, 1) := by decide +kernel
theorem d_M_make_254 : decode prog_9_method_26_code 254 = .ok (.getfield 20, 3) := by decide +kernel
theorem d_M_make_257 : decode prog_9_method_26_code 257 = .ok (.iload_n 2, 1) := by decide +kernel
theorem d_M_make_258 : decode prog_9_method_26_code 258 = .ok (.iconst (2), 1) := by decide +kernel
theorem d_M_make_259 : decode prog_9_method_26_code 259 = .ok (.iadd, 1) := by decide +kernel
theorem d_M_make_260 : decode prog_9_method_26_code 260 = .ok (.iaload, 1) := by decide +kernel
theorem d_M_make_261 : decode prog_9_method_26_code 261 = .ok (.iload_n 3, 1) := by decide +kernel
theorem d_M_make_262 : decode prog_9_method_26_code 262 = .ok (.iload 5, 2) := by decide +kernel
theorem d_M_make_264 : decode prog_9_method_26_code 264 = .ok (.invokestatic 169, 3) := by decide +kernel
theorem d_M_make_267 : decode prog_9_method_26_code 267 = .ok (.putfield 159, 3) := by decide +kernel
theorem d_M_make_270 : decode prog_9_method_26_code 270 = .ok (.return_, 1) := by decide +kernel
theorem d_M_goes_0 : decode prog_9_method_30_code 0 = .ok (.iconst (5), 1) := by decide +kernel
theorem d_M_goes_1 : decode prog_9_method_30_code 1 = .ok (.iload_n 1, 1) := by decide +kernel
theorem d_M_goes_2 : decode prog_9_method_30_code 2 = .ok (.imul, 1) := by decide +kernel
