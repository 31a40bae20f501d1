theorem d_C_take_23 : decode prog_1_method_13_code 23 = .ok (.iconst (0), 1) := by decide +kernel
theorem d_C_take_24 : decode prog_1_method_13_code 24 = .ok (.istore_n 1, 1) := by decide +kernel
theorem d_C_take_25 : decode prog_1_method_13_code 25 = .ok (.iload_n 1, 1) := by decide +kernel
theorem d_C_take_26 : decode prog_1_method_13_code 26 = .ok (.aload_n 0, 1) := by decide +kernel
theorem d_C_take_27 : decode prog_1_method_13_code 27 = .ok (.getfield 18, 3) := by decide +kernel
theorem d_C_take_30 : decode prog_1_method_13_code 30 = .ok (.getfield 65, 3) := by decide +kernel
theorem d_C_take_33 : decode prog_1_method_13_code 33 = .ok (.if_icmp .ge (25), 3) := by decide +kernel
theorem d_C_take_36 : decode prog_1_method_13_code 36 = .ok (.aload_n 0, 1) := by decide +kernel
theorem d_C_take_37 : decode prog_1_method_13_code 37 = .ok (.getfield 14, 3) := by decide +kernel
theorem d_C_take_40 : decode prog_1_method_13_code 40 = .ok (.aload_n 0, 1) := by decide +kernel
theorem d_C_take_41 : decode prog_1_method_13_code 41 = .ok (.getfield 18, 3) := by decide +kernel
theorem d_C_take_44 : decode prog_1_method_13_code 44 = .ok (.iload_n 1, 1) := by decide +kernel
theorem d_C_take_45 : decode prog_1_method_13_code 45 = .ok (.i2l, 1) := by decide +kernel
theorem d_C_take_46 : decode prog_1_method_13_code 46 = .ok (.invokevirtual 130, 3) := by decide +kernel
theorem d_C_take_49 : decode prog_1_method_13_code 49 = .ok (.invokevirtual 69, 3) := by decide +kernel
theorem d_C_take_52 : decode prog_1_method_13_code 52 = .ok (.iinc 1 (1), 3) := by decide +kernel
theorem d_C_take_55 : decode prog_1_method_13_code 55 = .ok (.goto (-30), 3) := by decide +kernel
theorem d_C_take_58 : decode prog_1_method_13_code 58 = .ok (.aload_n 0, 1) := by decide +kernel
theorem d_C_take_59 : decode prog_1_method_13_code 59 = .ok (.getfield 14, 3) := by decide +kernel
theorem d_C_take_62 : decode prog_1_method_13_code 62 = .ok (.getfield 65, 3) := by decide +kernel
theorem d_C_take_65 : decode prog_1_method_13_code 65 = .ok (.ireturn, 1) := by decide +kernel
theorem d_F_comeTo_0 : decode prog_2_method_6_code 0 = .ok (.aload_n 0, 1) := by decide +kernel
theorem d_F_comeTo_1 : decode prog_2_method_6_code 1 = .ok (.getfield 9, 3) := by decide +kernel
theorem d_F_comeTo_4 : decode prog_2_method_6_code 4 = .ok (.iload_n 1, 1) := by decide +kernel
theorem d_F_comeTo_5 : decode prog_2_method_6_code 5 = .ok (.baload, 1) := by decide +kernel
theorem d_F_comeTo_6 : decode prog_2_method_6_code 6 = .ok (.ifCond .ne (30), 3) := by decide +kernel
theorem d_F_comeTo_9 : decode prog_2_method_6_code 9 = .ok (.aload_n 0, 1) := by decide +kernel
theorem d_F_comeTo_10 : decode prog_2_method_6_code 10 = .ok (.getfield 9, 3) := by decide +kernel
theorem d_F_comeTo_13 : decode prog_2_method_6_code 13 = .ok (.iload_n 1, 1) := by decide +kernel
theorem d_F_comeTo_14 : decode prog_2_method_6_code 14 = .ok (.iconst (1), 1) := by decide +kernel
theorem d_F_comeTo_15 : decode prog_2_method_6_code 15 = .ok (.bastore, 1) := by decide +kernel
theorem d_F_comeTo_16 : decode prog_2_method_6_code 16 = .ok (.aload_n 0, 1) := by decide +kernel
theorem d_F_comeTo_17 : decode prog_2_method_6_code 17 = .ok (.getfield 15, 3) := by decide +kernel
theorem d_F_comeTo_20 : decode prog_2_method_6_code 20 = .ok (.iload_n 1, 1) := by decide +kernel
theorem d_F_comeTo_21 : decode prog_2_method_6_code 21 = .ok (.iconst (1), 1) := by decide +kernel
theorem d_F_comeTo_22 : decode prog_2_method_6_code 22 = .ok (.bastore, 1) := by decide +kernel
theorem d_F_comeTo_23 : decode prog_2_method_6_code 23 = .ok (.aload_n 0, 1) := by decide +kernel
theorem d_F_comeTo_24 : decode prog_2_method_6_code 24 = .ok (.getfield 20, 3) := by decide +kernel
theorem d_F_comeTo_27 : decode prog_2_method_6_code 27 = .ok (.iload_n 1, 1) := by decide +kernel
theorem d_F_comeTo_28 : decode prog_2_method_6_code 28 = .ok (.aaload, 1) := by decide +kernel
theorem d_F_comeTo_29 : decode prog_2_method_6_code 29 = .ok (.aload_n 2, 1) := by decide +kernel
theorem d_F_comeTo_30 : decode prog_2_method_6_code 30 = .ok (.invokevirtual 64, 3) := by decide +kernel
theorem d_F_comeTo_33 : decode prog_2_method_6_code 33 = .ok (.goto (23), 3) := by decide +kernel
theorem d_F_comeTo_36 : decode prog_2_method_6_code 36 = .ok (.aload_n 0, 1) := by decide +kernel
theorem d_F_comeTo_37 : decode prog_2_method_6_code 37 = .ok (.getfield 20, 3) := by decide +kernel
theorem d_F_comeTo_40 : decode prog_2_method_6_code 40 = .ok (.iload_n 1, 1) := by decide +kernel
theorem d_F_comeTo_41 : decode prog_2_method_6_code 41 = .ok (.aaload, 1) := by decide +kernel
theorem d_F_comeTo_42 : decode prog_2_method_6_code 42 = .ok (.aload_n 2, 1) := by decide +kernel
theorem d_F_comeTo_43 : decode prog_2_method_6_code 43 = .ok (.invokevirtual 89, 3) := by decide +kernel
theorem d_F_comeTo_46 : decode prog_2_method_6_code 46 = .ok (.ifCond .eq (10), 3) := by decide +kernel
theorem d_F_comeTo_49 : decode prog_2_method_6_code 49 = .ok (.aload_n 0, 1) := by decide +kernel
theorem d_F_comeTo_50 : decode prog_2_method_6_code 50 = .ok (.getfield 15, 3) := by decide +kernel
theorem d_F_comeTo_53 : decode prog_2_method_6_code 53 = .ok (.iload_n 1, 1) := by decide +kernel
theorem d_F_comeTo_54 : decode prog_2_method_6_code 54 = .ok (.iconst (1), 1) := by decide +kernel
theorem d_F_comeTo_55 : decode prog_2_method_6_code 55 = .ok (.bastore, 1) := by decide +kernel
theorem d_F_comeTo_56 : decode prog_2_method_6_code 56 = .ok (.return_, 1) := by decide +kernel
theorem d_F_forks_0 : decode prog_2_method_7_code 0 = .ok (.aload_n 1, 1) := by decide +kernel
theorem d_F_forks_1 : decode prog_2_method_7_code 1 = .ok (.getfield 74, 3) := by decide +kernel
theorem d_F_forks_4 : decode prog_2_method_7_code 4 = .ok (.iload_n 2, 1) := by decide +kernel
theorem d_F_forks_5 : decode prog_2_method_7_code 5 = .ok (.iaload, 1) := by decide +kernel
theorem d_F_forks_6 : decode prog_2_method_7_code 6 = .ok (.iconst (2), 1) := by decide +kernel
theorem d_F_forks_7 : decode prog_2_method_7_code 7 = .ok (.if_icmp .ne (24), 3) := by decide +kernel
theorem d_F_forks_10 : decode prog_2_method_7_code 10 = .ok (.aload_n 0, 1) := by decide +kernel
theorem d_F_forks_11 : decode prog_2_method_7_code 11 = .ok (.getfield 24, 3) := by decide +kernel
theorem d_F_forks_14 : decode prog_2_method_7_code 14 = .ok (.iload_n 2, 1) := by decide +kernel
theorem d_F_forks_15 : decode prog_2_method_7_code 15 = .ok (.aaload, 1) := by decide +kernel
theorem d_F_forks_16 : decode prog_2_method_7_code 16 = .ok (.aload_n 1, 1) := by decide +kernel
theorem d_F_forks_17 : decode prog_2_method_7_code 17 = .ok (.iload_n 2, 1) := by decide +kernel
theorem d_F_forks_18 : decode prog_2_method_7_code 18 = .ok (.invokestatic 93, 3) := by decide +kernel
theorem d_F_forks_21 : decode prog_2_method_7_code 21 = .ok (.invokevirtual 97, 3) := by decide +kernel
theorem d_F_forks_24 : decode prog_2_method_7_code 24 = .ok (.ifCond .ne (7), 3) := by decide +kernel
theorem d_F_forks_27 : decode prog_2_method_7_code 27 = .ok (.iconst (1), 1) := by decide +kernel
theorem d_F_forks_28 : decode prog_2_method_7_code 28 = .ok (.goto (4), 3) := by decide +kernel
theorem d_F_forks_31 : decode prog_2_method_7_code 31 = .ok (.iconst (0), 1) := by decide +kernel
theorem d_F_forks_32 : decode prog_2_method_7_code 32 = .ok (.ireturn, 1) := by decide +kernel
theorem d_X_valueOf_0 : decode prog_3_method_3_code 0 = .ok (.aload_n 1, 1) := by decide +kernel
theorem d_X_valueOf_1 : decode prog_3_method_3_code 1 = .ok (.getfield 48, 3) := by decide +kernel
theorem d_X_valueOf_4 : decode prog_3_method_3_code 4 = .ok (.iload_n 2, 1) := by decide +kernel
theorem d_X_valueOf_5 : decode prog_3_method_3_code 5 = .ok (.iaload, 1) := by decide +kernel
theorem d_X_valueOf_6 : decode prog_3_method_3_code 6 = .ok (.istore_n 3, 1) := by decide +kernel
theorem d_X_valueOf_7 : decode prog_3_method_3_code 7 = .ok (.iload_n 3, 1) := by decide +kernel
theorem d_X_valueOf_8 : decode prog_3_method_3_code 8 = .ok (.ifCond .ne (8), 3) := by decide +kernel
theorem d_X_valueOf_11 : decode prog_3_method_3_code 11 = .ok (.aload_n 0, 1) := by decide +kernel
theorem d_X_valueOf_12 : decode prog_3_method_3_code 12 = .ok (.invokevirtual 51, 3) := by decide +kernel
theorem d_X_valueOf_15 : decode prog_3_method_3_code 15 = .ok (.ireturn, 1) := by decide +kernel
theorem d_X_valueOf_16 : decode prog_3_method_3_code 16 = .ok (.aload_n 0, 1) := by decide +kernel
theorem d_X_valueOf_17 : decode prog_3_method_3_code 17 = .ok (.aload_n 1, 1) := by decide +kernel
theorem d_X_valueOf_18 : decode prog_3_method_3_code 18 = .ok (.iload_n 2, 1) := by decide +kernel
theorem d_X_valueOf_19 : decode prog_3_method_3_code 19 = .ok (.invokestatic 55, 3) := by decide +kernel
theorem d_X_valueOf_22 : decode prog_3_method_3_code 22 = .ok (.invokevirtual 41, 3) := by decide +kernel
theorem d_X_valueOf_25 : decode prog_3_method_3_code 25 = .ok (.istore 4, 2) := by decide +kernel
theorem d_X_valueOf_27 : decode prog_3_method_3_code 27 = .ok (.aload_n 0, 1) := by decide +kernel
theorem d_X_valueOf_28 : decode prog_3_method_3_code 28 = .ok (.aload_n 1, 1) := by decide +kernel
theorem d_X_valueOf_29 : decode prog_3_method_3_code 29 = .ok (.iload_n 2, 1) := by decide +kernel
theorem d_X_valueOf_30 : decode prog_3_method_3_code 30 = .ok (.invokestatic 58, 3) := by decide +kernel
theorem d_X_valueOf_33 : decode prog_3_method_3_code 33 = .ok (.invokevirtual 41, 3) := by decide +kernel
theorem d_X_valueOf_36 : decode prog_3_method_3_code 36 = .ok (.istore 5, 2) := by decide +kernel
theorem d_X_valueOf_38 : decode prog_3_method_3_code 38 = .ok (.iload_n 3, 1) := by decide +kernel
theorem d_X_valueOf_39 : decode prog_3_method_3_code 39 = .ok (.iload 4, 2) := by decide +kernel
theorem d_X_valueOf_41 : decode prog_3_method_3_code 41 = .ok (.iload 5, 2) := by decide +kernel
theorem d_X_valueOf_43 : decode prog_3_method_3_code 43 = .ok (.invokestatic 61, 3) := by decide +kernel
theorem d_X_valueOf_46 : decode prog_3_method_3_code 46 = .ok (.ireturn, 1) := by decide +kernel
theorem d_G_goal_0 : decode prog_4_method_9_code 0 = .ok (.aload_n 0, 1) := by decide +kernel
theorem d_G_goal_1 : decode prog_4_method_9_code 1 = .ok (.getfield 31, 3) := by decide +kernel
theorem d_G_goal_4 : decode prog_4_method_9_code 4 = .ok (.iload_n 1, 1) := by decide +kernel
theorem d_G_goal_5 : decode prog_4_method_9_code 5 = .ok (.iload_n 2, 1) := by decide +kernel
theorem d_G_goal_6 : decode prog_4_method_9_code 6 = .ok (.invokestatic 41, 3) := by decide +kernel
theorem d_G_goal_9 : decode prog_4_method_9_code 9 = .ok (.iaload, 1) := by decide +kernel
theorem d_G_goal_10 : decode prog_4_method_9_code 10 = .ok (.ireturn, 1) := by decide +kernel
theorem d_R_passNumber_0 : decode prog_5_method_11_code 0 = .ok (.aload_n 0, 1) := by decide +kernel
theorem d_R_passNumber_1 : decode prog_5_method_11_code 1 = .ok (.getfield 32, 3) := by decide +kernel
theorem d_R_passNumber_4 : decode prog_5_method_11_code 4 = .ok (.istore_n 2, 1) := by decide +kernel
theorem d_R_passNumber_5 : decode prog_5_method_11_code 5 = .ok (.iload_n 1, 1) := by decide +kernel
theorem d_R_passNumber_6 : decode prog_5_method_11_code 6 = .ok (.ifCond .eq (24), 3) := by decide +kernel
theorem d_R_passNumber_9 : decode prog_5_method_11_code 9 = .ok (.aload_n 0, 1) := by decide +kernel
theorem d_R_passNumber_10 : decode prog_5_method_11_code 10 = .ok (.getfield 19, 3) := by decide +kernel
theorem d_R_passNumber_13 : decode prog_5_method_11_code 13 = .ok (.aload_n 0, 1) := by decide +kernel
theorem d_R_passNumber_14 : decode prog_5_method_11_code 14 = .ok (.getfield 32, 3) := by decide +kernel
theorem d_R_passNumber_17 : decode prog_5_method_11_code 17 = .ok (.i2l, 1) := by decide +kernel
theorem d_R_passNumber_18 : decode prog_5_method_11_code 18 = .ok (.invokevirtual 61, 3) := by decide +kernel
theorem d_R_passNumber_21 : decode prog_5_method_11_code 21 = .ok (.bipush (45), 2) := by decide +kernel
theorem d_R_passNumber_23 : decode prog_5_method_11_code 23 = .ok (.if_icmp .ne (7), 3) := by decide +kernel
theorem d_R_passNumber_26 : decode prog_5_method_11_code 26 = .ok (.iconst (1), 1) := by decide +kernel
theorem d_R_passNumber_27 : decode prog_5_method_11_code 27 = .ok (.goto (4), 3) := by decide +kernel
theorem d_R_passNumber_30 : decode prog_5_method_11_code 30 = .ok (.iconst (0), 1) := by decide +kernel
theorem d_R_passNumber_31 : decode prog_5_method_11_code 31 = .ok (.istore_n 3, 1) := by decide +kernel
theorem d_R_passNumber_32 : decode prog_5_method_11_code 32 = .ok (.iload_n 3, 1) := by decide +kernel
theorem d_R_passNumber_33 : decode prog_5_method_11_code 33 = .ok (.ifCond .eq (13), 3) := by decide +kernel
theorem d_R_passNumber_36 : decode prog_5_method_11_code 36 = .ok (.aload_n 0, 1) := by decide +kernel
theorem d_R_passNumber_37 : decode prog_5_method_11_code 37 = .ok (.dup, 1) := by decide +kernel
theorem d_R_passNumber_38 : decode prog_5_method_11_code 38 = .ok (.getfield 32, 3) := by decide +kernel
theorem d_R_passNumber_41 : decode prog_5_method_11_code 41 = .ok (.iconst (1), 1) := by decide +kernel
theorem d_R_passNumber_42 : decode prog_5_method_11_code 42 = .ok (.iadd, 1) := by decide +kernel
theorem d_R_passNumber_43 : decode prog_5_method_11_code 43 = .ok (.putfield 32, 3) := by decide +kernel
theorem d_R_passNumber_46 : decode prog_5_method_11_code 46 = .ok (.aload_n 0, 1) := by decide +kernel
theorem d_R_passNumber_47 : decode prog_5_method_11_code 47 = .ok (.getfield 19, 3) := by decide +kernel
theorem d_R_passNumber_50 : decode prog_5_method_11_code 50 = .ok (.aload_n 0, 1) := by decide +kernel
theorem d_R_passNumber_51 : decode prog_5_method_11_code 51 = .ok (.getfield 32, 3) := by decide +kernel
theorem d_R_passNumber_54 : decode prog_5_method_11_code 54 = .ok (.i2l, 1) := by decide +kernel
theorem d_R_passNumber_55 : decode prog_5_method_11_code 55 = .ok (.invokevirtual 61, 3) := by decide +kernel
theorem d_R_passNumber_58 : decode prog_5_method_11_code 58 = .ok (.invokestatic 128, 3) := by decide +kernel
theorem d_R_passNumber_61 : decode prog_5_method_11_code 61 = .ok (.ifCond .ne (13), 3) := by decide +kernel
theorem d_R_passNumber_64 : decode prog_5_method_11_code 64 = .ok (.aload_n 0, 1) := by decide +kernel
theorem d_R_passNumber_65 : decode prog_5_method_11_code 65 = .ok (.iconst (1), 1) := by decide +kernel
theorem d_R_passNumber_66 : decode prog_5_method_11_code 66 = .ok (.aload_n 0, 1) := by decide +kernel
theorem d_R_passNumber_67 : decode prog_5_method_11_code 67 = .ok (.getfield 32, 3) := by decide +kernel
theorem d_R_passNumber_70 : decode prog_5_method_11_code 70 = .ok (.invokevirtual 52, 3) := by decide +kernel
theorem d_R_passNumber_73 : decode prog_5_method_11_code 73 = .ok (.ireturn, 1) := by decide +kernel
theorem d_R_passNumber_74 : decode prog_5_method_11_code 74 = .ok (.lconst 0, 1) := by decide +kernel
theorem d_R_passNumber_75 : decode prog_5_method_11_code 75 = .ok (.lstore 4, 2) := by decide +kernel
theorem d_R_passNumber_77 : decode prog_5_method_11_code 77 = .ok (.aload_n 0, 1) := by decide +kernel
theorem d_R_passNumber_78 : decode prog_5_method_11_code 78 = .ok (.getfield 32, 3) := by decide +kernel
theorem d_R_passNumber_81 : decode prog_5_method_11_code 81 = .ok (.aload_n 0, 1) := by decide +kernel
theorem d_R_passNumber_82 : decode prog_5_method_11_code 82 = .ok (.getfield 19, 3) := by decide +kernel
theorem d_R_passNumber_85 : decode prog_5_method_11_code 85 = .ok (.getfield 56, 3) := by decide +kernel
theorem d_R_passNumber_88 : decode prog_5_method_11_code 88 = .ok (.if_icmp .ge (66), 3) := by decide +kernel
theorem d_R_passNumber_91 : decode prog_5_method_11_code 91 = .ok (.aload_n 0, 1) := by decide +kernel
theorem d_R_passNumber_92 : decode prog_5_method_11_code 92 = .ok (.getfield 19, 3) := by decide +kernel
theorem d_R_passNumber_95 : decode prog_5_method_11_code 95 = .ok (.aload_n 0, 1) := by decide +kernel
theorem d_R_passNumber_96 : decode prog_5_method_11_code 96 = .ok (.getfield 32, 3) := by decide +kernel
theorem d_R_passNumber_99 : decode prog_5_method_11_code 99 = .ok (.i2l, 1) := by decide +kernel
theorem d_R_passNumber_100 : decode prog_5_method_11_code 100 = .ok (.invokevirtual 61, 3) := by decide +kernel
theorem d_R_passNumber_103 : decode prog_5_method_11_code 103 = .ok (.invokestatic 128, 3) := by decide +kernel
theorem d_R_passNumber_106 : decode prog_5_method_11_code 106 = .ok (.ifCond .eq (48), 3) := by decide +kernel
theorem d_R_passNumber_109 : decode prog_5_method_11_code 109 = .ok (.lload 4, 2) := by decide +kernel
theorem d_R_passNumber_111 : decode prog_5_method_11_code 111 = .ok (.ldc2_w 131, 3) := by decide +kernel
theorem d_R_passNumber_114 : decode prog_5_method_11_code 114 = .ok (.lmul, 1) := by decide +kernel
theorem d_R_passNumber_115 : decode prog_5_method_11_code 115 = .ok (.aload_n 0, 1) := by decide +kernel
theorem d_R_passNumber_116 : decode prog_5_method_11_code 116 = .ok (.getfield 19, 3) := by decide +kernel
theorem d_R_passNumber_119 : decode prog_5_method_11_code 119 = .ok (.aload_n 0, 1) := by decide +kernel
theorem d_R_passNumber_120 : decode prog_5_method_11_code 120 = .ok (.getfield 32, 3) := by decide +kernel
theorem d_R_passNumber_123 : decode prog_5_method_11_code 123 = .ok (.i2l, 1) := by decide +kernel
theorem d_R_passNumber_124 : decode prog_5_method_11_code 124 = .ok (.invokevirtual 61, 3) := by decide +kernel
theorem d_R_passNumber_127 : decode prog_5_method_11_code 127 = .ok (.i2l, 1) := by decide +kernel
theorem d_R_passNumber_128 : decode prog_5_method_11_code 128 = .ok (.ladd, 1) := by decide +kernel
theorem d_R_passNumber_129 : decode prog_5_method_11_code 129 = .ok (.ldc2_w 133, 3) := by decide +kernel
theorem d_R_passNumber_132 : decode prog_5_method_11_code 132 = .ok (.lsub, 1) := by decide +kernel
theorem d_R_passNumber_133 : decode prog_5_method_11_code 133 = .ok (.ldc2_w 135, 3) := by decide +kernel
theorem d_R_passNumber_136 : decode prog_5_method_11_code 136 = .ok (.invokestatic 137, 3) := by decide +kernel
theorem d_R_passNumber_139 : decode prog_5_method_11_code 139 = .ok (.lstore 4, 2) := by decide +kernel
theorem d_R_passNumber_141 : decode prog_5_method_11_code 141 = .ok (.aload_n 0, 1) := by decide +kernel
theorem d_R_passNumber_142 : decode prog_5_method_11_code 142 = .ok (.dup, 1) := by decide +kernel
theorem d_R_passNumber_143 : decode prog_5_method_11_code 143 = .ok (.getfield 32, 3) := by decide +kernel
theorem d_R_passNumber_146 : decode prog_5_method_11_code 146 = .ok (.iconst (1), 1) := by decide +kernel
theorem d_R_passNumber_147 : decode prog_5_method_11_code 147 = .ok (.iadd, 1) := by decide +kernel
theorem d_R_passNumber_148 : decode prog_5_method_11_code 148 = .ok (.putfield 32, 3) := by decide +kernel
theorem d_R_passNumber_151 : decode prog_5_method_11_code 151 = .ok (.goto (-74), 3) := by decide +kernel
theorem d_R_passNumber_154 : decode prog_5_method_11_code 154 = .ok (.iload_n 3, 1) := by decide +kernel
theorem d_R_passNumber_155 : decode prog_5_method_11_code 155 = .ok (.ifCond .eq (9), 3) := by decide +kernel
theorem d_R_passNumber_158 : decode prog_5_method_11_code 158 = .ok (.lload 4, 2) := by decide +kernel
theorem d_R_passNumber_160 : decode prog_5_method_11_code 160 = .ok (.lneg, 1) := by decide +kernel
theorem d_R_passNumber_161 : decode prog_5_method_11_code 161 = .ok (.goto (5), 3) := by decide +kernel
theorem d_R_passNumber_164 : decode prog_5_method_11_code 164 = .ok (.lload 4, 2) := by decide +kernel
theorem d_R_passNumber_166 : decode prog_5_method_11_code 166 = .ok (.lstore 6, 2) := by decide +kernel
theorem d_R_passNumber_168 : decode prog_5_method_11_code 168 = .ok (.aload_n 0, 1) := by decide +kernel
theorem d_R_passNumber_169 : decode prog_5_method_11_code 169 = .ok (.lload 6, 2) := by decide +kernel
theorem d_R_passNumber_171 : decode prog_5_method_11_code 171 = .ok (.l2i, 1) := by decide +kernel
theorem d_R_passNumber_172 : decode prog_5_method_11_code 172 = .ok (.putfield 105, 3) := by decide +kernel
theorem d_R_passNumber_175 : decode prog_5_method_11_code 175 = .ok (.aload_n 0, 1) := by decide +kernel
theorem d_R_passNumber_176 : decode prog_5_method_11_code 176 = .ok (.getfield 105, 3) := by decide +kernel
theorem d_R_passNumber_179 : decode prog_5_method_11_code 179 = .ok (.i2l, 1) := by decide +kernel
theorem d_R_passNumber_180 : decode prog_5_method_11_code 180 = .ok (.lload 6, 2) := by decide +kernel
theorem d_R_passNumber_182 : decode prog_5_method_11_code 182 = .ok (.lcmp, 1) := by decide +kernel
theorem d_R_passNumber_183 : decode prog_5_method_11_code 183 = .ok (.ifCond .eq (12), 3) := by decide +kernel
theorem d_R_passNumber_186 : decode prog_5_method_11_code 186 = .ok (.aload_n 0, 1) := by decide +kernel
theorem d_R_passNumber_187 : decode prog_5_method_11_code 187 = .ok (.iconst (2), 1) := by decide +kernel
theorem d_R_passNumber_188 : decode prog_5_method_11_code 188 = .ok (.iload_n 2, 1) := by decide +kernel
theorem d_R_passNumber_189 : decode prog_5_method_11_code 189 = .ok (.invokevirtual 52, 3) := by decide +kernel
theorem d_R_passNumber_192 : decode prog_5_method_11_code 192 = .ok (.ifCond .eq (7), 3) := by decide +kernel
theorem d_R_passNumber_195 : decode prog_5_method_11_code 195 = .ok (.iconst (1), 1) := by decide +kernel
theorem d_R_passNumber_196 : decode prog_5_method_11_code 196 = .ok (.goto (4), 3) := by decide +kernel
theorem d_R_passNumber_199 : decode prog_5_method_11_code 199 = .ok (.iconst (0), 1) := by decide +kernel
theorem d_R_passNumber_200 : decode prog_5_method_11_code 200 = .ok (.ireturn, 1) := by decide +kernel
theorem d_R_next_0 : decode prog_5_method_4_code 0 = .ok (.aload_n 0, 1) := by decide +kernel
theorem d_R_next_1 : decode prog_5_method_4_code 1 = .ok (.getfield 32, 3) := by decide +kernel
theorem d_R_next_4 : decode prog_5_method_4_code 4 = .ok (.aload_n 0, 1) := by decide +kernel
theorem d_R_next_5 : decode prog_5_method_4_code 5 = .ok (.getfield 19, 3) := by decide +kernel
theorem d_R_next_8 : decode prog_5_method_4_code 8 = .ok (.getfield 56, 3) := by decide +kernel
theorem d_R_next_11 : decode prog_5_method_4_code 11 = .ok (.if_icmp .ge (33), 3) := by decide +kernel
theorem d_R_next_14 : decode prog_5_method_4_code 14 = .ok (.aload_n 0, 1) := by decide +kernel
theorem d_R_next_15 : decode prog_5_method_4_code 15 = .ok (.getfield 19, 3) := by decide +kernel
theorem d_R_next_18 : decode prog_5_method_4_code 18 = .ok (.aload_n 0, 1) := by decide +kernel
theorem d_R_next_19 : decode prog_5_method_4_code 19 = .ok (.getfield 32, 3) := by decide +kernel
theorem d_R_next_22 : decode prog_5_method_4_code 22 = .ok (.i2l, 1) := by decide +kernel
theorem d_R_next_23 : decode prog_5_method_4_code 23 = .ok (.invokevirtual 61, 3) := by decide +kernel
theorem d_R_next_26 : decode prog_5_method_4_code 26 = .ok (.bipush (32), 2) := by decide +kernel
theorem d_R_next_28 : decode prog_5_method_4_code 28 = .ok (.if_icmp .gt (16), 3) := by decide +kernel
theorem d_R_next_31 : decode prog_5_method_4_code 31 = .ok (.aload_n 0, 1) := by decide +kernel
theorem d_R_next_32 : decode prog_5_method_4_code 32 = .ok (.dup, 1) := by decide +kernel
theorem d_R_next_33 : decode prog_5_method_4_code 33 = .ok (.getfield 32, 3) := by decide +kernel
theorem d_R_next_36 : decode prog_5_method_4_code 36 = .ok (.iconst (1), 1) := by decide +kernel
theorem d_R_next_37 : decode prog_5_method_4_code 37 = .ok (.iadd, 1) := by decide +kernel
theorem d_R_next_38 : decode prog_5_method_4_code 38 = .ok (.putfield 32, 3) := by decide +kernel
theorem d_R_next_41 : decode prog_5_method_4_code 41 = .ok (.goto (-41), 3) := by decide +kernel
theorem d_R_next_44 : decode prog_5_method_4_code 44 = .ok (.aload_n 0, 1) := by decide +kernel
theorem d_R_next_45 : decode prog_5_method_4_code 45 = .ok (.getfield 19, 3) := by decide +kernel
theorem d_R_next_48 : decode prog_5_method_4_code 48 = .ok (.aload_n 0, 1) := by decide +kernel
theorem d_R_next_49 : decode prog_5_method_4_code 49 = .ok (.getfield 32, 3) := by decide +kernel
theorem d_R_next_52 : decode prog_5_method_4_code 52 = .ok (.i2l, 1) := by decide +kernel
theorem d_R_next_53 : decode prog_5_method_4_code 53 = .ok (.invokevirtual 61, 3) := by decide +kernel
theorem d_R_next_56 : decode prog_5_method_4_code 56 = .ok (.ireturn, 1) := by decide +kernel
theorem d_T_appendNumber_0 : decode prog_6_method_4_code 0 = .ok (.iload_n 1, 1) := by decide +kernel
theorem d_T_appendNumber_1 : decode prog_6_method_4_code 1 = .ok (.i2l, 1) := by decide +kernel
theorem d_T_appendNumber_2 : decode prog_6_method_4_code 2 = .ok (.invokestatic 19, 3) := by decide +kernel
theorem d_T_appendNumber_5 : decode prog_6_method_4_code 5 = .ok (.lstore_n 2, 1) := by decide +kernel
theorem d_T_appendNumber_6 : decode prog_6_method_4_code 6 = .ok (.iload_n 1, 1) := by decide +kernel
theorem d_T_appendNumber_7 : decode prog_6_method_4_code 7 = .ok (.ifCond .ge (9), 3) := by decide +kernel
theorem d_T_appendNumber_10 : decode prog_6_method_4_code 10 = .ok (.aload_n 0, 1) := by decide +kernel
theorem d_T_appendNumber_11 : decode prog_6_method_4_code 11 = .ok (.bipush (45), 2) := by decide +kernel
theorem d_T_appendNumber_13 : decode prog_6_method_4_code 13 = .ok (.invokevirtual 25, 3) := by decide +kernel
theorem d_T_appendNumber_16 : decode prog_6_method_4_code 16 = .ok (.ldc2_w 29, 3) := by decide +kernel
theorem d_T_appendNumber_19 : decode prog_6_method_4_code 19 = .ok (.lstore 4, 2) := by decide +kernel
theorem d_T_appendNumber_21 : decode prog_6_method_4_code 21 = .ok (.lload 4, 2) := by decide +kernel
theorem d_T_appendNumber_23 : decode prog_6_method_4_code 23 = .ok (.lconst 0, 1) := by decide +kernel
theorem d_T_appendNumber_24 : decode prog_6_method_4_code 24 = .ok (.lcmp, 1) := by decide +kernel
theorem d_T_appendNumber_25 : decode prog_6_method_4_code 25 = .ok (.ifCond .le (45), 3) := by decide +kernel
theorem d_T_appendNumber_28 : decode prog_6_method_4_code 28 = .ok (.lload_n 2, 1) := by decide +kernel
theorem d_T_appendNumber_29 : decode prog_6_method_4_code 29 = .ok (.lload 4, 2) := by decide +kernel
theorem d_T_appendNumber_31 : decode prog_6_method_4_code 31 = .ok (.lcmp, 1) := by decide +kernel
theorem d_T_appendNumber_32 : decode prog_6_method_4_code 32 = .ok (.ifCond .ge (10), 3) := by decide +kernel
theorem d_T_appendNumber_35 : decode prog_6_method_4_code 35 = .ok (.lload 4, 2) := by decide +kernel
theorem d_T_appendNumber_37 : decode prog_6_method_4_code 37 = .ok (.lconst 1, 1) := by decide +kernel
theorem d_T_appendNumber_38 : decode prog_6_method_4_code 38 = .ok (.lcmp, 1) := by decide +kernel
theorem d_T_appendNumber_39 : decode prog_6_method_4_code 39 = .ok (.ifCond .ne (20), 3) := by decide +kernel
theorem d_T_appendNumber_42 : decode prog_6_method_4_code 42 = .ok (.aload_n 0, 1) := by decide +kernel
theorem d_T_appendNumber_43 : decode prog_6_method_4_code 43 = .ok (.ldc2_w 31, 3) := by decide +kernel
theorem d_T_appendNumber_46 : decode prog_6_method_4_code 46 = .ok (.lload_n 2, 1) := by decide +kernel
theorem d_T_appendNumber_47 : decode prog_6_method_4_code 47 = .ok (.lload 4, 2) := by decide +kernel
theorem d_T_appendNumber_49 : decode prog_6_method_4_code 49 = .ok (.ldiv, 1) := by decide +kernel
theorem d_T_appendNumber_50 : decode prog_6_method_4_code 50 = .ok (.ldc2_w 33, 3) := by decide +kernel
theorem d_T_appendNumber_53 : decode prog_6_method_4_code 53 = .ok (.lrem, 1) := by decide +kernel
theorem d_T_appendNumber_54 : decode prog_6_method_4_code 54 = .ok (.ladd, 1) := by decide +kernel
theorem d_T_appendNumber_55 : decode prog_6_method_4_code 55 = .ok (.l2i, 1) := by decide +kernel
theorem d_T_appendNumber_56 : decode prog_6_method_4_code 56 = .ok (.invokevirtual 25, 3) := by decide +kernel
theorem d_T_appendNumber_59 : decode prog_6_method_4_code 59 = .ok (.lload 4, 2) := by decide +kernel
theorem d_T_appendNumber_61 : decode prog_6_method_4_code 61 = .ok (.ldc2_w 33, 3) := by decide +kernel
theorem d_T_appendNumber_64 : decode prog_6_method_4_code 64 = .ok (.ldiv, 1) := by decide +kernel
theorem d_T_appendNumber_65 : decode prog_6_method_4_code 65 = .ok (.lstore 4, 2) := by decide +kernel
theorem d_T_appendNumber_67 : decode prog_6_method_4_code 67 = .ok (.goto (-46), 3) := by decide +kernel
theorem d_T_appendNumber_70 : decode prog_6_method_4_code 70 = .ok (.return_, 1) := by decide +kernel
theorem d_V_settles_0 : decode prog_7_method_6_code 0 = .ok (.aload_n 1, 1) := by decide +kernel
theorem d_V_settles_1 : decode prog_7_method_6_code 1 = .ok (.getfield 27, 3) := by decide +kernel
theorem d_V_settles_4 : decode prog_7_method_6_code 4 = .ok (.iload_n 2, 1) := by decide +kernel
theorem d_V_settles_5 : decode prog_7_method_6_code 5 = .ok (.iaload, 1) := by decide +kernel
theorem d_V_settles_6 : decode prog_7_method_6_code 6 = .ok (.istore_n 3, 1) := by decide +kernel
theorem d_V_settles_7 : decode prog_7_method_6_code 7 = .ok (.iload_n 2, 1) := by decide +kernel
theorem d_V_settles_8 : decode prog_7_method_6_code 8 = .ok (.invokestatic 30, 3) := by decide +kernel
theorem d_V_settles_11 : decode prog_7_method_6_code 11 = .ok (.istore 4, 2) := by decide +kernel
theorem d_V_settles_13 : decode prog_7_method_6_code 13 = .ok (.iload_n 2, 1) := by decide +kernel
theorem d_V_settles_14 : decode prog_7_method_6_code 14 = .ok (.invokestatic 34, 3) := by decide +kernel
theorem d_V_settles_17 : decode prog_7_method_6_code 17 = .ok (.istore 5, 2) := by decide +kernel
theorem d_V_settles_19 : decode prog_7_method_6_code 19 = .ok (.iload_n 3, 1) := by decide +kernel
theorem d_V_settles_20 : decode prog_7_method_6_code 20 = .ok (.ifCond .ne (5), 3) := by decide +kernel
theorem d_V_settles_23 : decode prog_7_method_6_code 23 = .ok (.iconst (0), 1) := by decide +kernel
theorem d_V_settles_24 : decode prog_7_method_6_code 24 = .ok (.ireturn, 1) := by decide +kernel
theorem d_V_settles_25 : decode prog_7_method_6_code 25 = .ok (.aload_n 0, 1) := by decide +kernel
theorem d_V_settles_26 : decode prog_7_method_6_code 26 = .ok (.aload_n 1, 1) := by decide +kernel
theorem d_V_settles_27 : decode prog_7_method_6_code 27 = .ok (.iload 4, 2) := by decide +kernel
theorem d_V_settles_29 : decode prog_7_method_6_code 29 = .ok (.invokevirtual 37, 3) := by decide +kernel
theorem d_V_settles_32 : decode prog_7_method_6_code 32 = .ok (.istore 6, 2) := by decide +kernel
theorem d_V_settles_34 : decode prog_7_method_6_code 34 = .ok (.iload_n 3, 1) := by decide +kernel
theorem d_V_settles_35 : decode prog_7_method_6_code 35 = .ok (.iconst (1), 1) := by decide +kernel
theorem d_V_settles_36 : decode prog_7_method_6_code 36 = .ok (.if_icmp .ne (6), 3) := by decide +kernel
theorem d_V_settles_39 : decode prog_7_method_6_code 39 = .ok (.iload 6, 2) := by decide +kernel
theorem d_V_settles_41 : decode prog_7_method_6_code 41 = .ok (.ireturn, 1) := by decide +kernel
theorem d_V_settles_42 : decode prog_7_method_6_code 42 = .ok (.aload_n 0, 1) := by decide +kernel
theorem d_V_settles_43 : decode prog_7_method_6_code 43 = .ok (.aload_n 1, 1) := by decide +kernel
theorem d_V_settles_44 : decode prog_7_method_6_code 44 = .ok (.iload 5, 2) := by decide +kernel
theorem d_V_settles_46 : decode prog_7_method_6_code 46 = .ok (.invokevirtual 37, 3) := by decide +kernel
theorem d_V_settles_49 : decode prog_7_method_6_code 49 = .ok (.istore 7, 2) := by decide +kernel
theorem d_V_settles_51 : decode prog_7_method_6_code 51 = .ok (.iload 6, 2) := by decide +kernel
theorem d_V_settles_53 : decode prog_7_method_6_code 53 = .ok (.iload 7, 2) := by decide +kernel
theorem d_V_settles_55 : decode prog_7_method_6_code 55 = .ok (.if_icmp .eq (15), 3) := by decide +kernel
theorem d_V_settles_58 : decode prog_7_method_6_code 58 = .ok (.iload_n 3, 1) := by decide +kernel
theorem d_V_settles_59 : decode prog_7_method_6_code 59 = .ok (.bipush (42), 2) := by decide +kernel
theorem d_V_settles_61 : decode prog_7_method_6_code 61 = .ok (.if_icmp .eq (25), 3) := by decide +kernel
theorem d_V_settles_64 : decode prog_7_method_6_code 64 = .ok (.iload_n 3, 1) := by decide +kernel
theorem d_V_settles_65 : decode prog_7_method_6_code 65 = .ok (.bipush (38), 2) := by decide +kernel
theorem d_V_settles_67 : decode prog_7_method_6_code 67 = .ok (.if_icmp .eq (19), 3) := by decide +kernel
theorem d_V_settles_70 : decode prog_7_method_6_code 70 = .ok (.iload 6, 2) := by decide +kernel
theorem d_V_settles_72 : decode prog_7_method_6_code 72 = .ok (.ifCond .eq (12), 3) := by decide +kernel
theorem d_V_settles_75 : decode prog_7_method_6_code 75 = .ok (.iload 7, 2) := by decide +kernel
theorem d_V_settles_77 : decode prog_7_method_6_code 77 = .ok (.ifCond .eq (7), 3) := by decide +kernel
theorem d_V_settles_80 : decode prog_7_method_6_code 80 = .ok (.iconst (1), 1) := by decide +kernel
theorem d_V_settles_81 : decode prog_7_method_6_code 81 = .ok (.goto (4), 3) := by decide +kernel
theorem d_V_settles_84 : decode prog_7_method_6_code 84 = .ok (.iconst (0), 1) := by decide +kernel
theorem d_V_settles_85 : decode prog_7_method_6_code 85 = .ok (.ireturn, 1) := by decide +kernel
theorem d_V_settles_86 : decode prog_7_method_6_code 86 = .ok (.aload_n 0, 1) := by decide +kernel
theorem d_V_settles_87 : decode prog_7_method_6_code 87 = .ok (.aload_n 1, 1) := by decide +kernel
theorem d_V_settles_88 : decode prog_7_method_6_code 88 = .ok (.iload 6, 2) := by decide +kernel
theorem d_V_settles_90 : decode prog_7_method_6_code 90 = .ok (.ifCond .eq (8), 3) := by decide +kernel
theorem d_V_settles_93 : decode prog_7_method_6_code 93 = .ok (.iload 4, 2) := by decide +kernel
theorem d_V_settles_95 : decode prog_7_method_6_code 95 = .ok (.goto (5), 3) := by decide +kernel
theorem d_V_settles_98 : decode prog_7_method_6_code 98 = .ok (.iload 5, 2) := by decide +kernel
theorem d_V_settles_100 : decode prog_7_method_6_code 100 = .ok (.invokevirtual 41, 3) := by decide +kernel
theorem d_V_settles_103 : decode prog_7_method_6_code 103 = .ok (.ifCond .ne (7), 3) := by decide +kernel
theorem d_V_settles_106 : decode prog_7_method_6_code 106 = .ok (.iconst (1), 1) := by decide +kernel
theorem d_V_settles_107 : decode prog_7_method_6_code 107 = .ok (.goto (4), 3) := by decide +kernel
theorem d_V_settles_110 : decode prog_7_method_6_code 110 = .ok (.iconst (0), 1) := by decide +kernel
theorem d_V_settles_111 : decode prog_7_method_6_code 111 = .ok (.ireturn, 1) := by decide +kernel
theorem d_V_settled_0 : decode prog_7_method_7_code 0 = .ok (.aload_n 0, 1) := by decide +kernel
theorem d_V_settled_1 : decode prog_7_method_7_code 1 = .ok (.aload_n 1, 1) := by decide +kernel
theorem d_V_settled_2 : decode prog_7_method_7_code 2 = .ok (.iload_n 2, 1) := by decide +kernel
theorem d_V_settled_3 : decode prog_7_method_7_code 3 = .ok (.invokestatic 30, 3) := by decide +kernel
theorem d_V_settled_6 : decode prog_7_method_7_code 6 = .ok (.invokevirtual 41, 3) := by decide +kernel
theorem d_V_settled_9 : decode prog_7_method_7_code 9 = .ok (.istore_n 3, 1) := by decide +kernel
theorem d_V_settled_10 : decode prog_7_method_7_code 10 = .ok (.aload_n 0, 1) := by decide +kernel
theorem d_V_settled_11 : decode prog_7_method_7_code 11 = .ok (.aload_n 1, 1) := by decide +kernel
theorem d_V_settled_12 : decode prog_7_method_7_code 12 = .ok (.iload_n 2, 1) := by decide +kernel
theorem d_V_settled_13 : decode prog_7_method_7_code 13 = .ok (.invokestatic 34, 3) := by decide +kernel
