theorem d_F_rewrite_23 : decode prog_2_method_11_code 23 = .ok (.iload 4, 2) := by decide +kernel
theorem d_F_rewrite_25 : decode prog_2_method_11_code 25 = .ok (.iload_n 3, 1) := by decide +kernel
theorem d_F_rewrite_26 : decode prog_2_method_11_code 26 = .ok (.iastore, 1) := by decide +kernel
theorem d_F_rewrite_27 : decode prog_2_method_11_code 27 = .ok (.aload_n 0, 1) := by decide +kernel
theorem d_F_rewrite_28 : decode prog_2_method_11_code 28 = .ok (.getfield 9, 3) := by decide +kernel
theorem d_F_rewrite_31 : decode prog_2_method_11_code 31 = .ok (.iload 4, 2) := by decide +kernel
theorem d_F_rewrite_33 : decode prog_2_method_11_code 33 = .ok (.baload, 1) := by decide +kernel
theorem d_F_rewrite_34 : decode prog_2_method_11_code 34 = .ok (.ifCond .eq (6), 3) := by decide +kernel
theorem d_F_rewrite_37 : decode prog_2_method_11_code 37 = .ok (.iinc 3 (1), 3) := by decide +kernel
theorem d_F_rewrite_40 : decode prog_2_method_11_code 40 = .ok (.iinc 4 (1), 3) := by decide +kernel
theorem d_F_rewrite_43 : decode prog_2_method_11_code 43 = .ok (.goto (-33), 3) := by decide +kernel
theorem d_F_rewrite_46 : decode prog_2_method_11_code 46 = .ok (.iconst (0), 1) := by decide +kernel
theorem d_F_rewrite_47 : decode prog_2_method_11_code 47 = .ok (.istore 4, 2) := by decide +kernel
theorem d_F_rewrite_49 : decode prog_2_method_11_code 49 = .ok (.iload 4, 2) := by decide +kernel
theorem d_F_rewrite_51 : decode prog_2_method_11_code 51 = .ok (.aload_n 1, 1) := by decide +kernel
theorem d_F_rewrite_52 : decode prog_2_method_11_code 52 = .ok (.getfield 54, 3) := by decide +kernel
theorem d_F_rewrite_55 : decode prog_2_method_11_code 55 = .ok (.if_icmp .ge (27), 3) := by decide +kernel
theorem d_F_rewrite_58 : decode prog_2_method_11_code 58 = .ok (.aload_n 0, 1) := by decide +kernel
theorem d_F_rewrite_59 : decode prog_2_method_11_code 59 = .ok (.getfield 9, 3) := by decide +kernel
theorem d_F_rewrite_62 : decode prog_2_method_11_code 62 = .ok (.iload 4, 2) := by decide +kernel
theorem d_F_rewrite_64 : decode prog_2_method_11_code 64 = .ok (.baload, 1) := by decide +kernel
theorem d_F_rewrite_65 : decode prog_2_method_11_code 65 = .ok (.ifCond .eq (11), 3) := by decide +kernel
theorem d_F_rewrite_68 : decode prog_2_method_11_code 68 = .ok (.aload_n 0, 1) := by decide +kernel
theorem d_F_rewrite_69 : decode prog_2_method_11_code 69 = .ok (.aload_n 1, 1) := by decide +kernel
theorem d_F_rewrite_70 : decode prog_2_method_11_code 70 = .ok (.iload 4, 2) := by decide +kernel
theorem d_F_rewrite_72 : decode prog_2_method_11_code 72 = .ok (.aload_n 2, 1) := by decide +kernel
theorem d_F_rewrite_73 : decode prog_2_method_11_code 73 = .ok (.invokevirtual 120, 3) := by decide +kernel
theorem d_F_rewrite_76 : decode prog_2_method_11_code 76 = .ok (.iinc 4 (1), 3) := by decide +kernel
theorem d_F_rewrite_79 : decode prog_2_method_11_code 79 = .ok (.goto (-30), 3) := by decide +kernel
theorem d_F_rewrite_82 : decode prog_2_method_11_code 82 = .ok (.return_, 1) := by decide +kernel
theorem d_F_find_0 : decode prog_2_method_3_code 0 = .ok (.iconst (0), 1) := by decide +kernel
theorem d_F_find_1 : decode prog_2_method_3_code 1 = .ok (.istore_n 2, 1) := by decide +kernel
theorem d_F_find_2 : decode prog_2_method_3_code 2 = .ok (.iload_n 2, 1) := by decide +kernel
theorem d_F_find_3 : decode prog_2_method_3_code 3 = .ok (.bipush (24), 2) := by decide +kernel
theorem d_F_find_5 : decode prog_2_method_3_code 5 = .ok (.if_icmp .ge (23), 3) := by decide +kernel
theorem d_F_find_8 : decode prog_2_method_3_code 8 = .ok (.aload_n 0, 1) := by decide +kernel
theorem d_F_find_9 : decode prog_2_method_3_code 9 = .ok (.getfield 9, 3) := by decide +kernel
theorem d_F_find_12 : decode prog_2_method_3_code 12 = .ok (.iload_n 2, 1) := by decide +kernel
theorem d_F_find_13 : decode prog_2_method_3_code 13 = .ok (.iconst (0), 1) := by decide +kernel
theorem d_F_find_14 : decode prog_2_method_3_code 14 = .ok (.bastore, 1) := by decide +kernel
theorem d_F_find_15 : decode prog_2_method_3_code 15 = .ok (.aload_n 0, 1) := by decide +kernel
theorem d_F_find_16 : decode prog_2_method_3_code 16 = .ok (.getfield 15, 3) := by decide +kernel
theorem d_F_find_19 : decode prog_2_method_3_code 19 = .ok (.iload_n 2, 1) := by decide +kernel
theorem d_F_find_20 : decode prog_2_method_3_code 20 = .ok (.iconst (0), 1) := by decide +kernel
theorem d_F_find_21 : decode prog_2_method_3_code 21 = .ok (.bastore, 1) := by decide +kernel
theorem d_F_find_22 : decode prog_2_method_3_code 22 = .ok (.iinc 2 (1), 3) := by decide +kernel
theorem d_F_find_25 : decode prog_2_method_3_code 25 = .ok (.goto (-23), 3) := by decide +kernel
theorem d_F_find_28 : decode prog_2_method_3_code 28 = .ok (.aload_n 0, 1) := by decide +kernel
theorem d_F_find_29 : decode prog_2_method_3_code 29 = .ok (.iconst (0), 1) := by decide +kernel
theorem d_F_find_30 : decode prog_2_method_3_code 30 = .ok (.aload_n 0, 1) := by decide +kernel
theorem d_F_find_31 : decode prog_2_method_3_code 31 = .ok (.getfield 28, 3) := by decide +kernel
theorem d_F_find_34 : decode prog_2_method_3_code 34 = .ok (.invokevirtual 42, 3) := by decide +kernel
theorem d_F_find_37 : decode prog_2_method_3_code 37 = .ok (.iconst (1), 1) := by decide +kernel
theorem d_F_find_38 : decode prog_2_method_3_code 38 = .ok (.istore_n 2, 1) := by decide +kernel
theorem d_F_find_39 : decode prog_2_method_3_code 39 = .ok (.iconst (0), 1) := by decide +kernel
theorem d_F_find_40 : decode prog_2_method_3_code 40 = .ok (.istore_n 3, 1) := by decide +kernel
theorem d_F_find_41 : decode prog_2_method_3_code 41 = .ok (.iload_n 2, 1) := by decide +kernel
theorem d_F_find_42 : decode prog_2_method_3_code 42 = .ok (.ifCond .eq (22), 3) := by decide +kernel
theorem d_F_find_45 : decode prog_2_method_3_code 45 = .ok (.iload_n 3, 1) := by decide +kernel
theorem d_F_find_46 : decode prog_2_method_3_code 46 = .ok (.sipush (217), 3) := by decide +kernel
theorem d_F_find_49 : decode prog_2_method_3_code 49 = .ok (.if_icmp .ge (15), 3) := by decide +kernel
theorem d_F_find_52 : decode prog_2_method_3_code 52 = .ok (.aload_n 0, 1) := by decide +kernel
theorem d_F_find_53 : decode prog_2_method_3_code 53 = .ok (.aload_n 1, 1) := by decide +kernel
theorem d_F_find_54 : decode prog_2_method_3_code 54 = .ok (.invokevirtual 46, 3) := by decide +kernel
theorem d_F_find_57 : decode prog_2_method_3_code 57 = .ok (.istore_n 2, 1) := by decide +kernel
theorem d_F_find_58 : decode prog_2_method_3_code 58 = .ok (.iinc 3 (1), 3) := by decide +kernel
theorem d_F_find_61 : decode prog_2_method_3_code 61 = .ok (.goto (-20), 3) := by decide +kernel
theorem d_F_find_64 : decode prog_2_method_3_code 64 = .ok (.aload_n 0, 1) := by decide +kernel
theorem d_F_find_65 : decode prog_2_method_3_code 65 = .ok (.aload_n 1, 1) := by decide +kernel
theorem d_F_find_66 : decode prog_2_method_3_code 66 = .ok (.invokevirtual 50, 3) := by decide +kernel
theorem d_F_find_69 : decode prog_2_method_3_code 69 = .ok (.return_, 1) := by decide +kernel
theorem d_C_write_0 : decode prog_1_method_11_code 0 = .ok (.aload_n 0, 1) := by decide +kernel
theorem d_C_write_1 : decode prog_1_method_11_code 1 = .ok (.getfield 33, 3) := by decide +kernel
theorem d_C_write_4 : decode prog_1_method_11_code 4 = .ok (.aload_n 0, 1) := by decide +kernel
theorem d_C_write_5 : decode prog_1_method_11_code 5 = .ok (.getfield 47, 3) := by decide +kernel
theorem d_C_write_8 : decode prog_1_method_11_code 8 = .ok (.aload_n 0, 1) := by decide +kernel
theorem d_C_write_9 : decode prog_1_method_11_code 9 = .ok (.getfield 18, 3) := by decide +kernel
theorem d_C_write_12 : decode prog_1_method_11_code 12 = .ok (.invokevirtual 126, 3) := by decide +kernel
theorem d_C_write_15 : decode prog_1_method_11_code 15 = .ok (.aload_n 0, 1) := by decide +kernel
theorem d_C_write_16 : decode prog_1_method_11_code 16 = .ok (.getfield 18, 3) := by decide +kernel
theorem d_C_write_19 : decode prog_1_method_11_code 19 = .ok (.getfield 65, 3) := by decide +kernel
theorem d_C_write_22 : decode prog_1_method_11_code 22 = .ok (.ireturn, 1) := by decide +kernel
theorem d_C_read_0 : decode prog_1_method_4_code 0 = .ok (.aload_n 0, 1) := by decide +kernel
theorem d_C_read_1 : decode prog_1_method_4_code 1 = .ok (.getfield 26, 3) := by decide +kernel
theorem d_C_read_4 : decode prog_1_method_4_code 4 = .ok (.aload_n 0, 1) := by decide +kernel
theorem d_C_read_5 : decode prog_1_method_4_code 5 = .ok (.getfield 51, 3) := by decide +kernel
theorem d_C_read_8 : decode prog_1_method_4_code 8 = .ok (.invokevirtual 72, 3) := by decide +kernel
theorem d_C_read_11 : decode prog_1_method_4_code 11 = .ok (.ifCond .ne (5), 3) := by decide +kernel
theorem d_C_read_14 : decode prog_1_method_4_code 14 = .ok (.iconst (-1), 1) := by decide +kernel
theorem d_C_read_15 : decode prog_1_method_4_code 15 = .ok (.ireturn, 1) := by decide +kernel
theorem d_C_read_16 : decode prog_1_method_4_code 16 = .ok (.aload_n 0, 1) := by decide +kernel
theorem d_C_read_17 : decode prog_1_method_4_code 17 = .ok (.getfield 47, 3) := by decide +kernel
theorem d_C_read_20 : decode prog_1_method_4_code 20 = .ok (.astore_n 1, 1) := by decide +kernel
theorem d_C_read_21 : decode prog_1_method_4_code 21 = .ok (.aload_n 0, 1) := by decide +kernel
theorem d_C_read_22 : decode prog_1_method_4_code 22 = .ok (.aload_n 0, 1) := by decide +kernel
theorem d_C_read_23 : decode prog_1_method_4_code 23 = .ok (.getfield 51, 3) := by decide +kernel
theorem d_C_read_26 : decode prog_1_method_4_code 26 = .ok (.putfield 47, 3) := by decide +kernel
theorem d_C_read_29 : decode prog_1_method_4_code 29 = .ok (.aload_n 0, 1) := by decide +kernel
theorem d_C_read_30 : decode prog_1_method_4_code 30 = .ok (.aload_n 1, 1) := by decide +kernel
theorem d_C_read_31 : decode prog_1_method_4_code 31 = .ok (.putfield 51, 3) := by decide +kernel
theorem d_C_read_34 : decode prog_1_method_4_code 34 = .ok (.aload_n 0, 1) := by decide +kernel
theorem d_C_read_35 : decode prog_1_method_4_code 35 = .ok (.getfield 33, 3) := by decide +kernel
theorem d_C_read_38 : decode prog_1_method_4_code 38 = .ok (.aload_n 0, 1) := by decide +kernel
theorem d_C_read_39 : decode prog_1_method_4_code 39 = .ok (.getfield 47, 3) := by decide +kernel
theorem d_C_read_42 : decode prog_1_method_4_code 42 = .ok (.invokevirtual 54, 3) := by decide +kernel
theorem d_C_read_45 : decode prog_1_method_4_code 45 = .ok (.aload_n 0, 1) := by decide +kernel
theorem d_C_read_46 : decode prog_1_method_4_code 46 = .ok (.getfield 47, 3) := by decide +kernel
theorem d_C_read_49 : decode prog_1_method_4_code 49 = .ok (.getfield 76, 3) := by decide +kernel
theorem d_C_read_52 : decode prog_1_method_4_code 52 = .ok (.ireturn, 1) := by decide +kernel
theorem d_X_init_0 : decode prog_3_method_1_code 0 = .ok (.aload_n 0, 1) := by decide +kernel
theorem d_X_init_1 : decode prog_3_method_1_code 1 = .ok (.invokespecial 3, 3) := by decide +kernel
theorem d_X_init_4 : decode prog_3_method_1_code 4 = .ok (.aload_n 0, 1) := by decide +kernel
theorem d_X_init_5 : decode prog_3_method_1_code 5 = .ok (.bipush (32), 2) := by decide +kernel
theorem d_X_init_7 : decode prog_3_method_1_code 7 = .ok (.newarray .int, 2) := by decide +kernel
theorem d_X_init_9 : decode prog_3_method_1_code 9 = .ok (.putfield 9, 3) := by decide +kernel
theorem d_X_init_12 : decode prog_3_method_1_code 12 = .ok (.aload_n 0, 1) := by decide +kernel
theorem d_X_init_13 : decode prog_3_method_1_code 13 = .ok (.bipush (8), 2) := by decide +kernel
theorem d_X_init_15 : decode prog_3_method_1_code 15 = .ok (.newarray .int, 2) := by decide +kernel
theorem d_X_init_17 : decode prog_3_method_1_code 17 = .ok (.putfield 15, 3) := by decide +kernel
theorem d_X_init_20 : decode prog_3_method_1_code 20 = .ok (.return_, 1) := by decide +kernel
theorem d_G_init_0 : decode prog_4_method_1_code 0 = .ok (.aload_n 0, 1) := by decide +kernel
theorem d_G_init_1 : decode prog_4_method_1_code 1 = .ok (.invokespecial 3, 3) := by decide +kernel
theorem d_G_init_4 : decode prog_4_method_1_code 4 = .ok (.aload_n 0, 1) := by decide +kernel
theorem d_G_init_5 : decode prog_4_method_1_code 5 = .ok (.bipush (25), 2) := by decide +kernel
theorem d_G_init_7 : decode prog_4_method_1_code 7 = .ok (.newarray .int, 2) := by decide +kernel
theorem d_G_init_9 : decode prog_4_method_1_code 9 = .ok (.putfield 9, 3) := by decide +kernel
theorem d_G_init_12 : decode prog_4_method_1_code 12 = .ok (.aload_n 0, 1) := by decide +kernel
theorem d_G_init_13 : decode prog_4_method_1_code 13 = .ok (.bipush (80), 2) := by decide +kernel
theorem d_G_init_15 : decode prog_4_method_1_code 15 = .ok (.newarray .int, 2) := by decide +kernel
theorem d_G_init_17 : decode prog_4_method_1_code 17 = .ok (.putfield 15, 3) := by decide +kernel
theorem d_G_init_20 : decode prog_4_method_1_code 20 = .ok (.aload_n 0, 1) := by decide +kernel
theorem d_G_init_21 : decode prog_4_method_1_code 21 = .ok (.bipush (80), 2) := by decide +kernel
theorem d_G_init_23 : decode prog_4_method_1_code 23 = .ok (.newarray .int, 2) := by decide +kernel
theorem d_G_init_25 : decode prog_4_method_1_code 25 = .ok (.putfield 18, 3) := by decide +kernel
theorem d_G_init_28 : decode prog_4_method_1_code 28 = .ok (.aload_n 0, 1) := by decide +kernel
theorem d_G_init_29 : decode prog_4_method_1_code 29 = .ok (.sipush (184), 3) := by decide +kernel
theorem d_G_init_32 : decode prog_4_method_1_code 32 = .ok (.newarray .boolean, 2) := by decide +kernel
theorem d_G_init_34 : decode prog_4_method_1_code 34 = .ok (.putfield 21, 3) := by decide +kernel
theorem d_G_init_37 : decode prog_4_method_1_code 37 = .ok (.aload_n 0, 1) := by decide +kernel
theorem d_G_init_38 : decode prog_4_method_1_code 38 = .ok (.sipush (184), 3) := by decide +kernel
theorem d_G_init_41 : decode prog_4_method_1_code 41 = .ok (.newarray .int, 2) := by decide +kernel
theorem d_G_init_43 : decode prog_4_method_1_code 43 = .ok (.putfield 25, 3) := by decide +kernel
theorem d_G_init_46 : decode prog_4_method_1_code 46 = .ok (.aload_n 0, 1) := by decide +kernel
theorem d_G_init_47 : decode prog_4_method_1_code 47 = .ok (.bipush (24), 2) := by decide +kernel
theorem d_G_init_49 : decode prog_4_method_1_code 49 = .ok (.newarray .int, 2) := by decide +kernel
theorem d_G_init_51 : decode prog_4_method_1_code 51 = .ok (.putfield 28, 3) := by decide +kernel
theorem d_G_init_54 : decode prog_4_method_1_code 54 = .ok (.aload_n 0, 1) := by decide +kernel
theorem d_G_init_55 : decode prog_4_method_1_code 55 = .ok (.bipush (48), 2) := by decide +kernel
theorem d_G_init_57 : decode prog_4_method_1_code 57 = .ok (.newarray .int, 2) := by decide +kernel
theorem d_G_init_59 : decode prog_4_method_1_code 59 = .ok (.putfield 31, 3) := by decide +kernel
theorem d_G_init_62 : decode prog_4_method_1_code 62 = .ok (.aload_n 0, 1) := by decide +kernel
theorem d_G_init_63 : decode prog_4_method_1_code 63 = .ok (.iconst (1), 1) := by decide +kernel
theorem d_G_init_64 : decode prog_4_method_1_code 64 = .ok (.putfield 34, 3) := by decide +kernel
theorem d_G_init_67 : decode prog_4_method_1_code 67 = .ok (.aload_n 0, 1) := by decide +kernel
theorem d_G_init_68 : decode prog_4_method_1_code 68 = .ok (.getfield 28, 3) := by decide +kernel
theorem d_G_init_71 : decode prog_4_method_1_code 71 = .ok (.iconst (0), 1) := by decide +kernel
theorem d_G_init_72 : decode prog_4_method_1_code 72 = .ok (.iconst (0), 1) := by decide +kernel
theorem d_G_init_73 : decode prog_4_method_1_code 73 = .ok (.iastore, 1) := by decide +kernel
theorem d_G_init_74 : decode prog_4_method_1_code 74 = .ok (.return_, 1) := by decide +kernel
theorem d_R_init_0 : decode prog_5_method_1_code 0 = .ok (.aload_n 0, 1) := by decide +kernel
theorem d_R_init_1 : decode prog_5_method_1_code 1 = .ok (.invokespecial 3, 3) := by decide +kernel
theorem d_R_init_4 : decode prog_5_method_1_code 4 = .ok (.aload_n 0, 1) := by decide +kernel
theorem d_R_init_5 : decode prog_5_method_1_code 5 = .ok (.bipush (48), 2) := by decide +kernel
theorem d_R_init_7 : decode prog_5_method_1_code 7 = .ok (.newarray .int, 2) := by decide +kernel
theorem d_R_init_9 : decode prog_5_method_1_code 9 = .ok (.putfield 9, 3) := by decide +kernel
theorem d_R_init_12 : decode prog_5_method_1_code 12 = .ok (.aload_n 0, 1) := by decide +kernel
theorem d_R_init_13 : decode prog_5_method_1_code 13 = .ok (.iconst (-1), 1) := by decide +kernel
theorem d_R_init_14 : decode prog_5_method_1_code 14 = .ok (.putfield 15, 3) := by decide +kernel
theorem d_R_init_17 : decode prog_5_method_1_code 17 = .ok (.aload_n 0, 1) := by decide +kernel
theorem d_R_init_18 : decode prog_5_method_1_code 18 = .ok (.aload_n 1, 1) := by decide +kernel
theorem d_R_init_19 : decode prog_5_method_1_code 19 = .ok (.putfield 19, 3) := by decide +kernel
theorem d_R_init_22 : decode prog_5_method_1_code 22 = .ok (.return_, 1) := by decide +kernel
theorem d_T_init_0 : decode prog_6_method_1_code 0 = .ok (.aload_n 0, 1) := by decide +kernel
theorem d_T_init_1 : decode prog_6_method_1_code 1 = .ok (.invokespecial 3, 3) := by decide +kernel
theorem d_T_init_4 : decode prog_6_method_1_code 4 = .ok (.aload_n 0, 1) := by decide +kernel
theorem d_T_init_5 : decode prog_6_method_1_code 5 = .ok (.iload_n 1, 1) := by decide +kernel
theorem d_T_init_6 : decode prog_6_method_1_code 6 = .ok (.newarray .byte, 2) := by decide +kernel
theorem d_T_init_8 : decode prog_6_method_1_code 8 = .ok (.putfield 9, 3) := by decide +kernel
theorem d_T_init_11 : decode prog_6_method_1_code 11 = .ok (.return_, 1) := by decide +kernel
theorem d_V_init_0 : decode prog_7_method_1_code 0 = .ok (.aload_n 0, 1) := by decide +kernel
theorem d_V_init_1 : decode prog_7_method_1_code 1 = .ok (.invokespecial 3, 3) := by decide +kernel
theorem d_V_init_4 : decode prog_7_method_1_code 4 = .ok (.aload_n 0, 1) := by decide +kernel
theorem d_V_init_5 : decode prog_7_method_1_code 5 = .ok (.bipush (8), 2) := by decide +kernel
theorem d_V_init_7 : decode prog_7_method_1_code 7 = .ok (.newarray .boolean, 2) := by decide +kernel
theorem d_V_init_9 : decode prog_7_method_1_code 9 = .ok (.putfield 9, 3) := by decide +kernel
theorem d_V_init_12 : decode prog_7_method_1_code 12 = .ok (.aload_n 0, 1) := by decide +kernel
theorem d_V_init_13 : decode prog_7_method_1_code 13 = .ok (.bipush (8), 2) := by decide +kernel
theorem d_V_init_15 : decode prog_7_method_1_code 15 = .ok (.newarray .int, 2) := by decide +kernel
theorem d_V_init_17 : decode prog_7_method_1_code 17 = .ok (.putfield 15, 3) := by decide +kernel
theorem d_V_init_20 : decode prog_7_method_1_code 20 = .ok (.return_, 1) := by decide +kernel
theorem d_M_init_0 : decode prog_9_method_1_code 0 = .ok (.aload_n 0, 1) := by decide +kernel
theorem d_M_init_1 : decode prog_9_method_1_code 1 = .ok (.invokespecial 1, 3) := by decide +kernel
theorem d_M_init_4 : decode prog_9_method_1_code 4 = .ok (.aload_n 0, 1) := by decide +kernel
theorem d_M_init_5 : decode prog_9_method_1_code 5 = .ok (.sipush (700), 3) := by decide +kernel
theorem d_M_init_8 : decode prog_9_method_1_code 8 = .ok (.newarray .int, 2) := by decide +kernel
theorem d_M_init_10 : decode prog_9_method_1_code 10 = .ok (.putfield 7, 3) := by decide +kernel
theorem d_M_init_13 : decode prog_9_method_1_code 13 = .ok (.aload_n 0, 1) := by decide +kernel
theorem d_M_init_14 : decode prog_9_method_1_code 14 = .ok (.iconst (-1), 1) := by decide +kernel
theorem d_M_init_15 : decode prog_9_method_1_code 15 = .ok (.putfield 13, 3) := by decide +kernel
theorem d_M_init_18 : decode prog_9_method_1_code 18 = .ok (.aload_n 0, 1) := by decide +kernel
theorem d_M_init_19 : decode prog_9_method_1_code 19 = .ok (.iconst (1), 1) := by decide +kernel
theorem d_M_init_20 : decode prog_9_method_1_code 20 = .ok (.putfield 17, 3) := by decide +kernel
theorem d_M_init_23 : decode prog_9_method_1_code 23 = .ok (.aload_n 0, 1) := by decide +kernel
theorem d_M_init_24 : decode prog_9_method_1_code 24 = .ok (.sipush (560), 3) := by decide +kernel
theorem d_M_init_27 : decode prog_9_method_1_code 27 = .ok (.newarray .int, 2) := by decide +kernel
theorem d_M_init_29 : decode prog_9_method_1_code 29 = .ok (.putfield 20, 3) := by decide +kernel
theorem d_M_init_32 : decode prog_9_method_1_code 32 = .ok (.aload_n 0, 1) := by decide +kernel
theorem d_M_init_33 : decode prog_9_method_1_code 33 = .ok (.bipush (120), 2) := by decide +kernel
theorem d_M_init_35 : decode prog_9_method_1_code 35 = .ok (.newarray .int, 2) := by decide +kernel
theorem d_M_init_37 : decode prog_9_method_1_code 37 = .ok (.putfield 23, 3) := by decide +kernel
theorem d_M_init_40 : decode prog_9_method_1_code 40 = .ok (.aload_n 0, 1) := by decide +kernel
theorem d_M_init_41 : decode prog_9_method_1_code 41 = .ok (.bipush (25), 2) := by decide +kernel
theorem d_M_init_43 : decode prog_9_method_1_code 43 = .ok (.newarray .int, 2) := by decide +kernel
theorem d_M_init_45 : decode prog_9_method_1_code 45 = .ok (.putfield 26, 3) := by decide +kernel
theorem d_M_init_48 : decode prog_9_method_1_code 48 = .ok (.aload_n 0, 1) := by decide +kernel
theorem d_M_init_49 : decode prog_9_method_1_code 49 = .ok (.sipush (560), 3) := by decide +kernel
theorem d_M_init_52 : decode prog_9_method_1_code 52 = .ok (.newarray .int, 2) := by decide +kernel
theorem d_M_init_54 : decode prog_9_method_1_code 54 = .ok (.putfield 29, 3) := by decide +kernel
theorem d_M_init_57 : decode prog_9_method_1_code 57 = .ok (.aload_n 0, 1) := by decide +kernel
theorem d_M_init_58 : decode prog_9_method_1_code 58 = .ok (.bipush (120), 2) := by decide +kernel
theorem d_M_init_60 : decode prog_9_method_1_code 60 = .ok (.newarray .int, 2) := by decide +kernel
theorem d_M_init_62 : decode prog_9_method_1_code 62 = .ok (.putfield 32, 3) := by decide +kernel
theorem d_M_init_65 : decode prog_9_method_1_code 65 = .ok (.aload_n 0, 1) := by decide +kernel
theorem d_M_init_66 : decode prog_9_method_1_code 66 = .ok (.bipush (25), 2) := by decide +kernel
theorem d_M_init_68 : decode prog_9_method_1_code 68 = .ok (.newarray .int, 2) := by decide +kernel
theorem d_M_init_70 : decode prog_9_method_1_code 70 = .ok (.putfield 35, 3) := by decide +kernel
theorem d_M_init_73 : decode prog_9_method_1_code 73 = .ok (.aload_n 0, 1) := by decide +kernel
theorem d_M_init_74 : decode prog_9_method_1_code 74 = .ok (.bipush (48), 2) := by decide +kernel
theorem d_M_init_76 : decode prog_9_method_1_code 76 = .ok (.newarray .int, 2) := by decide +kernel
theorem d_M_init_78 : decode prog_9_method_1_code 78 = .ok (.putfield 38, 3) := by decide +kernel
theorem d_M_init_81 : decode prog_9_method_1_code 81 = .ok (.aload_n 0, 1) := by decide +kernel
theorem d_M_init_82 : decode prog_9_method_1_code 82 = .ok (.bipush (24), 2) := by decide +kernel
theorem d_M_init_84 : decode prog_9_method_1_code 84 = .ok (.newarray .boolean, 2) := by decide +kernel
theorem d_M_init_86 : decode prog_9_method_1_code 86 = .ok (.putfield 41, 3) := by decide +kernel
theorem d_M_init_89 : decode prog_9_method_1_code 89 = .ok (.aload_n 0, 1) := by decide +kernel
theorem d_M_init_90 : decode prog_9_method_1_code 90 = .ok (.sipush (192), 3) := by decide +kernel
theorem d_M_init_93 : decode prog_9_method_1_code 93 = .ok (.newarray .int, 2) := by decide +kernel
theorem d_M_init_95 : decode prog_9_method_1_code 95 = .ok (.putfield 45, 3) := by decide +kernel
theorem d_M_init_98 : decode prog_9_method_1_code 98 = .ok (.aload_n 0, 1) := by decide +kernel
theorem d_M_init_99 : decode prog_9_method_1_code 99 = .ok (.sipush (192), 3) := by decide +kernel
theorem d_M_init_102 : decode prog_9_method_1_code 102 = .ok (.newarray .int, 2) := by decide +kernel
theorem d_M_init_104 : decode prog_9_method_1_code 104 = .ok (.putfield 48, 3) := by decide +kernel
theorem d_M_init_107 : decode prog_9_method_1_code 107 = .ok (.aload_n 0, 1) := by decide +kernel
theorem d_M_init_108 : decode prog_9_method_1_code 108 = .ok (.bipush (8), 2) := by decide +kernel
theorem d_M_init_110 : decode prog_9_method_1_code 110 = .ok (.newarray .int, 2) := by decide +kernel
theorem d_M_init_112 : decode prog_9_method_1_code 112 = .ok (.putfield 51, 3) := by decide +kernel
theorem d_M_init_115 : decode prog_9_method_1_code 115 = .ok (.aload_n 0, 1) := by decide +kernel
theorem d_M_init_116 : decode prog_9_method_1_code 116 = .ok (.bipush (8), 2) := by decide +kernel
theorem d_M_init_118 : decode prog_9_method_1_code 118 = .ok (.newarray .int, 2) := by decide +kernel
theorem d_M_init_120 : decode prog_9_method_1_code 120 = .ok (.putfield 54, 3) := by decide +kernel
theorem d_M_init_123 : decode prog_9_method_1_code 123 = .ok (.aload_n 0, 1) := by decide +kernel
theorem d_M_init_124 : decode prog_9_method_1_code 124 = .ok (.sipush (1700), 3) := by decide +kernel
theorem d_M_init_127 : decode prog_9_method_1_code 127 = .ok (.newarray .int, 2) := by decide +kernel
theorem d_M_init_129 : decode prog_9_method_1_code 129 = .ok (.putfield 57, 3) := by decide +kernel
theorem d_M_init_132 : decode prog_9_method_1_code 132 = .ok (.aload_n 0, 1) := by decide +kernel
theorem d_M_init_133 : decode prog_9_method_1_code 133 = .ok (.bipush (32), 2) := by decide +kernel
theorem d_M_init_135 : decode prog_9_method_1_code 135 = .ok (.newarray .int, 2) := by decide +kernel
theorem d_M_init_137 : decode prog_9_method_1_code 137 = .ok (.putfield 60, 3) := by decide +kernel
theorem d_M_init_140 : decode prog_9_method_1_code 140 = .ok (.aload_n 0, 1) := by decide +kernel
theorem d_M_init_141 : decode prog_9_method_1_code 141 = .ok (.bipush (8), 2) := by decide +kernel
theorem d_M_init_143 : decode prog_9_method_1_code 143 = .ok (.newarray .int, 2) := by decide +kernel
theorem d_M_init_145 : decode prog_9_method_1_code 145 = .ok (.putfield 63, 3) := by decide +kernel
theorem d_M_init_148 : decode prog_9_method_1_code 148 = .ok (.return_, 1) := by decide +kernel
theorem d_F_init_0 : decode prog_2_method_1_code 0 = .ok (.aload_n 0, 1) := by decide +kernel
theorem d_F_init_1 : decode prog_2_method_1_code 1 = .ok (.invokespecial 3, 3) := by decide +kernel
theorem d_F_init_4 : decode prog_2_method_1_code 4 = .ok (.aload_n 0, 1) := by decide +kernel
theorem d_F_init_5 : decode prog_2_method_1_code 5 = .ok (.bipush (24), 2) := by decide +kernel
theorem d_F_init_7 : decode prog_2_method_1_code 7 = .ok (.newarray .boolean, 2) := by decide +kernel
theorem d_F_init_9 : decode prog_2_method_1_code 9 = .ok (.putfield 9, 3) := by decide +kernel
theorem d_F_init_12 : decode prog_2_method_1_code 12 = .ok (.aload_n 0, 1) := by decide +kernel
theorem d_F_init_13 : decode prog_2_method_1_code 13 = .ok (.bipush (24), 2) := by decide +kernel
theorem d_F_init_15 : decode prog_2_method_1_code 15 = .ok (.newarray .boolean, 2) := by decide +kernel
theorem d_F_init_17 : decode prog_2_method_1_code 17 = .ok (.putfield 15, 3) := by decide +kernel
theorem d_F_init_20 : decode prog_2_method_1_code 20 = .ok (.aload_n 0, 1) := by decide +kernel
theorem d_F_init_21 : decode prog_2_method_1_code 21 = .ok (.bipush (24), 2) := by decide +kernel
theorem d_F_init_23 : decode prog_2_method_1_code 23 = .ok (.anewarray 18, 3) := by decide +kernel
theorem d_F_init_26 : decode prog_2_method_1_code 26 = .ok (.putfield 20, 3) := by decide +kernel
theorem d_F_init_29 : decode prog_2_method_1_code 29 = .ok (.aload_n 0, 1) := by decide +kernel
theorem d_F_init_30 : decode prog_2_method_1_code 30 = .ok (.bipush (24), 2) := by decide +kernel
theorem d_F_init_32 : decode prog_2_method_1_code 32 = .ok (.anewarray 18, 3) := by decide +kernel
theorem d_F_init_35 : decode prog_2_method_1_code 35 = .ok (.putfield 24, 3) := by decide +kernel
theorem d_F_init_38 : decode prog_2_method_1_code 38 = .ok (.aload_n 0, 1) := by decide +kernel
theorem d_F_init_39 : decode prog_2_method_1_code 39 = .ok (.new 18, 3) := by decide +kernel
theorem d_F_init_42 : decode prog_2_method_1_code 42 = .ok (.dup, 1) := by decide +kernel
theorem d_F_init_43 : decode prog_2_method_1_code 43 = .ok (.invokespecial 27, 3) := by decide +kernel
theorem d_F_init_46 : decode prog_2_method_1_code 46 = .ok (.putfield 28, 3) := by decide +kernel
theorem d_F_init_49 : decode prog_2_method_1_code 49 = .ok (.aload_n 0, 1) := by decide +kernel
theorem d_F_init_50 : decode prog_2_method_1_code 50 = .ok (.new 18, 3) := by decide +kernel
theorem d_F_init_53 : decode prog_2_method_1_code 53 = .ok (.dup, 1) := by decide +kernel
theorem d_F_init_54 : decode prog_2_method_1_code 54 = .ok (.invokespecial 27, 3) := by decide +kernel
theorem d_F_init_57 : decode prog_2_method_1_code 57 = .ok (.putfield 32, 3) := by decide +kernel
theorem d_F_init_60 : decode prog_2_method_1_code 60 = .ok (.aload_n 0, 1) := by decide +kernel
theorem d_F_init_61 : decode prog_2_method_1_code 61 = .ok (.bipush (24), 2) := by decide +kernel
theorem d_F_init_63 : decode prog_2_method_1_code 63 = .ok (.newarray .int, 2) := by decide +kernel
theorem d_F_init_65 : decode prog_2_method_1_code 65 = .ok (.putfield 35, 3) := by decide +kernel
theorem d_F_init_68 : decode prog_2_method_1_code 68 = .ok (.aload_n 0, 1) := by decide +kernel
theorem d_F_init_69 : decode prog_2_method_1_code 69 = .ok (.bipush (7), 2) := by decide +kernel
theorem d_F_init_71 : decode prog_2_method_1_code 71 = .ok (.newarray .int, 2) := by decide +kernel
theorem d_F_init_73 : decode prog_2_method_1_code 73 = .ok (.putfield 39, 3) := by decide +kernel
theorem d_F_init_76 : decode prog_2_method_1_code 76 = .ok (.iconst (0), 1) := by decide +kernel
theorem d_F_init_77 : decode prog_2_method_1_code 77 = .ok (.istore_n 1, 1) := by decide +kernel
theorem d_F_init_78 : decode prog_2_method_1_code 78 = .ok (.iload_n 1, 1) := by decide +kernel
theorem d_F_init_79 : decode prog_2_method_1_code 79 = .ok (.bipush (24), 2) := by decide +kernel
theorem d_F_init_81 : decode prog_2_method_1_code 81 = .ok (.if_icmp .ge (35), 3) := by decide +kernel
theorem d_F_init_84 : decode prog_2_method_1_code 84 = .ok (.aload_n 0, 1) := by decide +kernel
theorem d_F_init_85 : decode prog_2_method_1_code 85 = .ok (.getfield 20, 3) := by decide +kernel
theorem d_F_init_88 : decode prog_2_method_1_code 88 = .ok (.iload_n 1, 1) := by decide +kernel
theorem d_F_init_89 : decode prog_2_method_1_code 89 = .ok (.new 18, 3) := by decide +kernel
theorem d_F_init_92 : decode prog_2_method_1_code 92 = .ok (.dup, 1) := by decide +kernel
theorem d_F_init_93 : decode prog_2_method_1_code 93 = .ok (.invokespecial 27, 3) := by decide +kernel
theorem d_F_init_96 : decode prog_2_method_1_code 96 = .ok (.aastore, 1) := by decide +kernel
theorem d_F_init_97 : decode prog_2_method_1_code 97 = .ok (.aload_n 0, 1) := by decide +kernel
theorem d_F_init_98 : decode prog_2_method_1_code 98 = .ok (.getfield 24, 3) := by decide +kernel
theorem d_F_init_101 : decode prog_2_method_1_code 101 = .ok (.iload_n 1, 1) := by decide +kernel
theorem d_F_init_102 : decode prog_2_method_1_code 102 = .ok (.new 18, 3) := by decide +kernel
theorem d_F_init_105 : decode prog_2_method_1_code 105 = .ok (.dup, 1) := by decide +kernel
theorem d_F_init_106 : decode prog_2_method_1_code 106 = .ok (.invokespecial 27, 3) := by decide +kernel
theorem d_F_init_109 : decode prog_2_method_1_code 109 = .ok (.aastore, 1) := by decide +kernel
theorem d_F_init_110 : decode prog_2_method_1_code 110 = .ok (.iinc 1 (1), 3) := by decide +kernel
theorem d_F_init_113 : decode prog_2_method_1_code 113 = .ok (.goto (-35), 3) := by decide +kernel
theorem d_F_init_116 : decode prog_2_method_1_code 116 = .ok (.return_, 1) := by decide +kernel
theorem d_C_init_0 : decode prog_1_method_1_code 0 = .ok (.aload_n 0, 1) := by decide +kernel
theorem d_C_init_1 : decode prog_1_method_1_code 1 = .ok (.invokespecial 3, 3) := by decide +kernel
theorem d_C_init_4 : decode prog_1_method_1_code 4 = .ok (.aload_n 0, 1) := by decide +kernel
theorem d_C_init_5 : decode prog_1_method_1_code 5 = .ok (.new 9, 3) := by decide +kernel
theorem d_C_init_8 : decode prog_1_method_1_code 8 = .ok (.dup, 1) := by decide +kernel
theorem d_C_init_9 : decode prog_1_method_1_code 9 = .ok (.sipush (700), 3) := by decide +kernel
theorem d_C_init_12 : decode prog_1_method_1_code 12 = .ok (.invokespecial 11, 3) := by decide +kernel
theorem d_C_init_15 : decode prog_1_method_1_code 15 = .ok (.putfield 14, 3) := by decide +kernel
theorem d_C_init_18 : decode prog_1_method_1_code 18 = .ok (.aload_n 0, 1) := by decide +kernel
theorem d_C_init_19 : decode prog_1_method_1_code 19 = .ok (.new 9, 3) := by decide +kernel
theorem d_C_init_22 : decode prog_1_method_1_code 22 = .ok (.dup, 1) := by decide +kernel
theorem d_C_init_23 : decode prog_1_method_1_code 23 = .ok (.sipush (1448), 3) := by decide +kernel
theorem d_C_init_26 : decode prog_1_method_1_code 26 = .ok (.invokespecial 11, 3) := by decide +kernel
theorem d_C_init_29 : decode prog_1_method_1_code 29 = .ok (.putfield 18, 3) := by decide +kernel
theorem d_C_init_32 : decode prog_1_method_1_code 32 = .ok (.aload_n 0, 1) := by decide +kernel
theorem d_C_init_33 : decode prog_1_method_1_code 33 = .ok (.new 21, 3) := by decide +kernel
theorem d_C_init_36 : decode prog_1_method_1_code 36 = .ok (.dup, 1) := by decide +kernel
theorem d_C_init_37 : decode prog_1_method_1_code 37 = .ok (.aload_n 0, 1) := by decide +kernel
theorem d_C_init_38 : decode prog_1_method_1_code 38 = .ok (.getfield 14, 3) := by decide +kernel
theorem d_C_init_41 : decode prog_1_method_1_code 41 = .ok (.invokespecial 23, 3) := by decide +kernel
theorem d_C_init_44 : decode prog_1_method_1_code 44 = .ok (.putfield 26, 3) := by decide +kernel
theorem d_C_init_47 : decode prog_1_method_1_code 47 = .ok (.aload_n 0, 1) := by decide +kernel
theorem d_C_init_48 : decode prog_1_method_1_code 48 = .ok (.new 30, 3) := by decide +kernel
theorem d_C_init_51 : decode prog_1_method_1_code 51 = .ok (.dup, 1) := by decide +kernel
theorem d_C_init_52 : decode prog_1_method_1_code 52 = .ok (.invokespecial 32, 3) := by decide +kernel
theorem d_C_init_55 : decode prog_1_method_1_code 55 = .ok (.putfield 33, 3) := by decide +kernel
theorem d_C_init_58 : decode prog_1_method_1_code 58 = .ok (.aload_n 0, 1) := by decide +kernel
theorem d_C_init_59 : decode prog_1_method_1_code 59 = .ok (.new 37, 3) := by decide +kernel
theorem d_C_init_62 : decode prog_1_method_1_code 62 = .ok (.dup, 1) := by decide +kernel
