theorem d_F_rewrite_23 : decode prog_2_method_11_code 23 = .ok (.iload 4, 2) := by decide +kernel
theorem d_F_rewrite_25 : decode prog_2_method_11_code 25 = .ok (.iload_n 3, 1) := by decide +kernel
theorem d_F_rewrite_26 : decode prog_2_method_11_code 26 = .ok (.iastore, 1) := by decide +kernel
theorem d_F_rewrite_27 : decode prog_2_method_11_code 27 = .ok (.aload_n 0, 1) := by decide +kernel
theorem d_F_rewrite_28 : decode prog_2_method_11_code 28 = .ok (.getfield 9, 3) := by decide +kernel
theorem d_F_rewrite_31 : decode prog_2_method_11_code 31 = .ok (.iload 4, 2) := by decide +kernel
theorem d_F_rewrite_33 : decode prog_2_method_11_code 33 = .ok (.baload, 1) := by decide +kernel
theorem d_F_rewrite_34 : decode prog_2_method_11_code 34 = .ok (.ifCond .eq (6), 3) := by decide +kernel
theorem d_F_rewrite_37 : decode prog_2_method_11_code 37 = .ok (.iinc 3 (1), 3) := by decide +kernel
theorem d_F_rewrite_40 : decode prog_2_method_11_code 40 = .ok (.iinc 4 (1), 3) := by decide +kernel
theorem d_F_rewrite_43 : decode prog_2_method_11_code 43 = .ok (.goto (-33), 3) := by decide +kernel
theorem d_F_rewrite_46 : decode prog_2_method_11_code 46 = .ok (.iconst (0), 1) := by decide +kernel
theorem d_F_rewrite_47 : decode prog_2_method_11_code 47 = .ok (.istore 4, 2) := by decide +kernel
theorem d_F_rewrite_49 : decode prog_2_method_11_code 49 = .ok (.iload 4, 2) := by decide +kernel
theorem d_F_rewrite_51 : decode prog_2_method_11_code 51 = .ok (.aload_n 1, 1) := by decide +kernel
theorem d_F_rewrite_52 : decode prog_2_method_11_code 52 = .ok (.getfield 54, 3) := by decide +kernel
theorem d_F_rewrite_55 : decode prog_2_method_11_code 55 = .ok (.if_icmp .ge (27), 3) := by decide +kernel
theorem d_F_rewrite_58 : decode prog_2_method_11_code 58 = .ok (.aload_n 0, 1) := by decide +kernel
theorem d_F_rewrite_59 : decode prog_2_method_11_code 59 = .ok (.getfield 9, 3) := by decide +kernel
theorem d_F_rewrite_62 : decode prog_2_method_11_code 62 = .ok (.iload 4, 2) := by decide +kernel
theorem d_F_rewrite_64 : decode prog_2_method_11_code 64 = .ok (.baload, 1) := by decide +kernel
theorem d_F_rewrite_65 : decode prog_2_method_11_code 65 = .ok (.ifCond .eq (11), 3) := by decide +kernel
theorem d_F_rewrite_68 : decode prog_2_method_11_code 68 = .ok (.aload_n 0, 1) := by decide +kernel
theorem d_F_rewrite_69 : decode prog_2_method_11_code 69 = .ok (.aload_n 1, 1) := by decide +kernel
theorem d_F_rewrite_70 : decode prog_2_method_11_code 70 = .ok (.iload 4, 2) := by decide +kernel
theorem d_F_rewrite_72 : decode prog_2_method_11_code 72 = .ok (.aload_n 2, 1) := by decide +kernel
theorem d_F_rewrite_73 : decode prog_2_method_11_code 73 = .ok (.invokevirtual 120, 3) := by decide +kernel
theorem d_F_rewrite_76 : decode prog_2_method_11_code 76 = .ok (.iinc 4 (1), 3) := by decide +kernel
theorem d_F_rewrite_79 : decode prog_2_method_11_code 79 = .ok (.goto (-30), 3) := by decide +kernel
theorem d_F_rewrite_82 : decode prog_2_method_11_code 82 = .ok (.return_, 1) := by decide +kernel
theorem d_F_find_0 : decode prog_2_method_3_code 0 = .ok (.iconst (0), 1) := by decide +kernel
theorem d_F_find_1 : decode prog_2_method_3_code 1 = .ok (.istore_n 2, 1) := by decide +kernel
theorem d_F_find_2 : decode prog_2_method_3_code 2 = .ok (.iload_n 2, 1) := by decide +kernel
theorem d_F_find_3 : decode prog_2_method_3_code 3 = .ok (.bipush (24), 2) := by decide +kernel
theorem d_F_find_5 : decode prog_2_method_3_code 5 = .ok (.if_icmp .ge (23), 3) := by decide +kernel
theorem d_F_find_8 : decode prog_2_method_3_code 8 = .ok (.aload_n 0, 1) := by decide +kernel
theorem d_F_find_9 : decode prog_2_method_3_code 9 = .ok (.getfield 9, 3) := by decide +kernel
theorem d_F_find_12 : decode prog_2_method_3_code 12 = .ok (.iload_n 2, 1) := by decide +kernel
theorem d_F_find_13 : decode prog_2_method_3_code 13 = .ok (.iconst (0), 1) := by decide +kernel
theorem d_F_find_14 : decode prog_2_method_3_code 14 = .ok (.bastore, 1) := by decide +kernel
theorem d_F_find_15 : decode prog_2_method_3_code 15 = .ok (.aload_n 0, 1) := by decide +kernel
theorem d_F_find_16 : decode prog_2_method_3_code 16 = .ok (.getfield 15, 3) := by decide +kernel
theorem d_F_find_19 : decode prog_2_method_3_code 19 = .ok (.iload_n 2, 1) := by decide +kernel
theorem d_F_find_20 : decode prog_2_method_3_code 20 = .ok (.iconst (0), 1) := by decide +kernel
theorem d_F_find_21 : decode prog_2_method_3_code 21 = .ok (.bastore, 1) := by decide +kernel
theorem d_F_find_22 : decode prog_2_method_3_code 22 = .ok (.iinc 2 (1), 3) := by decide +kernel
theorem d_F_find_25 : decode prog_2_method_3_code 25 = .ok (.goto (-23), 3) := by decide +kernel
theorem d_F_find_28 : decode prog_2_method_3_code 28 = .ok (.aload_n 0, 1) := by decide +kernel
theorem d_F_find_29 : decode prog_2_method_3_code 29 = .ok (.iconst (0), 1) := by decide +kernel
theorem d_F_find_30 : decode prog_2_method_3_code 30 = .ok (.aload_n 0, 1) := by decide +kernel
theorem d_F_find_31 : decode prog_2_method_3_code 31 = .ok (.getfield 28, 3) := by decide +kernel
theorem d_F_find_34 : decode prog_2_method_3_code 34 = .ok (.invokevirtual 42, 3) := by decide +kernel
theorem d_F_find_37 : decode prog_2_method_3_code 37 = .ok (.iconst (1), 1) := by decide +kernel
theorem d_F_find_38 : decode prog_2_method_3_code 38 = .ok (.istore_n 2, 1) := by decide +kernel
theorem d_F_find_39 : decode prog_2_method_3_code 39 = .ok (.iconst (0), 1) := by decide +kernel
theorem d_F_find_40 : decode prog_2_method_3_code 40 = .ok (.istore_n 3, 1) := by decide +kernel
theorem d_F_find_41 : decode prog_2_method_3_code 41 = .ok (.iload_n 2, 1) := by decide +kernel
theorem d_F_find_42 : decode prog_2_method_3_code 42 = .ok (.ifCond .eq (22), 3) := by decide +kernel
theorem d_F_find_45 : decode prog_2_method_3_code 45 = .ok (.iload_n 3, 1) := by decide +kernel
theorem d_F_find_46 : decode prog_2_method_3_code 46 = .ok (.sipush (217), 3) := by decide +kernel
theorem d_F_find_49 : decode prog_2_method_3_code 49 = .ok (.if_icmp .ge (15), 3) := by decide +kernel
theorem d_F_find_52 : decode prog_2_method_3_code 52 = .ok (.aload_n 0, 1) := by decide +kernel
theorem d_F_find_53 : decode prog_2_method_3_code 53 = .ok (.aload_n 1, 1) := by decide +kernel
theorem d_F_find_54 : decode prog_2_method_3_code 54 = .ok (.invokevirtual 46, 3) := by decide +kernel
theorem d_F_find_57 : decode prog_2_method_3_code 57 = .ok (.istore_n 2, 1) := by decide +kernel
theorem d_F_find_58 : decode prog_2_method_3_code 58 = .ok (.iinc 3 (1), 3) := by decide +kernel
theorem d_F_find_61 : decode prog_2_method_3_code 61 = .ok (.goto (-20), 3) := by decide +kernel
theorem d_F_find_64 : decode prog_2_method_3_code 64 = .ok (.aload_n 0, 1) := by decide +kernel
theorem d_F_find_65 : decode prog_2_method_3_code 65 = .ok (.aload_n 1, 1) := by decide +kernel
theorem d_F_find_66 : decode prog_2_method_3_code 66 = .ok (.invokevirtual 50, 3) := by decide +kernel
theorem d_F_find_69 : decode prog_2_method_3_code 69 = .ok (.return_, 1) := by decide +kernel
theorem d_C_write_0 : decode prog_1_method_11_code 0 = .ok (.aload_n 0, 1) := by decide +kernel
theorem d_C_write_1 : decode prog_1_method_11_code 1 = .ok (.getfield 33, 3) := by decide +kernel
theorem d_C_write_4 : decode prog_1_method_11_code 4 = .ok (.aload_n 0, 1) := by decide +kernel
theorem d_C_write_5 : decode prog_1_method_11_code 5 = .ok (.getfield 47, 3) := by decide +kernel
theorem d_C_write_8 : decode prog_1_method_11_code 8 = .ok (.aload_n 0, 1) := by decide +kernel
theorem d_C_write_9 : decode prog_1_method_11_code 9 = .ok (.getfield 18, 3) := by decide +kernel
theorem d_C_write_12 : decode prog_1_method_11_code 12 = .ok (.invokevirtual 126, 3) := by decide +kernel
theorem d_C_write_15 : decode prog_1_method_11_code 15 = .ok (.aload_n 0, 1) := by decide +kernel
theorem d_C_write_16 : decode prog_1_method_11_code 16 = .ok (.getfield 18, 3) := by decide +kernel
theorem d_C_write_19 : decode prog_1_method_11_code 19 = .ok (.getfield 65, 3) := by decide +kernel
theorem d_C_write_22 : decode prog_1_method_11_code 22 = .ok (.ireturn, 1) := by decide +kernel
theorem d_C_read_0 : decode prog_1_method_4_code 0 = .ok (.aload_n 0, 1) := by decide +kernel
theorem d_C_read_1 : decode prog_1_method_4_code 1 = .ok (.getfield 26, 3) := by decide +kernel
theorem d_C_read_4 : decode prog_1_method_4_code 4 = .ok (.aload_n 0, 1) := by decide +kernel
theorem d_C_read_5 : decode prog_1_method_4_code 5 = .ok (.getfield 51, 3) := by decide +kernel
theorem d_C_read_8 : decode prog_1_method_4_code 8 = .ok (.invokevirtual 72, 3) := by decide +kernel
theorem d_C_read_11 : decode prog_1_method_4_code 11 = .ok (.ifCond .ne (5), 3) := by decide +kernel
theorem d_C_read_14 : decode prog_1_method_4_code 14 = .ok (.iconst (-1), 1) := by decide +kernel
theorem d_C_read_15 : decode prog_1_method_4_code 15 = .ok (.ireturn, 1) := by decide +kernel
theorem d_C_read_16 : decode prog_1_method_4_code 16 = .ok (.aload_n 0, 1) := by decide +kernel
theorem d_C_read_17 : decode prog_1_method_4_code 17 = .ok (.getfield 47, 3) := by decide +kernel
theorem d_C_read_20 : decode prog_1_method_4_code 20 = .ok (.astore_n 1, 1) := by decide +kernel
theorem d_C_read_21 : decode prog_1_method_4_code 21 = .ok (.aload_n 0, 1) := by decide +kernel
theorem d_C_read_22 : decode prog_1_method_4_code 22 = .ok (.aload_n 0, 1) := by decide +kernel
theorem d_C_read_23 : decode prog_1_method_4_code 23 = .ok (.getfield 51, 3) := by decide +kernel
theorem d_C_read_26 : decode prog_1_method_4_code 26 = .ok (.putfield 47, 3) := by decide +kernel
theorem d_C_read_29 : decode prog_1_method_4_code 29 = .ok (.aload_n 0, 1) := by decide +kernel
theorem d_C_read_30 : decode prog_1_method_4_code 30 = .ok (.aload_n 1, 1) := by decide +kernel
theorem d_C_read_31 : decode prog_1_method_4_code 31 = .ok (.putfield 51, 3) := by decide +kernel
theorem d_C_read_34 : decode prog_1_method_4_code 34 = .ok (.aload_n 0, 1) := by decide +kernel
theorem d_C_read_35 : decode prog_1_method_4_code 35 = .ok (.getfield 33, 3) := by decide +kernel
theorem d_C_read_38 : decode prog_1_method_4_code 38 = .ok (.aload_n 0, 1) := by decide +kernel
theorem d_C_read_39 : decode prog_1_method_4_code 39 = .ok (.getfield 47, 3) := by decide +kernel
theorem d_C_read_42 : decode prog_1_method_4_code 42 = .ok (.invokevirtual 54, 3) := by decide +kernel
theorem d_C_read_45 : decode prog_1_method_4_code 45 = .ok (.aload_n 0, 1) := by decide +kernel
theorem d_C_read_46 : decode prog_1_method_4_code 46 = .ok (.getfield 47, 3) := by decide +kernel
theorem d_C_read_49 : decode prog_1_method_4_code 49 = .ok (.getfield 76, 3) := by decide +kernel
theorem d_C_read_52 : decode prog_1_method_4_code 52 = .ok (.ireturn, 1) := by decide +kernel
