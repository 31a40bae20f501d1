theorem d_C_feed_0 : decode prog_1_method_2_code 0 = .ok (.iload_n 1, 1) := by decide +kernel
theorem d_C_feed_1 : decode prog_1_method_2_code 1 = .ok (.iconst (1), 1) := by decide +kernel
theorem d_C_feed_2 : decode prog_1_method_2_code 2 = .ok (.if_icmp .lt (9), 3) := by decide +kernel
theorem d_C_feed_5 : decode prog_1_method_2_code 5 = .ok (.iload_n 1, 1) := by decide +kernel
theorem d_C_feed_6 : decode prog_1_method_2_code 6 = .ok (.bipush (8), 2) := by decide +kernel
theorem d_C_feed_8 : decode prog_1_method_2_code 8 = .ok (.if_icmp .le (13), 3) := by decide +kernel
theorem d_C_feed_11 : decode prog_1_method_2_code 11 = .ok (.new 58, 3) := by decide +kernel
theorem d_C_feed_14 : decode prog_1_method_2_code 14 = .ok (.dup, 1) := by decide +kernel
theorem d_C_feed_15 : decode prog_1_method_2_code 15 = .ok (.ldc 60, 2) := by decide +kernel
theorem d_C_feed_17 : decode prog_1_method_2_code 17 = .ok (.invokespecial 62, 3) := by decide +kernel
theorem d_C_feed_20 : decode prog_1_method_2_code 20 = .ok (.athrow, 1) := by decide +kernel
theorem d_C_feed_21 : decode prog_1_method_2_code 21 = .ok (.aload_n 0, 1) := by decide +kernel
theorem d_C_feed_22 : decode prog_1_method_2_code 22 = .ok (.getfield 14, 3) := by decide +kernel
theorem d_C_feed_25 : decode prog_1_method_2_code 25 = .ok (.getfield 65, 3) := by decide +kernel
theorem d_C_feed_28 : decode prog_1_method_2_code 28 = .ok (.iload_n 1, 1) := by decide +kernel
theorem d_C_feed_29 : decode prog_1_method_2_code 29 = .ok (.iadd, 1) := by decide +kernel
theorem d_C_feed_30 : decode prog_1_method_2_code 30 = .ok (.sipush (700), 3) := by decide +kernel
theorem d_C_feed_33 : decode prog_1_method_2_code 33 = .ok (.if_icmp .le (5), 3) := by decide +kernel
theorem d_C_feed_36 : decode prog_1_method_2_code 36 = .ok (.iconst (-1), 1) := by decide +kernel
theorem d_C_feed_37 : decode prog_1_method_2_code 37 = .ok (.ireturn, 1) := by decide +kernel
theorem d_C_feed_38 : decode prog_1_method_2_code 38 = .ok (.iconst (0), 1) := by decide +kernel
theorem d_C_feed_39 : decode prog_1_method_2_code 39 = .ok (.istore 4, 2) := by decide +kernel
theorem d_C_feed_41 : decode prog_1_method_2_code 41 = .ok (.iload 4, 2) := by decide +kernel
theorem d_C_feed_43 : decode prog_1_method_2_code 43 = .ok (.iload_n 1, 1) := by decide +kernel
theorem d_C_feed_44 : decode prog_1_method_2_code 44 = .ok (.if_icmp .ge (24), 3) := by decide +kernel
theorem d_C_feed_47 : decode prog_1_method_2_code 47 = .ok (.aload_n 0, 1) := by decide +kernel
theorem d_C_feed_48 : decode prog_1_method_2_code 48 = .ok (.getfield 14, 3) := by decide +kernel
theorem d_C_feed_51 : decode prog_1_method_2_code 51 = .ok (.lload_n 2, 1) := by decide +kernel
theorem d_C_feed_52 : decode prog_1_method_2_code 52 = .ok (.bipush (8), 2) := by decide +kernel
theorem d_C_feed_54 : decode prog_1_method_2_code 54 = .ok (.iload 4, 2) := by decide +kernel
theorem d_C_feed_56 : decode prog_1_method_2_code 56 = .ok (.imul, 1) := by decide +kernel
theorem d_C_feed_57 : decode prog_1_method_2_code 57 = .ok (.lushr, 1) := by decide +kernel
theorem d_C_feed_58 : decode prog_1_method_2_code 58 = .ok (.l2i, 1) := by decide +kernel
theorem d_C_feed_59 : decode prog_1_method_2_code 59 = .ok (.invokevirtual 69, 3) := by decide +kernel
theorem d_C_feed_62 : decode prog_1_method_2_code 62 = .ok (.iinc 4 (1), 3) := by decide +kernel
theorem d_C_feed_65 : decode prog_1_method_2_code 65 = .ok (.goto (-24), 3) := by decide +kernel
theorem d_C_feed_68 : decode prog_1_method_2_code 68 = .ok (.aload_n 0, 1) := by decide +kernel
theorem d_C_feed_69 : decode prog_1_method_2_code 69 = .ok (.getfield 14, 3) := by decide +kernel
theorem d_C_feed_72 : decode prog_1_method_2_code 72 = .ok (.getfield 65, 3) := by decide +kernel
theorem d_C_feed_75 : decode prog_1_method_2_code 75 = .ok (.ireturn, 1) := by decide +kernel
theorem d_C_comes_0 : decode prog_1_method_7_code 0 = .ok (.aload_n 0, 1) := by decide +kernel
theorem d_C_comes_1 : decode prog_1_method_7_code 1 = .ok (.iload_n 1, 1) := by decide +kernel
theorem d_C_comes_2 : decode prog_1_method_7_code 2 = .ok (.invokevirtual 85, 3) := by decide +kernel
theorem d_C_comes_5 : decode prog_1_method_7_code 5 = .ok (.ifCond .ne (13), 3) := by decide +kernel
theorem d_C_comes_8 : decode prog_1_method_7_code 8 = .ok (.new 89, 3) := by decide +kernel
theorem d_C_comes_11 : decode prog_1_method_7_code 11 = .ok (.dup, 1) := by decide +kernel
theorem d_C_comes_12 : decode prog_1_method_7_code 12 = .ok (.ldc 91, 2) := by decide +kernel
theorem d_C_comes_14 : decode prog_1_method_7_code 14 = .ok (.invokespecial 93, 3) := by decide +kernel
theorem d_C_comes_17 : decode prog_1_method_7_code 17 = .ok (.athrow, 1) := by decide +kernel
theorem d_C_comes_18 : decode prog_1_method_7_code 18 = .ok (.aload_n 0, 1) := by decide +kernel
theorem d_C_comes_19 : decode prog_1_method_7_code 19 = .ok (.getfield 33, 3) := by decide +kernel
theorem d_C_comes_22 : decode prog_1_method_7_code 22 = .ok (.getfield 94, 3) := by decide +kernel
theorem d_C_comes_25 : decode prog_1_method_7_code 25 = .ok (.iload_n 1, 1) := by decide +kernel
theorem d_C_comes_26 : decode prog_1_method_7_code 26 = .ok (.baload, 1) := by decide +kernel
theorem d_C_comes_27 : decode prog_1_method_7_code 27 = .ok (.ireturn, 1) := by decide +kernel
theorem d_C_known_0 : decode prog_1_method_8_code 0 = .ok (.aload_n 0, 1) := by decide +kernel
theorem d_C_known_1 : decode prog_1_method_8_code 1 = .ok (.iload_n 1, 1) := by decide +kernel
theorem d_C_known_2 : decode prog_1_method_8_code 2 = .ok (.invokevirtual 85, 3) := by decide +kernel
theorem d_C_known_5 : decode prog_1_method_8_code 5 = .ok (.ifCond .eq (10), 3) := by decide +kernel
theorem d_C_known_8 : decode prog_1_method_8_code 8 = .ok (.iload_n 2, 1) := by decide +kernel
theorem d_C_known_9 : decode prog_1_method_8_code 9 = .ok (.invokestatic 98, 3) := by decide +kernel
theorem d_C_known_12 : decode prog_1_method_8_code 12 = .ok (.ifCond .ne (13), 3) := by decide +kernel
theorem d_C_known_15 : decode prog_1_method_8_code 15 = .ok (.new 89, 3) := by decide +kernel
theorem d_C_known_18 : decode prog_1_method_8_code 18 = .ok (.dup, 1) := by decide +kernel
theorem d_C_known_19 : decode prog_1_method_8_code 19 = .ok (.ldc 101, 2) := by decide +kernel
theorem d_C_known_21 : decode prog_1_method_8_code 21 = .ok (.invokespecial 93, 3) := by decide +kernel
theorem d_C_known_24 : decode prog_1_method_8_code 24 = .ok (.athrow, 1) := by decide +kernel
theorem d_C_known_25 : decode prog_1_method_8_code 25 = .ok (.aload_n 0, 1) := by decide +kernel
theorem d_C_known_26 : decode prog_1_method_8_code 26 = .ok (.getfield 33, 3) := by decide +kernel
theorem d_C_known_29 : decode prog_1_method_8_code 29 = .ok (.getfield 94, 3) := by decide +kernel
theorem d_C_known_32 : decode prog_1_method_8_code 32 = .ok (.iload_n 1, 1) := by decide +kernel
theorem d_C_known_33 : decode prog_1_method_8_code 33 = .ok (.baload, 1) := by decide +kernel
theorem d_C_known_34 : decode prog_1_method_8_code 34 = .ok (.ifCond .ne (5), 3) := by decide +kernel
theorem d_C_known_37 : decode prog_1_method_8_code 37 = .ok (.iconst (0), 1) := by decide +kernel
theorem d_C_known_38 : decode prog_1_method_8_code 38 = .ok (.ireturn, 1) := by decide +kernel
theorem d_C_known_39 : decode prog_1_method_8_code 39 = .ok (.aload_n 0, 1) := by decide +kernel
theorem d_C_known_40 : decode prog_1_method_8_code 40 = .ok (.getfield 33, 3) := by decide +kernel
theorem d_C_known_43 : decode prog_1_method_8_code 43 = .ok (.iload_n 1, 1) := by decide +kernel
theorem d_C_known_44 : decode prog_1_method_8_code 44 = .ok (.iload_n 3, 1) := by decide +kernel
theorem d_C_known_45 : decode prog_1_method_8_code 45 = .ok (.invokevirtual 103, 3) := by decide +kernel
theorem d_C_known_48 : decode prog_1_method_8_code 48 = .ok (.getfield 107, 3) := by decide +kernel
theorem d_C_known_51 : decode prog_1_method_8_code 51 = .ok (.iload_n 2, 1) := by decide +kernel
theorem d_C_known_52 : decode prog_1_method_8_code 52 = .ok (.baload, 1) := by decide +kernel
theorem d_C_known_53 : decode prog_1_method_8_code 53 = .ok (.ifCond .eq (7), 3) := by decide +kernel
theorem d_C_known_56 : decode prog_1_method_8_code 56 = .ok (.iconst (2), 1) := by decide +kernel
theorem d_C_known_57 : decode prog_1_method_8_code 57 = .ok (.goto (4), 3) := by decide +kernel
theorem d_C_known_60 : decode prog_1_method_8_code 60 = .ok (.iconst (1), 1) := by decide +kernel
theorem d_C_known_61 : decode prog_1_method_8_code 61 = .ok (.ireturn, 1) := by decide +kernel
theorem d_C_number_0 : decode prog_1_method_9_code 0 = .ok (.aload_n 0, 1) := by decide +kernel
theorem d_C_number_1 : decode prog_1_method_9_code 1 = .ok (.iload_n 1, 1) := by decide +kernel
theorem d_C_number_2 : decode prog_1_method_9_code 2 = .ok (.invokevirtual 85, 3) := by decide +kernel
theorem d_C_number_5 : decode prog_1_method_9_code 5 = .ok (.ifCond .eq (10), 3) := by decide +kernel
theorem d_C_number_8 : decode prog_1_method_9_code 8 = .ok (.iload_n 2, 1) := by decide +kernel
theorem d_C_number_9 : decode prog_1_method_9_code 9 = .ok (.invokestatic 98, 3) := by decide +kernel
theorem d_C_number_12 : decode prog_1_method_9_code 12 = .ok (.ifCond .ne (13), 3) := by decide +kernel
theorem d_C_number_15 : decode prog_1_method_9_code 15 = .ok (.new 89, 3) := by decide +kernel
theorem d_C_number_18 : decode prog_1_method_9_code 18 = .ok (.dup, 1) := by decide +kernel
theorem d_C_number_19 : decode prog_1_method_9_code 19 = .ok (.ldc 101, 2) := by decide +kernel
theorem d_C_number_21 : decode prog_1_method_9_code 21 = .ok (.invokespecial 93, 3) := by decide +kernel
theorem d_C_number_24 : decode prog_1_method_9_code 24 = .ok (.athrow, 1) := by decide +kernel
theorem d_C_number_25 : decode prog_1_method_9_code 25 = .ok (.aload_n 0, 1) := by decide +kernel
theorem d_C_number_26 : decode prog_1_method_9_code 26 = .ok (.getfield 33, 3) := by decide +kernel
theorem d_C_number_29 : decode prog_1_method_9_code 29 = .ok (.getfield 94, 3) := by decide +kernel
theorem d_C_number_32 : decode prog_1_method_9_code 32 = .ok (.iload_n 1, 1) := by decide +kernel
theorem d_C_number_33 : decode prog_1_method_9_code 33 = .ok (.baload, 1) := by decide +kernel
theorem d_C_number_34 : decode prog_1_method_9_code 34 = .ok (.ifCond .eq (20), 3) := by decide +kernel
theorem d_C_number_37 : decode prog_1_method_9_code 37 = .ok (.aload_n 0, 1) := by decide +kernel
theorem d_C_number_38 : decode prog_1_method_9_code 38 = .ok (.getfield 33, 3) := by decide +kernel
theorem d_C_number_41 : decode prog_1_method_9_code 41 = .ok (.iload_n 1, 1) := by decide +kernel
theorem d_C_number_42 : decode prog_1_method_9_code 42 = .ok (.iload_n 3, 1) := by decide +kernel
theorem d_C_number_43 : decode prog_1_method_9_code 43 = .ok (.invokevirtual 103, 3) := by decide +kernel
theorem d_C_number_46 : decode prog_1_method_9_code 46 = .ok (.getfield 107, 3) := by decide +kernel
theorem d_C_number_49 : decode prog_1_method_9_code 49 = .ok (.iload_n 2, 1) := by decide +kernel
theorem d_C_number_50 : decode prog_1_method_9_code 50 = .ok (.baload, 1) := by decide +kernel
theorem d_C_number_51 : decode prog_1_method_9_code 51 = .ok (.ifCond .eq (13), 3) := by decide +kernel
theorem d_C_number_54 : decode prog_1_method_9_code 54 = .ok (.new 112, 3) := by decide +kernel
theorem d_C_number_57 : decode prog_1_method_9_code 57 = .ok (.dup, 1) := by decide +kernel
theorem d_C_number_58 : decode prog_1_method_9_code 58 = .ok (.ldc 114, 2) := by decide +kernel
theorem d_C_number_60 : decode prog_1_method_9_code 60 = .ok (.invokespecial 116, 3) := by decide +kernel
theorem d_C_number_63 : decode prog_1_method_9_code 63 = .ok (.athrow, 1) := by decide +kernel
theorem d_C_number_64 : decode prog_1_method_9_code 64 = .ok (.aload_n 0, 1) := by decide +kernel
theorem d_C_number_65 : decode prog_1_method_9_code 65 = .ok (.getfield 33, 3) := by decide +kernel
theorem d_C_number_68 : decode prog_1_method_9_code 68 = .ok (.iload_n 1, 1) := by decide +kernel
theorem d_C_number_69 : decode prog_1_method_9_code 69 = .ok (.iload_n 3, 1) := by decide +kernel
theorem d_C_number_70 : decode prog_1_method_9_code 70 = .ok (.invokevirtual 103, 3) := by decide +kernel
theorem d_C_number_73 : decode prog_1_method_9_code 73 = .ok (.getfield 117, 3) := by decide +kernel
theorem d_C_number_76 : decode prog_1_method_9_code 76 = .ok (.iload_n 2, 1) := by decide +kernel
theorem d_C_number_77 : decode prog_1_method_9_code 77 = .ok (.iaload, 1) := by decide +kernel
theorem d_C_number_78 : decode prog_1_method_9_code 78 = .ok (.ireturn, 1) := by decide +kernel
theorem d_C_told_0 : decode prog_1_method_10_code 0 = .ok (.iload_n 1, 1) := by decide +kernel
theorem d_C_told_1 : decode prog_1_method_10_code 1 = .ok (.ifCond .lt (9), 3) := by decide +kernel
theorem d_C_told_4 : decode prog_1_method_10_code 4 = .ok (.iload_n 1, 1) := by decide +kernel
theorem d_C_told_5 : decode prog_1_method_10_code 5 = .ok (.bipush (7), 2) := by decide +kernel
theorem d_C_told_7 : decode prog_1_method_10_code 7 = .ok (.if_icmp .lt (13), 3) := by decide +kernel
theorem d_C_told_10 : decode prog_1_method_10_code 10 = .ok (.new 58, 3) := by decide +kernel
theorem d_C_told_13 : decode prog_1_method_10_code 13 = .ok (.dup, 1) := by decide +kernel
theorem d_C_told_14 : decode prog_1_method_10_code 14 = .ok (.ldc 121, 2) := by decide +kernel
theorem d_C_told_16 : decode prog_1_method_10_code 16 = .ok (.invokespecial 62, 3) := by decide +kernel
theorem d_C_told_19 : decode prog_1_method_10_code 19 = .ok (.athrow, 1) := by decide +kernel
theorem d_C_told_20 : decode prog_1_method_10_code 20 = .ok (.aload_n 0, 1) := by decide +kernel
theorem d_C_told_21 : decode prog_1_method_10_code 21 = .ok (.getfield 33, 3) := by decide +kernel
theorem d_C_told_24 : decode prog_1_method_10_code 24 = .ok (.getfield 123, 3) := by decide +kernel
theorem d_C_told_27 : decode prog_1_method_10_code 27 = .ok (.iload_n 1, 1) := by decide +kernel
theorem d_C_told_28 : decode prog_1_method_10_code 28 = .ok (.iaload, 1) := by decide +kernel
theorem d_C_told_29 : decode prog_1_method_10_code 29 = .ok (.ireturn, 1) := by decide +kernel
theorem d_C_run_0 : decode prog_1_method_16_code 0 = .ok (.iload_n 1, 1) := by decide +kernel
theorem d_C_run_1 : decode prog_1_method_16_code 1 = .ok (.ifCond .lt (10), 3) := by decide +kernel
theorem d_C_run_4 : decode prog_1_method_16_code 4 = .ok (.iload_n 1, 1) := by decide +kernel
theorem d_C_run_5 : decode prog_1_method_16_code 5 = .ok (.sipush (20000), 3) := by decide +kernel
theorem d_C_run_8 : decode prog_1_method_16_code 8 = .ok (.if_icmp .le (13), 3) := by decide +kernel
theorem d_C_run_11 : decode prog_1_method_16_code 11 = .ok (.new 58, 3) := by decide +kernel
theorem d_C_run_14 : decode prog_1_method_16_code 14 = .ok (.dup, 1) := by decide +kernel
theorem d_C_run_15 : decode prog_1_method_16_code 15 = .ok (.ldc 140, 2) := by decide +kernel
theorem d_C_run_17 : decode prog_1_method_16_code 17 = .ok (.invokespecial 62, 3) := by decide +kernel
theorem d_C_run_20 : decode prog_1_method_16_code 20 = .ok (.athrow, 1) := by decide +kernel
theorem d_C_run_21 : decode prog_1_method_16_code 21 = .ok (.aload_n 0, 1) := by decide +kernel
theorem d_C_run_22 : decode prog_1_method_16_code 22 = .ok (.getfield 40, 3) := by decide +kernel
theorem d_C_run_25 : decode prog_1_method_16_code 25 = .ok (.aload_n 0, 1) := by decide +kernel
theorem d_C_run_26 : decode prog_1_method_16_code 26 = .ok (.getfield 47, 3) := by decide +kernel
theorem d_C_run_29 : decode prog_1_method_16_code 29 = .ok (.iload_n 1, 1) := by decide +kernel
theorem d_C_run_30 : decode prog_1_method_16_code 30 = .ok (.invokevirtual 142, 3) := by decide +kernel
theorem d_C_run_33 : decode prog_1_method_16_code 33 = .ok (.ireturn, 1) := by decide +kernel
theorem d_C_value_0 : decode prog_1_method_17_code 0 = .ok (.iload_n 1, 1) := by decide +kernel
theorem d_C_value_1 : decode prog_1_method_17_code 1 = .ok (.invokestatic 98, 3) := by decide +kernel
theorem d_C_value_4 : decode prog_1_method_17_code 4 = .ok (.ifCond .ne (13), 3) := by decide +kernel
theorem d_C_value_7 : decode prog_1_method_17_code 7 = .ok (.new 89, 3) := by decide +kernel
theorem d_C_value_10 : decode prog_1_method_17_code 10 = .ok (.dup, 1) := by decide +kernel
theorem d_C_value_11 : decode prog_1_method_17_code 11 = .ok (.ldc 146, 2) := by decide +kernel
theorem d_C_value_13 : decode prog_1_method_17_code 13 = .ok (.invokespecial 93, 3) := by decide +kernel
theorem d_C_value_16 : decode prog_1_method_17_code 16 = .ok (.athrow, 1) := by decide +kernel
theorem d_C_value_17 : decode prog_1_method_17_code 17 = .ok (.aload_n 0, 1) := by decide +kernel
theorem d_C_value_18 : decode prog_1_method_17_code 18 = .ok (.getfield 40, 3) := by decide +kernel
theorem d_C_value_21 : decode prog_1_method_17_code 21 = .ok (.getfield 148, 3) := by decide +kernel
theorem d_C_value_24 : decode prog_1_method_17_code 24 = .ok (.iload_n 1, 1) := by decide +kernel
theorem d_C_value_25 : decode prog_1_method_17_code 25 = .ok (.iaload, 1) := by decide +kernel
theorem d_C_value_26 : decode prog_1_method_17_code 26 = .ok (.ireturn, 1) := by decide +kernel
