theorem d_M_write_73 : decode prog_9_method_45_code 73 = .ok (.aload_n 0, 1) := by decide +kernel
theorem d_M_write_74 : decode prog_9_method_45_code 74 = .ok (.iload_n 1, 1) := by decide +kernel
theorem d_M_write_75 : decode prog_9_method_45_code 75 = .ok (.invokevirtual 222, 3) := by decide +kernel
theorem d_M_write_78 : decode prog_9_method_45_code 78 = .ok (.iinc 1 (1), 3) := by decide +kernel
theorem d_M_write_81 : decode prog_9_method_45_code 81 = .ok (.goto (-65), 3) := by decide +kernel
theorem d_M_write_84 : decode prog_9_method_45_code 84 = .ok (.aload_n 0, 1) := by decide +kernel
theorem d_M_write_85 : decode prog_9_method_45_code 85 = .ok (.getfield 201, 3) := by decide +kernel
theorem d_M_write_88 : decode prog_9_method_45_code 88 = .ok (.ireturn, 1) := by decide +kernel
theorem d_F_rewriteBlock_0 : decode prog_2_method_12_code 0 = .ok (.aload_n 0, 1) := by decide +kernel
theorem d_F_rewriteBlock_1 : decode prog_2_method_12_code 1 = .ok (.getfield 32, 3) := by decide +kernel
theorem d_F_rewriteBlock_4 : decode prog_2_method_12_code 4 = .ok (.aload_n 0, 1) := by decide +kernel
theorem d_F_rewriteBlock_5 : decode prog_2_method_12_code 5 = .ok (.getfield 20, 3) := by decide +kernel
theorem d_F_rewriteBlock_8 : decode prog_2_method_12_code 8 = .ok (.iload_n 2, 1) := by decide +kernel
theorem d_F_rewriteBlock_9 : decode prog_2_method_12_code 9 = .ok (.aaload, 1) := by decide +kernel
theorem d_F_rewriteBlock_10 : decode prog_2_method_12_code 10 = .ok (.invokevirtual 64, 3) := by decide +kernel
theorem d_F_rewriteBlock_13 : decode prog_2_method_12_code 13 = .ok (.aload_n 1, 1) := by decide +kernel
theorem d_F_rewriteBlock_14 : decode prog_2_method_12_code 14 = .ok (.getfield 68, 3) := by decide +kernel
theorem d_F_rewriteBlock_17 : decode prog_2_method_12_code 17 = .ok (.iload_n 2, 1) := by decide +kernel
theorem d_F_rewriteBlock_18 : decode prog_2_method_12_code 18 = .ok (.iaload, 1) := by decide +kernel
theorem d_F_rewriteBlock_19 : decode prog_2_method_12_code 19 = .ok (.istore 4, 2) := by decide +kernel
theorem d_F_rewriteBlock_21 : decode prog_2_method_12_code 21 = .ok (.iload 4, 2) := by decide +kernel
theorem d_F_rewriteBlock_23 : decode prog_2_method_12_code 23 = .ok (.aload_n 1, 1) := by decide +kernel
theorem d_F_rewriteBlock_24 : decode prog_2_method_12_code 24 = .ok (.getfield 68, 3) := by decide +kernel
theorem d_F_rewriteBlock_27 : decode prog_2_method_12_code 27 = .ok (.iload_n 2, 1) := by decide +kernel
theorem d_F_rewriteBlock_28 : decode prog_2_method_12_code 28 = .ok (.iconst (1), 1) := by decide +kernel
theorem d_F_rewriteBlock_29 : decode prog_2_method_12_code 29 = .ok (.iadd, 1) := by decide +kernel
theorem d_F_rewriteBlock_30 : decode prog_2_method_12_code 30 = .ok (.iaload, 1) := by decide +kernel
theorem d_F_rewriteBlock_31 : decode prog_2_method_12_code 31 = .ok (.if_icmp .ge (53), 3) := by decide +kernel
theorem d_F_rewriteBlock_34 : decode prog_2_method_12_code 34 = .ok (.aload_n 3, 1) := by decide +kernel
theorem d_F_rewriteBlock_35 : decode prog_2_method_12_code 35 = .ok (.bipush (97), 2) := by decide +kernel
theorem d_F_rewriteBlock_37 : decode prog_2_method_12_code 37 = .ok (.aload_n 1, 1) := by decide +kernel
theorem d_F_rewriteBlock_38 : decode prog_2_method_12_code 38 = .ok (.getfield 124, 3) := by decide +kernel
theorem d_F_rewriteBlock_41 : decode prog_2_method_12_code 41 = .ok (.iload 4, 2) := by decide +kernel
theorem d_F_rewriteBlock_43 : decode prog_2_method_12_code 43 = .ok (.iaload, 1) := by decide +kernel
theorem d_F_rewriteBlock_44 : decode prog_2_method_12_code 44 = .ok (.iadd, 1) := by decide +kernel
theorem d_F_rewriteBlock_45 : decode prog_2_method_12_code 45 = .ok (.invokevirtual 127, 3) := by decide +kernel
theorem d_F_rewriteBlock_48 : decode prog_2_method_12_code 48 = .ok (.aload_n 3, 1) := by decide +kernel
theorem d_F_rewriteBlock_49 : decode prog_2_method_12_code 49 = .ok (.bipush (61), 2) := by decide +kernel
theorem d_F_rewriteBlock_51 : decode prog_2_method_12_code 51 = .ok (.invokevirtual 127, 3) := by decide +kernel
theorem d_F_rewriteBlock_54 : decode prog_2_method_12_code 54 = .ok (.aload_n 0, 1) := by decide +kernel
theorem d_F_rewriteBlock_55 : decode prog_2_method_12_code 55 = .ok (.aload_n 1, 1) := by decide +kernel
theorem d_F_rewriteBlock_56 : decode prog_2_method_12_code 56 = .ok (.iload 4, 2) := by decide +kernel
theorem d_F_rewriteBlock_58 : decode prog_2_method_12_code 58 = .ok (.aload_n 3, 1) := by decide +kernel
theorem d_F_rewriteBlock_59 : decode prog_2_method_12_code 59 = .ok (.invokevirtual 131, 3) := by decide +kernel
theorem d_F_rewriteBlock_62 : decode prog_2_method_12_code 62 = .ok (.aload_n 3, 1) := by decide +kernel
theorem d_F_rewriteBlock_63 : decode prog_2_method_12_code 63 = .ok (.bipush (59), 2) := by decide +kernel
theorem d_F_rewriteBlock_65 : decode prog_2_method_12_code 65 = .ok (.invokevirtual 127, 3) := by decide +kernel
theorem d_F_rewriteBlock_68 : decode prog_2_method_12_code 68 = .ok (.aload_n 0, 1) := by decide +kernel
theorem d_F_rewriteBlock_69 : decode prog_2_method_12_code 69 = .ok (.getfield 32, 3) := by decide +kernel
theorem d_F_rewriteBlock_72 : decode prog_2_method_12_code 72 = .ok (.aload_n 1, 1) := by decide +kernel
theorem d_F_rewriteBlock_73 : decode prog_2_method_12_code 73 = .ok (.iload 4, 2) := by decide +kernel
theorem d_F_rewriteBlock_75 : decode prog_2_method_12_code 75 = .ok (.invokevirtual 71, 3) := by decide +kernel
theorem d_F_rewriteBlock_78 : decode prog_2_method_12_code 78 = .ok (.iinc 4 (1), 3) := by decide +kernel
theorem d_F_rewriteBlock_81 : decode prog_2_method_12_code 81 = .ok (.goto (-60), 3) := by decide +kernel
theorem d_F_rewriteBlock_84 : decode prog_2_method_12_code 84 = .ok (.aload_n 0, 1) := by decide +kernel
theorem d_F_rewriteBlock_85 : decode prog_2_method_12_code 85 = .ok (.aload_n 1, 1) := by decide +kernel
theorem d_F_rewriteBlock_86 : decode prog_2_method_12_code 86 = .ok (.iload_n 2, 1) := by decide +kernel
theorem d_F_rewriteBlock_87 : decode prog_2_method_12_code 87 = .ok (.aload_n 3, 1) := by decide +kernel
theorem d_F_rewriteBlock_88 : decode prog_2_method_12_code 88 = .ok (.invokevirtual 134, 3) := by decide +kernel
theorem d_F_rewriteBlock_91 : decode prog_2_method_12_code 91 = .ok (.return_, 1) := by decide +kernel
theorem d_F_flowOnce_0 : decode prog_2_method_4_code 0 = .ok (.iconst (0), 1) := by decide +kernel
theorem d_F_flowOnce_1 : decode prog_2_method_4_code 1 = .ok (.istore_n 2, 1) := by decide +kernel
theorem d_F_flowOnce_2 : decode prog_2_method_4_code 2 = .ok (.iconst (0), 1) := by decide +kernel
theorem d_F_flowOnce_3 : decode prog_2_method_4_code 3 = .ok (.istore_n 3, 1) := by decide +kernel
theorem d_F_flowOnce_4 : decode prog_2_method_4_code 4 = .ok (.iload_n 3, 1) := by decide +kernel
theorem d_F_flowOnce_5 : decode prog_2_method_4_code 5 = .ok (.aload_n 1, 1) := by decide +kernel
theorem d_F_flowOnce_6 : decode prog_2_method_4_code 6 = .ok (.getfield 54, 3) := by decide +kernel
theorem d_F_flowOnce_9 : decode prog_2_method_4_code 9 = .ok (.if_icmp .ge (33), 3) := by decide +kernel
theorem d_F_flowOnce_12 : decode prog_2_method_4_code 12 = .ok (.aload_n 0, 1) := by decide +kernel
theorem d_F_flowOnce_13 : decode prog_2_method_4_code 13 = .ok (.getfield 15, 3) := by decide +kernel
theorem d_F_flowOnce_16 : decode prog_2_method_4_code 16 = .ok (.iload_n 3, 1) := by decide +kernel
theorem d_F_flowOnce_17 : decode prog_2_method_4_code 17 = .ok (.baload, 1) := by decide +kernel
theorem d_F_flowOnce_18 : decode prog_2_method_4_code 18 = .ok (.ifCond .eq (18), 3) := by decide +kernel
theorem d_F_flowOnce_21 : decode prog_2_method_4_code 21 = .ok (.aload_n 0, 1) := by decide +kernel
theorem d_F_flowOnce_22 : decode prog_2_method_4_code 22 = .ok (.getfield 15, 3) := by decide +kernel
theorem d_F_flowOnce_25 : decode prog_2_method_4_code 25 = .ok (.iload_n 3, 1) := by decide +kernel
theorem d_F_flowOnce_26 : decode prog_2_method_4_code 26 = .ok (.iconst (0), 1) := by decide +kernel
theorem d_F_flowOnce_27 : decode prog_2_method_4_code 27 = .ok (.bastore, 1) := by decide +kernel
theorem d_F_flowOnce_28 : decode prog_2_method_4_code 28 = .ok (.aload_n 0, 1) := by decide +kernel
theorem d_F_flowOnce_29 : decode prog_2_method_4_code 29 = .ok (.aload_n 1, 1) := by decide +kernel
theorem d_F_flowOnce_30 : decode prog_2_method_4_code 30 = .ok (.iload_n 3, 1) := by decide +kernel
theorem d_F_flowOnce_31 : decode prog_2_method_4_code 31 = .ok (.invokevirtual 60, 3) := by decide +kernel
theorem d_F_flowOnce_34 : decode prog_2_method_4_code 34 = .ok (.iconst (1), 1) := by decide +kernel
theorem d_F_flowOnce_35 : decode prog_2_method_4_code 35 = .ok (.istore_n 2, 1) := by decide +kernel
theorem d_F_flowOnce_36 : decode prog_2_method_4_code 36 = .ok (.iinc 3 (1), 3) := by decide +kernel
theorem d_F_flowOnce_39 : decode prog_2_method_4_code 39 = .ok (.goto (-35), 3) := by decide +kernel
theorem d_F_flowOnce_42 : decode prog_2_method_4_code 42 = .ok (.iload_n 2, 1) := by decide +kernel
theorem d_F_flowOnce_43 : decode prog_2_method_4_code 43 = .ok (.ireturn, 1) := by decide +kernel
theorem d_R_fill_0 : decode prog_5_method_2_code 0 = .ok (.aload_n 0, 1) := by decide +kernel
theorem d_R_fill_1 : decode prog_5_method_2_code 1 = .ok (.aload_n 1, 1) := by decide +kernel
theorem d_R_fill_2 : decode prog_5_method_2_code 2 = .ok (.putfield 23, 3) := by decide +kernel
theorem d_R_fill_5 : decode prog_5_method_2_code 5 = .ok (.aload_n 0, 1) := by decide +kernel
theorem d_R_fill_6 : decode prog_5_method_2_code 6 = .ok (.getfield 23, 3) := by decide +kernel
theorem d_R_fill_9 : decode prog_5_method_2_code 9 = .ok (.invokevirtual 27, 3) := by decide +kernel
theorem d_R_fill_12 : decode prog_5_method_2_code 12 = .ok (.aload_n 0, 1) := by decide +kernel
theorem d_R_fill_13 : decode prog_5_method_2_code 13 = .ok (.iconst (0), 1) := by decide +kernel
theorem d_R_fill_14 : decode prog_5_method_2_code 14 = .ok (.putfield 32, 3) := by decide +kernel
theorem d_R_fill_17 : decode prog_5_method_2_code 17 = .ok (.aload_n 0, 1) := by decide +kernel
theorem d_R_fill_18 : decode prog_5_method_2_code 18 = .ok (.iconst (0), 1) := by decide +kernel
theorem d_R_fill_19 : decode prog_5_method_2_code 19 = .ok (.putfield 35, 3) := by decide +kernel
theorem d_R_fill_22 : decode prog_5_method_2_code 22 = .ok (.aload_n 0, 1) := by decide +kernel
theorem d_R_fill_23 : decode prog_5_method_2_code 23 = .ok (.iconst (-1), 1) := by decide +kernel
theorem d_R_fill_24 : decode prog_5_method_2_code 24 = .ok (.putfield 15, 3) := by decide +kernel
theorem d_R_fill_27 : decode prog_5_method_2_code 27 = .ok (.iconst (0), 1) := by decide +kernel
theorem d_R_fill_28 : decode prog_5_method_2_code 28 = .ok (.istore_n 2, 1) := by decide +kernel
theorem d_R_fill_29 : decode prog_5_method_2_code 29 = .ok (.iload_n 2, 1) := by decide +kernel
theorem d_R_fill_30 : decode prog_5_method_2_code 30 = .ok (.bipush (24), 2) := by decide +kernel
theorem d_R_fill_32 : decode prog_5_method_2_code 32 = .ok (.if_icmp .ge (38), 3) := by decide +kernel
theorem d_R_fill_35 : decode prog_5_method_2_code 35 = .ok (.aload_n 0, 1) := by decide +kernel
theorem d_R_fill_36 : decode prog_5_method_2_code 36 = .ok (.invokevirtual 38, 3) := by decide +kernel
theorem d_R_fill_39 : decode prog_5_method_2_code 39 = .ok (.ifCond .eq (10), 3) := by decide +kernel
theorem d_R_fill_42 : decode prog_5_method_2_code 42 = .ok (.aload_n 0, 1) := by decide +kernel
theorem d_R_fill_43 : decode prog_5_method_2_code 43 = .ok (.invokevirtual 42, 3) := by decide +kernel
theorem d_R_fill_46 : decode prog_5_method_2_code 46 = .ok (.ifCond .ne (5), 3) := by decide +kernel
theorem d_R_fill_49 : decode prog_5_method_2_code 49 = .ok (.iconst (0), 1) := by decide +kernel
theorem d_R_fill_50 : decode prog_5_method_2_code 50 = .ok (.ireturn, 1) := by decide +kernel
theorem d_R_fill_51 : decode prog_5_method_2_code 51 = .ok (.aload_n 0, 1) := by decide +kernel
theorem d_R_fill_52 : decode prog_5_method_2_code 52 = .ok (.invokevirtual 45, 3) := by decide +kernel
theorem d_R_fill_55 : decode prog_5_method_2_code 55 = .ok (.iconst (-1), 1) := by decide +kernel
theorem d_R_fill_56 : decode prog_5_method_2_code 56 = .ok (.if_icmp .ne (8), 3) := by decide +kernel
theorem d_R_fill_59 : decode prog_5_method_2_code 59 = .ok (.aload_n 0, 1) := by decide +kernel
theorem d_R_fill_60 : decode prog_5_method_2_code 60 = .ok (.invokevirtual 49, 3) := by decide +kernel
theorem d_R_fill_63 : decode prog_5_method_2_code 63 = .ok (.ireturn, 1) := by decide +kernel
theorem d_R_fill_64 : decode prog_5_method_2_code 64 = .ok (.iinc 2 (1), 3) := by decide +kernel
theorem d_R_fill_67 : decode prog_5_method_2_code 67 = .ok (.goto (-38), 3) := by decide +kernel
theorem d_R_fill_70 : decode prog_5_method_2_code 70 = .ok (.aload_n 0, 1) := by decide +kernel
theorem d_R_fill_71 : decode prog_5_method_2_code 71 = .ok (.iconst (3), 1) := by decide +kernel
theorem d_R_fill_72 : decode prog_5_method_2_code 72 = .ok (.aload_n 0, 1) := by decide +kernel
theorem d_R_fill_73 : decode prog_5_method_2_code 73 = .ok (.getfield 32, 3) := by decide +kernel
theorem d_R_fill_76 : decode prog_5_method_2_code 76 = .ok (.invokevirtual 52, 3) := by decide +kernel
theorem d_R_fill_79 : decode prog_5_method_2_code 79 = .ok (.ireturn, 1) := by decide +kernel
theorem d_M_read_0 : decode prog_9_method_20_code 0 = .ok (.aload_n 0, 1) := by decide +kernel
theorem d_M_read_1 : decode prog_9_method_20_code 1 = .ok (.iconst (0), 1) := by decide +kernel
theorem d_M_read_2 : decode prog_9_method_20_code 2 = .ok (.putfield 66, 3) := by decide +kernel
theorem d_M_read_5 : decode prog_9_method_20_code 5 = .ok (.aload_n 0, 1) := by decide +kernel
theorem d_M_read_6 : decode prog_9_method_20_code 6 = .ok (.iconst (0), 1) := by decide +kernel
theorem d_M_read_7 : decode prog_9_method_20_code 7 = .ok (.putfield 74, 3) := by decide +kernel
theorem d_M_read_10 : decode prog_9_method_20_code 10 = .ok (.aload_n 0, 1) := by decide +kernel
theorem d_M_read_11 : decode prog_9_method_20_code 11 = .ok (.iconst (-1), 1) := by decide +kernel
theorem d_M_read_12 : decode prog_9_method_20_code 12 = .ok (.putfield 13, 3) := by decide +kernel
theorem d_M_read_15 : decode prog_9_method_20_code 15 = .ok (.aload_n 0, 1) := by decide +kernel
theorem d_M_read_16 : decode prog_9_method_20_code 16 = .ok (.iconst (0), 1) := by decide +kernel
theorem d_M_read_17 : decode prog_9_method_20_code 17 = .ok (.putfield 77, 3) := by decide +kernel
theorem d_M_read_20 : decode prog_9_method_20_code 20 = .ok (.aload_n 0, 1) := by decide +kernel
theorem d_M_read_21 : decode prog_9_method_20_code 21 = .ok (.iconst (0), 1) := by decide +kernel
theorem d_M_read_22 : decode prog_9_method_20_code 22 = .ok (.putfield 118, 3) := by decide +kernel
theorem d_M_read_25 : decode prog_9_method_20_code 25 = .ok (.aload_n 0, 1) := by decide +kernel
theorem d_M_read_26 : decode prog_9_method_20_code 26 = .ok (.iconst (0), 1) := by decide +kernel
theorem d_M_read_27 : decode prog_9_method_20_code 27 = .ok (.putfield 121, 3) := by decide +kernel
theorem d_M_read_30 : decode prog_9_method_20_code 30 = .ok (.aload_n 0, 1) := by decide +kernel
theorem d_M_read_31 : decode prog_9_method_20_code 31 = .ok (.invokevirtual 143, 3) := by decide +kernel
theorem d_M_read_34 : decode prog_9_method_20_code 34 = .ok (.aload_n 0, 1) := by decide +kernel
theorem d_M_read_35 : decode prog_9_method_20_code 35 = .ok (.invokevirtual 80, 3) := by decide +kernel
theorem d_M_read_38 : decode prog_9_method_20_code 38 = .ok (.aload_n 0, 1) := by decide +kernel
theorem d_M_read_39 : decode prog_9_method_20_code 39 = .ok (.getfield 74, 3) := by decide +kernel
theorem d_M_read_42 : decode prog_9_method_20_code 42 = .ok (.ifCond .ne (46), 3) := by decide +kernel
theorem d_M_read_45 : decode prog_9_method_20_code 45 = .ok (.aload_n 0, 1) := by decide +kernel
theorem d_M_read_46 : decode prog_9_method_20_code 46 = .ok (.getfield 77, 3) := by decide +kernel
theorem d_M_read_49 : decode prog_9_method_20_code 49 = .ok (.aload_n 0, 1) := by decide +kernel
theorem d_M_read_50 : decode prog_9_method_20_code 50 = .ok (.getfield 69, 3) := by decide +kernel
theorem d_M_read_53 : decode prog_9_method_20_code 53 = .ok (.if_icmp .ge (35), 3) := by decide +kernel
theorem d_M_read_56 : decode prog_9_method_20_code 56 = .ok (.aload_n 0, 1) := by decide +kernel
theorem d_M_read_57 : decode prog_9_method_20_code 57 = .ok (.getfield 118, 3) := by decide +kernel
theorem d_M_read_60 : decode prog_9_method_20_code 60 = .ok (.bipush (24), 2) := by decide +kernel
theorem d_M_read_62 : decode prog_9_method_20_code 62 = .ok (.if_icmp .ne (15), 3) := by decide +kernel
theorem d_M_read_65 : decode prog_9_method_20_code 65 = .ok (.aload_n 0, 1) := by decide +kernel
theorem d_M_read_66 : decode prog_9_method_20_code 66 = .ok (.iconst (3), 1) := by decide +kernel
theorem d_M_read_67 : decode prog_9_method_20_code 67 = .ok (.aload_n 0, 1) := by decide +kernel
theorem d_M_read_68 : decode prog_9_method_20_code 68 = .ok (.getfield 77, 3) := by decide +kernel
theorem d_M_read_71 : decode prog_9_method_20_code 71 = .ok (.invokevirtual 87, 3) := by decide +kernel
theorem d_M_read_74 : decode prog_9_method_20_code 74 = .ok (.goto (-36), 3) := by decide +kernel
theorem d_M_read_77 : decode prog_9_method_20_code 77 = .ok (.aload_n 0, 1) := by decide +kernel
theorem d_M_read_78 : decode prog_9_method_20_code 78 = .ok (.invokevirtual 143, 3) := by decide +kernel
theorem d_M_read_81 : decode prog_9_method_20_code 81 = .ok (.aload_n 0, 1) := by decide +kernel
theorem d_M_read_82 : decode prog_9_method_20_code 82 = .ok (.invokevirtual 80, 3) := by decide +kernel
theorem d_M_read_85 : decode prog_9_method_20_code 85 = .ok (.goto (-47), 3) := by decide +kernel
theorem d_M_read_88 : decode prog_9_method_20_code 88 = .ok (.aload_n 0, 1) := by decide +kernel
theorem d_M_read_89 : decode prog_9_method_20_code 89 = .ok (.getfield 74, 3) := by decide +kernel
theorem d_M_read_92 : decode prog_9_method_20_code 92 = .ok (.ifCond .ne (7), 3) := by decide +kernel
theorem d_M_read_95 : decode prog_9_method_20_code 95 = .ok (.aload_n 0, 1) := by decide +kernel
theorem d_M_read_96 : decode prog_9_method_20_code 96 = .ok (.invokevirtual 146, 3) := by decide +kernel
theorem d_M_read_99 : decode prog_9_method_20_code 99 = .ok (.aload_n 0, 1) := by decide +kernel
theorem d_M_read_100 : decode prog_9_method_20_code 100 = .ok (.getfield 74, 3) := by decide +kernel
theorem d_M_read_103 : decode prog_9_method_20_code 103 = .ok (.ifCond .le (5), 3) := by decide +kernel
theorem d_M_read_106 : decode prog_9_method_20_code 106 = .ok (.iconst (-1), 1) := by decide +kernel
theorem d_M_read_107 : decode prog_9_method_20_code 107 = .ok (.ireturn, 1) := by decide +kernel
theorem d_M_read_108 : decode prog_9_method_20_code 108 = .ok (.aload_n 0, 1) := by decide +kernel
theorem d_M_read_109 : decode prog_9_method_20_code 109 = .ok (.aload_n 0, 1) := by decide +kernel
theorem d_M_read_110 : decode prog_9_method_20_code 110 = .ok (.getfield 118, 3) := by decide +kernel
theorem d_M_read_113 : decode prog_9_method_20_code 113 = .ok (.putfield 17, 3) := by decide +kernel
theorem d_M_read_116 : decode prog_9_method_20_code 116 = .ok (.aload_n 0, 1) := by decide +kernel
theorem d_M_read_117 : decode prog_9_method_20_code 117 = .ok (.aload_n 0, 1) := by decide +kernel
theorem d_M_read_118 : decode prog_9_method_20_code 118 = .ok (.getfield 121, 3) := by decide +kernel
theorem d_M_read_121 : decode prog_9_method_20_code 121 = .ok (.putfield 149, 3) := by decide +kernel
theorem d_M_read_124 : decode prog_9_method_20_code 124 = .ok (.iconst (0), 1) := by decide +kernel
theorem d_M_read_125 : decode prog_9_method_20_code 125 = .ok (.istore_n 1, 1) := by decide +kernel
theorem d_M_read_126 : decode prog_9_method_20_code 126 = .ok (.iload_n 1, 1) := by decide +kernel
theorem d_M_read_127 : decode prog_9_method_20_code 127 = .ok (.sipush (560), 3) := by decide +kernel
theorem d_M_read_130 : decode prog_9_method_20_code 130 = .ok (.if_icmp .ge (21), 3) := by decide +kernel
theorem d_M_read_133 : decode prog_9_method_20_code 133 = .ok (.aload_n 0, 1) := by decide +kernel
theorem d_M_read_134 : decode prog_9_method_20_code 134 = .ok (.getfield 20, 3) := by decide +kernel
theorem d_M_read_137 : decode prog_9_method_20_code 137 = .ok (.iload_n 1, 1) := by decide +kernel
theorem d_M_read_138 : decode prog_9_method_20_code 138 = .ok (.aload_n 0, 1) := by decide +kernel
theorem d_M_read_139 : decode prog_9_method_20_code 139 = .ok (.getfield 29, 3) := by decide +kernel
theorem d_M_read_142 : decode prog_9_method_20_code 142 = .ok (.iload_n 1, 1) := by decide +kernel
theorem d_M_read_143 : decode prog_9_method_20_code 143 = .ok (.iaload, 1) := by decide +kernel
theorem d_M_read_144 : decode prog_9_method_20_code 144 = .ok (.iastore, 1) := by decide +kernel
theorem d_M_read_145 : decode prog_9_method_20_code 145 = .ok (.iinc 1 (1), 3) := by decide +kernel
theorem d_M_read_148 : decode prog_9_method_20_code 148 = .ok (.goto (-22), 3) := by decide +kernel
theorem d_M_read_151 : decode prog_9_method_20_code 151 = .ok (.iconst (0), 1) := by decide +kernel
theorem d_M_read_152 : decode prog_9_method_20_code 152 = .ok (.istore_n 1, 1) := by decide +kernel
theorem d_M_read_153 : decode prog_9_method_20_code 153 = .ok (.iload_n 1, 1) := by decide +kernel
theorem d_M_read_154 : decode prog_9_method_20_code 154 = .ok (.bipush (120), 2) := by decide +kernel
theorem d_M_read_156 : decode prog_9_method_20_code 156 = .ok (.if_icmp .ge (21), 3) := by decide +kernel
theorem d_M_read_159 : decode prog_9_method_20_code 159 = .ok (.aload_n 0, 1) := by decide +kernel
theorem d_M_read_160 : decode prog_9_method_20_code 160 = .ok (.getfield 23, 3) := by decide +kernel
theorem d_M_read_163 : decode prog_9_method_20_code 163 = .ok (.iload_n 1, 1) := by decide +kernel
theorem d_M_read_164 : decode prog_9_method_20_code 164 = .ok (.aload_n 0, 1) := by decide +kernel
theorem d_M_read_165 : decode prog_9_method_20_code 165 = .ok (.getfield 32, 3) := by decide +kernel
theorem d_M_read_168 : decode prog_9_method_20_code 168 = .ok (.iload_n 1, 1) := by decide +kernel
theorem d_M_read_169 : decode prog_9_method_20_code 169 = .ok (.iaload, 1) := by decide +kernel
theorem d_M_read_170 : decode prog_9_method_20_code 170 = .ok (.iastore, 1) := by decide +kernel
theorem d_M_read_171 : decode prog_9_method_20_code 171 = .ok (.iinc 1 (1), 3) := by decide +kernel
theorem d_M_read_174 : decode prog_9_method_20_code 174 = .ok (.goto (-21), 3) := by decide +kernel
theorem d_M_read_177 : decode prog_9_method_20_code 177 = .ok (.iconst (0), 1) := by decide +kernel
theorem d_M_read_178 : decode prog_9_method_20_code 178 = .ok (.istore_n 1, 1) := by decide +kernel
theorem d_M_read_179 : decode prog_9_method_20_code 179 = .ok (.iload_n 1, 1) := by decide +kernel
theorem d_M_read_180 : decode prog_9_method_20_code 180 = .ok (.aload_n 0, 1) := by decide +kernel
theorem d_M_read_181 : decode prog_9_method_20_code 181 = .ok (.getfield 17, 3) := by decide +kernel
theorem d_M_read_184 : decode prog_9_method_20_code 184 = .ok (.if_icmp .ge (21), 3) := by decide +kernel
theorem d_M_read_187 : decode prog_9_method_20_code 187 = .ok (.aload_n 0, 1) := by decide +kernel
theorem d_M_read_188 : decode prog_9_method_20_code 188 = .ok (.getfield 26, 3) := by decide +kernel
theorem d_M_read_191 : decode prog_9_method_20_code 191 = .ok (.iload_n 1, 1) := by decide +kernel
theorem d_M_read_192 : decode prog_9_method_20_code 192 = .ok (.aload_n 0, 1) := by decide +kernel
theorem d_M_read_193 : decode prog_9_method_20_code 193 = .ok (.getfield 35, 3) := by decide +kernel
theorem d_M_read_196 : decode prog_9_method_20_code 196 = .ok (.iload_n 1, 1) := by decide +kernel
theorem d_M_read_197 : decode prog_9_method_20_code 197 = .ok (.iaload, 1) := by decide +kernel
theorem d_M_read_198 : decode prog_9_method_20_code 198 = .ok (.iastore, 1) := by decide +kernel
theorem d_M_read_199 : decode prog_9_method_20_code 199 = .ok (.iinc 1 (1), 3) := by decide +kernel
theorem d_M_read_202 : decode prog_9_method_20_code 202 = .ok (.goto (-23), 3) := by decide +kernel
theorem d_M_read_205 : decode prog_9_method_20_code 205 = .ok (.aload_n 0, 1) := by decide +kernel
theorem d_M_read_206 : decode prog_9_method_20_code 206 = .ok (.getfield 26, 3) := by decide +kernel
theorem d_M_read_209 : decode prog_9_method_20_code 209 = .ok (.aload_n 0, 1) := by decide +kernel
theorem d_M_read_210 : decode prog_9_method_20_code 210 = .ok (.getfield 17, 3) := by decide +kernel
theorem d_M_read_213 : decode prog_9_method_20_code 213 = .ok (.aload_n 0, 1) := by decide +kernel
theorem d_M_read_214 : decode prog_9_method_20_code 214 = .ok (.getfield 149, 3) := by decide +kernel
theorem d_M_read_217 : decode prog_9_method_20_code 217 = .ok (.iastore, 1) := by decide +kernel
theorem d_M_read_218 : decode prog_9_method_20_code 218 = .ok (.aload_n 0, 1) := by decide +kernel
theorem d_M_read_219 : decode prog_9_method_20_code 219 = .ok (.iconst (0), 1) := by decide +kernel
theorem d_M_read_220 : decode prog_9_method_20_code 220 = .ok (.putfield 152, 3) := by decide +kernel
theorem d_M_read_223 : decode prog_9_method_20_code 223 = .ok (.aload_n 0, 1) := by decide +kernel
theorem d_M_read_224 : decode prog_9_method_20_code 224 = .ok (.getfield 17, 3) := by decide +kernel
theorem d_M_read_227 : decode prog_9_method_20_code 227 = .ok (.ireturn, 1) := by decide +kernel
theorem d_M_known_0 : decode prog_9_method_36_code 0 = .ok (.aload_n 0, 1) := by decide +kernel
theorem d_M_known_1 : decode prog_9_method_36_code 1 = .ok (.aload_n 0, 1) := by decide +kernel
theorem d_M_known_2 : decode prog_9_method_36_code 2 = .ok (.iload_n 1, 1) := by decide +kernel
theorem d_M_known_3 : decode prog_9_method_36_code 3 = .ok (.invokevirtual 191, 3) := by decide +kernel
theorem d_M_known_6 : decode prog_9_method_36_code 6 = .ok (.ifCond .ne (13), 3) := by decide +kernel
theorem d_M_known_9 : decode prog_9_method_36_code 9 = .ok (.iload_n 2, 1) := by decide +kernel
theorem d_M_known_10 : decode prog_9_method_36_code 10 = .ok (.ifCond .lt (9), 3) := by decide +kernel
theorem d_M_known_13 : decode prog_9_method_36_code 13 = .ok (.iload_n 2, 1) := by decide +kernel
theorem d_M_known_14 : decode prog_9_method_36_code 14 = .ok (.bipush (8), 2) := by decide +kernel
theorem d_M_known_16 : decode prog_9_method_36_code 16 = .ok (.if_icmp .lt (7), 3) := by decide +kernel
theorem d_M_known_19 : decode prog_9_method_36_code 19 = .ok (.iconst (1), 1) := by decide +kernel
theorem d_M_known_20 : decode prog_9_method_36_code 20 = .ok (.goto (4), 3) := by decide +kernel
theorem d_M_known_23 : decode prog_9_method_36_code 23 = .ok (.iconst (0), 1) := by decide +kernel
theorem d_M_known_24 : decode prog_9_method_36_code 24 = .ok (.putfield 66, 3) := by decide +kernel
theorem d_M_known_27 : decode prog_9_method_36_code 27 = .ok (.aload_n 0, 1) := by decide +kernel
theorem d_M_known_28 : decode prog_9_method_36_code 28 = .ok (.getfield 66, 3) := by decide +kernel
theorem d_M_known_31 : decode prog_9_method_36_code 31 = .ok (.ifCond .le (5), 3) := by decide +kernel
theorem d_M_known_34 : decode prog_9_method_36_code 34 = .ok (.iconst (0), 1) := by decide +kernel
theorem d_M_known_35 : decode prog_9_method_36_code 35 = .ok (.ireturn, 1) := by decide +kernel
theorem d_M_known_36 : decode prog_9_method_36_code 36 = .ok (.aload_n 0, 1) := by decide +kernel
theorem d_M_known_37 : decode prog_9_method_36_code 37 = .ok (.iload_n 1, 1) := by decide +kernel
theorem d_M_known_38 : decode prog_9_method_36_code 38 = .ok (.iload_n 3, 1) := by decide +kernel
theorem d_M_known_39 : decode prog_9_method_36_code 39 = .ok (.invokevirtual 197, 3) := by decide +kernel
theorem d_M_known_42 : decode prog_9_method_36_code 42 = .ok (.aload_n 0, 1) := by decide +kernel
theorem d_M_known_43 : decode prog_9_method_36_code 43 = .ok (.getfield 41, 3) := by decide +kernel
theorem d_M_known_46 : decode prog_9_method_36_code 46 = .ok (.iload_n 1, 1) := by decide +kernel
theorem d_M_known_47 : decode prog_9_method_36_code 47 = .ok (.baload, 1) := by decide +kernel
theorem d_M_known_48 : decode prog_9_method_36_code 48 = .ok (.ifCond .eq (12), 3) := by decide +kernel
theorem d_M_known_51 : decode prog_9_method_36_code 51 = .ok (.aload_n 0, 1) := by decide +kernel
theorem d_M_known_52 : decode prog_9_method_36_code 52 = .ok (.getfield 51, 3) := by decide +kernel
theorem d_M_known_55 : decode prog_9_method_36_code 55 = .ok (.iload_n 2, 1) := by decide +kernel
theorem d_M_known_56 : decode prog_9_method_36_code 56 = .ok (.iaload, 1) := by decide +kernel
theorem d_M_known_57 : decode prog_9_method_36_code 57 = .ok (.goto (4), 3) := by decide +kernel
theorem d_M_known_60 : decode prog_9_method_36_code 60 = .ok (.iconst (0), 1) := by decide +kernel
theorem d_M_known_61 : decode prog_9_method_36_code 61 = .ok (.ireturn, 1) := by decide +kernel
theorem d_M_number_0 : decode prog_9_method_37_code 0 = .ok (.aload_n 0, 1) := by decide +kernel
theorem d_M_number_1 : decode prog_9_method_37_code 1 = .ok (.aload_n 0, 1) := by decide +kernel
theorem d_M_number_2 : decode prog_9_method_37_code 2 = .ok (.iload_n 1, 1) := by decide +kernel
theorem d_M_number_3 : decode prog_9_method_37_code 3 = .ok (.invokevirtual 191, 3) := by decide +kernel
theorem d_M_number_6 : decode prog_9_method_37_code 6 = .ok (.ifCond .ne (13), 3) := by decide +kernel
theorem d_M_number_9 : decode prog_9_method_37_code 9 = .ok (.iload_n 2, 1) := by decide +kernel
theorem d_M_number_10 : decode prog_9_method_37_code 10 = .ok (.ifCond .lt (9), 3) := by decide +kernel
theorem d_M_number_13 : decode prog_9_method_37_code 13 = .ok (.iload_n 2, 1) := by decide +kernel
theorem d_M_number_14 : decode prog_9_method_37_code 14 = .ok (.bipush (8), 2) := by decide +kernel
theorem d_M_number_16 : decode prog_9_method_37_code 16 = .ok (.if_icmp .lt (7), 3) := by decide +kernel
theorem d_M_number_19 : decode prog_9_method_37_code 19 = .ok (.iconst (1), 1) := by decide +kernel
theorem d_M_number_20 : decode prog_9_method_37_code 20 = .ok (.goto (4), 3) := by decide +kernel
theorem d_M_number_23 : decode prog_9_method_37_code 23 = .ok (.iconst (0), 1) := by decide +kernel
theorem d_M_number_24 : decode prog_9_method_37_code 24 = .ok (.putfield 66, 3) := by decide +kernel
theorem d_M_number_27 : decode prog_9_method_37_code 27 = .ok (.aload_n 0, 1) := by decide +kernel
theorem d_M_number_28 : decode prog_9_method_37_code 28 = .ok (.getfield 66, 3) := by decide +kernel
theorem d_M_number_31 : decode prog_9_method_37_code 31 = .ok (.ifCond .le (5), 3) := by decide +kernel
theorem d_M_number_34 : decode prog_9_method_37_code 34 = .ok (.iconst (0), 1) := by decide +kernel
theorem d_M_number_35 : decode prog_9_method_37_code 35 = .ok (.ireturn, 1) := by decide +kernel
theorem d_M_number_36 : decode prog_9_method_37_code 36 = .ok (.aload_n 0, 1) := by decide +kernel
theorem d_M_number_37 : decode prog_9_method_37_code 37 = .ok (.iload_n 1, 1) := by decide +kernel
theorem d_M_number_38 : decode prog_9_method_37_code 38 = .ok (.iload_n 3, 1) := by decide +kernel
theorem d_M_number_39 : decode prog_9_method_37_code 39 = .ok (.invokevirtual 197, 3) := by decide +kernel
theorem d_M_number_42 : decode prog_9_method_37_code 42 = .ok (.aload_n 0, 1) := by decide +kernel
theorem d_M_number_43 : decode prog_9_method_37_code 43 = .ok (.aload_n 0, 1) := by decide +kernel
theorem d_M_number_44 : decode prog_9_method_37_code 44 = .ok (.getfield 41, 3) := by decide +kernel
theorem d_M_number_47 : decode prog_9_method_37_code 47 = .ok (.iload_n 1, 1) := by decide +kernel
theorem d_M_number_48 : decode prog_9_method_37_code 48 = .ok (.baload, 1) := by decide +kernel
theorem d_M_number_49 : decode prog_9_method_37_code 49 = .ok (.ifCond .eq (17), 3) := by decide +kernel
theorem d_M_number_52 : decode prog_9_method_37_code 52 = .ok (.aload_n 0, 1) := by decide +kernel
theorem d_M_number_53 : decode prog_9_method_37_code 53 = .ok (.getfield 51, 3) := by decide +kernel
theorem d_M_number_56 : decode prog_9_method_37_code 56 = .ok (.iload_n 2, 1) := by decide +kernel
theorem d_M_number_57 : decode prog_9_method_37_code 57 = .ok (.iaload, 1) := by decide +kernel
theorem d_M_number_58 : decode prog_9_method_37_code 58 = .ok (.iconst (1), 1) := by decide +kernel
theorem d_M_number_59 : decode prog_9_method_37_code 59 = .ok (.if_icmp .ne (7), 3) := by decide +kernel
theorem d_M_number_62 : decode prog_9_method_37_code 62 = .ok (.iconst (0), 1) := by decide +kernel
theorem d_M_number_63 : decode prog_9_method_37_code 63 = .ok (.goto (4), 3) := by decide +kernel
theorem d_M_number_66 : decode prog_9_method_37_code 66 = .ok (.iconst (2), 1) := by decide +kernel
theorem d_M_number_67 : decode prog_9_method_37_code 67 = .ok (.putfield 66, 3) := by decide +kernel
theorem d_M_number_70 : decode prog_9_method_37_code 70 = .ok (.aload_n 0, 1) := by decide +kernel
theorem d_M_number_71 : decode prog_9_method_37_code 71 = .ok (.getfield 66, 3) := by decide +kernel
theorem d_M_number_74 : decode prog_9_method_37_code 74 = .ok (.ifCond .le (7), 3) := by decide +kernel
theorem d_M_number_77 : decode prog_9_method_37_code 77 = .ok (.iconst (0), 1) := by decide +kernel
theorem d_M_number_78 : decode prog_9_method_37_code 78 = .ok (.goto (9), 3) := by decide +kernel
theorem d_M_number_81 : decode prog_9_method_37_code 81 = .ok (.aload_n 0, 1) := by decide +kernel
theorem d_M_number_82 : decode prog_9_method_37_code 82 = .ok (.getfield 54, 3) := by decide +kernel
theorem d_M_number_85 : decode prog_9_method_37_code 85 = .ok (.iload_n 2, 1) := by decide +kernel
theorem d_M_number_86 : decode prog_9_method_37_code 86 = .ok (.iaload, 1) := by decide +kernel
theorem d_M_number_87 : decode prog_9_method_37_code 87 = .ok (.ireturn, 1) := by decide +kernel
theorem d_F_rewrite_0 : decode prog_2_method_11_code 0 = .ok (.aload_n 2, 1) := by decide +kernel
theorem d_F_rewrite_1 : decode prog_2_method_11_code 1 = .ok (.iconst (0), 1) := by decide +kernel
theorem d_F_rewrite_2 : decode prog_2_method_11_code 2 = .ok (.putfield 115, 3) := by decide +kernel
theorem d_F_rewrite_5 : decode prog_2_method_11_code 5 = .ok (.iconst (0), 1) := by decide +kernel
theorem d_F_rewrite_6 : decode prog_2_method_11_code 6 = .ok (.istore_n 3, 1) := by decide +kernel
theorem d_F_rewrite_7 : decode prog_2_method_11_code 7 = .ok (.iconst (0), 1) := by decide +kernel
theorem d_F_rewrite_8 : decode prog_2_method_11_code 8 = .ok (.istore 4, 2) := by decide +kernel
theorem d_F_rewrite_10 : decode prog_2_method_11_code 10 = .ok (.iload 4, 2) := by decide +kernel
theorem d_F_rewrite_12 : decode prog_2_method_11_code 12 = .ok (.aload_n 1, 1) := by decide +kernel
theorem d_F_rewrite_13 : decode prog_2_method_11_code 13 = .ok (.getfield 54, 3) := by decide +kernel
theorem d_F_rewrite_16 : decode prog_2_method_11_code 16 = .ok (.if_icmp .ge (30), 3) := by decide +kernel
theorem d_F_rewrite_19 : decode prog_2_method_11_code 19 = .ok (.aload_n 0, 1) := by decide +kernel
theorem d_F_rewrite_20 : decode prog_2_method_11_code 20 = .ok (.getfield 35, 3) := by decide +kernel
