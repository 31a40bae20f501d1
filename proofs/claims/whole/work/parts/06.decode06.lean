theorem d_R_fillOperand_42 : decode prog_5_method_8_code 42 = .ok (.ifCond .ne (5), 3) := by decide +kernel
theorem d_R_fillOperand_45 : decode prog_5_method_8_code 45 = .ok (.iconst (0), 1) := by decide +kernel
theorem d_R_fillOperand_46 : decode prog_5_method_8_code 46 = .ok (.ireturn, 1) := by decide +kernel
theorem d_R_fillOperand_47 : decode prog_5_method_8_code 47 = .ok (.aload_n 0, 1) := by decide +kernel
theorem d_R_fillOperand_48 : decode prog_5_method_8_code 48 = .ok (.getfield 23, 3) := by decide +kernel
theorem d_R_fillOperand_51 : decode prog_5_method_8_code 51 = .ok (.iload_n 1, 1) := by decide +kernel
theorem d_R_fillOperand_52 : decode prog_5_method_8_code 52 = .ok (.iconst (0), 1) := by decide +kernel
theorem d_R_fillOperand_53 : decode prog_5_method_8_code 53 = .ok (.aload_n 0, 1) := by decide +kernel
theorem d_R_fillOperand_54 : decode prog_5_method_8_code 54 = .ok (.getfield 105, 3) := by decide +kernel
theorem d_R_fillOperand_57 : decode prog_5_method_8_code 57 = .ok (.invokevirtual 97, 3) := by decide +kernel
theorem d_R_fillOperand_60 : decode prog_5_method_8_code 60 = .ok (.iconst (1), 1) := by decide +kernel
theorem d_R_fillOperand_61 : decode prog_5_method_8_code 61 = .ok (.ireturn, 1) := by decide +kernel
theorem d_V_assign_0 : decode prog_7_method_8_code 0 = .ok (.aload_n 1, 1) := by decide +kernel
theorem d_V_assign_1 : decode prog_7_method_8_code 1 = .ok (.getfield 49, 3) := by decide +kernel
theorem d_V_assign_4 : decode prog_7_method_8_code 4 = .ok (.iload_n 2, 1) := by decide +kernel
theorem d_V_assign_5 : decode prog_7_method_8_code 5 = .ok (.iaload, 1) := by decide +kernel
theorem d_V_assign_6 : decode prog_7_method_8_code 6 = .ok (.istore_n 3, 1) := by decide +kernel
theorem d_V_assign_7 : decode prog_7_method_8_code 7 = .ok (.aload_n 0, 1) := by decide +kernel
theorem d_V_assign_8 : decode prog_7_method_8_code 8 = .ok (.aload_n 1, 1) := by decide +kernel
theorem d_V_assign_9 : decode prog_7_method_8_code 9 = .ok (.iload_n 2, 1) := by decide +kernel
theorem d_V_assign_10 : decode prog_7_method_8_code 10 = .ok (.invokevirtual 52, 3) := by decide +kernel
theorem d_V_assign_13 : decode prog_7_method_8_code 13 = .ok (.istore 4, 2) := by decide +kernel
theorem d_V_assign_15 : decode prog_7_method_8_code 15 = .ok (.iload 4, 2) := by decide +kernel
theorem d_V_assign_17 : decode prog_7_method_8_code 17 = .ok (.ifCond .eq (15), 3) := by decide +kernel
theorem d_V_assign_20 : decode prog_7_method_8_code 20 = .ok (.aload_n 0, 1) := by decide +kernel
theorem d_V_assign_21 : decode prog_7_method_8_code 21 = .ok (.getfield 15, 3) := by decide +kernel
theorem d_V_assign_24 : decode prog_7_method_8_code 24 = .ok (.iload_n 3, 1) := by decide +kernel
theorem d_V_assign_25 : decode prog_7_method_8_code 25 = .ok (.aload_n 0, 1) := by decide +kernel
theorem d_V_assign_26 : decode prog_7_method_8_code 26 = .ok (.aload_n 1, 1) := by decide +kernel
theorem d_V_assign_27 : decode prog_7_method_8_code 27 = .ok (.iload_n 2, 1) := by decide +kernel
theorem d_V_assign_28 : decode prog_7_method_8_code 28 = .ok (.invokevirtual 55, 3) := by decide +kernel
theorem d_V_assign_31 : decode prog_7_method_8_code 31 = .ok (.iastore, 1) := by decide +kernel
theorem d_V_assign_32 : decode prog_7_method_8_code 32 = .ok (.aload_n 0, 1) := by decide +kernel
theorem d_V_assign_33 : decode prog_7_method_8_code 33 = .ok (.getfield 9, 3) := by decide +kernel
theorem d_V_assign_36 : decode prog_7_method_8_code 36 = .ok (.iload_n 3, 1) := by decide +kernel
theorem d_V_assign_37 : decode prog_7_method_8_code 37 = .ok (.iload 4, 2) := by decide +kernel
theorem d_V_assign_39 : decode prog_7_method_8_code 39 = .ok (.ifCond .ne (7), 3) := by decide +kernel
theorem d_V_assign_42 : decode prog_7_method_8_code 42 = .ok (.iconst (1), 1) := by decide +kernel
theorem d_V_assign_43 : decode prog_7_method_8_code 43 = .ok (.goto (4), 3) := by decide +kernel
theorem d_V_assign_46 : decode prog_7_method_8_code 46 = .ok (.iconst (0), 1) := by decide +kernel
theorem d_V_assign_47 : decode prog_7_method_8_code 47 = .ok (.bastore, 1) := by decide +kernel
theorem d_V_assign_48 : decode prog_7_method_8_code 48 = .ok (.return_, 1) := by decide +kernel
theorem d_M_operand_0 : decode prog_9_method_12_code 0 = .ok (.aload_n 0, 1) := by decide +kernel
theorem d_M_operand_1 : decode prog_9_method_12_code 1 = .ok (.invokevirtual 80, 3) := by decide +kernel
theorem d_M_operand_4 : decode prog_9_method_12_code 4 = .ok (.aload_n 0, 1) := by decide +kernel
theorem d_M_operand_5 : decode prog_9_method_12_code 5 = .ok (.aload_n 0, 1) := by decide +kernel
theorem d_M_operand_6 : decode prog_9_method_12_code 6 = .ok (.getfield 77, 3) := by decide +kernel
theorem d_M_operand_9 : decode prog_9_method_12_code 9 = .ok (.invokevirtual 83, 3) := by decide +kernel
theorem d_M_operand_12 : decode prog_9_method_12_code 12 = .ok (.istore_n 1, 1) := by decide +kernel
theorem d_M_operand_13 : decode prog_9_method_12_code 13 = .ok (.iload_n 1, 1) := by decide +kernel
theorem d_M_operand_14 : decode prog_9_method_12_code 14 = .ok (.invokestatic 105, 3) := by decide +kernel
theorem d_M_operand_17 : decode prog_9_method_12_code 17 = .ok (.ifCond .eq (29), 3) := by decide +kernel
theorem d_M_operand_20 : decode prog_9_method_12_code 20 = .ok (.aload_n 0, 1) := by decide +kernel
theorem d_M_operand_21 : decode prog_9_method_12_code 21 = .ok (.dup, 1) := by decide +kernel
theorem d_M_operand_22 : decode prog_9_method_12_code 22 = .ok (.getfield 77, 3) := by decide +kernel
theorem d_M_operand_25 : decode prog_9_method_12_code 25 = .ok (.iconst (1), 1) := by decide +kernel
theorem d_M_operand_26 : decode prog_9_method_12_code 26 = .ok (.iadd, 1) := by decide +kernel
theorem d_M_operand_27 : decode prog_9_method_12_code 27 = .ok (.putfield 77, 3) := by decide +kernel
theorem d_M_operand_30 : decode prog_9_method_12_code 30 = .ok (.aload_n 0, 1) := by decide +kernel
theorem d_M_operand_31 : decode prog_9_method_12_code 31 = .ok (.iconst (1), 1) := by decide +kernel
theorem d_M_operand_32 : decode prog_9_method_12_code 32 = .ok (.putfield 108, 3) := by decide +kernel
theorem d_M_operand_35 : decode prog_9_method_12_code 35 = .ok (.aload_n 0, 1) := by decide +kernel
theorem d_M_operand_36 : decode prog_9_method_12_code 36 = .ok (.iload_n 1, 1) := by decide +kernel
theorem d_M_operand_37 : decode prog_9_method_12_code 37 = .ok (.bipush (97), 2) := by decide +kernel
theorem d_M_operand_39 : decode prog_9_method_12_code 39 = .ok (.isub, 1) := by decide +kernel
theorem d_M_operand_40 : decode prog_9_method_12_code 40 = .ok (.putfield 111, 3) := by decide +kernel
theorem d_M_operand_43 : decode prog_9_method_12_code 43 = .ok (.goto (42), 3) := by decide +kernel
theorem d_M_operand_46 : decode prog_9_method_12_code 46 = .ok (.iload_n 1, 1) := by decide +kernel
theorem d_M_operand_47 : decode prog_9_method_12_code 47 = .ok (.invokestatic 91, 3) := by decide +kernel
theorem d_M_operand_50 : decode prog_9_method_12_code 50 = .ok (.ifCond .ne (9), 3) := by decide +kernel
theorem d_M_operand_53 : decode prog_9_method_12_code 53 = .ok (.iload_n 1, 1) := by decide +kernel
theorem d_M_operand_54 : decode prog_9_method_12_code 54 = .ok (.bipush (45), 2) := by decide +kernel
theorem d_M_operand_56 : decode prog_9_method_12_code 56 = .ok (.if_icmp .ne (20), 3) := by decide +kernel
theorem d_M_operand_59 : decode prog_9_method_12_code 59 = .ok (.aload_n 0, 1) := by decide +kernel
theorem d_M_operand_60 : decode prog_9_method_12_code 60 = .ok (.iconst (0), 1) := by decide +kernel
theorem d_M_operand_61 : decode prog_9_method_12_code 61 = .ok (.putfield 108, 3) := by decide +kernel
theorem d_M_operand_64 : decode prog_9_method_12_code 64 = .ok (.aload_n 0, 1) := by decide +kernel
theorem d_M_operand_65 : decode prog_9_method_12_code 65 = .ok (.aload_n 0, 1) := by decide +kernel
theorem d_M_operand_66 : decode prog_9_method_12_code 66 = .ok (.iconst (1), 1) := by decide +kernel
theorem d_M_operand_67 : decode prog_9_method_12_code 67 = .ok (.invokevirtual 114, 3) := by decide +kernel
theorem d_M_operand_70 : decode prog_9_method_12_code 70 = .ok (.putfield 111, 3) := by decide +kernel
theorem d_M_operand_73 : decode prog_9_method_12_code 73 = .ok (.goto (12), 3) := by decide +kernel
theorem d_M_operand_76 : decode prog_9_method_12_code 76 = .ok (.aload_n 0, 1) := by decide +kernel
theorem d_M_operand_77 : decode prog_9_method_12_code 77 = .ok (.iconst (1), 1) := by decide +kernel
theorem d_M_operand_78 : decode prog_9_method_12_code 78 = .ok (.aload_n 0, 1) := by decide +kernel
theorem d_M_operand_79 : decode prog_9_method_12_code 79 = .ok (.getfield 77, 3) := by decide +kernel
theorem d_M_operand_82 : decode prog_9_method_12_code 82 = .ok (.invokevirtual 87, 3) := by decide +kernel
theorem d_M_operand_85 : decode prog_9_method_12_code 85 = .ok (.return_, 1) := by decide +kernel
theorem d_M_blockNumber_0 : decode prog_9_method_13_code 0 = .ok (.aload_n 0, 1) := by decide +kernel
theorem d_M_blockNumber_1 : decode prog_9_method_13_code 1 = .ok (.invokevirtual 80, 3) := by decide +kernel
theorem d_M_blockNumber_4 : decode prog_9_method_13_code 4 = .ok (.aload_n 0, 1) := by decide +kernel
theorem d_M_blockNumber_5 : decode prog_9_method_13_code 5 = .ok (.getfield 38, 3) := by decide +kernel
theorem d_M_blockNumber_8 : decode prog_9_method_13_code 8 = .ok (.iconst (2), 1) := by decide +kernel
theorem d_M_blockNumber_9 : decode prog_9_method_13_code 9 = .ok (.aload_n 0, 1) := by decide +kernel
theorem d_M_blockNumber_10 : decode prog_9_method_13_code 10 = .ok (.getfield 118, 3) := by decide +kernel
theorem d_M_blockNumber_13 : decode prog_9_method_13_code 13 = .ok (.imul, 1) := by decide +kernel
theorem d_M_blockNumber_14 : decode prog_9_method_13_code 14 = .ok (.iload_n 1, 1) := by decide +kernel
theorem d_M_blockNumber_15 : decode prog_9_method_13_code 15 = .ok (.iadd, 1) := by decide +kernel
theorem d_M_blockNumber_16 : decode prog_9_method_13_code 16 = .ok (.aload_n 0, 1) := by decide +kernel
theorem d_M_blockNumber_17 : decode prog_9_method_13_code 17 = .ok (.getfield 77, 3) := by decide +kernel
theorem d_M_blockNumber_20 : decode prog_9_method_13_code 20 = .ok (.iastore, 1) := by decide +kernel
theorem d_M_blockNumber_21 : decode prog_9_method_13_code 21 = .ok (.aload_n 0, 1) := by decide +kernel
theorem d_M_blockNumber_22 : decode prog_9_method_13_code 22 = .ok (.iconst (0), 1) := by decide +kernel
theorem d_M_blockNumber_23 : decode prog_9_method_13_code 23 = .ok (.invokevirtual 114, 3) := by decide +kernel
theorem d_M_blockNumber_26 : decode prog_9_method_13_code 26 = .ok (.ireturn, 1) := by decide +kernel
theorem d_M_follow_0 : decode prog_9_method_27_code 0 = .ok (.aload_n 0, 1) := by decide +kernel
theorem d_M_follow_1 : decode prog_9_method_27_code 1 = .ok (.iload_n 1, 1) := by decide +kernel
theorem d_M_follow_2 : decode prog_9_method_27_code 2 = .ok (.invokevirtual 173, 3) := by decide +kernel
theorem d_M_follow_5 : decode prog_9_method_27_code 5 = .ok (.aload_n 0, 1) := by decide +kernel
theorem d_M_follow_6 : decode prog_9_method_27_code 6 = .ok (.getfield 51, 3) := by decide +kernel
theorem d_M_follow_9 : decode prog_9_method_27_code 9 = .ok (.aload_n 0, 1) := by decide +kernel
theorem d_M_follow_10 : decode prog_9_method_27_code 10 = .ok (.getfield 20, 3) := by decide +kernel
theorem d_M_follow_13 : decode prog_9_method_27_code 13 = .ok (.bipush (7), 2) := by decide +kernel
theorem d_M_follow_15 : decode prog_9_method_27_code 15 = .ok (.iload_n 1, 1) := by decide +kernel
theorem d_M_follow_16 : decode prog_9_method_27_code 16 = .ok (.imul, 1) := by decide +kernel
theorem d_M_follow_17 : decode prog_9_method_27_code 17 = .ok (.iconst (0), 1) := by decide +kernel
theorem d_M_follow_18 : decode prog_9_method_27_code 18 = .ok (.iadd, 1) := by decide +kernel
theorem d_M_follow_19 : decode prog_9_method_27_code 19 = .ok (.iaload, 1) := by decide +kernel
theorem d_M_follow_20 : decode prog_9_method_27_code 20 = .ok (.aload_n 0, 1) := by decide +kernel
theorem d_M_follow_21 : decode prog_9_method_27_code 21 = .ok (.getfield 156, 3) := by decide +kernel
theorem d_M_follow_24 : decode prog_9_method_27_code 24 = .ok (.iastore, 1) := by decide +kernel
theorem d_M_follow_25 : decode prog_9_method_27_code 25 = .ok (.aload_n 0, 1) := by decide +kernel
theorem d_M_follow_26 : decode prog_9_method_27_code 26 = .ok (.getfield 54, 3) := by decide +kernel
theorem d_M_follow_29 : decode prog_9_method_27_code 29 = .ok (.aload_n 0, 1) := by decide +kernel
theorem d_M_follow_30 : decode prog_9_method_27_code 30 = .ok (.getfield 20, 3) := by decide +kernel
theorem d_M_follow_33 : decode prog_9_method_27_code 33 = .ok (.bipush (7), 2) := by decide +kernel
theorem d_M_follow_35 : decode prog_9_method_27_code 35 = .ok (.iload_n 1, 1) := by decide +kernel
theorem d_M_follow_36 : decode prog_9_method_27_code 36 = .ok (.imul, 1) := by decide +kernel
theorem d_M_follow_37 : decode prog_9_method_27_code 37 = .ok (.iconst (0), 1) := by decide +kernel
theorem d_M_follow_38 : decode prog_9_method_27_code 38 = .ok (.iadd, 1) := by decide +kernel
theorem d_M_follow_39 : decode prog_9_method_27_code 39 = .ok (.iaload, 1) := by decide +kernel
theorem d_M_follow_40 : decode prog_9_method_27_code 40 = .ok (.aload_n 0, 1) := by decide +kernel
theorem d_M_follow_41 : decode prog_9_method_27_code 41 = .ok (.getfield 159, 3) := by decide +kernel
theorem d_M_follow_44 : decode prog_9_method_27_code 44 = .ok (.iastore, 1) := by decide +kernel
theorem d_M_follow_45 : decode prog_9_method_27_code 45 = .ok (.return_, 1) := by decide +kernel
theorem d_M_lead_0 : decode prog_9_method_31_code 0 = .ok (.aload_n 0, 1) := by decide +kernel
theorem d_M_lead_1 : decode prog_9_method_31_code 1 = .ok (.getfield 23, 3) := by decide +kernel
theorem d_M_lead_4 : decode prog_9_method_31_code 4 = .ok (.iconst (5), 1) := by decide +kernel
theorem d_M_lead_5 : decode prog_9_method_31_code 5 = .ok (.iload_n 1, 1) := by decide +kernel
theorem d_M_lead_6 : decode prog_9_method_31_code 6 = .ok (.imul, 1) := by decide +kernel
theorem d_M_lead_7 : decode prog_9_method_31_code 7 = .ok (.iaload, 1) := by decide +kernel
theorem d_M_lead_8 : decode prog_9_method_31_code 8 = .ok (.ifCond .ne (5), 3) := by decide +kernel
theorem d_M_lead_11 : decode prog_9_method_31_code 11 = .ok (.iconst (0), 1) := by decide +kernel
theorem d_M_lead_12 : decode prog_9_method_31_code 12 = .ok (.ireturn, 1) := by decide +kernel
theorem d_M_lead_13 : decode prog_9_method_31_code 13 = .ok (.aload_n 0, 1) := by decide +kernel
theorem d_M_lead_14 : decode prog_9_method_31_code 14 = .ok (.getfield 23, 3) := by decide +kernel
theorem d_M_lead_17 : decode prog_9_method_31_code 17 = .ok (.iconst (5), 1) := by decide +kernel
theorem d_M_lead_18 : decode prog_9_method_31_code 18 = .ok (.iload_n 1, 1) := by decide +kernel
theorem d_M_lead_19 : decode prog_9_method_31_code 19 = .ok (.imul, 1) := by decide +kernel
theorem d_M_lead_20 : decode prog_9_method_31_code 20 = .ok (.iaload, 1) := by decide +kernel
theorem d_M_lead_21 : decode prog_9_method_31_code 21 = .ok (.iconst (1), 1) := by decide +kernel
theorem d_M_lead_22 : decode prog_9_method_31_code 22 = .ok (.if_icmp .ne (18), 3) := by decide +kernel
theorem d_M_lead_25 : decode prog_9_method_31_code 25 = .ok (.aload_n 0, 1) := by decide +kernel
theorem d_M_lead_26 : decode prog_9_method_31_code 26 = .ok (.aload_n 0, 1) := by decide +kernel
theorem d_M_lead_27 : decode prog_9_method_31_code 27 = .ok (.getfield 23, 3) := by decide +kernel
theorem d_M_lead_30 : decode prog_9_method_31_code 30 = .ok (.iconst (5), 1) := by decide +kernel
theorem d_M_lead_31 : decode prog_9_method_31_code 31 = .ok (.iload_n 1, 1) := by decide +kernel
theorem d_M_lead_32 : decode prog_9_method_31_code 32 = .ok (.imul, 1) := by decide +kernel
theorem d_M_lead_33 : decode prog_9_method_31_code 33 = .ok (.iconst (3), 1) := by decide +kernel
theorem d_M_lead_34 : decode prog_9_method_31_code 34 = .ok (.iadd, 1) := by decide +kernel
theorem d_M_lead_35 : decode prog_9_method_31_code 35 = .ok (.iaload, 1) := by decide +kernel
theorem d_M_lead_36 : decode prog_9_method_31_code 36 = .ok (.invokevirtual 176, 3) := by decide +kernel
theorem d_M_lead_39 : decode prog_9_method_31_code 39 = .ok (.ireturn, 1) := by decide +kernel
theorem d_M_lead_40 : decode prog_9_method_31_code 40 = .ok (.aload_n 0, 1) := by decide +kernel
theorem d_M_lead_41 : decode prog_9_method_31_code 41 = .ok (.iload_n 1, 1) := by decide +kernel
theorem d_M_lead_42 : decode prog_9_method_31_code 42 = .ok (.invokevirtual 179, 3) := by decide +kernel
theorem d_M_lead_45 : decode prog_9_method_31_code 45 = .ok (.istore_n 2, 1) := by decide +kernel
theorem d_M_lead_46 : decode prog_9_method_31_code 46 = .ok (.iload_n 2, 1) := by decide +kernel
theorem d_M_lead_47 : decode prog_9_method_31_code 47 = .ok (.ifCond .lt (9), 3) := by decide +kernel
theorem d_M_lead_50 : decode prog_9_method_31_code 50 = .ok (.aload_n 0, 1) := by decide +kernel
theorem d_M_lead_51 : decode prog_9_method_31_code 51 = .ok (.iload_n 2, 1) := by decide +kernel
theorem d_M_lead_52 : decode prog_9_method_31_code 52 = .ok (.invokevirtual 176, 3) := by decide +kernel
theorem d_M_lead_55 : decode prog_9_method_31_code 55 = .ok (.ireturn, 1) := by decide +kernel
theorem d_M_lead_56 : decode prog_9_method_31_code 56 = .ok (.aload_n 0, 1) := by decide +kernel
theorem d_M_lead_57 : decode prog_9_method_31_code 57 = .ok (.aload_n 0, 1) := by decide +kernel
theorem d_M_lead_58 : decode prog_9_method_31_code 58 = .ok (.getfield 23, 3) := by decide +kernel
theorem d_M_lead_61 : decode prog_9_method_31_code 61 = .ok (.iconst (5), 1) := by decide +kernel
theorem d_M_lead_62 : decode prog_9_method_31_code 62 = .ok (.iload_n 1, 1) := by decide +kernel
theorem d_M_lead_63 : decode prog_9_method_31_code 63 = .ok (.imul, 1) := by decide +kernel
theorem d_M_lead_64 : decode prog_9_method_31_code 64 = .ok (.iconst (3), 1) := by decide +kernel
theorem d_M_lead_65 : decode prog_9_method_31_code 65 = .ok (.iadd, 1) := by decide +kernel
theorem d_M_lead_66 : decode prog_9_method_31_code 66 = .ok (.iaload, 1) := by decide +kernel
theorem d_M_lead_67 : decode prog_9_method_31_code 67 = .ok (.invokevirtual 176, 3) := by decide +kernel
theorem d_M_lead_70 : decode prog_9_method_31_code 70 = .ok (.istore_n 3, 1) := by decide +kernel
theorem d_M_lead_71 : decode prog_9_method_31_code 71 = .ok (.aload_n 0, 1) := by decide +kernel
theorem d_M_lead_72 : decode prog_9_method_31_code 72 = .ok (.aload_n 0, 1) := by decide +kernel
theorem d_M_lead_73 : decode prog_9_method_31_code 73 = .ok (.getfield 23, 3) := by decide +kernel
theorem d_M_lead_76 : decode prog_9_method_31_code 76 = .ok (.iconst (5), 1) := by decide +kernel
theorem d_M_lead_77 : decode prog_9_method_31_code 77 = .ok (.iload_n 1, 1) := by decide +kernel
theorem d_M_lead_78 : decode prog_9_method_31_code 78 = .ok (.imul, 1) := by decide +kernel
theorem d_M_lead_79 : decode prog_9_method_31_code 79 = .ok (.iconst (4), 1) := by decide +kernel
theorem d_M_lead_80 : decode prog_9_method_31_code 80 = .ok (.iadd, 1) := by decide +kernel
theorem d_M_lead_81 : decode prog_9_method_31_code 81 = .ok (.iaload, 1) := by decide +kernel
theorem d_M_lead_82 : decode prog_9_method_31_code 82 = .ok (.invokevirtual 176, 3) := by decide +kernel
theorem d_M_lead_85 : decode prog_9_method_31_code 85 = .ok (.istore 4, 2) := by decide +kernel
theorem d_M_lead_87 : decode prog_9_method_31_code 87 = .ok (.iload_n 3, 1) := by decide +kernel
theorem d_M_lead_88 : decode prog_9_method_31_code 88 = .ok (.ifCond .ne (8), 3) := by decide +kernel
theorem d_M_lead_91 : decode prog_9_method_31_code 91 = .ok (.iload 4, 2) := by decide +kernel
theorem d_M_lead_93 : decode prog_9_method_31_code 93 = .ok (.ifCond .eq (7), 3) := by decide +kernel
theorem d_M_lead_96 : decode prog_9_method_31_code 96 = .ok (.iconst (1), 1) := by decide +kernel
theorem d_M_lead_97 : decode prog_9_method_31_code 97 = .ok (.goto (4), 3) := by decide +kernel
theorem d_M_lead_100 : decode prog_9_method_31_code 100 = .ok (.iconst (0), 1) := by decide +kernel
theorem d_M_lead_101 : decode prog_9_method_31_code 101 = .ok (.ireturn, 1) := by decide +kernel
theorem d_M_putOperand_0 : decode prog_9_method_41_code 0 = .ok (.aload_n 0, 1) := by decide +kernel
theorem d_M_putOperand_1 : decode prog_9_method_41_code 1 = .ok (.iload_n 1, 1) := by decide +kernel
theorem d_M_putOperand_2 : decode prog_9_method_41_code 2 = .ok (.iload_n 2, 1) := by decide +kernel
theorem d_M_putOperand_3 : decode prog_9_method_41_code 3 = .ok (.invokevirtual 166, 3) := by decide +kernel
theorem d_M_putOperand_6 : decode prog_9_method_41_code 6 = .ok (.iconst (1), 1) := by decide +kernel
theorem d_M_putOperand_7 : decode prog_9_method_41_code 7 = .ok (.if_icmp .ne (16), 3) := by decide +kernel
theorem d_M_putOperand_10 : decode prog_9_method_41_code 10 = .ok (.aload_n 0, 1) := by decide +kernel
theorem d_M_putOperand_11 : decode prog_9_method_41_code 11 = .ok (.aload_n 0, 1) := by decide +kernel
theorem d_M_putOperand_12 : decode prog_9_method_41_code 12 = .ok (.iload_n 1, 1) := by decide +kernel
theorem d_M_putOperand_13 : decode prog_9_method_41_code 13 = .ok (.iload_n 2, 1) := by decide +kernel
theorem d_M_putOperand_14 : decode prog_9_method_41_code 14 = .ok (.invokevirtual 162, 3) := by decide +kernel
theorem d_M_putOperand_17 : decode prog_9_method_41_code 17 = .ok (.invokevirtual 207, 3) := by decide +kernel
theorem d_M_putOperand_20 : decode prog_9_method_41_code 20 = .ok (.goto (11), 3) := by decide +kernel
theorem d_M_putOperand_23 : decode prog_9_method_41_code 23 = .ok (.aload_n 0, 1) := by decide +kernel
theorem d_M_putOperand_24 : decode prog_9_method_41_code 24 = .ok (.bipush (97), 2) := by decide +kernel
theorem d_M_putOperand_26 : decode prog_9_method_41_code 26 = .ok (.iload_n 2, 1) := by decide +kernel
theorem d_M_putOperand_27 : decode prog_9_method_41_code 27 = .ok (.iadd, 1) := by decide +kernel
theorem d_M_putOperand_28 : decode prog_9_method_41_code 28 = .ok (.invokevirtual 204, 3) := by decide +kernel
theorem d_M_putOperand_31 : decode prog_9_method_41_code 31 = .ok (.return_, 1) := by decide +kernel
theorem d_M_putEnd_0 : decode prog_9_method_44_code 0 = .ok (.iconst (5), 1) := by decide +kernel
theorem d_M_putEnd_1 : decode prog_9_method_44_code 1 = .ok (.iload_n 1, 1) := by decide +kernel
theorem d_M_putEnd_2 : decode prog_9_method_44_code 2 = .ok (.imul, 1) := by decide +kernel
theorem d_M_putEnd_3 : decode prog_9_method_44_code 3 = .ok (.istore_n 2, 1) := by decide +kernel
theorem d_M_putEnd_4 : decode prog_9_method_44_code 4 = .ok (.aload_n 0, 1) := by decide +kernel
theorem d_M_putEnd_5 : decode prog_9_method_44_code 5 = .ok (.getfield 23, 3) := by decide +kernel
theorem d_M_putEnd_8 : decode prog_9_method_44_code 8 = .ok (.iload_n 2, 1) := by decide +kernel
theorem d_M_putEnd_9 : decode prog_9_method_44_code 9 = .ok (.iaload, 1) := by decide +kernel
theorem d_M_putEnd_10 : decode prog_9_method_44_code 10 = .ok (.ifCond .ne (10), 3) := by decide +kernel
theorem d_M_putEnd_13 : decode prog_9_method_44_code 13 = .ok (.aload_n 0, 1) := by decide +kernel
theorem d_M_putEnd_14 : decode prog_9_method_44_code 14 = .ok (.bipush (46), 2) := by decide +kernel
theorem d_M_putEnd_16 : decode prog_9_method_44_code 16 = .ok (.invokevirtual 204, 3) := by decide +kernel
theorem d_M_putEnd_19 : decode prog_9_method_44_code 19 = .ok (.return_, 1) := by decide +kernel
theorem d_M_putEnd_20 : decode prog_9_method_44_code 20 = .ok (.aload_n 0, 1) := by decide +kernel
theorem d_M_putEnd_21 : decode prog_9_method_44_code 21 = .ok (.getfield 23, 3) := by decide +kernel
theorem d_M_putEnd_24 : decode prog_9_method_44_code 24 = .ok (.iload_n 2, 1) := by decide +kernel
theorem d_M_putEnd_25 : decode prog_9_method_44_code 25 = .ok (.iaload, 1) := by decide +kernel
theorem d_M_putEnd_26 : decode prog_9_method_44_code 26 = .ok (.iconst (1), 1) := by decide +kernel
theorem d_M_putEnd_27 : decode prog_9_method_44_code 27 = .ok (.if_icmp .ne (14), 3) := by decide +kernel
theorem d_M_putEnd_30 : decode prog_9_method_44_code 30 = .ok (.aload_n 0, 1) := by decide +kernel
theorem d_M_putEnd_31 : decode prog_9_method_44_code 31 = .ok (.getfield 23, 3) := by decide +kernel
theorem d_M_putEnd_34 : decode prog_9_method_44_code 34 = .ok (.iload_n 2, 1) := by decide +kernel
theorem d_M_putEnd_35 : decode prog_9_method_44_code 35 = .ok (.iconst (3), 1) := by decide +kernel
theorem d_M_putEnd_36 : decode prog_9_method_44_code 36 = .ok (.iadd, 1) := by decide +kernel
theorem d_M_putEnd_37 : decode prog_9_method_44_code 37 = .ok (.iaload, 1) := by decide +kernel
theorem d_M_putEnd_38 : decode prog_9_method_44_code 38 = .ok (.goto (8), 3) := by decide +kernel
theorem d_M_putEnd_41 : decode prog_9_method_44_code 41 = .ok (.aload_n 0, 1) := by decide +kernel
theorem d_M_putEnd_42 : decode prog_9_method_44_code 42 = .ok (.iload_n 1, 1) := by decide +kernel
theorem d_M_putEnd_43 : decode prog_9_method_44_code 43 = .ok (.invokevirtual 179, 3) := by decide +kernel
theorem d_M_putEnd_46 : decode prog_9_method_44_code 46 = .ok (.istore_n 3, 1) := by decide +kernel
theorem d_M_putEnd_47 : decode prog_9_method_44_code 47 = .ok (.iload_n 3, 1) := by decide +kernel
theorem d_M_putEnd_48 : decode prog_9_method_44_code 48 = .ok (.ifCond .lt (19), 3) := by decide +kernel
theorem d_M_putEnd_51 : decode prog_9_method_44_code 51 = .ok (.aload_n 0, 1) := by decide +kernel
theorem d_M_putEnd_52 : decode prog_9_method_44_code 52 = .ok (.bipush (62), 2) := by decide +kernel
theorem d_M_putEnd_54 : decode prog_9_method_44_code 54 = .ok (.invokevirtual 204, 3) := by decide +kernel
theorem d_M_putEnd_57 : decode prog_9_method_44_code 57 = .ok (.aload_n 0, 1) := by decide +kernel
theorem d_M_putEnd_58 : decode prog_9_method_44_code 58 = .ok (.aload_n 0, 1) := by decide +kernel
theorem d_M_putEnd_59 : decode prog_9_method_44_code 59 = .ok (.iload_n 3, 1) := by decide +kernel
theorem d_M_putEnd_60 : decode prog_9_method_44_code 60 = .ok (.invokevirtual 216, 3) := by decide +kernel
theorem d_M_putEnd_63 : decode prog_9_method_44_code 63 = .ok (.invokevirtual 207, 3) := by decide +kernel
theorem d_M_putEnd_66 : decode prog_9_method_44_code 66 = .ok (.return_, 1) := by decide +kernel
theorem d_M_putEnd_67 : decode prog_9_method_44_code 67 = .ok (.aload_n 0, 1) := by decide +kernel
theorem d_M_putEnd_68 : decode prog_9_method_44_code 68 = .ok (.bipush (97), 2) := by decide +kernel
theorem d_M_putEnd_70 : decode prog_9_method_44_code 70 = .ok (.aload_n 0, 1) := by decide +kernel
theorem d_M_putEnd_71 : decode prog_9_method_44_code 71 = .ok (.getfield 23, 3) := by decide +kernel
theorem d_M_putEnd_74 : decode prog_9_method_44_code 74 = .ok (.iload_n 2, 1) := by decide +kernel
theorem d_M_putEnd_75 : decode prog_9_method_44_code 75 = .ok (.iconst (1), 1) := by decide +kernel
theorem d_M_putEnd_76 : decode prog_9_method_44_code 76 = .ok (.iadd, 1) := by decide +kernel
theorem d_M_putEnd_77 : decode prog_9_method_44_code 77 = .ok (.iconst (1), 1) := by decide +kernel
theorem d_M_putEnd_78 : decode prog_9_method_44_code 78 = .ok (.iadd, 1) := by decide +kernel
theorem d_M_putEnd_79 : decode prog_9_method_44_code 79 = .ok (.iaload, 1) := by decide +kernel
theorem d_M_putEnd_80 : decode prog_9_method_44_code 80 = .ok (.iadd, 1) := by decide +kernel
theorem d_M_putEnd_81 : decode prog_9_method_44_code 81 = .ok (.invokevirtual 204, 3) := by decide +kernel
theorem d_M_putEnd_84 : decode prog_9_method_44_code 84 = .ok (.aload_n 0, 1) := by decide +kernel
theorem d_M_putEnd_85 : decode prog_9_method_44_code 85 = .ok (.bipush (63), 2) := by decide +kernel
theorem d_M_putEnd_87 : decode prog_9_method_44_code 87 = .ok (.invokevirtual 204, 3) := by decide +kernel
theorem d_M_putEnd_90 : decode prog_9_method_44_code 90 = .ok (.aload_n 0, 1) := by decide +kernel
theorem d_M_putEnd_91 : decode prog_9_method_44_code 91 = .ok (.aload_n 0, 1) := by decide +kernel
theorem d_M_putEnd_92 : decode prog_9_method_44_code 92 = .ok (.aload_n 0, 1) := by decide +kernel
theorem d_M_putEnd_93 : decode prog_9_method_44_code 93 = .ok (.getfield 23, 3) := by decide +kernel
theorem d_M_putEnd_96 : decode prog_9_method_44_code 96 = .ok (.iload_n 2, 1) := by decide +kernel
theorem d_M_putEnd_97 : decode prog_9_method_44_code 97 = .ok (.iconst (3), 1) := by decide +kernel
theorem d_M_putEnd_98 : decode prog_9_method_44_code 98 = .ok (.iadd, 1) := by decide +kernel
theorem d_M_putEnd_99 : decode prog_9_method_44_code 99 = .ok (.iaload, 1) := by decide +kernel
theorem d_M_putEnd_100 : decode prog_9_method_44_code 100 = .ok (.invokevirtual 216, 3) := by decide +kernel
theorem d_M_putEnd_103 : decode prog_9_method_44_code 103 = .ok (.invokevirtual 207, 3) := by decide +kernel
theorem d_M_putEnd_106 : decode prog_9_method_44_code 106 = .ok (.aload_n 0, 1) := by decide +kernel
theorem d_M_putEnd_107 : decode prog_9_method_44_code 107 = .ok (.bipush (58), 2) := by decide +kernel
theorem d_M_putEnd_109 : decode prog_9_method_44_code 109 = .ok (.invokevirtual 204, 3) := by decide +kernel
theorem d_M_putEnd_112 : decode prog_9_method_44_code 112 = .ok (.aload_n 0, 1) := by decide +kernel
theorem d_M_putEnd_113 : decode prog_9_method_44_code 113 = .ok (.aload_n 0, 1) := by decide +kernel
theorem d_M_putEnd_114 : decode prog_9_method_44_code 114 = .ok (.aload_n 0, 1) := by decide +kernel
theorem d_M_putEnd_115 : decode prog_9_method_44_code 115 = .ok (.getfield 23, 3) := by decide +kernel
theorem d_M_putEnd_118 : decode prog_9_method_44_code 118 = .ok (.iload_n 2, 1) := by decide +kernel
theorem d_M_putEnd_119 : decode prog_9_method_44_code 119 = .ok (.iconst (4), 1) := by decide +kernel
theorem d_M_putEnd_120 : decode prog_9_method_44_code 120 = .ok (.iadd, 1) := by decide +kernel
theorem d_M_putEnd_121 : decode prog_9_method_44_code 121 = .ok (.iaload, 1) := by decide +kernel
theorem d_M_putEnd_122 : decode prog_9_method_44_code 122 = .ok (.invokevirtual 216, 3) := by decide +kernel
theorem d_M_putEnd_125 : decode prog_9_method_44_code 125 = .ok (.invokevirtual 207, 3) := by decide +kernel
theorem d_M_putEnd_128 : decode prog_9_method_44_code 128 = .ok (.return_, 1) := by decide +kernel
theorem d_M_run_0 : decode prog_9_method_52_code 0 = .ok (.aload_n 0, 1) := by decide +kernel
theorem d_M_run_1 : decode prog_9_method_52_code 1 = .ok (.iload_n 1, 1) := by decide +kernel
theorem d_M_run_2 : decode prog_9_method_52_code 2 = .ok (.ifCond .lt (10), 3) := by decide +kernel
theorem d_M_run_5 : decode prog_9_method_52_code 5 = .ok (.iload_n 1, 1) := by decide +kernel
theorem d_M_run_6 : decode prog_9_method_52_code 6 = .ok (.sipush (20000), 3) := by decide +kernel
theorem d_M_run_9 : decode prog_9_method_52_code 9 = .ok (.if_icmp .le (7), 3) := by decide +kernel
theorem d_M_run_12 : decode prog_9_method_52_code 12 = .ok (.iconst (1), 1) := by decide +kernel
theorem d_M_run_13 : decode prog_9_method_52_code 13 = .ok (.goto (4), 3) := by decide +kernel
theorem d_M_run_16 : decode prog_9_method_52_code 16 = .ok (.iconst (0), 1) := by decide +kernel
theorem d_M_run_17 : decode prog_9_method_52_code 17 = .ok (.putfield 66, 3) := by decide +kernel
theorem d_M_run_20 : decode prog_9_method_52_code 20 = .ok (.aload_n 0, 1) := by decide +kernel
theorem d_M_run_21 : decode prog_9_method_52_code 21 = .ok (.getfield 66, 3) := by decide +kernel
theorem d_M_run_24 : decode prog_9_method_52_code 24 = .ok (.ifCond .le (5), 3) := by decide +kernel
theorem d_M_run_27 : decode prog_9_method_52_code 27 = .ok (.iconst (0), 1) := by decide +kernel
theorem d_M_run_28 : decode prog_9_method_52_code 28 = .ok (.ireturn, 1) := by decide +kernel
theorem d_M_run_29 : decode prog_9_method_52_code 29 = .ok (.iconst (0), 1) := by decide +kernel
theorem d_M_run_30 : decode prog_9_method_52_code 30 = .ok (.istore_n 2, 1) := by decide +kernel
theorem d_M_run_31 : decode prog_9_method_52_code 31 = .ok (.iload_n 2, 1) := by decide +kernel
theorem d_M_run_32 : decode prog_9_method_52_code 32 = .ok (.bipush (8), 2) := by decide +kernel
theorem d_M_run_34 : decode prog_9_method_52_code 34 = .ok (.if_icmp .ge (16), 3) := by decide +kernel
theorem d_M_run_37 : decode prog_9_method_52_code 37 = .ok (.aload_n 0, 1) := by decide +kernel
theorem d_M_run_38 : decode prog_9_method_52_code 38 = .ok (.getfield 63, 3) := by decide +kernel
theorem d_M_run_41 : decode prog_9_method_52_code 41 = .ok (.iload_n 2, 1) := by decide +kernel
theorem d_M_run_42 : decode prog_9_method_52_code 42 = .ok (.iconst (0), 1) := by decide +kernel
theorem d_M_run_43 : decode prog_9_method_52_code 43 = .ok (.iastore, 1) := by decide +kernel
theorem d_M_run_44 : decode prog_9_method_52_code 44 = .ok (.iinc 2 (1), 3) := by decide +kernel
theorem d_M_run_47 : decode prog_9_method_52_code 47 = .ok (.goto (-16), 3) := by decide +kernel
theorem d_M_run_50 : decode prog_9_method_52_code 50 = .ok (.aload_n 0, 1) := by decide +kernel
theorem d_M_run_51 : decode prog_9_method_52_code 51 = .ok (.iconst (0), 1) := by decide +kernel
theorem d_M_run_52 : decode prog_9_method_52_code 52 = .ok (.putfield 228, 3) := by decide +kernel
theorem d_M_run_55 : decode prog_9_method_52_code 55 = .ok (.iconst (0), 1) := by decide +kernel
theorem d_M_run_56 : decode prog_9_method_52_code 56 = .ok (.istore_n 2, 1) := by decide +kernel
theorem d_M_run_57 : decode prog_9_method_52_code 57 = .ok (.aload_n 0, 1) := by decide +kernel
theorem d_M_run_58 : decode prog_9_method_52_code 58 = .ok (.getfield 26, 3) := by decide +kernel
theorem d_M_run_61 : decode prog_9_method_52_code 61 = .ok (.iconst (0), 1) := by decide +kernel
theorem d_M_run_62 : decode prog_9_method_52_code 62 = .ok (.iaload, 1) := by decide +kernel
theorem d_M_run_63 : decode prog_9_method_52_code 63 = .ok (.istore_n 3, 1) := by decide +kernel
theorem d_M_run_64 : decode prog_9_method_52_code 64 = .ok (.iconst (0), 1) := by decide +kernel
theorem d_M_run_65 : decode prog_9_method_52_code 65 = .ok (.istore 4, 2) := by decide +kernel
theorem d_M_run_67 : decode prog_9_method_52_code 67 = .ok (.iload 4, 2) := by decide +kernel
theorem d_M_run_69 : decode prog_9_method_52_code 69 = .ok (.iload_n 1, 1) := by decide +kernel
theorem d_M_run_70 : decode prog_9_method_52_code 70 = .ok (.if_icmp .ge (132), 3) := by decide +kernel
theorem d_M_run_73 : decode prog_9_method_52_code 73 = .ok (.iload_n 3, 1) := by decide +kernel
theorem d_M_run_74 : decode prog_9_method_52_code 74 = .ok (.aload_n 0, 1) := by decide +kernel
theorem d_M_run_75 : decode prog_9_method_52_code 75 = .ok (.getfield 26, 3) := by decide +kernel
theorem d_M_run_78 : decode prog_9_method_52_code 78 = .ok (.iload_n 2, 1) := by decide +kernel
theorem d_M_run_79 : decode prog_9_method_52_code 79 = .ok (.iconst (1), 1) := by decide +kernel
theorem d_M_run_80 : decode prog_9_method_52_code 80 = .ok (.iadd, 1) := by decide +kernel
