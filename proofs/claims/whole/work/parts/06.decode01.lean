theorem d_V_join_11 : decode prog_7_method_3_code 11 = .ok (.getfield 9, 3) := by decide +kernel
theorem d_V_join_14 : decode prog_7_method_3_code 14 = .ok (.iload_n 3, 1) := by decide +kernel
theorem d_V_join_15 : decode prog_7_method_3_code 15 = .ok (.baload, 1) := by decide +kernel
theorem d_V_join_16 : decode prog_7_method_3_code 16 = .ok (.ifCond .ne (36), 3) := by decide +kernel
theorem d_V_join_19 : decode prog_7_method_3_code 19 = .ok (.aload_n 1, 1) := by decide +kernel
theorem d_V_join_20 : decode prog_7_method_3_code 20 = .ok (.getfield 9, 3) := by decide +kernel
theorem d_V_join_23 : decode prog_7_method_3_code 23 = .ok (.iload_n 3, 1) := by decide +kernel
theorem d_V_join_24 : decode prog_7_method_3_code 24 = .ok (.baload, 1) := by decide +kernel
theorem d_V_join_25 : decode prog_7_method_3_code 25 = .ok (.ifCond .ne (18), 3) := by decide +kernel
theorem d_V_join_28 : decode prog_7_method_3_code 28 = .ok (.aload_n 1, 1) := by decide +kernel
theorem d_V_join_29 : decode prog_7_method_3_code 29 = .ok (.getfield 15, 3) := by decide +kernel
theorem d_V_join_32 : decode prog_7_method_3_code 32 = .ok (.iload_n 3, 1) := by decide +kernel
theorem d_V_join_33 : decode prog_7_method_3_code 33 = .ok (.iaload, 1) := by decide +kernel
theorem d_V_join_34 : decode prog_7_method_3_code 34 = .ok (.aload_n 0, 1) := by decide +kernel
theorem d_V_join_35 : decode prog_7_method_3_code 35 = .ok (.getfield 15, 3) := by decide +kernel
theorem d_V_join_38 : decode prog_7_method_3_code 38 = .ok (.iload_n 3, 1) := by decide +kernel
theorem d_V_join_39 : decode prog_7_method_3_code 39 = .ok (.iaload, 1) := by decide +kernel
theorem d_V_join_40 : decode prog_7_method_3_code 40 = .ok (.if_icmp .eq (12), 3) := by decide +kernel
theorem d_V_join_43 : decode prog_7_method_3_code 43 = .ok (.aload_n 0, 1) := by decide +kernel
theorem d_V_join_44 : decode prog_7_method_3_code 44 = .ok (.getfield 9, 3) := by decide +kernel
theorem d_V_join_47 : decode prog_7_method_3_code 47 = .ok (.iload_n 3, 1) := by decide +kernel
theorem d_V_join_48 : decode prog_7_method_3_code 48 = .ok (.iconst (1), 1) := by decide +kernel
theorem d_V_join_49 : decode prog_7_method_3_code 49 = .ok (.bastore, 1) := by decide +kernel
theorem d_V_join_50 : decode prog_7_method_3_code 50 = .ok (.iconst (1), 1) := by decide +kernel
theorem d_V_join_51 : decode prog_7_method_3_code 51 = .ok (.istore_n 2, 1) := by decide +kernel
theorem d_V_join_52 : decode prog_7_method_3_code 52 = .ok (.iinc 3 (1), 3) := by decide +kernel
theorem d_V_join_55 : decode prog_7_method_3_code 55 = .ok (.goto (-51), 3) := by decide +kernel
theorem d_V_join_58 : decode prog_7_method_3_code 58 = .ok (.iload_n 2, 1) := by decide +kernel
theorem d_V_join_59 : decode prog_7_method_3_code 59 = .ok (.ireturn, 1) := by decide +kernel
theorem d_V_knows_0 : decode prog_7_method_4_code 0 = .ok (.aload_n 1, 1) := by decide +kernel
theorem d_V_knows_1 : decode prog_7_method_4_code 1 = .ok (.getfield 19, 3) := by decide +kernel
theorem d_V_knows_4 : decode prog_7_method_4_code 4 = .ok (.iload_n 2, 1) := by decide +kernel
theorem d_V_knows_5 : decode prog_7_method_4_code 5 = .ok (.baload, 1) := by decide +kernel
theorem d_V_knows_6 : decode prog_7_method_4_code 6 = .ok (.ifCond .eq (17), 3) := by decide +kernel
theorem d_V_knows_9 : decode prog_7_method_4_code 9 = .ok (.aload_n 0, 1) := by decide +kernel
theorem d_V_knows_10 : decode prog_7_method_4_code 10 = .ok (.getfield 9, 3) := by decide +kernel
theorem d_V_knows_13 : decode prog_7_method_4_code 13 = .ok (.aload_n 1, 1) := by decide +kernel
theorem d_V_knows_14 : decode prog_7_method_4_code 14 = .ok (.getfield 24, 3) := by decide +kernel
theorem d_V_knows_17 : decode prog_7_method_4_code 17 = .ok (.iload_n 2, 1) := by decide +kernel
theorem d_V_knows_18 : decode prog_7_method_4_code 18 = .ok (.iaload, 1) := by decide +kernel
theorem d_V_knows_19 : decode prog_7_method_4_code 19 = .ok (.baload, 1) := by decide +kernel
theorem d_V_knows_20 : decode prog_7_method_4_code 20 = .ok (.ifCond .ne (7), 3) := by decide +kernel
theorem d_V_knows_23 : decode prog_7_method_4_code 23 = .ok (.iconst (1), 1) := by decide +kernel
theorem d_V_knows_24 : decode prog_7_method_4_code 24 = .ok (.goto (4), 3) := by decide +kernel
theorem d_V_knows_27 : decode prog_7_method_4_code 27 = .ok (.iconst (0), 1) := by decide +kernel
theorem d_V_knows_28 : decode prog_7_method_4_code 28 = .ok (.ireturn, 1) := by decide +kernel
theorem d_V_numberOf_0 : decode prog_7_method_5_code 0 = .ok (.aload_n 1, 1) := by decide +kernel
theorem d_V_numberOf_1 : decode prog_7_method_5_code 1 = .ok (.getfield 24, 3) := by decide +kernel
theorem d_V_numberOf_4 : decode prog_7_method_5_code 4 = .ok (.iload_n 2, 1) := by decide +kernel
theorem d_V_numberOf_5 : decode prog_7_method_5_code 5 = .ok (.iaload, 1) := by decide +kernel
theorem d_V_numberOf_6 : decode prog_7_method_5_code 6 = .ok (.istore_n 3, 1) := by decide +kernel
theorem d_V_numberOf_7 : decode prog_7_method_5_code 7 = .ok (.aload_n 1, 1) := by decide +kernel
theorem d_V_numberOf_8 : decode prog_7_method_5_code 8 = .ok (.getfield 19, 3) := by decide +kernel
theorem d_V_numberOf_11 : decode prog_7_method_5_code 11 = .ok (.iload_n 2, 1) := by decide +kernel
theorem d_V_numberOf_12 : decode prog_7_method_5_code 12 = .ok (.baload, 1) := by decide +kernel
theorem d_V_numberOf_13 : decode prog_7_method_5_code 13 = .ok (.ifCond .eq (12), 3) := by decide +kernel
theorem d_V_numberOf_16 : decode prog_7_method_5_code 16 = .ok (.aload_n 0, 1) := by decide +kernel
theorem d_V_numberOf_17 : decode prog_7_method_5_code 17 = .ok (.getfield 15, 3) := by decide +kernel
theorem d_V_numberOf_20 : decode prog_7_method_5_code 20 = .ok (.iload_n 3, 1) := by decide +kernel
theorem d_V_numberOf_21 : decode prog_7_method_5_code 21 = .ok (.iaload, 1) := by decide +kernel
theorem d_V_numberOf_22 : decode prog_7_method_5_code 22 = .ok (.goto (4), 3) := by decide +kernel
theorem d_V_numberOf_25 : decode prog_7_method_5_code 25 = .ok (.iload_n 3, 1) := by decide +kernel
theorem d_V_numberOf_26 : decode prog_7_method_5_code 26 = .ok (.ireturn, 1) := by decide +kernel
theorem d_M_operator_0 : decode prog_9_method_14_code 0 = .ok (.iload_n 0, 1) := by decide +kernel
theorem d_M_operator_1 : decode prog_9_method_14_code 1 = .ok (.lookupswitch (115) #[(37, 99), (38, 101), (42, 95), (43, 91), (45, 93), (47, 97), (60, 109), (61, 112), (94, 106), (124, 103)], 91) := by decide +kernel
theorem d_M_operator_92 : decode prog_9_method_14_code 92 = .ok (.iconst (0), 1) := by decide +kernel
theorem d_M_operator_93 : decode prog_9_method_14_code 93 = .ok (.ireturn, 1) := by decide +kernel
theorem d_M_operator_94 : decode prog_9_method_14_code 94 = .ok (.iconst (1), 1) := by decide +kernel
theorem d_M_operator_95 : decode prog_9_method_14_code 95 = .ok (.ireturn, 1) := by decide +kernel
theorem d_M_operator_96 : decode prog_9_method_14_code 96 = .ok (.iconst (2), 1) := by decide +kernel
theorem d_M_operator_97 : decode prog_9_method_14_code 97 = .ok (.ireturn, 1) := by decide +kernel
theorem d_M_operator_98 : decode prog_9_method_14_code 98 = .ok (.iconst (3), 1) := by decide +kernel
theorem d_M_operator_99 : decode prog_9_method_14_code 99 = .ok (.ireturn, 1) := by decide +kernel
theorem d_M_operator_100 : decode prog_9_method_14_code 100 = .ok (.iconst (4), 1) := by decide +kernel
theorem d_M_operator_101 : decode prog_9_method_14_code 101 = .ok (.ireturn, 1) := by decide +kernel
theorem d_M_operator_102 : decode prog_9_method_14_code 102 = .ok (.iconst (5), 1) := by decide +kernel
theorem d_M_operator_103 : decode prog_9_method_14_code 103 = .ok (.ireturn, 1) := by decide +kernel
theorem d_M_operator_104 : decode prog_9_method_14_code 104 = .ok (.bipush (6), 2) := by decide +kernel
theorem d_M_operator_106 : decode prog_9_method_14_code 106 = .ok (.ireturn, 1) := by decide +kernel
theorem d_M_operator_107 : decode prog_9_method_14_code 107 = .ok (.bipush (7), 2) := by decide +kernel
theorem d_M_operator_109 : decode prog_9_method_14_code 109 = .ok (.ireturn, 1) := by decide +kernel
theorem d_M_operator_110 : decode prog_9_method_14_code 110 = .ok (.bipush (8), 2) := by decide +kernel
theorem d_M_operator_112 : decode prog_9_method_14_code 112 = .ok (.ireturn, 1) := by decide +kernel
theorem d_M_operator_113 : decode prog_9_method_14_code 113 = .ok (.bipush (9), 2) := by decide +kernel
theorem d_M_operator_115 : decode prog_9_method_14_code 115 = .ok (.ireturn, 1) := by decide +kernel
theorem d_M_operator_116 : decode prog_9_method_14_code 116 = .ok (.iconst (-1), 1) := by decide +kernel
theorem d_M_operator_117 : decode prog_9_method_14_code 117 = .ok (.ireturn, 1) := by decide +kernel
theorem d_M_sign_0 : decode prog_9_method_15_code 0 = .ok (.iload_n 0, 1) := by decide +kernel
theorem d_M_sign_1 : decode prog_9_method_15_code 1 = .ok (.ifCond .ne (8), 3) := by decide +kernel
theorem d_M_sign_4 : decode prog_9_method_15_code 4 = .ok (.bipush (43), 2) := by decide +kernel
theorem d_M_sign_6 : decode prog_9_method_15_code 6 = .ok (.goto (88), 3) := by decide +kernel
theorem d_M_sign_9 : decode prog_9_method_15_code 9 = .ok (.iload_n 0, 1) := by decide +kernel
theorem d_M_sign_10 : decode prog_9_method_15_code 10 = .ok (.iconst (1), 1) := by decide +kernel
theorem d_M_sign_11 : decode prog_9_method_15_code 11 = .ok (.if_icmp .ne (8), 3) := by decide +kernel
theorem d_M_sign_14 : decode prog_9_method_15_code 14 = .ok (.bipush (45), 2) := by decide +kernel
theorem d_M_sign_16 : decode prog_9_method_15_code 16 = .ok (.goto (78), 3) := by decide +kernel
theorem d_M_sign_19 : decode prog_9_method_15_code 19 = .ok (.iload_n 0, 1) := by decide +kernel
theorem d_M_sign_20 : decode prog_9_method_15_code 20 = .ok (.iconst (2), 1) := by decide +kernel
theorem d_M_sign_21 : decode prog_9_method_15_code 21 = .ok (.if_icmp .ne (8), 3) := by decide +kernel
theorem d_M_sign_24 : decode prog_9_method_15_code 24 = .ok (.bipush (42), 2) := by decide +kernel
theorem d_M_sign_26 : decode prog_9_method_15_code 26 = .ok (.goto (68), 3) := by decide +kernel
theorem d_M_sign_29 : decode prog_9_method_15_code 29 = .ok (.iload_n 0, 1) := by decide +kernel
theorem d_M_sign_30 : decode prog_9_method_15_code 30 = .ok (.iconst (3), 1) := by decide +kernel
theorem d_M_sign_31 : decode prog_9_method_15_code 31 = .ok (.if_icmp .ne (8), 3) := by decide +kernel
theorem d_M_sign_34 : decode prog_9_method_15_code 34 = .ok (.bipush (47), 2) := by decide +kernel
theorem d_M_sign_36 : decode prog_9_method_15_code 36 = .ok (.goto (58), 3) := by decide +kernel
theorem d_M_sign_39 : decode prog_9_method_15_code 39 = .ok (.iload_n 0, 1) := by decide +kernel
theorem d_M_sign_40 : decode prog_9_method_15_code 40 = .ok (.iconst (4), 1) := by decide +kernel
theorem d_M_sign_41 : decode prog_9_method_15_code 41 = .ok (.if_icmp .ne (8), 3) := by decide +kernel
theorem d_M_sign_44 : decode prog_9_method_15_code 44 = .ok (.bipush (37), 2) := by decide +kernel
theorem d_M_sign_46 : decode prog_9_method_15_code 46 = .ok (.goto (48), 3) := by decide +kernel
theorem d_M_sign_49 : decode prog_9_method_15_code 49 = .ok (.iload_n 0, 1) := by decide +kernel
theorem d_M_sign_50 : decode prog_9_method_15_code 50 = .ok (.iconst (5), 1) := by decide +kernel
theorem d_M_sign_51 : decode prog_9_method_15_code 51 = .ok (.if_icmp .ne (8), 3) := by decide +kernel
theorem d_M_sign_54 : decode prog_9_method_15_code 54 = .ok (.bipush (38), 2) := by decide +kernel
theorem d_M_sign_56 : decode prog_9_method_15_code 56 = .ok (.goto (38), 3) := by decide +kernel
theorem d_M_sign_59 : decode prog_9_method_15_code 59 = .ok (.iload_n 0, 1) := by decide +kernel
theorem d_M_sign_60 : decode prog_9_method_15_code 60 = .ok (.bipush (6), 2) := by decide +kernel
theorem d_M_sign_62 : decode prog_9_method_15_code 62 = .ok (.if_icmp .ne (8), 3) := by decide +kernel
theorem d_M_sign_65 : decode prog_9_method_15_code 65 = .ok (.bipush (124), 2) := by decide +kernel
theorem d_M_sign_67 : decode prog_9_method_15_code 67 = .ok (.goto (27), 3) := by decide +kernel
theorem d_M_sign_70 : decode prog_9_method_15_code 70 = .ok (.iload_n 0, 1) := by decide +kernel
theorem d_M_sign_71 : decode prog_9_method_15_code 71 = .ok (.bipush (7), 2) := by decide +kernel
theorem d_M_sign_73 : decode prog_9_method_15_code 73 = .ok (.if_icmp .ne (8), 3) := by decide +kernel
theorem d_M_sign_76 : decode prog_9_method_15_code 76 = .ok (.bipush (94), 2) := by decide +kernel
theorem d_M_sign_78 : decode prog_9_method_15_code 78 = .ok (.goto (16), 3) := by decide +kernel
theorem d_M_sign_81 : decode prog_9_method_15_code 81 = .ok (.iload_n 0, 1) := by decide +kernel
theorem d_M_sign_82 : decode prog_9_method_15_code 82 = .ok (.bipush (8), 2) := by decide +kernel
theorem d_M_sign_84 : decode prog_9_method_15_code 84 = .ok (.if_icmp .ne (8), 3) := by decide +kernel
theorem d_M_sign_87 : decode prog_9_method_15_code 87 = .ok (.bipush (60), 2) := by decide +kernel
theorem d_M_sign_89 : decode prog_9_method_15_code 89 = .ok (.goto (5), 3) := by decide +kernel
theorem d_M_sign_92 : decode prog_9_method_15_code 92 = .ok (.bipush (61), 2) := by decide +kernel
theorem d_M_sign_94 : decode prog_9_method_15_code 94 = .ok (.ireturn, 1) := by decide +kernel
theorem d_M_fault_0 : decode prog_9_method_21_code 0 = .ok (.aload_n 0, 1) := by decide +kernel
theorem d_M_fault_1 : decode prog_9_method_21_code 1 = .ok (.iconst (0), 1) := by decide +kernel
theorem d_M_fault_2 : decode prog_9_method_21_code 2 = .ok (.putfield 66, 3) := by decide +kernel
theorem d_M_fault_5 : decode prog_9_method_21_code 5 = .ok (.aload_n 0, 1) := by decide +kernel
theorem d_M_fault_6 : decode prog_9_method_21_code 6 = .ok (.getfield 74, 3) := by decide +kernel
theorem d_M_fault_9 : decode prog_9_method_21_code 9 = .ok (.ireturn, 1) := by decide +kernel
theorem d_M_place_0 : decode prog_9_method_22_code 0 = .ok (.aload_n 0, 1) := by decide +kernel
theorem d_M_place_1 : decode prog_9_method_22_code 1 = .ok (.iconst (0), 1) := by decide +kernel
theorem d_M_place_2 : decode prog_9_method_22_code 2 = .ok (.putfield 66, 3) := by decide +kernel
theorem d_M_place_5 : decode prog_9_method_22_code 5 = .ok (.aload_n 0, 1) := by decide +kernel
theorem d_M_place_6 : decode prog_9_method_22_code 6 = .ok (.getfield 13, 3) := by decide +kernel
theorem d_M_place_9 : decode prog_9_method_22_code 9 = .ok (.ireturn, 1) := by decide +kernel
theorem d_M_reckoned_0 : decode prog_9_method_23_code 0 = .ok (.iload_n 0, 1) := by decide +kernel
theorem d_M_reckoned_1 : decode prog_9_method_23_code 1 = .ok (.tableswitch (110) (0) (8) #[51, 55, 59, 63, 75, 87, 91, 95, 99], 51) := by decide +kernel
theorem d_M_reckoned_52 : decode prog_9_method_23_code 52 = .ok (.iload_n 1, 1) := by decide +kernel
theorem d_M_reckoned_53 : decode prog_9_method_23_code 53 = .ok (.iload_n 2, 1) := by decide +kernel
theorem d_M_reckoned_54 : decode prog_9_method_23_code 54 = .ok (.iadd, 1) := by decide +kernel
theorem d_M_reckoned_55 : decode prog_9_method_23_code 55 = .ok (.ireturn, 1) := by decide +kernel
theorem d_M_reckoned_56 : decode prog_9_method_23_code 56 = .ok (.iload_n 1, 1) := by decide +kernel
theorem d_M_reckoned_57 : decode prog_9_method_23_code 57 = .ok (.iload_n 2, 1) := by decide +kernel
theorem d_M_reckoned_58 : decode prog_9_method_23_code 58 = .ok (.isub, 1) := by decide +kernel
theorem d_M_reckoned_59 : decode prog_9_method_23_code 59 = .ok (.ireturn, 1) := by decide +kernel
theorem d_M_reckoned_60 : decode prog_9_method_23_code 60 = .ok (.iload_n 1, 1) := by decide +kernel
theorem d_M_reckoned_61 : decode prog_9_method_23_code 61 = .ok (.iload_n 2, 1) := by decide +kernel
theorem d_M_reckoned_62 : decode prog_9_method_23_code 62 = .ok (.imul, 1) := by decide +kernel
theorem d_M_reckoned_63 : decode prog_9_method_23_code 63 = .ok (.ireturn, 1) := by decide +kernel
theorem d_M_reckoned_64 : decode prog_9_method_23_code 64 = .ok (.iload_n 2, 1) := by decide +kernel
theorem d_M_reckoned_65 : decode prog_9_method_23_code 65 = .ok (.ifCond .ne (7), 3) := by decide +kernel
theorem d_M_reckoned_68 : decode prog_9_method_23_code 68 = .ok (.iconst (0), 1) := by decide +kernel
theorem d_M_reckoned_69 : decode prog_9_method_23_code 69 = .ok (.goto (6), 3) := by decide +kernel
theorem d_M_reckoned_72 : decode prog_9_method_23_code 72 = .ok (.iload_n 1, 1) := by decide +kernel
theorem d_M_reckoned_73 : decode prog_9_method_23_code 73 = .ok (.iload_n 2, 1) := by decide +kernel
theorem d_M_reckoned_74 : decode prog_9_method_23_code 74 = .ok (.idiv, 1) := by decide +kernel
theorem d_M_reckoned_75 : decode prog_9_method_23_code 75 = .ok (.ireturn, 1) := by decide +kernel
theorem d_M_reckoned_76 : decode prog_9_method_23_code 76 = .ok (.iload_n 2, 1) := by decide +kernel
theorem d_M_reckoned_77 : decode prog_9_method_23_code 77 = .ok (.ifCond .ne (7), 3) := by decide +kernel
theorem d_M_reckoned_80 : decode prog_9_method_23_code 80 = .ok (.iconst (0), 1) := by decide +kernel
theorem d_M_reckoned_81 : decode prog_9_method_23_code 81 = .ok (.goto (6), 3) := by decide +kernel
theorem d_M_reckoned_84 : decode prog_9_method_23_code 84 = .ok (.iload_n 1, 1) := by decide +kernel
theorem d_M_reckoned_85 : decode prog_9_method_23_code 85 = .ok (.iload_n 2, 1) := by decide +kernel
theorem d_M_reckoned_86 : decode prog_9_method_23_code 86 = .ok (.irem, 1) := by decide +kernel
theorem d_M_reckoned_87 : decode prog_9_method_23_code 87 = .ok (.ireturn, 1) := by decide +kernel
theorem d_M_reckoned_88 : decode prog_9_method_23_code 88 = .ok (.iload_n 1, 1) := by decide +kernel
theorem d_M_reckoned_89 : decode prog_9_method_23_code 89 = .ok (.iload_n 2, 1) := by decide +kernel
theorem d_M_reckoned_90 : decode prog_9_method_23_code 90 = .ok (.iand, 1) := by decide +kernel
theorem d_M_reckoned_91 : decode prog_9_method_23_code 91 = .ok (.ireturn, 1) := by decide +kernel
theorem d_M_reckoned_92 : decode prog_9_method_23_code 92 = .ok (.iload_n 1, 1) := by decide +kernel
theorem d_M_reckoned_93 : decode prog_9_method_23_code 93 = .ok (.iload_n 2, 1) := by decide +kernel
theorem d_M_reckoned_94 : decode prog_9_method_23_code 94 = .ok (.ior, 1) := by decide +kernel
theorem d_M_reckoned_95 : decode prog_9_method_23_code 95 = .ok (.ireturn, 1) := by decide +kernel
theorem d_M_reckoned_96 : decode prog_9_method_23_code 96 = .ok (.iload_n 1, 1) := by decide +kernel
theorem d_M_reckoned_97 : decode prog_9_method_23_code 97 = .ok (.iload_n 2, 1) := by decide +kernel
theorem d_M_reckoned_98 : decode prog_9_method_23_code 98 = .ok (.ixor, 1) := by decide +kernel
theorem d_M_reckoned_99 : decode prog_9_method_23_code 99 = .ok (.ireturn, 1) := by decide +kernel
theorem d_M_reckoned_100 : decode prog_9_method_23_code 100 = .ok (.iload_n 1, 1) := by decide +kernel
theorem d_M_reckoned_101 : decode prog_9_method_23_code 101 = .ok (.iload_n 2, 1) := by decide +kernel
theorem d_M_reckoned_102 : decode prog_9_method_23_code 102 = .ok (.if_icmp .ge (7), 3) := by decide +kernel
theorem d_M_reckoned_105 : decode prog_9_method_23_code 105 = .ok (.iconst (1), 1) := by decide +kernel
theorem d_M_reckoned_106 : decode prog_9_method_23_code 106 = .ok (.goto (4), 3) := by decide +kernel
theorem d_M_reckoned_109 : decode prog_9_method_23_code 109 = .ok (.iconst (0), 1) := by decide +kernel
theorem d_M_reckoned_110 : decode prog_9_method_23_code 110 = .ok (.ireturn, 1) := by decide +kernel
theorem d_M_reckoned_111 : decode prog_9_method_23_code 111 = .ok (.iload_n 1, 1) := by decide +kernel
theorem d_M_reckoned_112 : decode prog_9_method_23_code 112 = .ok (.iload_n 2, 1) := by decide +kernel
theorem d_M_reckoned_113 : decode prog_9_method_23_code 113 = .ok (.if_icmp .ne (7), 3) := by decide +kernel
theorem d_M_reckoned_116 : decode prog_9_method_23_code 116 = .ok (.iconst (1), 1) := by decide +kernel
theorem d_M_reckoned_117 : decode prog_9_method_23_code 117 = .ok (.goto (4), 3) := by decide +kernel
theorem d_M_reckoned_120 : decode prog_9_method_23_code 120 = .ok (.iconst (0), 1) := by decide +kernel
theorem d_M_reckoned_121 : decode prog_9_method_23_code 121 = .ok (.ireturn, 1) := by decide +kernel
theorem d_M_sortOf_0 : decode prog_9_method_24_code 0 = .ok (.iload_n 1, 1) := by decide +kernel
theorem d_M_sortOf_1 : decode prog_9_method_24_code 1 = .ok (.ifCond .ne (7), 3) := by decide +kernel
theorem d_M_sortOf_4 : decode prog_9_method_24_code 4 = .ok (.iconst (1), 1) := by decide +kernel
theorem d_M_sortOf_5 : decode prog_9_method_24_code 5 = .ok (.goto (9), 3) := by decide +kernel
theorem d_M_sortOf_8 : decode prog_9_method_24_code 8 = .ok (.aload_n 0, 1) := by decide +kernel
theorem d_M_sortOf_9 : decode prog_9_method_24_code 9 = .ok (.getfield 51, 3) := by decide +kernel
theorem d_M_sortOf_12 : decode prog_9_method_24_code 12 = .ok (.iload_n 2, 1) := by decide +kernel
theorem d_M_sortOf_13 : decode prog_9_method_24_code 13 = .ok (.iaload, 1) := by decide +kernel
theorem d_M_sortOf_14 : decode prog_9_method_24_code 14 = .ok (.ireturn, 1) := by decide +kernel
theorem d_M_numberOf_0 : decode prog_9_method_25_code 0 = .ok (.iload_n 1, 1) := by decide +kernel
theorem d_M_numberOf_1 : decode prog_9_method_25_code 1 = .ok (.ifCond .ne (7), 3) := by decide +kernel
theorem d_M_numberOf_4 : decode prog_9_method_25_code 4 = .ok (.iload_n 2, 1) := by decide +kernel
theorem d_M_numberOf_5 : decode prog_9_method_25_code 5 = .ok (.goto (9), 3) := by decide +kernel
theorem d_M_numberOf_8 : decode prog_9_method_25_code 8 = .ok (.aload_n 0, 1) := by decide +kernel
theorem d_M_numberOf_9 : decode prog_9_method_25_code 9 = .ok (.getfield 54, 3) := by decide +kernel
theorem d_M_numberOf_12 : decode prog_9_method_25_code 12 = .ok (.iload_n 2, 1) := by decide +kernel
theorem d_M_numberOf_13 : decode prog_9_method_25_code 13 = .ok (.iaload, 1) := by decide +kernel
theorem d_M_numberOf_14 : decode prog_9_method_25_code 14 = .ok (.ireturn, 1) := by decide +kernel
theorem d_M_beginBlock_0 : decode prog_9_method_28_code 0 = .ok (.iconst (0), 1) := by decide +kernel
theorem d_M_beginBlock_1 : decode prog_9_method_28_code 1 = .ok (.istore_n 2, 1) := by decide +kernel
theorem d_M_beginBlock_2 : decode prog_9_method_28_code 2 = .ok (.iload_n 2, 1) := by decide +kernel
theorem d_M_beginBlock_3 : decode prog_9_method_28_code 3 = .ok (.bipush (8), 2) := by decide +kernel
theorem d_M_beginBlock_5 : decode prog_9_method_28_code 5 = .ok (.if_icmp .ge (43), 3) := by decide +kernel
theorem d_M_beginBlock_8 : decode prog_9_method_28_code 8 = .ok (.aload_n 0, 1) := by decide +kernel
theorem d_M_beginBlock_9 : decode prog_9_method_28_code 9 = .ok (.getfield 51, 3) := by decide +kernel
theorem d_M_beginBlock_12 : decode prog_9_method_28_code 12 = .ok (.iload_n 2, 1) := by decide +kernel
theorem d_M_beginBlock_13 : decode prog_9_method_28_code 13 = .ok (.aload_n 0, 1) := by decide +kernel
theorem d_M_beginBlock_14 : decode prog_9_method_28_code 14 = .ok (.getfield 45, 3) := by decide +kernel
theorem d_M_beginBlock_17 : decode prog_9_method_28_code 17 = .ok (.bipush (8), 2) := by decide +kernel
theorem d_M_beginBlock_19 : decode prog_9_method_28_code 19 = .ok (.iload_n 1, 1) := by decide +kernel
theorem d_M_beginBlock_20 : decode prog_9_method_28_code 20 = .ok (.imul, 1) := by decide +kernel
theorem d_M_beginBlock_21 : decode prog_9_method_28_code 21 = .ok (.iload_n 2, 1) := by decide +kernel
theorem d_M_beginBlock_22 : decode prog_9_method_28_code 22 = .ok (.iadd, 1) := by decide +kernel
theorem d_M_beginBlock_23 : decode prog_9_method_28_code 23 = .ok (.iaload, 1) := by decide +kernel
theorem d_M_beginBlock_24 : decode prog_9_method_28_code 24 = .ok (.iastore, 1) := by decide +kernel
theorem d_M_beginBlock_25 : decode prog_9_method_28_code 25 = .ok (.aload_n 0, 1) := by decide +kernel
theorem d_M_beginBlock_26 : decode prog_9_method_28_code 26 = .ok (.getfield 54, 3) := by decide +kernel
theorem d_M_beginBlock_29 : decode prog_9_method_28_code 29 = .ok (.iload_n 2, 1) := by decide +kernel
theorem d_M_beginBlock_30 : decode prog_9_method_28_code 30 = .ok (.aload_n 0, 1) := by decide +kernel
theorem d_M_beginBlock_31 : decode prog_9_method_28_code 31 = .ok (.getfield 48, 3) := by decide +kernel
theorem d_M_beginBlock_34 : decode prog_9_method_28_code 34 = .ok (.bipush (8), 2) := by decide +kernel
theorem d_M_beginBlock_36 : decode prog_9_method_28_code 36 = .ok (.iload_n 1, 1) := by decide +kernel
theorem d_M_beginBlock_37 : decode prog_9_method_28_code 37 = .ok (.imul, 1) := by decide +kernel
theorem d_M_beginBlock_38 : decode prog_9_method_28_code 38 = .ok (.iload_n 2, 1) := by decide +kernel
theorem d_M_beginBlock_39 : decode prog_9_method_28_code 39 = .ok (.iadd, 1) := by decide +kernel
theorem d_M_beginBlock_40 : decode prog_9_method_28_code 40 = .ok (.iaload, 1) := by decide +kernel
theorem d_M_beginBlock_41 : decode prog_9_method_28_code 41 = .ok (.iastore, 1) := by decide +kernel
theorem d_M_beginBlock_42 : decode prog_9_method_28_code 42 = .ok (.iinc 2 (1), 3) := by decide +kernel
theorem d_M_beginBlock_45 : decode prog_9_method_28_code 45 = .ok (.goto (-43), 3) := by decide +kernel
theorem d_M_beginBlock_48 : decode prog_9_method_28_code 48 = .ok (.return_, 1) := by decide +kernel
theorem d_M_join_0 : decode prog_9_method_29_code 0 = .ok (.aload_n 0, 1) := by decide +kernel
theorem d_M_join_1 : decode prog_9_method_29_code 1 = .ok (.getfield 41, 3) := by decide +kernel
theorem d_M_join_4 : decode prog_9_method_29_code 4 = .ok (.iload_n 1, 1) := by decide +kernel
theorem d_M_join_5 : decode prog_9_method_29_code 5 = .ok (.baload, 1) := by decide +kernel
theorem d_M_join_6 : decode prog_9_method_29_code 6 = .ok (.ifCond .ne (7), 3) := by decide +kernel
theorem d_M_join_9 : decode prog_9_method_29_code 9 = .ok (.iconst (1), 1) := by decide +kernel
theorem d_M_join_10 : decode prog_9_method_29_code 10 = .ok (.goto (4), 3) := by decide +kernel
theorem d_M_join_13 : decode prog_9_method_29_code 13 = .ok (.iconst (0), 1) := by decide +kernel
theorem d_M_join_14 : decode prog_9_method_29_code 14 = .ok (.istore_n 2, 1) := by decide +kernel
theorem d_M_join_15 : decode prog_9_method_29_code 15 = .ok (.aload_n 0, 1) := by decide +kernel
theorem d_M_join_16 : decode prog_9_method_29_code 16 = .ok (.getfield 41, 3) := by decide +kernel
theorem d_M_join_19 : decode prog_9_method_29_code 19 = .ok (.iload_n 1, 1) := by decide +kernel
theorem d_M_join_20 : decode prog_9_method_29_code 20 = .ok (.iconst (1), 1) := by decide +kernel
theorem d_M_join_21 : decode prog_9_method_29_code 21 = .ok (.bastore, 1) := by decide +kernel
theorem d_M_join_22 : decode prog_9_method_29_code 22 = .ok (.iconst (0), 1) := by decide +kernel
theorem d_M_join_23 : decode prog_9_method_29_code 23 = .ok (.istore_n 3, 1) := by decide +kernel
theorem d_M_join_24 : decode prog_9_method_29_code 24 = .ok (.iload_n 3, 1) := by decide +kernel
theorem d_M_join_25 : decode prog_9_method_29_code 25 = .ok (.bipush (8), 2) := by decide +kernel
theorem d_M_join_27 : decode prog_9_method_29_code 27 = .ok (.if_icmp .ge (113), 3) := by decide +kernel
theorem d_M_join_30 : decode prog_9_method_29_code 30 = .ok (.bipush (8), 2) := by decide +kernel
theorem d_M_join_32 : decode prog_9_method_29_code 32 = .ok (.iload_n 1, 1) := by decide +kernel
theorem d_M_join_33 : decode prog_9_method_29_code 33 = .ok (.imul, 1) := by decide +kernel
theorem d_M_join_34 : decode prog_9_method_29_code 34 = .ok (.iload_n 3, 1) := by decide +kernel
theorem d_M_join_35 : decode prog_9_method_29_code 35 = .ok (.iadd, 1) := by decide +kernel
theorem d_M_join_36 : decode prog_9_method_29_code 36 = .ok (.istore 4, 2) := by decide +kernel
theorem d_M_join_38 : decode prog_9_method_29_code 38 = .ok (.aload_n 0, 1) := by decide +kernel
theorem d_M_join_39 : decode prog_9_method_29_code 39 = .ok (.getfield 45, 3) := by decide +kernel
theorem d_M_join_42 : decode prog_9_method_29_code 42 = .ok (.iload 4, 2) := by decide +kernel
theorem d_M_join_44 : decode prog_9_method_29_code 44 = .ok (.iaload, 1) := by decide +kernel
theorem d_M_join_45 : decode prog_9_method_29_code 45 = .ok (.ifCond .ne (34), 3) := by decide +kernel
theorem d_M_join_48 : decode prog_9_method_29_code 48 = .ok (.aload_n 0, 1) := by decide +kernel
theorem d_M_join_49 : decode prog_9_method_29_code 49 = .ok (.getfield 45, 3) := by decide +kernel
theorem d_M_join_52 : decode prog_9_method_29_code 52 = .ok (.iload 4, 2) := by decide +kernel
theorem d_M_join_54 : decode prog_9_method_29_code 54 = .ok (.aload_n 0, 1) := by decide +kernel
theorem d_M_join_55 : decode prog_9_method_29_code 55 = .ok (.getfield 51, 3) := by decide +kernel
theorem d_M_join_58 : decode prog_9_method_29_code 58 = .ok (.iload_n 3, 1) := by decide +kernel
theorem d_M_join_59 : decode prog_9_method_29_code 59 = .ok (.iaload, 1) := by decide +kernel
theorem d_M_join_60 : decode prog_9_method_29_code 60 = .ok (.iastore, 1) := by decide +kernel
theorem d_M_join_61 : decode prog_9_method_29_code 61 = .ok (.aload_n 0, 1) := by decide +kernel
theorem d_M_join_62 : decode prog_9_method_29_code 62 = .ok (.getfield 48, 3) := by decide +kernel
theorem d_M_join_65 : decode prog_9_method_29_code 65 = .ok (.iload 4, 2) := by decide +kernel
theorem d_M_join_67 : decode prog_9_method_29_code 67 = .ok (.aload_n 0, 1) := by decide +kernel
theorem d_M_join_68 : decode prog_9_method_29_code 68 = .ok (.getfield 54, 3) := by decide +kernel
theorem d_M_join_71 : decode prog_9_method_29_code 71 = .ok (.iload_n 3, 1) := by decide +kernel
theorem d_M_join_72 : decode prog_9_method_29_code 72 = .ok (.iaload, 1) := by decide +kernel
theorem d_M_join_73 : decode prog_9_method_29_code 73 = .ok (.iastore, 1) := by decide +kernel
theorem d_M_join_74 : decode prog_9_method_29_code 74 = .ok (.iconst (1), 1) := by decide +kernel
theorem d_M_join_75 : decode prog_9_method_29_code 75 = .ok (.istore_n 2, 1) := by decide +kernel
theorem d_M_join_76 : decode prog_9_method_29_code 76 = .ok (.goto (58), 3) := by decide +kernel
theorem d_M_join_79 : decode prog_9_method_29_code 79 = .ok (.aload_n 0, 1) := by decide +kernel
theorem d_M_join_80 : decode prog_9_method_29_code 80 = .ok (.getfield 45, 3) := by decide +kernel
theorem d_M_join_83 : decode prog_9_method_29_code 83 = .ok (.iload 4, 2) := by decide +kernel
theorem d_M_join_85 : decode prog_9_method_29_code 85 = .ok (.iaload, 1) := by decide +kernel
theorem d_M_join_86 : decode prog_9_method_29_code 86 = .ok (.iconst (1), 1) := by decide +kernel
theorem d_M_join_87 : decode prog_9_method_29_code 87 = .ok (.if_icmp .ne (47), 3) := by decide +kernel
theorem d_M_join_90 : decode prog_9_method_29_code 90 = .ok (.aload_n 0, 1) := by decide +kernel
theorem d_M_join_91 : decode prog_9_method_29_code 91 = .ok (.getfield 51, 3) := by decide +kernel
theorem d_M_join_94 : decode prog_9_method_29_code 94 = .ok (.iload_n 3, 1) := by decide +kernel
theorem d_M_join_95 : decode prog_9_method_29_code 95 = .ok (.iaload, 1) := by decide +kernel
theorem d_M_join_96 : decode prog_9_method_29_code 96 = .ok (.iconst (1), 1) := by decide +kernel
theorem d_M_join_97 : decode prog_9_method_29_code 97 = .ok (.if_icmp .ne (19), 3) := by decide +kernel
theorem d_M_join_100 : decode prog_9_method_29_code 100 = .ok (.aload_n 0, 1) := by decide +kernel
theorem d_M_join_101 : decode prog_9_method_29_code 101 = .ok (.getfield 54, 3) := by decide +kernel
theorem d_M_join_104 : decode prog_9_method_29_code 104 = .ok (.iload_n 3, 1) := by decide +kernel
theorem d_M_join_105 : decode prog_9_method_29_code 105 = .ok (.iaload, 1) := by decide +kernel
theorem d_M_join_106 : decode prog_9_method_29_code 106 = .ok (.aload_n 0, 1) := by decide +kernel
theorem d_M_join_107 : decode prog_9_method_29_code 107 = .ok (.getfield 48, 3) := by decide +kernel
theorem d_M_join_110 : decode prog_9_method_29_code 110 = .ok (.iload 4, 2) := by decide +kernel
theorem d_M_join_112 : decode prog_9_method_29_code 112 = .ok (.iaload, 1) := by decide +kernel
theorem d_M_join_113 : decode prog_9_method_29_code 113 = .ok (.if_icmp .eq (21), 3) := by decide +kernel
theorem d_M_join_116 : decode prog_9_method_29_code 116 = .ok (.aload_n 0, 1) := by decide +kernel
theorem d_M_join_117 : decode prog_9_method_29_code 117 = .ok (.getfield 45, 3) := by decide +kernel
theorem d_M_join_120 : decode prog_9_method_29_code 120 = .ok (.iload 4, 2) := by decide +kernel
theorem d_M_join_122 : decode prog_9_method_29_code 122 = .ok (.iconst (2), 1) := by decide +kernel
theorem d_M_join_123 : decode prog_9_method_29_code 123 = .ok (.iastore, 1) := by decide +kernel
theorem d_M_join_124 : decode prog_9_method_29_code 124 = .ok (.aload_n 0, 1) := by decide +kernel
theorem d_M_join_125 : decode prog_9_method_29_code 125 = .ok (.getfield 48, 3) := by decide +kernel
theorem d_M_join_128 : decode prog_9_method_29_code 128 = .ok (.iload 4, 2) := by decide +kernel
theorem d_M_join_130 : decode prog_9_method_29_code 130 = .ok (.iconst (0), 1) := by decide +kernel
theorem d_M_join_131 : decode prog_9_method_29_code 131 = .ok (.iastore, 1) := by decide +kernel
theorem d_M_join_132 : decode prog_9_method_29_code 132 = .ok (.iconst (1), 1) := by decide +kernel
theorem d_M_join_133 : decode prog_9_method_29_code 133 = .ok (.istore_n 2, 1) := by decide +kernel
theorem d_M_join_134 : decode prog_9_method_29_code 134 = .ok (.iinc 3 (1), 3) := by decide +kernel
theorem d_M_join_137 : decode prog_9_method_29_code 137 = .ok (.goto (-113), 3) := by decide +kernel
theorem d_M_join_140 : decode prog_9_method_29_code 140 = .ok (.iload_n 2, 1) := by decide +kernel
theorem d_M_join_141 : decode prog_9_method_29_code 141 = .ok (.ireturn, 1) := by decide +kernel
theorem d_M_thrown_0 : decode prog_9_method_2_code 0 = .ok (.aload_n 0, 1) := by decide +kernel
theorem d_M_thrown_1 : decode prog_9_method_2_code 1 = .ok (.getfield 66, 3) := by decide +kernel
theorem d_M_thrown_4 : decode prog_9_method_2_code 4 = .ok (.ireturn, 1) := by decide +kernel
theorem d_M_noBlock_0 : decode prog_9_method_33_code 0 = .ok (.iload_n 1, 1) := by decide +kernel
theorem d_M_noBlock_1 : decode prog_9_method_33_code 1 = .ok (.ifCond .lt (11), 3) := by decide +kernel
theorem d_M_noBlock_4 : decode prog_9_method_33_code 4 = .ok (.iload_n 1, 1) := by decide +kernel
theorem d_M_noBlock_5 : decode prog_9_method_33_code 5 = .ok (.aload_n 0, 1) := by decide +kernel
theorem d_M_noBlock_6 : decode prog_9_method_33_code 6 = .ok (.getfield 17, 3) := by decide +kernel
theorem d_M_noBlock_9 : decode prog_9_method_33_code 9 = .ok (.if_icmp .lt (7), 3) := by decide +kernel
theorem d_M_noBlock_12 : decode prog_9_method_33_code 12 = .ok (.iconst (1), 1) := by decide +kernel
theorem d_M_noBlock_13 : decode prog_9_method_33_code 13 = .ok (.goto (4), 3) := by decide +kernel
theorem d_M_noBlock_16 : decode prog_9_method_33_code 16 = .ok (.iconst (0), 1) := by decide +kernel
theorem d_M_noBlock_17 : decode prog_9_method_33_code 17 = .ok (.ireturn, 1) := by decide +kernel
