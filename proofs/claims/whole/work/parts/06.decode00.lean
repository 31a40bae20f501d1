theorem d_C_input_0 : decode prog_1_method_14_code 0 = .ok (.aload_n 0, 1) := by decide +kernel
theorem d_C_input_1 : decode prog_1_method_14_code 1 = .ok (.getfield 40, 3) := by decide +kernel
theorem d_C_input_4 : decode prog_1_method_14_code 4 = .ok (.getfield 134, 3) := by decide +kernel
theorem d_C_input_7 : decode prog_1_method_14_code 7 = .ok (.bipush (32), 2) := by decide +kernel
theorem d_C_input_9 : decode prog_1_method_14_code 9 = .ok (.if_icmp .lt (5), 3) := by decide +kernel
theorem d_C_input_12 : decode prog_1_method_14_code 12 = .ok (.iconst (-1), 1) := by decide +kernel
theorem d_C_input_13 : decode prog_1_method_14_code 13 = .ok (.ireturn, 1) := by decide +kernel
theorem d_C_input_14 : decode prog_1_method_14_code 14 = .ok (.aload_n 0, 1) := by decide +kernel
theorem d_C_input_15 : decode prog_1_method_14_code 15 = .ok (.getfield 40, 3) := by decide +kernel
theorem d_C_input_18 : decode prog_1_method_14_code 18 = .ok (.getfield 137, 3) := by decide +kernel
theorem d_C_input_21 : decode prog_1_method_14_code 21 = .ok (.aload_n 0, 1) := by decide +kernel
theorem d_C_input_22 : decode prog_1_method_14_code 22 = .ok (.getfield 40, 3) := by decide +kernel
theorem d_C_input_25 : decode prog_1_method_14_code 25 = .ok (.getfield 134, 3) := by decide +kernel
theorem d_C_input_28 : decode prog_1_method_14_code 28 = .ok (.iload_n 1, 1) := by decide +kernel
theorem d_C_input_29 : decode prog_1_method_14_code 29 = .ok (.iastore, 1) := by decide +kernel
theorem d_C_input_30 : decode prog_1_method_14_code 30 = .ok (.aload_n 0, 1) := by decide +kernel
theorem d_C_input_31 : decode prog_1_method_14_code 31 = .ok (.getfield 40, 3) := by decide +kernel
theorem d_C_input_34 : decode prog_1_method_14_code 34 = .ok (.dup, 1) := by decide +kernel
theorem d_C_input_35 : decode prog_1_method_14_code 35 = .ok (.getfield 134, 3) := by decide +kernel
theorem d_C_input_38 : decode prog_1_method_14_code 38 = .ok (.iconst (1), 1) := by decide +kernel
theorem d_C_input_39 : decode prog_1_method_14_code 39 = .ok (.iadd, 1) := by decide +kernel
theorem d_C_input_40 : decode prog_1_method_14_code 40 = .ok (.putfield 134, 3) := by decide +kernel
theorem d_C_input_43 : decode prog_1_method_14_code 43 = .ok (.aload_n 0, 1) := by decide +kernel
theorem d_C_input_44 : decode prog_1_method_14_code 44 = .ok (.getfield 40, 3) := by decide +kernel
theorem d_C_input_47 : decode prog_1_method_14_code 47 = .ok (.getfield 134, 3) := by decide +kernel
theorem d_C_input_50 : decode prog_1_method_14_code 50 = .ok (.ireturn, 1) := by decide +kernel
theorem d_C_clear_0 : decode prog_1_method_15_code 0 = .ok (.aload_n 0, 1) := by decide +kernel
theorem d_C_clear_1 : decode prog_1_method_15_code 1 = .ok (.getfield 40, 3) := by decide +kernel
theorem d_C_clear_4 : decode prog_1_method_15_code 4 = .ok (.getfield 134, 3) := by decide +kernel
theorem d_C_clear_7 : decode prog_1_method_15_code 7 = .ok (.istore_n 1, 1) := by decide +kernel
theorem d_C_clear_8 : decode prog_1_method_15_code 8 = .ok (.aload_n 0, 1) := by decide +kernel
theorem d_C_clear_9 : decode prog_1_method_15_code 9 = .ok (.getfield 40, 3) := by decide +kernel
theorem d_C_clear_12 : decode prog_1_method_15_code 12 = .ok (.iconst (0), 1) := by decide +kernel
theorem d_C_clear_13 : decode prog_1_method_15_code 13 = .ok (.putfield 134, 3) := by decide +kernel
theorem d_C_clear_16 : decode prog_1_method_15_code 16 = .ok (.iload_n 1, 1) := by decide +kernel
theorem d_C_clear_17 : decode prog_1_method_15_code 17 = .ok (.ireturn, 1) := by decide +kernel
theorem d_C_asked_0 : decode prog_1_method_18_code 0 = .ok (.aload_n 0, 1) := by decide +kernel
theorem d_C_asked_1 : decode prog_1_method_18_code 1 = .ok (.getfield 40, 3) := by decide +kernel
theorem d_C_asked_4 : decode prog_1_method_18_code 4 = .ok (.getfield 151, 3) := by decide +kernel
theorem d_C_asked_7 : decode prog_1_method_18_code 7 = .ok (.ireturn, 1) := by decide +kernel
theorem d_C_isBlock_0 : decode prog_1_method_19_code 0 = .ok (.iload_n 1, 1) := by decide +kernel
theorem d_C_isBlock_1 : decode prog_1_method_19_code 1 = .ok (.ifCond .lt (18), 3) := by decide +kernel
theorem d_C_isBlock_4 : decode prog_1_method_19_code 4 = .ok (.iload_n 1, 1) := by decide +kernel
theorem d_C_isBlock_5 : decode prog_1_method_19_code 5 = .ok (.aload_n 0, 1) := by decide +kernel
theorem d_C_isBlock_6 : decode prog_1_method_19_code 6 = .ok (.getfield 47, 3) := by decide +kernel
theorem d_C_isBlock_9 : decode prog_1_method_19_code 9 = .ok (.getfield 76, 3) := by decide +kernel
theorem d_C_isBlock_12 : decode prog_1_method_19_code 12 = .ok (.if_icmp .ge (7), 3) := by decide +kernel
theorem d_C_isBlock_15 : decode prog_1_method_19_code 15 = .ok (.iconst (1), 1) := by decide +kernel
theorem d_C_isBlock_16 : decode prog_1_method_19_code 16 = .ok (.goto (4), 3) := by decide +kernel
theorem d_C_isBlock_19 : decode prog_1_method_19_code 19 = .ok (.iconst (0), 1) := by decide +kernel
theorem d_C_isBlock_20 : decode prog_1_method_19_code 20 = .ok (.ireturn, 1) := by decide +kernel
theorem d_C_isVariable_0 : decode prog_1_method_20_code 0 = .ok (.iload_n 0, 1) := by decide +kernel
theorem d_C_isVariable_1 : decode prog_1_method_20_code 1 = .ok (.ifCond .lt (13), 3) := by decide +kernel
theorem d_C_isVariable_4 : decode prog_1_method_20_code 4 = .ok (.iload_n 0, 1) := by decide +kernel
theorem d_C_isVariable_5 : decode prog_1_method_20_code 5 = .ok (.bipush (8), 2) := by decide +kernel
theorem d_C_isVariable_7 : decode prog_1_method_20_code 7 = .ok (.if_icmp .ge (7), 3) := by decide +kernel
theorem d_C_isVariable_10 : decode prog_1_method_20_code 10 = .ok (.iconst (1), 1) := by decide +kernel
theorem d_C_isVariable_11 : decode prog_1_method_20_code 11 = .ok (.goto (4), 3) := by decide +kernel
theorem d_C_isVariable_14 : decode prog_1_method_20_code 14 = .ok (.iconst (0), 1) := by decide +kernel
theorem d_C_isVariable_15 : decode prog_1_method_20_code 15 = .ok (.ireturn, 1) := by decide +kernel
theorem d_C_isLetter_0 : decode prog_1_method_21_code 0 = .ok (.iload_n 0, 1) := by decide +kernel
theorem d_C_isLetter_1 : decode prog_1_method_21_code 1 = .ok (.bipush (97), 2) := by decide +kernel
theorem d_C_isLetter_3 : decode prog_1_method_21_code 3 = .ok (.if_icmp .lt (13), 3) := by decide +kernel
theorem d_C_isLetter_6 : decode prog_1_method_21_code 6 = .ok (.iload_n 0, 1) := by decide +kernel
theorem d_C_isLetter_7 : decode prog_1_method_21_code 7 = .ok (.bipush (105), 2) := by decide +kernel
theorem d_C_isLetter_9 : decode prog_1_method_21_code 9 = .ok (.if_icmp .ge (7), 3) := by decide +kernel
theorem d_C_isLetter_12 : decode prog_1_method_21_code 12 = .ok (.iconst (1), 1) := by decide +kernel
theorem d_C_isLetter_13 : decode prog_1_method_21_code 13 = .ok (.goto (4), 3) := by decide +kernel
theorem d_C_isLetter_16 : decode prog_1_method_21_code 16 = .ok (.iconst (0), 1) := by decide +kernel
theorem d_C_isLetter_17 : decode prog_1_method_21_code 17 = .ok (.ireturn, 1) := by decide +kernel
theorem d_C_isFigure_0 : decode prog_1_method_22_code 0 = .ok (.iload_n 0, 1) := by decide +kernel
theorem d_C_isFigure_1 : decode prog_1_method_22_code 1 = .ok (.bipush (48), 2) := by decide +kernel
theorem d_C_isFigure_3 : decode prog_1_method_22_code 3 = .ok (.if_icmp .lt (13), 3) := by decide +kernel
theorem d_C_isFigure_6 : decode prog_1_method_22_code 6 = .ok (.iload_n 0, 1) := by decide +kernel
theorem d_C_isFigure_7 : decode prog_1_method_22_code 7 = .ok (.bipush (57), 2) := by decide +kernel
theorem d_C_isFigure_9 : decode prog_1_method_22_code 9 = .ok (.if_icmp .gt (7), 3) := by decide +kernel
theorem d_C_isFigure_12 : decode prog_1_method_22_code 12 = .ok (.iconst (1), 1) := by decide +kernel
theorem d_C_isFigure_13 : decode prog_1_method_22_code 13 = .ok (.goto (4), 3) := by decide +kernel
theorem d_C_isFigure_16 : decode prog_1_method_22_code 16 = .ok (.iconst (0), 1) := by decide +kernel
theorem d_C_isFigure_17 : decode prog_1_method_22_code 17 = .ok (.ireturn, 1) := by decide +kernel
theorem d_C_isOperator_0 : decode prog_1_method_23_code 0 = .ok (.iload_n 0, 1) := by decide +kernel
theorem d_C_isOperator_1 : decode prog_1_method_23_code 1 = .ok (.lookupswitch (93) #[(37, 91), (38, 91), (42, 91), (43, 91), (45, 91), (47, 91), (60, 91), (61, 91), (94, 91), (124, 91)], 91) := by decide +kernel
theorem d_C_isOperator_92 : decode prog_1_method_23_code 92 = .ok (.iconst (1), 1) := by decide +kernel
theorem d_C_isOperator_93 : decode prog_1_method_23_code 93 = .ok (.ireturn, 1) := by decide +kernel
theorem d_C_isOperator_94 : decode prog_1_method_23_code 94 = .ok (.iconst (0), 1) := by decide +kernel
theorem d_C_isOperator_95 : decode prog_1_method_23_code 95 = .ok (.ireturn, 1) := by decide +kernel
theorem d_C_reckon_0 : decode prog_1_method_24_code 0 = .ok (.iload_n 0, 1) := by decide +kernel
theorem d_C_reckon_1 : decode prog_1_method_24_code 1 = .ok (.lookupswitch (161) #[(37, 115), (38, 127), (42, 99), (43, 91), (45, 95), (47, 103), (60, 139), (61, 150), (94, 135), (124, 131)], 91) := by decide +kernel
theorem d_C_reckon_92 : decode prog_1_method_24_code 92 = .ok (.iload_n 1, 1) := by decide +kernel
theorem d_C_reckon_93 : decode prog_1_method_24_code 93 = .ok (.iload_n 2, 1) := by decide +kernel
theorem d_C_reckon_94 : decode prog_1_method_24_code 94 = .ok (.iadd, 1) := by decide +kernel
theorem d_C_reckon_95 : decode prog_1_method_24_code 95 = .ok (.ireturn, 1) := by decide +kernel
theorem d_C_reckon_96 : decode prog_1_method_24_code 96 = .ok (.iload_n 1, 1) := by decide +kernel
theorem d_C_reckon_97 : decode prog_1_method_24_code 97 = .ok (.iload_n 2, 1) := by decide +kernel
theorem d_C_reckon_98 : decode prog_1_method_24_code 98 = .ok (.isub, 1) := by decide +kernel
theorem d_C_reckon_99 : decode prog_1_method_24_code 99 = .ok (.ireturn, 1) := by decide +kernel
theorem d_C_reckon_100 : decode prog_1_method_24_code 100 = .ok (.iload_n 1, 1) := by decide +kernel
theorem d_C_reckon_101 : decode prog_1_method_24_code 101 = .ok (.iload_n 2, 1) := by decide +kernel
theorem d_C_reckon_102 : decode prog_1_method_24_code 102 = .ok (.imul, 1) := by decide +kernel
theorem d_C_reckon_103 : decode prog_1_method_24_code 103 = .ok (.ireturn, 1) := by decide +kernel
theorem d_C_reckon_104 : decode prog_1_method_24_code 104 = .ok (.iload_n 2, 1) := by decide +kernel
theorem d_C_reckon_105 : decode prog_1_method_24_code 105 = .ok (.ifCond .ne (7), 3) := by decide +kernel
theorem d_C_reckon_108 : decode prog_1_method_24_code 108 = .ok (.iconst (0), 1) := by decide +kernel
theorem d_C_reckon_109 : decode prog_1_method_24_code 109 = .ok (.goto (6), 3) := by decide +kernel
theorem d_C_reckon_112 : decode prog_1_method_24_code 112 = .ok (.iload_n 1, 1) := by decide +kernel
theorem d_C_reckon_113 : decode prog_1_method_24_code 113 = .ok (.iload_n 2, 1) := by decide +kernel
theorem d_C_reckon_114 : decode prog_1_method_24_code 114 = .ok (.idiv, 1) := by decide +kernel
theorem d_C_reckon_115 : decode prog_1_method_24_code 115 = .ok (.ireturn, 1) := by decide +kernel
theorem d_C_reckon_116 : decode prog_1_method_24_code 116 = .ok (.iload_n 2, 1) := by decide +kernel
theorem d_C_reckon_117 : decode prog_1_method_24_code 117 = .ok (.ifCond .ne (7), 3) := by decide +kernel
theorem d_C_reckon_120 : decode prog_1_method_24_code 120 = .ok (.iconst (0), 1) := by decide +kernel
theorem d_C_reckon_121 : decode prog_1_method_24_code 121 = .ok (.goto (6), 3) := by decide +kernel
theorem d_C_reckon_124 : decode prog_1_method_24_code 124 = .ok (.iload_n 1, 1) := by decide +kernel
theorem d_C_reckon_125 : decode prog_1_method_24_code 125 = .ok (.iload_n 2, 1) := by decide +kernel
theorem d_C_reckon_126 : decode prog_1_method_24_code 126 = .ok (.irem, 1) := by decide +kernel
theorem d_C_reckon_127 : decode prog_1_method_24_code 127 = .ok (.ireturn, 1) := by decide +kernel
theorem d_C_reckon_128 : decode prog_1_method_24_code 128 = .ok (.iload_n 1, 1) := by decide +kernel
theorem d_C_reckon_129 : decode prog_1_method_24_code 129 = .ok (.iload_n 2, 1) := by decide +kernel
theorem d_C_reckon_130 : decode prog_1_method_24_code 130 = .ok (.iand, 1) := by decide +kernel
theorem d_C_reckon_131 : decode prog_1_method_24_code 131 = .ok (.ireturn, 1) := by decide +kernel
theorem d_C_reckon_132 : decode prog_1_method_24_code 132 = .ok (.iload_n 1, 1) := by decide +kernel
theorem d_C_reckon_133 : decode prog_1_method_24_code 133 = .ok (.iload_n 2, 1) := by decide +kernel
theorem d_C_reckon_134 : decode prog_1_method_24_code 134 = .ok (.ior, 1) := by decide +kernel
theorem d_C_reckon_135 : decode prog_1_method_24_code 135 = .ok (.ireturn, 1) := by decide +kernel
theorem d_C_reckon_136 : decode prog_1_method_24_code 136 = .ok (.iload_n 1, 1) := by decide +kernel
theorem d_C_reckon_137 : decode prog_1_method_24_code 137 = .ok (.iload_n 2, 1) := by decide +kernel
theorem d_C_reckon_138 : decode prog_1_method_24_code 138 = .ok (.ixor, 1) := by decide +kernel
theorem d_C_reckon_139 : decode prog_1_method_24_code 139 = .ok (.ireturn, 1) := by decide +kernel
theorem d_C_reckon_140 : decode prog_1_method_24_code 140 = .ok (.iload_n 1, 1) := by decide +kernel
theorem d_C_reckon_141 : decode prog_1_method_24_code 141 = .ok (.iload_n 2, 1) := by decide +kernel
theorem d_C_reckon_142 : decode prog_1_method_24_code 142 = .ok (.if_icmp .ge (7), 3) := by decide +kernel
theorem d_C_reckon_145 : decode prog_1_method_24_code 145 = .ok (.iconst (1), 1) := by decide +kernel
theorem d_C_reckon_146 : decode prog_1_method_24_code 146 = .ok (.goto (4), 3) := by decide +kernel
theorem d_C_reckon_149 : decode prog_1_method_24_code 149 = .ok (.iconst (0), 1) := by decide +kernel
theorem d_C_reckon_150 : decode prog_1_method_24_code 150 = .ok (.ireturn, 1) := by decide +kernel
theorem d_C_reckon_151 : decode prog_1_method_24_code 151 = .ok (.iload_n 1, 1) := by decide +kernel
theorem d_C_reckon_152 : decode prog_1_method_24_code 152 = .ok (.iload_n 2, 1) := by decide +kernel
theorem d_C_reckon_153 : decode prog_1_method_24_code 153 = .ok (.if_icmp .ne (7), 3) := by decide +kernel
theorem d_C_reckon_156 : decode prog_1_method_24_code 156 = .ok (.iconst (1), 1) := by decide +kernel
theorem d_C_reckon_157 : decode prog_1_method_24_code 157 = .ok (.goto (4), 3) := by decide +kernel
theorem d_C_reckon_160 : decode prog_1_method_24_code 160 = .ok (.iconst (0), 1) := by decide +kernel
theorem d_C_reckon_161 : decode prog_1_method_24_code 161 = .ok (.ireturn, 1) := by decide +kernel
theorem d_C_reckon_162 : decode prog_1_method_24_code 162 = .ok (.iload_n 1, 1) := by decide +kernel
theorem d_C_reckon_163 : decode prog_1_method_24_code 163 = .ok (.ireturn, 1) := by decide +kernel
theorem d_C_wipe_0 : decode prog_1_method_3_code 0 = .ok (.aload_n 0, 1) := by decide +kernel
theorem d_C_wipe_1 : decode prog_1_method_3_code 1 = .ok (.getfield 14, 3) := by decide +kernel
theorem d_C_wipe_4 : decode prog_1_method_3_code 4 = .ok (.getfield 65, 3) := by decide +kernel
theorem d_C_wipe_7 : decode prog_1_method_3_code 7 = .ok (.istore_n 1, 1) := by decide +kernel
theorem d_C_wipe_8 : decode prog_1_method_3_code 8 = .ok (.aload_n 0, 1) := by decide +kernel
theorem d_C_wipe_9 : decode prog_1_method_3_code 9 = .ok (.getfield 14, 3) := by decide +kernel
theorem d_C_wipe_12 : decode prog_1_method_3_code 12 = .ok (.iconst (0), 1) := by decide +kernel
theorem d_C_wipe_13 : decode prog_1_method_3_code 13 = .ok (.putfield 65, 3) := by decide +kernel
theorem d_C_wipe_16 : decode prog_1_method_3_code 16 = .ok (.iload_n 1, 1) := by decide +kernel
theorem d_C_wipe_17 : decode prog_1_method_3_code 17 = .ok (.ireturn, 1) := by decide +kernel
theorem d_C_fault_0 : decode prog_1_method_5_code 0 = .ok (.aload_n 0, 1) := by decide +kernel
theorem d_C_fault_1 : decode prog_1_method_5_code 1 = .ok (.getfield 26, 3) := by decide +kernel
theorem d_C_fault_4 : decode prog_1_method_5_code 4 = .ok (.getfield 79, 3) := by decide +kernel
theorem d_C_fault_7 : decode prog_1_method_5_code 7 = .ok (.ireturn, 1) := by decide +kernel
theorem d_C_place_0 : decode prog_1_method_6_code 0 = .ok (.aload_n 0, 1) := by decide +kernel
theorem d_C_place_1 : decode prog_1_method_6_code 1 = .ok (.getfield 26, 3) := by decide +kernel
theorem d_C_place_4 : decode prog_1_method_6_code 4 = .ok (.getfield 82, 3) := by decide +kernel
theorem d_C_place_7 : decode prog_1_method_6_code 7 = .ok (.ireturn, 1) := by decide +kernel
theorem d_F_view_0 : decode prog_2_method_2_code 0 = .ok (.iload_n 2, 1) := by decide +kernel
theorem d_F_view_1 : decode prog_2_method_2_code 1 = .ok (.ifCond .eq (12), 3) := by decide +kernel
theorem d_F_view_4 : decode prog_2_method_2_code 4 = .ok (.aload_n 0, 1) := by decide +kernel
theorem d_F_view_5 : decode prog_2_method_2_code 5 = .ok (.getfield 24, 3) := by decide +kernel
theorem d_F_view_8 : decode prog_2_method_2_code 8 = .ok (.iload_n 1, 1) := by decide +kernel
theorem d_F_view_9 : decode prog_2_method_2_code 9 = .ok (.aaload, 1) := by decide +kernel
theorem d_F_view_10 : decode prog_2_method_2_code 10 = .ok (.goto (9), 3) := by decide +kernel
theorem d_F_view_13 : decode prog_2_method_2_code 13 = .ok (.aload_n 0, 1) := by decide +kernel
theorem d_F_view_14 : decode prog_2_method_2_code 14 = .ok (.getfield 20, 3) := by decide +kernel
theorem d_F_view_17 : decode prog_2_method_2_code 17 = .ok (.iload_n 1, 1) := by decide +kernel
theorem d_F_view_18 : decode prog_2_method_2_code 18 = .ok (.aaload, 1) := by decide +kernel
theorem d_F_view_19 : decode prog_2_method_2_code 19 = .ok (.areturn, 1) := by decide +kernel
theorem d_X_nextInput_0 : decode prog_3_method_4_code 0 = .ok (.aload_n 0, 1) := by decide +kernel
theorem d_X_nextInput_1 : decode prog_3_method_4_code 1 = .ok (.getfield 18, 3) := by decide +kernel
theorem d_X_nextInput_4 : decode prog_3_method_4_code 4 = .ok (.aload_n 0, 1) := by decide +kernel
theorem d_X_nextInput_5 : decode prog_3_method_4_code 5 = .ok (.getfield 65, 3) := by decide +kernel
theorem d_X_nextInput_8 : decode prog_3_method_4_code 8 = .ok (.if_icmp .ge (15), 3) := by decide +kernel
theorem d_X_nextInput_11 : decode prog_3_method_4_code 11 = .ok (.aload_n 0, 1) := by decide +kernel
theorem d_X_nextInput_12 : decode prog_3_method_4_code 12 = .ok (.getfield 9, 3) := by decide +kernel
theorem d_X_nextInput_15 : decode prog_3_method_4_code 15 = .ok (.aload_n 0, 1) := by decide +kernel
theorem d_X_nextInput_16 : decode prog_3_method_4_code 16 = .ok (.getfield 18, 3) := by decide +kernel
theorem d_X_nextInput_19 : decode prog_3_method_4_code 19 = .ok (.iaload, 1) := by decide +kernel
theorem d_X_nextInput_20 : decode prog_3_method_4_code 20 = .ok (.goto (4), 3) := by decide +kernel
theorem d_X_nextInput_23 : decode prog_3_method_4_code 23 = .ok (.iconst (0), 1) := by decide +kernel
theorem d_X_nextInput_24 : decode prog_3_method_4_code 24 = .ok (.istore_n 1, 1) := by decide +kernel
theorem d_X_nextInput_25 : decode prog_3_method_4_code 25 = .ok (.aload_n 0, 1) := by decide +kernel
theorem d_X_nextInput_26 : decode prog_3_method_4_code 26 = .ok (.dup, 1) := by decide +kernel
theorem d_X_nextInput_27 : decode prog_3_method_4_code 27 = .ok (.getfield 18, 3) := by decide +kernel
theorem d_X_nextInput_30 : decode prog_3_method_4_code 30 = .ok (.iconst (1), 1) := by decide +kernel
theorem d_X_nextInput_31 : decode prog_3_method_4_code 31 = .ok (.iadd, 1) := by decide +kernel
theorem d_X_nextInput_32 : decode prog_3_method_4_code 32 = .ok (.putfield 18, 3) := by decide +kernel
theorem d_X_nextInput_35 : decode prog_3_method_4_code 35 = .ok (.iload_n 1, 1) := by decide +kernel
theorem d_X_nextInput_36 : decode prog_3_method_4_code 36 = .ok (.ireturn, 1) := by decide +kernel
theorem d_X_operand_0 : decode prog_3_method_5_code 0 = .ok (.aload_n 1, 1) := by decide +kernel
theorem d_X_operand_1 : decode prog_3_method_5_code 1 = .ok (.getfield 68, 3) := by decide +kernel
theorem d_X_operand_4 : decode prog_3_method_5_code 4 = .ok (.iload_n 2, 1) := by decide +kernel
theorem d_X_operand_5 : decode prog_3_method_5_code 5 = .ok (.iaload, 1) := by decide +kernel
theorem d_X_operand_6 : decode prog_3_method_5_code 6 = .ok (.istore_n 3, 1) := by decide +kernel
theorem d_X_operand_7 : decode prog_3_method_5_code 7 = .ok (.aload_n 1, 1) := by decide +kernel
theorem d_X_operand_8 : decode prog_3_method_5_code 8 = .ok (.getfield 71, 3) := by decide +kernel
theorem d_X_operand_11 : decode prog_3_method_5_code 11 = .ok (.iload_n 2, 1) := by decide +kernel
theorem d_X_operand_12 : decode prog_3_method_5_code 12 = .ok (.baload, 1) := by decide +kernel
theorem d_X_operand_13 : decode prog_3_method_5_code 13 = .ok (.ifCond .eq (12), 3) := by decide +kernel
theorem d_X_operand_16 : decode prog_3_method_5_code 16 = .ok (.aload_n 0, 1) := by decide +kernel
theorem d_X_operand_17 : decode prog_3_method_5_code 17 = .ok (.getfield 15, 3) := by decide +kernel
theorem d_X_operand_20 : decode prog_3_method_5_code 20 = .ok (.iload_n 3, 1) := by decide +kernel
theorem d_X_operand_21 : decode prog_3_method_5_code 21 = .ok (.iaload, 1) := by decide +kernel
theorem d_X_operand_22 : decode prog_3_method_5_code 22 = .ok (.goto (4), 3) := by decide +kernel
theorem d_X_operand_25 : decode prog_3_method_5_code 25 = .ok (.iload_n 3, 1) := by decide +kernel
theorem d_X_operand_26 : decode prog_3_method_5_code 26 = .ok (.ireturn, 1) := by decide +kernel
theorem d_G_left_0 : decode prog_4_method_2_code 0 = .ok (.iconst (2), 1) := by decide +kernel
theorem d_G_left_1 : decode prog_4_method_2_code 1 = .ok (.iload_n 0, 1) := by decide +kernel
theorem d_G_left_2 : decode prog_4_method_2_code 2 = .ok (.imul, 1) := by decide +kernel
theorem d_G_left_3 : decode prog_4_method_2_code 3 = .ok (.ireturn, 1) := by decide +kernel
theorem d_G_right_0 : decode prog_4_method_3_code 0 = .ok (.iconst (2), 1) := by decide +kernel
theorem d_G_right_1 : decode prog_4_method_3_code 1 = .ok (.iload_n 0, 1) := by decide +kernel
theorem d_G_right_2 : decode prog_4_method_3_code 2 = .ok (.imul, 1) := by decide +kernel
theorem d_G_right_3 : decode prog_4_method_3_code 3 = .ok (.iconst (1), 1) := by decide +kernel
theorem d_G_right_4 : decode prog_4_method_3_code 4 = .ok (.iadd, 1) := by decide +kernel
theorem d_G_right_5 : decode prog_4_method_3_code 5 = .ok (.ireturn, 1) := by decide +kernel
theorem d_G_ofEnd_0 : decode prog_4_method_4_code 0 = .ok (.sipush (160), 3) := by decide +kernel
theorem d_G_ofEnd_3 : decode prog_4_method_4_code 3 = .ok (.iload_n 0, 1) := by decide +kernel
theorem d_G_ofEnd_4 : decode prog_4_method_4_code 4 = .ok (.iadd, 1) := by decide +kernel
theorem d_G_ofEnd_5 : decode prog_4_method_4_code 5 = .ok (.ireturn, 1) := by decide +kernel
theorem d_G_goalSlot_0 : decode prog_4_method_5_code 0 = .ok (.iconst (2), 1) := by decide +kernel
theorem d_G_goalSlot_1 : decode prog_4_method_5_code 1 = .ok (.iload_n 0, 1) := by decide +kernel
theorem d_G_goalSlot_2 : decode prog_4_method_5_code 2 = .ok (.imul, 1) := by decide +kernel
theorem d_G_goalSlot_3 : decode prog_4_method_5_code 3 = .ok (.iload_n 1, 1) := by decide +kernel
theorem d_G_goalSlot_4 : decode prog_4_method_5_code 4 = .ok (.iadd, 1) := by decide +kernel
theorem d_G_goalSlot_5 : decode prog_4_method_5_code 5 = .ok (.ireturn, 1) := by decide +kernel
theorem d_G_empty_0 : decode prog_4_method_6_code 0 = .ok (.aload_n 0, 1) := by decide +kernel
theorem d_G_empty_1 : decode prog_4_method_6_code 1 = .ok (.iconst (0), 1) := by decide +kernel
theorem d_G_empty_2 : decode prog_4_method_6_code 2 = .ok (.putfield 34, 3) := by decide +kernel
theorem d_G_empty_5 : decode prog_4_method_6_code 5 = .ok (.aload_n 0, 1) := by decide +kernel
theorem d_G_empty_6 : decode prog_4_method_6_code 6 = .ok (.iconst (0), 1) := by decide +kernel
theorem d_G_empty_7 : decode prog_4_method_6_code 7 = .ok (.putfield 38, 3) := by decide +kernel
theorem d_G_empty_10 : decode prog_4_method_6_code 10 = .ok (.return_, 1) := by decide +kernel
theorem d_G_setOperand_0 : decode prog_4_method_7_code 0 = .ok (.aload_n 0, 1) := by decide +kernel
theorem d_G_setOperand_1 : decode prog_4_method_7_code 1 = .ok (.getfield 21, 3) := by decide +kernel
theorem d_G_setOperand_4 : decode prog_4_method_7_code 4 = .ok (.iload_n 1, 1) := by decide +kernel
theorem d_G_setOperand_5 : decode prog_4_method_7_code 5 = .ok (.iload_n 2, 1) := by decide +kernel
theorem d_G_setOperand_6 : decode prog_4_method_7_code 6 = .ok (.bastore, 1) := by decide +kernel
theorem d_G_setOperand_7 : decode prog_4_method_7_code 7 = .ok (.aload_n 0, 1) := by decide +kernel
theorem d_G_setOperand_8 : decode prog_4_method_7_code 8 = .ok (.getfield 25, 3) := by decide +kernel
theorem d_G_setOperand_11 : decode prog_4_method_7_code 11 = .ok (.iload_n 1, 1) := by decide +kernel
theorem d_G_setOperand_12 : decode prog_4_method_7_code 12 = .ok (.iload_n 3, 1) := by decide +kernel
theorem d_G_setOperand_13 : decode prog_4_method_7_code 13 = .ok (.iastore, 1) := by decide +kernel
theorem d_G_setOperand_14 : decode prog_4_method_7_code 14 = .ok (.return_, 1) := by decide +kernel
theorem d_G_closeBlock_0 : decode prog_4_method_8_code 0 = .ok (.aload_n 0, 1) := by decide +kernel
theorem d_G_closeBlock_1 : decode prog_4_method_8_code 1 = .ok (.getfield 28, 3) := by decide +kernel
theorem d_G_closeBlock_4 : decode prog_4_method_8_code 4 = .ok (.aload_n 0, 1) := by decide +kernel
theorem d_G_closeBlock_5 : decode prog_4_method_8_code 5 = .ok (.getfield 34, 3) := by decide +kernel
theorem d_G_closeBlock_8 : decode prog_4_method_8_code 8 = .ok (.iload_n 1, 1) := by decide +kernel
theorem d_G_closeBlock_9 : decode prog_4_method_8_code 9 = .ok (.iastore, 1) := by decide +kernel
theorem d_G_closeBlock_10 : decode prog_4_method_8_code 10 = .ok (.aload_n 0, 1) := by decide +kernel
theorem d_G_closeBlock_11 : decode prog_4_method_8_code 11 = .ok (.dup, 1) := by decide +kernel
theorem d_G_closeBlock_12 : decode prog_4_method_8_code 12 = .ok (.getfield 34, 3) := by decide +kernel
theorem d_G_closeBlock_15 : decode prog_4_method_8_code 15 = .ok (.iconst (1), 1) := by decide +kernel
theorem d_G_closeBlock_16 : decode prog_4_method_8_code 16 = .ok (.iadd, 1) := by decide +kernel
theorem d_G_closeBlock_17 : decode prog_4_method_8_code 17 = .ok (.putfield 34, 3) := by decide +kernel
theorem d_G_closeBlock_20 : decode prog_4_method_8_code 20 = .ok (.aload_n 0, 1) := by decide +kernel
theorem d_G_closeBlock_21 : decode prog_4_method_8_code 21 = .ok (.getfield 9, 3) := by decide +kernel
theorem d_G_closeBlock_24 : decode prog_4_method_8_code 24 = .ok (.aload_n 0, 1) := by decide +kernel
theorem d_G_closeBlock_25 : decode prog_4_method_8_code 25 = .ok (.getfield 34, 3) := by decide +kernel
theorem d_G_closeBlock_28 : decode prog_4_method_8_code 28 = .ok (.aload_n 0, 1) := by decide +kernel
theorem d_G_closeBlock_29 : decode prog_4_method_8_code 29 = .ok (.getfield 38, 3) := by decide +kernel
theorem d_G_closeBlock_32 : decode prog_4_method_8_code 32 = .ok (.iastore, 1) := by decide +kernel
theorem d_G_closeBlock_33 : decode prog_4_method_8_code 33 = .ok (.return_, 1) := by decide +kernel
theorem d_R_refuse_0 : decode prog_5_method_3_code 0 = .ok (.aload_n 0, 1) := by decide +kernel
theorem d_R_refuse_1 : decode prog_5_method_3_code 1 = .ok (.iload_n 1, 1) := by decide +kernel
theorem d_R_refuse_2 : decode prog_5_method_3_code 2 = .ok (.putfield 35, 3) := by decide +kernel
theorem d_R_refuse_5 : decode prog_5_method_3_code 5 = .ok (.aload_n 0, 1) := by decide +kernel
theorem d_R_refuse_6 : decode prog_5_method_3_code 6 = .ok (.iload_n 2, 1) := by decide +kernel
theorem d_R_refuse_7 : decode prog_5_method_3_code 7 = .ok (.putfield 15, 3) := by decide +kernel
theorem d_R_refuse_10 : decode prog_5_method_3_code 10 = .ok (.iconst (0), 1) := by decide +kernel
theorem d_R_refuse_11 : decode prog_5_method_3_code 11 = .ok (.ireturn, 1) := by decide +kernel
theorem d_T_byteAt_0 : decode prog_6_method_2_code 0 = .ok (.lload_n 1, 1) := by decide +kernel
theorem d_T_byteAt_1 : decode prog_6_method_2_code 1 = .ok (.lconst 0, 1) := by decide +kernel
theorem d_T_byteAt_2 : decode prog_6_method_2_code 2 = .ok (.lcmp, 1) := by decide +kernel
theorem d_T_byteAt_3 : decode prog_6_method_2_code 3 = .ok (.ifCond .lt (27), 3) := by decide +kernel
theorem d_T_byteAt_6 : decode prog_6_method_2_code 6 = .ok (.lload_n 1, 1) := by decide +kernel
theorem d_T_byteAt_7 : decode prog_6_method_2_code 7 = .ok (.aload_n 0, 1) := by decide +kernel
theorem d_T_byteAt_8 : decode prog_6_method_2_code 8 = .ok (.getfield 15, 3) := by decide +kernel
theorem d_T_byteAt_11 : decode prog_6_method_2_code 11 = .ok (.i2l, 1) := by decide +kernel
theorem d_T_byteAt_12 : decode prog_6_method_2_code 12 = .ok (.lcmp, 1) := by decide +kernel
theorem d_T_byteAt_13 : decode prog_6_method_2_code 13 = .ok (.ifCond .ge (17), 3) := by decide +kernel
theorem d_T_byteAt_16 : decode prog_6_method_2_code 16 = .ok (.aload_n 0, 1) := by decide +kernel
theorem d_T_byteAt_17 : decode prog_6_method_2_code 17 = .ok (.getfield 9, 3) := by decide +kernel
theorem d_T_byteAt_20 : decode prog_6_method_2_code 20 = .ok (.lload_n 1, 1) := by decide +kernel
theorem d_T_byteAt_21 : decode prog_6_method_2_code 21 = .ok (.l2i, 1) := by decide +kernel
theorem d_T_byteAt_22 : decode prog_6_method_2_code 22 = .ok (.baload, 1) := by decide +kernel
theorem d_T_byteAt_23 : decode prog_6_method_2_code 23 = .ok (.sipush (255), 3) := by decide +kernel
theorem d_T_byteAt_26 : decode prog_6_method_2_code 26 = .ok (.iand, 1) := by decide +kernel
theorem d_T_byteAt_27 : decode prog_6_method_2_code 27 = .ok (.goto (4), 3) := by decide +kernel
theorem d_T_byteAt_30 : decode prog_6_method_2_code 30 = .ok (.iconst (-1), 1) := by decide +kernel
theorem d_T_byteAt_31 : decode prog_6_method_2_code 31 = .ok (.ireturn, 1) := by decide +kernel
theorem d_T_append_0 : decode prog_6_method_3_code 0 = .ok (.aload_n 0, 1) := by decide +kernel
theorem d_T_append_1 : decode prog_6_method_3_code 1 = .ok (.getfield 15, 3) := by decide +kernel
theorem d_T_append_4 : decode prog_6_method_3_code 4 = .ok (.aload_n 0, 1) := by decide +kernel
theorem d_T_append_5 : decode prog_6_method_3_code 5 = .ok (.getfield 9, 3) := by decide +kernel
theorem d_T_append_8 : decode prog_6_method_3_code 8 = .ok (.arraylength, 1) := by decide +kernel
theorem d_T_append_9 : decode prog_6_method_3_code 9 = .ok (.if_icmp .ge (24), 3) := by decide +kernel
theorem d_T_append_12 : decode prog_6_method_3_code 12 = .ok (.aload_n 0, 1) := by decide +kernel
theorem d_T_append_13 : decode prog_6_method_3_code 13 = .ok (.getfield 9, 3) := by decide +kernel
theorem d_T_append_16 : decode prog_6_method_3_code 16 = .ok (.aload_n 0, 1) := by decide +kernel
theorem d_T_append_17 : decode prog_6_method_3_code 17 = .ok (.getfield 15, 3) := by decide +kernel
theorem d_T_append_20 : decode prog_6_method_3_code 20 = .ok (.iload_n 1, 1) := by decide +kernel
theorem d_T_append_21 : decode prog_6_method_3_code 21 = .ok (.i2b, 1) := by decide +kernel
theorem d_T_append_22 : decode prog_6_method_3_code 22 = .ok (.bastore, 1) := by decide +kernel
theorem d_T_append_23 : decode prog_6_method_3_code 23 = .ok (.aload_n 0, 1) := by decide +kernel
theorem d_T_append_24 : decode prog_6_method_3_code 24 = .ok (.dup, 1) := by decide +kernel
theorem d_T_append_25 : decode prog_6_method_3_code 25 = .ok (.getfield 15, 3) := by decide +kernel
theorem d_T_append_28 : decode prog_6_method_3_code 28 = .ok (.iconst (1), 1) := by decide +kernel
theorem d_T_append_29 : decode prog_6_method_3_code 29 = .ok (.iadd, 1) := by decide +kernel
theorem d_T_append_30 : decode prog_6_method_3_code 30 = .ok (.putfield 15, 3) := by decide +kernel
theorem d_T_append_33 : decode prog_6_method_3_code 33 = .ok (.return_, 1) := by decide +kernel
theorem d_V_become_0 : decode prog_7_method_2_code 0 = .ok (.iconst (0), 1) := by decide +kernel
theorem d_V_become_1 : decode prog_7_method_2_code 1 = .ok (.istore_n 2, 1) := by decide +kernel
theorem d_V_become_2 : decode prog_7_method_2_code 2 = .ok (.iload_n 2, 1) := by decide +kernel
theorem d_V_become_3 : decode prog_7_method_2_code 3 = .ok (.bipush (8), 2) := by decide +kernel
theorem d_V_become_5 : decode prog_7_method_2_code 5 = .ok (.if_icmp .ge (33), 3) := by decide +kernel
theorem d_V_become_8 : decode prog_7_method_2_code 8 = .ok (.aload_n 0, 1) := by decide +kernel
theorem d_V_become_9 : decode prog_7_method_2_code 9 = .ok (.getfield 9, 3) := by decide +kernel
theorem d_V_become_12 : decode prog_7_method_2_code 12 = .ok (.iload_n 2, 1) := by decide +kernel
theorem d_V_become_13 : decode prog_7_method_2_code 13 = .ok (.aload_n 1, 1) := by decide +kernel
theorem d_V_become_14 : decode prog_7_method_2_code 14 = .ok (.getfield 9, 3) := by decide +kernel
theorem d_V_become_17 : decode prog_7_method_2_code 17 = .ok (.iload_n 2, 1) := by decide +kernel
theorem d_V_become_18 : decode prog_7_method_2_code 18 = .ok (.baload, 1) := by decide +kernel
theorem d_V_become_19 : decode prog_7_method_2_code 19 = .ok (.bastore, 1) := by decide +kernel
theorem d_V_become_20 : decode prog_7_method_2_code 20 = .ok (.aload_n 0, 1) := by decide +kernel
theorem d_V_become_21 : decode prog_7_method_2_code 21 = .ok (.getfield 15, 3) := by decide +kernel
theorem d_V_become_24 : decode prog_7_method_2_code 24 = .ok (.iload_n 2, 1) := by decide +kernel
theorem d_V_become_25 : decode prog_7_method_2_code 25 = .ok (.aload_n 1, 1) := by decide +kernel
theorem d_V_become_26 : decode prog_7_method_2_code 26 = .ok (.getfield 15, 3) := by decide +kernel
theorem d_V_become_29 : decode prog_7_method_2_code 29 = .ok (.iload_n 2, 1) := by decide +kernel
theorem d_V_become_30 : decode prog_7_method_2_code 30 = .ok (.iaload, 1) := by decide +kernel
theorem d_V_become_31 : decode prog_7_method_2_code 31 = .ok (.iastore, 1) := by decide +kernel
theorem d_V_become_32 : decode prog_7_method_2_code 32 = .ok (.iinc 2 (1), 3) := by decide +kernel
theorem d_V_become_35 : decode prog_7_method_2_code 35 = .ok (.goto (-33), 3) := by decide +kernel
theorem d_V_become_38 : decode prog_7_method_2_code 38 = .ok (.return_, 1) := by decide +kernel
theorem d_V_join_0 : decode prog_7_method_3_code 0 = .ok (.iconst (0), 1) := by decide +kernel
theorem d_V_join_1 : decode prog_7_method_3_code 1 = .ok (.istore_n 2, 1) := by decide +kernel
theorem d_V_join_2 : decode prog_7_method_3_code 2 = .ok (.iconst (0), 1) := by decide +kernel
theorem d_V_join_3 : decode prog_7_method_3_code 3 = .ok (.istore_n 3, 1) := by decide +kernel
theorem d_V_join_4 : decode prog_7_method_3_code 4 = .ok (.iload_n 3, 1) := by decide +kernel
theorem d_V_join_5 : decode prog_7_method_3_code 5 = .ok (.bipush (8), 2) := by decide +kernel
theorem d_V_join_7 : decode prog_7_method_3_code 7 = .ok (.if_icmp .ge (51), 3) := by decide +kernel
theorem d_V_join_10 : decode prog_7_method_3_code 10 = .ok (.aload_n 0, 1) := by decide +kernel
