theorem d_M_know_131 : decode prog_9_method_32_code 131 = .ok (.iconst (1), 1) := by decide +kernel
theorem d_M_know_132 : decode prog_9_method_32_code 132 = .ok (.iadd, 1) := by decide +kernel
theorem d_M_know_133 : decode prog_9_method_32_code 133 = .ok (.iaload, 1) := by decide +kernel
theorem d_M_know_134 : decode prog_9_method_32_code 134 = .ok (.if_icmp .ge (14), 3) := by decide +kernel
theorem d_M_know_137 : decode prog_9_method_32_code 137 = .ok (.aload_n 0, 1) := by decide +kernel
theorem d_M_know_138 : decode prog_9_method_32_code 138 = .ok (.iload_n 3, 1) := by decide +kernel
theorem d_M_know_139 : decode prog_9_method_32_code 139 = .ok (.invokevirtual 185, 3) := by decide +kernel
theorem d_M_know_142 : decode prog_9_method_32_code 142 = .ok (.iinc 3 (1), 3) := by decide +kernel
theorem d_M_know_145 : decode prog_9_method_32_code 145 = .ok (.goto (-20), 3) := by decide +kernel
theorem d_M_know_148 : decode prog_9_method_32_code 148 = .ok (.aload_n 0, 1) := by decide +kernel
theorem d_M_know_149 : decode prog_9_method_32_code 149 = .ok (.iload_n 2, 1) := by decide +kernel
theorem d_M_know_150 : decode prog_9_method_32_code 150 = .ok (.invokevirtual 188, 3) := by decide +kernel
theorem d_M_know_153 : decode prog_9_method_32_code 153 = .ok (.ifCond .ne (7), 3) := by decide +kernel
theorem d_M_know_156 : decode prog_9_method_32_code 156 = .ok (.iload_n 1, 1) := by decide +kernel
theorem d_M_know_157 : decode prog_9_method_32_code 157 = .ok (.ifCond .eq (7), 3) := by decide +kernel
theorem d_M_know_160 : decode prog_9_method_32_code 160 = .ok (.iconst (1), 1) := by decide +kernel
theorem d_M_know_161 : decode prog_9_method_32_code 161 = .ok (.goto (4), 3) := by decide +kernel
theorem d_M_know_164 : decode prog_9_method_32_code 164 = .ok (.iconst (0), 1) := by decide +kernel
theorem d_M_know_165 : decode prog_9_method_32_code 165 = .ok (.istore_n 1, 1) := by decide +kernel
theorem d_M_know_166 : decode prog_9_method_32_code 166 = .ok (.iinc 2 (1), 3) := by decide +kernel
theorem d_M_know_169 : decode prog_9_method_32_code 169 = .ok (.goto (-73), 3) := by decide +kernel
theorem d_M_know_172 : decode prog_9_method_32_code 172 = .ok (.goto (-84), 3) := by decide +kernel
theorem d_M_know_175 : decode prog_9_method_32_code 175 = .ok (.aload_n 0, 1) := by decide +kernel
theorem d_M_know_176 : decode prog_9_method_32_code 176 = .ok (.iconst (1), 1) := by decide +kernel
theorem d_M_know_177 : decode prog_9_method_32_code 177 = .ok (.putfield 152, 3) := by decide +kernel
theorem d_M_know_180 : decode prog_9_method_32_code 180 = .ok (.return_, 1) := by decide +kernel
theorem d_M_putStatement_0 : decode prog_9_method_42_code 0 = .ok (.bipush (7), 2) := by decide +kernel
theorem d_M_putStatement_2 : decode prog_9_method_42_code 2 = .ok (.iload_n 1, 1) := by decide +kernel
theorem d_M_putStatement_3 : decode prog_9_method_42_code 3 = .ok (.imul, 1) := by decide +kernel
theorem d_M_putStatement_4 : decode prog_9_method_42_code 4 = .ok (.istore_n 2, 1) := by decide +kernel
theorem d_M_putStatement_5 : decode prog_9_method_42_code 5 = .ok (.aload_n 0, 1) := by decide +kernel
theorem d_M_putStatement_6 : decode prog_9_method_42_code 6 = .ok (.bipush (97), 2) := by decide +kernel
theorem d_M_putStatement_8 : decode prog_9_method_42_code 8 = .ok (.aload_n 0, 1) := by decide +kernel
theorem d_M_putStatement_9 : decode prog_9_method_42_code 9 = .ok (.getfield 20, 3) := by decide +kernel
theorem d_M_putStatement_12 : decode prog_9_method_42_code 12 = .ok (.iload_n 2, 1) := by decide +kernel
theorem d_M_putStatement_13 : decode prog_9_method_42_code 13 = .ok (.iconst (0), 1) := by decide +kernel
theorem d_M_putStatement_14 : decode prog_9_method_42_code 14 = .ok (.iadd, 1) := by decide +kernel
theorem d_M_putStatement_15 : decode prog_9_method_42_code 15 = .ok (.iaload, 1) := by decide +kernel
theorem d_M_putStatement_16 : decode prog_9_method_42_code 16 = .ok (.iadd, 1) := by decide +kernel
theorem d_M_putStatement_17 : decode prog_9_method_42_code 17 = .ok (.invokevirtual 204, 3) := by decide +kernel
theorem d_M_putStatement_20 : decode prog_9_method_42_code 20 = .ok (.aload_n 0, 1) := by decide +kernel
theorem d_M_putStatement_21 : decode prog_9_method_42_code 21 = .ok (.bipush (61), 2) := by decide +kernel
theorem d_M_putStatement_23 : decode prog_9_method_42_code 23 = .ok (.invokevirtual 204, 3) := by decide +kernel
theorem d_M_putStatement_26 : decode prog_9_method_42_code 26 = .ok (.aload_n 0, 1) := by decide +kernel
theorem d_M_putStatement_27 : decode prog_9_method_42_code 27 = .ok (.iload_n 1, 1) := by decide +kernel
theorem d_M_putStatement_28 : decode prog_9_method_42_code 28 = .ok (.invokevirtual 173, 3) := by decide +kernel
theorem d_M_putStatement_31 : decode prog_9_method_42_code 31 = .ok (.aload_n 0, 1) := by decide +kernel
theorem d_M_putStatement_32 : decode prog_9_method_42_code 32 = .ok (.getfield 156, 3) := by decide +kernel
theorem d_M_putStatement_35 : decode prog_9_method_42_code 35 = .ok (.iconst (1), 1) := by decide +kernel
theorem d_M_putStatement_36 : decode prog_9_method_42_code 36 = .ok (.if_icmp .ne (14), 3) := by decide +kernel
theorem d_M_putStatement_39 : decode prog_9_method_42_code 39 = .ok (.aload_n 0, 1) := by decide +kernel
theorem d_M_putStatement_40 : decode prog_9_method_42_code 40 = .ok (.aload_n 0, 1) := by decide +kernel
theorem d_M_putStatement_41 : decode prog_9_method_42_code 41 = .ok (.getfield 159, 3) := by decide +kernel
theorem d_M_putStatement_44 : decode prog_9_method_42_code 44 = .ok (.invokevirtual 207, 3) := by decide +kernel
theorem d_M_putStatement_47 : decode prog_9_method_42_code 47 = .ok (.goto (94), 3) := by decide +kernel
theorem d_M_putStatement_50 : decode prog_9_method_42_code 50 = .ok (.aload_n 0, 1) := by decide +kernel
theorem d_M_putStatement_51 : decode prog_9_method_42_code 51 = .ok (.getfield 20, 3) := by decide +kernel
theorem d_M_putStatement_54 : decode prog_9_method_42_code 54 = .ok (.iload_n 2, 1) := by decide +kernel
theorem d_M_putStatement_55 : decode prog_9_method_42_code 55 = .ok (.iconst (1), 1) := by decide +kernel
theorem d_M_putStatement_56 : decode prog_9_method_42_code 56 = .ok (.iadd, 1) := by decide +kernel
theorem d_M_putStatement_57 : decode prog_9_method_42_code 57 = .ok (.iaload, 1) := by decide +kernel
theorem d_M_putStatement_58 : decode prog_9_method_42_code 58 = .ok (.ifCond .ne (12), 3) := by decide +kernel
theorem d_M_putStatement_61 : decode prog_9_method_42_code 61 = .ok (.aload_n 0, 1) := by decide +kernel
theorem d_M_putStatement_62 : decode prog_9_method_42_code 62 = .ok (.bipush (63), 2) := by decide +kernel
theorem d_M_putStatement_64 : decode prog_9_method_42_code 64 = .ok (.invokevirtual 204, 3) := by decide +kernel
theorem d_M_putStatement_67 : decode prog_9_method_42_code 67 = .ok (.goto (74), 3) := by decide +kernel
theorem d_M_putStatement_70 : decode prog_9_method_42_code 70 = .ok (.aload_n 0, 1) := by decide +kernel
theorem d_M_putStatement_71 : decode prog_9_method_42_code 71 = .ok (.aload_n 0, 1) := by decide +kernel
theorem d_M_putStatement_72 : decode prog_9_method_42_code 72 = .ok (.getfield 20, 3) := by decide +kernel
theorem d_M_putStatement_75 : decode prog_9_method_42_code 75 = .ok (.iload_n 2, 1) := by decide +kernel
theorem d_M_putStatement_76 : decode prog_9_method_42_code 76 = .ok (.iconst (3), 1) := by decide +kernel
theorem d_M_putStatement_77 : decode prog_9_method_42_code 77 = .ok (.iadd, 1) := by decide +kernel
theorem d_M_putStatement_78 : decode prog_9_method_42_code 78 = .ok (.iaload, 1) := by decide +kernel
theorem d_M_putStatement_79 : decode prog_9_method_42_code 79 = .ok (.aload_n 0, 1) := by decide +kernel
theorem d_M_putStatement_80 : decode prog_9_method_42_code 80 = .ok (.getfield 20, 3) := by decide +kernel
theorem d_M_putStatement_83 : decode prog_9_method_42_code 83 = .ok (.iload_n 2, 1) := by decide +kernel
theorem d_M_putStatement_84 : decode prog_9_method_42_code 84 = .ok (.iconst (3), 1) := by decide +kernel
theorem d_M_putStatement_85 : decode prog_9_method_42_code 85 = .ok (.iadd, 1) := by decide +kernel
theorem d_M_putStatement_86 : decode prog_9_method_42_code 86 = .ok (.iconst (1), 1) := by decide +kernel
theorem d_M_putStatement_87 : decode prog_9_method_42_code 87 = .ok (.iadd, 1) := by decide +kernel
theorem d_M_putStatement_88 : decode prog_9_method_42_code 88 = .ok (.iaload, 1) := by decide +kernel
theorem d_M_putStatement_89 : decode prog_9_method_42_code 89 = .ok (.invokevirtual 210, 3) := by decide +kernel
theorem d_M_putStatement_92 : decode prog_9_method_42_code 92 = .ok (.aload_n 0, 1) := by decide +kernel
theorem d_M_putStatement_93 : decode prog_9_method_42_code 93 = .ok (.getfield 20, 3) := by decide +kernel
theorem d_M_putStatement_96 : decode prog_9_method_42_code 96 = .ok (.iload_n 2, 1) := by decide +kernel
theorem d_M_putStatement_97 : decode prog_9_method_42_code 97 = .ok (.iconst (1), 1) := by decide +kernel
theorem d_M_putStatement_98 : decode prog_9_method_42_code 98 = .ok (.iadd, 1) := by decide +kernel
theorem d_M_putStatement_99 : decode prog_9_method_42_code 99 = .ok (.iaload, 1) := by decide +kernel
theorem d_M_putStatement_100 : decode prog_9_method_42_code 100 = .ok (.iconst (2), 1) := by decide +kernel
theorem d_M_putStatement_101 : decode prog_9_method_42_code 101 = .ok (.if_icmp .ne (40), 3) := by decide +kernel
theorem d_M_putStatement_104 : decode prog_9_method_42_code 104 = .ok (.aload_n 0, 1) := by decide +kernel
theorem d_M_putStatement_105 : decode prog_9_method_42_code 105 = .ok (.aload_n 0, 1) := by decide +kernel
theorem d_M_putStatement_106 : decode prog_9_method_42_code 106 = .ok (.getfield 20, 3) := by decide +kernel
theorem d_M_putStatement_109 : decode prog_9_method_42_code 109 = .ok (.iload_n 2, 1) := by decide +kernel
theorem d_M_putStatement_110 : decode prog_9_method_42_code 110 = .ok (.iconst (2), 1) := by decide +kernel
theorem d_M_putStatement_111 : decode prog_9_method_42_code 111 = .ok (.iadd, 1) := by decide +kernel
theorem d_M_putStatement_112 : decode prog_9_method_42_code 112 = .ok (.iaload, 1) := by decide +kernel
theorem d_M_putStatement_113 : decode prog_9_method_42_code 113 = .ok (.invokestatic 213, 3) := by decide +kernel
theorem d_M_putStatement_116 : decode prog_9_method_42_code 116 = .ok (.invokevirtual 204, 3) := by decide +kernel
theorem d_M_putStatement_119 : decode prog_9_method_42_code 119 = .ok (.aload_n 0, 1) := by decide +kernel
theorem d_M_putStatement_120 : decode prog_9_method_42_code 120 = .ok (.aload_n 0, 1) := by decide +kernel
theorem d_M_putStatement_121 : decode prog_9_method_42_code 121 = .ok (.getfield 20, 3) := by decide +kernel
theorem d_M_putStatement_124 : decode prog_9_method_42_code 124 = .ok (.iload_n 2, 1) := by decide +kernel
theorem d_M_putStatement_125 : decode prog_9_method_42_code 125 = .ok (.iconst (5), 1) := by decide +kernel
theorem d_M_putStatement_126 : decode prog_9_method_42_code 126 = .ok (.iadd, 1) := by decide +kernel
theorem d_M_putStatement_127 : decode prog_9_method_42_code 127 = .ok (.iaload, 1) := by decide +kernel
theorem d_M_putStatement_128 : decode prog_9_method_42_code 128 = .ok (.aload_n 0, 1) := by decide +kernel
theorem d_M_putStatement_129 : decode prog_9_method_42_code 129 = .ok (.getfield 20, 3) := by decide +kernel
theorem d_M_putStatement_132 : decode prog_9_method_42_code 132 = .ok (.iload_n 2, 1) := by decide +kernel
theorem d_M_putStatement_133 : decode prog_9_method_42_code 133 = .ok (.iconst (5), 1) := by decide +kernel
theorem d_M_putStatement_134 : decode prog_9_method_42_code 134 = .ok (.iadd, 1) := by decide +kernel
theorem d_M_putStatement_135 : decode prog_9_method_42_code 135 = .ok (.iconst (1), 1) := by decide +kernel
theorem d_M_putStatement_136 : decode prog_9_method_42_code 136 = .ok (.iadd, 1) := by decide +kernel
theorem d_M_putStatement_137 : decode prog_9_method_42_code 137 = .ok (.iaload, 1) := by decide +kernel
theorem d_M_putStatement_138 : decode prog_9_method_42_code 138 = .ok (.invokevirtual 210, 3) := by decide +kernel
theorem d_M_putStatement_141 : decode prog_9_method_42_code 141 = .ok (.aload_n 0, 1) := by decide +kernel
theorem d_M_putStatement_142 : decode prog_9_method_42_code 142 = .ok (.bipush (59), 2) := by decide +kernel
theorem d_M_putStatement_144 : decode prog_9_method_42_code 144 = .ok (.invokevirtual 204, 3) := by decide +kernel
theorem d_M_putStatement_147 : decode prog_9_method_42_code 147 = .ok (.return_, 1) := by decide +kernel
theorem d_F_rewriteEnd_0 : decode prog_2_method_15_code 0 = .ok (.aload_n 1, 1) := by decide +kernel
theorem d_F_rewriteEnd_1 : decode prog_2_method_15_code 1 = .ok (.getfield 74, 3) := by decide +kernel
theorem d_F_rewriteEnd_4 : decode prog_2_method_15_code 4 = .ok (.iload_n 2, 1) := by decide +kernel
theorem d_F_rewriteEnd_5 : decode prog_2_method_15_code 5 = .ok (.iaload, 1) := by decide +kernel
theorem d_F_rewriteEnd_6 : decode prog_2_method_15_code 6 = .ok (.ifCond .ne (12), 3) := by decide +kernel
theorem d_F_rewriteEnd_9 : decode prog_2_method_15_code 9 = .ok (.aload_n 3, 1) := by decide +kernel
theorem d_F_rewriteEnd_10 : decode prog_2_method_15_code 10 = .ok (.bipush (46), 2) := by decide +kernel
theorem d_F_rewriteEnd_12 : decode prog_2_method_15_code 12 = .ok (.invokevirtual 127, 3) := by decide +kernel
theorem d_F_rewriteEnd_15 : decode prog_2_method_15_code 15 = .ok (.goto (88), 3) := by decide +kernel
theorem d_F_rewriteEnd_18 : decode prog_2_method_15_code 18 = .ok (.aload_n 0, 1) := by decide +kernel
theorem d_F_rewriteEnd_19 : decode prog_2_method_15_code 19 = .ok (.aload_n 1, 1) := by decide +kernel
theorem d_F_rewriteEnd_20 : decode prog_2_method_15_code 20 = .ok (.iload_n 2, 1) := by decide +kernel
theorem d_F_rewriteEnd_21 : decode prog_2_method_15_code 21 = .ok (.invokevirtual 77, 3) := by decide +kernel
theorem d_F_rewriteEnd_24 : decode prog_2_method_15_code 24 = .ok (.ifCond .eq (58), 3) := by decide +kernel
theorem d_F_rewriteEnd_27 : decode prog_2_method_15_code 27 = .ok (.aload_n 0, 1) := by decide +kernel
theorem d_F_rewriteEnd_28 : decode prog_2_method_15_code 28 = .ok (.aload_n 1, 1) := by decide +kernel
theorem d_F_rewriteEnd_29 : decode prog_2_method_15_code 29 = .ok (.iload_n 2, 1) := by decide +kernel
theorem d_F_rewriteEnd_30 : decode prog_2_method_15_code 30 = .ok (.invokestatic 93, 3) := by decide +kernel
theorem d_F_rewriteEnd_33 : decode prog_2_method_15_code 33 = .ok (.aload_n 3, 1) := by decide +kernel
theorem d_F_rewriteEnd_34 : decode prog_2_method_15_code 34 = .ok (.invokevirtual 149, 3) := by decide +kernel
theorem d_F_rewriteEnd_37 : decode prog_2_method_15_code 37 = .ok (.aload_n 3, 1) := by decide +kernel
theorem d_F_rewriteEnd_38 : decode prog_2_method_15_code 38 = .ok (.bipush (63), 2) := by decide +kernel
theorem d_F_rewriteEnd_40 : decode prog_2_method_15_code 40 = .ok (.invokevirtual 127, 3) := by decide +kernel
theorem d_F_rewriteEnd_43 : decode prog_2_method_15_code 43 = .ok (.aload_n 3, 1) := by decide +kernel
theorem d_F_rewriteEnd_44 : decode prog_2_method_15_code 44 = .ok (.aload_n 0, 1) := by decide +kernel
theorem d_F_rewriteEnd_45 : decode prog_2_method_15_code 45 = .ok (.getfield 35, 3) := by decide +kernel
theorem d_F_rewriteEnd_48 : decode prog_2_method_15_code 48 = .ok (.aload_n 1, 1) := by decide +kernel
theorem d_F_rewriteEnd_49 : decode prog_2_method_15_code 49 = .ok (.iload_n 2, 1) := by decide +kernel
theorem d_F_rewriteEnd_50 : decode prog_2_method_15_code 50 = .ok (.iconst (0), 1) := by decide +kernel
theorem d_F_rewriteEnd_51 : decode prog_2_method_15_code 51 = .ok (.invokevirtual 81, 3) := by decide +kernel
theorem d_F_rewriteEnd_54 : decode prog_2_method_15_code 54 = .ok (.iaload, 1) := by decide +kernel
theorem d_F_rewriteEnd_55 : decode prog_2_method_15_code 55 = .ok (.invokevirtual 143, 3) := by decide +kernel
theorem d_F_rewriteEnd_58 : decode prog_2_method_15_code 58 = .ok (.aload_n 3, 1) := by decide +kernel
theorem d_F_rewriteEnd_59 : decode prog_2_method_15_code 59 = .ok (.bipush (58), 2) := by decide +kernel
theorem d_F_rewriteEnd_61 : decode prog_2_method_15_code 61 = .ok (.invokevirtual 127, 3) := by decide +kernel
theorem d_F_rewriteEnd_64 : decode prog_2_method_15_code 64 = .ok (.aload_n 3, 1) := by decide +kernel
theorem d_F_rewriteEnd_65 : decode prog_2_method_15_code 65 = .ok (.aload_n 0, 1) := by decide +kernel
theorem d_F_rewriteEnd_66 : decode prog_2_method_15_code 66 = .ok (.getfield 35, 3) := by decide +kernel
theorem d_F_rewriteEnd_69 : decode prog_2_method_15_code 69 = .ok (.aload_n 1, 1) := by decide +kernel
theorem d_F_rewriteEnd_70 : decode prog_2_method_15_code 70 = .ok (.iload_n 2, 1) := by decide +kernel
theorem d_F_rewriteEnd_71 : decode prog_2_method_15_code 71 = .ok (.iconst (1), 1) := by decide +kernel
theorem d_F_rewriteEnd_72 : decode prog_2_method_15_code 72 = .ok (.invokevirtual 81, 3) := by decide +kernel
theorem d_F_rewriteEnd_75 : decode prog_2_method_15_code 75 = .ok (.iaload, 1) := by decide +kernel
theorem d_F_rewriteEnd_76 : decode prog_2_method_15_code 76 = .ok (.invokevirtual 143, 3) := by decide +kernel
theorem d_F_rewriteEnd_79 : decode prog_2_method_15_code 79 = .ok (.goto (24), 3) := by decide +kernel
theorem d_F_rewriteEnd_82 : decode prog_2_method_15_code 82 = .ok (.aload_n 3, 1) := by decide +kernel
theorem d_F_rewriteEnd_83 : decode prog_2_method_15_code 83 = .ok (.bipush (62), 2) := by decide +kernel
theorem d_F_rewriteEnd_85 : decode prog_2_method_15_code 85 = .ok (.invokevirtual 127, 3) := by decide +kernel
theorem d_F_rewriteEnd_88 : decode prog_2_method_15_code 88 = .ok (.aload_n 3, 1) := by decide +kernel
theorem d_F_rewriteEnd_89 : decode prog_2_method_15_code 89 = .ok (.aload_n 0, 1) := by decide +kernel
theorem d_F_rewriteEnd_90 : decode prog_2_method_15_code 90 = .ok (.getfield 35, 3) := by decide +kernel
theorem d_F_rewriteEnd_93 : decode prog_2_method_15_code 93 = .ok (.aload_n 0, 1) := by decide +kernel
theorem d_F_rewriteEnd_94 : decode prog_2_method_15_code 94 = .ok (.aload_n 1, 1) := by decide +kernel
theorem d_F_rewriteEnd_95 : decode prog_2_method_15_code 95 = .ok (.iload_n 2, 1) := by decide +kernel
theorem d_F_rewriteEnd_96 : decode prog_2_method_15_code 96 = .ok (.invokevirtual 85, 3) := by decide +kernel
theorem d_F_rewriteEnd_99 : decode prog_2_method_15_code 99 = .ok (.iaload, 1) := by decide +kernel
theorem d_F_rewriteEnd_100 : decode prog_2_method_15_code 100 = .ok (.invokevirtual 143, 3) := by decide +kernel
theorem d_F_rewriteEnd_103 : decode prog_2_method_15_code 103 = .ok (.return_, 1) := by decide +kernel
theorem d_F_flowThrough_0 : decode prog_2_method_5_code 0 = .ok (.aload_n 0, 1) := by decide +kernel
theorem d_F_flowThrough_1 : decode prog_2_method_5_code 1 = .ok (.getfield 24, 3) := by decide +kernel
theorem d_F_flowThrough_4 : decode prog_2_method_5_code 4 = .ok (.iload_n 2, 1) := by decide +kernel
theorem d_F_flowThrough_5 : decode prog_2_method_5_code 5 = .ok (.aaload, 1) := by decide +kernel
theorem d_F_flowThrough_6 : decode prog_2_method_5_code 6 = .ok (.astore_n 3, 1) := by decide +kernel
theorem d_F_flowThrough_7 : decode prog_2_method_5_code 7 = .ok (.aload_n 3, 1) := by decide +kernel
theorem d_F_flowThrough_8 : decode prog_2_method_5_code 8 = .ok (.aload_n 0, 1) := by decide +kernel
theorem d_F_flowThrough_9 : decode prog_2_method_5_code 9 = .ok (.getfield 20, 3) := by decide +kernel
theorem d_F_flowThrough_12 : decode prog_2_method_5_code 12 = .ok (.iload_n 2, 1) := by decide +kernel
theorem d_F_flowThrough_13 : decode prog_2_method_5_code 13 = .ok (.aaload, 1) := by decide +kernel
theorem d_F_flowThrough_14 : decode prog_2_method_5_code 14 = .ok (.invokevirtual 64, 3) := by decide +kernel
theorem d_F_flowThrough_17 : decode prog_2_method_5_code 17 = .ok (.aload_n 1, 1) := by decide +kernel
theorem d_F_flowThrough_18 : decode prog_2_method_5_code 18 = .ok (.getfield 68, 3) := by decide +kernel
theorem d_F_flowThrough_21 : decode prog_2_method_5_code 21 = .ok (.iload_n 2, 1) := by decide +kernel
theorem d_F_flowThrough_22 : decode prog_2_method_5_code 22 = .ok (.iaload, 1) := by decide +kernel
theorem d_F_flowThrough_23 : decode prog_2_method_5_code 23 = .ok (.istore 4, 2) := by decide +kernel
theorem d_F_flowThrough_25 : decode prog_2_method_5_code 25 = .ok (.iload 4, 2) := by decide +kernel
theorem d_F_flowThrough_27 : decode prog_2_method_5_code 27 = .ok (.aload_n 1, 1) := by decide +kernel
theorem d_F_flowThrough_28 : decode prog_2_method_5_code 28 = .ok (.getfield 68, 3) := by decide +kernel
theorem d_F_flowThrough_31 : decode prog_2_method_5_code 31 = .ok (.iload_n 2, 1) := by decide +kernel
theorem d_F_flowThrough_32 : decode prog_2_method_5_code 32 = .ok (.iconst (1), 1) := by decide +kernel
theorem d_F_flowThrough_33 : decode prog_2_method_5_code 33 = .ok (.iadd, 1) := by decide +kernel
theorem d_F_flowThrough_34 : decode prog_2_method_5_code 34 = .ok (.iaload, 1) := by decide +kernel
theorem d_F_flowThrough_35 : decode prog_2_method_5_code 35 = .ok (.if_icmp .ge (16), 3) := by decide +kernel
theorem d_F_flowThrough_38 : decode prog_2_method_5_code 38 = .ok (.aload_n 3, 1) := by decide +kernel
theorem d_F_flowThrough_39 : decode prog_2_method_5_code 39 = .ok (.aload_n 1, 1) := by decide +kernel
theorem d_F_flowThrough_40 : decode prog_2_method_5_code 40 = .ok (.iload 4, 2) := by decide +kernel
theorem d_F_flowThrough_42 : decode prog_2_method_5_code 42 = .ok (.invokevirtual 71, 3) := by decide +kernel
theorem d_F_flowThrough_45 : decode prog_2_method_5_code 45 = .ok (.iinc 4 (1), 3) := by decide +kernel
theorem d_F_flowThrough_48 : decode prog_2_method_5_code 48 = .ok (.goto (-23), 3) := by decide +kernel
theorem d_F_flowThrough_51 : decode prog_2_method_5_code 51 = .ok (.aload_n 1, 1) := by decide +kernel
theorem d_F_flowThrough_52 : decode prog_2_method_5_code 52 = .ok (.getfield 74, 3) := by decide +kernel
theorem d_F_flowThrough_55 : decode prog_2_method_5_code 55 = .ok (.iload_n 2, 1) := by decide +kernel
theorem d_F_flowThrough_56 : decode prog_2_method_5_code 56 = .ok (.iaload, 1) := by decide +kernel
theorem d_F_flowThrough_57 : decode prog_2_method_5_code 57 = .ok (.ifCond .ne (4), 3) := by decide +kernel
theorem d_F_flowThrough_60 : decode prog_2_method_5_code 60 = .ok (.return_, 1) := by decide +kernel
theorem d_F_flowThrough_61 : decode prog_2_method_5_code 61 = .ok (.aload_n 0, 1) := by decide +kernel
theorem d_F_flowThrough_62 : decode prog_2_method_5_code 62 = .ok (.aload_n 1, 1) := by decide +kernel
theorem d_F_flowThrough_63 : decode prog_2_method_5_code 63 = .ok (.iload_n 2, 1) := by decide +kernel
theorem d_F_flowThrough_64 : decode prog_2_method_5_code 64 = .ok (.invokevirtual 77, 3) := by decide +kernel
theorem d_F_flowThrough_67 : decode prog_2_method_5_code 67 = .ok (.ifCond .eq (28), 3) := by decide +kernel
theorem d_F_flowThrough_70 : decode prog_2_method_5_code 70 = .ok (.aload_n 0, 1) := by decide +kernel
theorem d_F_flowThrough_71 : decode prog_2_method_5_code 71 = .ok (.aload_n 1, 1) := by decide +kernel
theorem d_F_flowThrough_72 : decode prog_2_method_5_code 72 = .ok (.iload_n 2, 1) := by decide +kernel
theorem d_F_flowThrough_73 : decode prog_2_method_5_code 73 = .ok (.iconst (0), 1) := by decide +kernel
theorem d_F_flowThrough_74 : decode prog_2_method_5_code 74 = .ok (.invokevirtual 81, 3) := by decide +kernel
theorem d_F_flowThrough_77 : decode prog_2_method_5_code 77 = .ok (.aload_n 3, 1) := by decide +kernel
theorem d_F_flowThrough_78 : decode prog_2_method_5_code 78 = .ok (.invokevirtual 42, 3) := by decide +kernel
theorem d_F_flowThrough_81 : decode prog_2_method_5_code 81 = .ok (.aload_n 0, 1) := by decide +kernel
theorem d_F_flowThrough_82 : decode prog_2_method_5_code 82 = .ok (.aload_n 1, 1) := by decide +kernel
theorem d_F_flowThrough_83 : decode prog_2_method_5_code 83 = .ok (.iload_n 2, 1) := by decide +kernel
theorem d_F_flowThrough_84 : decode prog_2_method_5_code 84 = .ok (.iconst (1), 1) := by decide +kernel
theorem d_F_flowThrough_85 : decode prog_2_method_5_code 85 = .ok (.invokevirtual 81, 3) := by decide +kernel
theorem d_F_flowThrough_88 : decode prog_2_method_5_code 88 = .ok (.aload_n 3, 1) := by decide +kernel
theorem d_F_flowThrough_89 : decode prog_2_method_5_code 89 = .ok (.invokevirtual 42, 3) := by decide +kernel
theorem d_F_flowThrough_92 : decode prog_2_method_5_code 92 = .ok (.goto (14), 3) := by decide +kernel
theorem d_F_flowThrough_95 : decode prog_2_method_5_code 95 = .ok (.aload_n 0, 1) := by decide +kernel
theorem d_F_flowThrough_96 : decode prog_2_method_5_code 96 = .ok (.aload_n 0, 1) := by decide +kernel
theorem d_F_flowThrough_97 : decode prog_2_method_5_code 97 = .ok (.aload_n 1, 1) := by decide +kernel
theorem d_F_flowThrough_98 : decode prog_2_method_5_code 98 = .ok (.iload_n 2, 1) := by decide +kernel
theorem d_F_flowThrough_99 : decode prog_2_method_5_code 99 = .ok (.invokevirtual 85, 3) := by decide +kernel
theorem d_F_flowThrough_102 : decode prog_2_method_5_code 102 = .ok (.aload_n 3, 1) := by decide +kernel
theorem d_F_flowThrough_103 : decode prog_2_method_5_code 103 = .ok (.invokevirtual 42, 3) := by decide +kernel
theorem d_F_flowThrough_106 : decode prog_2_method_5_code 106 = .ok (.return_, 1) := by decide +kernel
theorem d_F_count_0 : decode prog_2_method_9_code 0 = .ok (.iconst (0), 1) := by decide +kernel
theorem d_F_count_1 : decode prog_2_method_9_code 1 = .ok (.istore_n 2, 1) := by decide +kernel
theorem d_F_count_2 : decode prog_2_method_9_code 2 = .ok (.iload_n 2, 1) := by decide +kernel
theorem d_F_count_3 : decode prog_2_method_9_code 3 = .ok (.bipush (7), 2) := by decide +kernel
theorem d_F_count_5 : decode prog_2_method_9_code 5 = .ok (.if_icmp .ge (16), 3) := by decide +kernel
theorem d_F_count_8 : decode prog_2_method_9_code 8 = .ok (.aload_n 0, 1) := by decide +kernel
theorem d_F_count_9 : decode prog_2_method_9_code 9 = .ok (.getfield 39, 3) := by decide +kernel
theorem d_F_count_12 : decode prog_2_method_9_code 12 = .ok (.iload_n 2, 1) := by decide +kernel
theorem d_F_count_13 : decode prog_2_method_9_code 13 = .ok (.iconst (0), 1) := by decide +kernel
theorem d_F_count_14 : decode prog_2_method_9_code 14 = .ok (.iastore, 1) := by decide +kernel
theorem d_F_count_15 : decode prog_2_method_9_code 15 = .ok (.iinc 2 (1), 3) := by decide +kernel
theorem d_F_count_18 : decode prog_2_method_9_code 18 = .ok (.goto (-16), 3) := by decide +kernel
theorem d_F_count_21 : decode prog_2_method_9_code 21 = .ok (.aload_n 0, 1) := by decide +kernel
theorem d_F_count_22 : decode prog_2_method_9_code 22 = .ok (.getfield 39, 3) := by decide +kernel
theorem d_F_count_25 : decode prog_2_method_9_code 25 = .ok (.iconst (0), 1) := by decide +kernel
theorem d_F_count_26 : decode prog_2_method_9_code 26 = .ok (.aload_n 1, 1) := by decide +kernel
theorem d_F_count_27 : decode prog_2_method_9_code 27 = .ok (.getfield 54, 3) := by decide +kernel
theorem d_F_count_30 : decode prog_2_method_9_code 30 = .ok (.iastore, 1) := by decide +kernel
theorem d_F_count_31 : decode prog_2_method_9_code 31 = .ok (.aload_n 0, 1) := by decide +kernel
theorem d_F_count_32 : decode prog_2_method_9_code 32 = .ok (.getfield 39, 3) := by decide +kernel
theorem d_F_count_35 : decode prog_2_method_9_code 35 = .ok (.iconst (2), 1) := by decide +kernel
theorem d_F_count_36 : decode prog_2_method_9_code 36 = .ok (.aload_n 1, 1) := by decide +kernel
theorem d_F_count_37 : decode prog_2_method_9_code 37 = .ok (.getfield 106, 3) := by decide +kernel
theorem d_F_count_40 : decode prog_2_method_9_code 40 = .ok (.iastore, 1) := by decide +kernel
theorem d_F_count_41 : decode prog_2_method_9_code 41 = .ok (.iconst (0), 1) := by decide +kernel
theorem d_F_count_42 : decode prog_2_method_9_code 42 = .ok (.istore_n 2, 1) := by decide +kernel
theorem d_F_count_43 : decode prog_2_method_9_code 43 = .ok (.iload_n 2, 1) := by decide +kernel
theorem d_F_count_44 : decode prog_2_method_9_code 44 = .ok (.aload_n 1, 1) := by decide +kernel
theorem d_F_count_45 : decode prog_2_method_9_code 45 = .ok (.getfield 54, 3) := by decide +kernel
theorem d_F_count_48 : decode prog_2_method_9_code 48 = .ok (.if_icmp .ge (24), 3) := by decide +kernel
theorem d_F_count_51 : decode prog_2_method_9_code 51 = .ok (.aload_n 0, 1) := by decide +kernel
theorem d_F_count_52 : decode prog_2_method_9_code 52 = .ok (.getfield 9, 3) := by decide +kernel
theorem d_F_count_55 : decode prog_2_method_9_code 55 = .ok (.iload_n 2, 1) := by decide +kernel
theorem d_F_count_56 : decode prog_2_method_9_code 56 = .ok (.baload, 1) := by decide +kernel
theorem d_F_count_57 : decode prog_2_method_9_code 57 = .ok (.ifCond .eq (9), 3) := by decide +kernel
theorem d_F_count_60 : decode prog_2_method_9_code 60 = .ok (.aload_n 0, 1) := by decide +kernel
theorem d_F_count_61 : decode prog_2_method_9_code 61 = .ok (.aload_n 1, 1) := by decide +kernel
theorem d_F_count_62 : decode prog_2_method_9_code 62 = .ok (.iload_n 2, 1) := by decide +kernel
theorem d_F_count_63 : decode prog_2_method_9_code 63 = .ok (.invokevirtual 109, 3) := by decide +kernel
theorem d_F_count_66 : decode prog_2_method_9_code 66 = .ok (.iinc 2 (1), 3) := by decide +kernel
theorem d_F_count_69 : decode prog_2_method_9_code 69 = .ok (.goto (-26), 3) := by decide +kernel
theorem d_F_count_72 : decode prog_2_method_9_code 72 = .ok (.return_, 1) := by decide +kernel
theorem d_R_fillStatements_0 : decode prog_5_method_6_code 0 = .ok (.iconst (0), 1) := by decide +kernel
theorem d_R_fillStatements_1 : decode prog_5_method_6_code 1 = .ok (.istore_n 1, 1) := by decide +kernel
theorem d_R_fillStatements_2 : decode prog_5_method_6_code 2 = .ok (.iload_n 1, 1) := by decide +kernel
theorem d_R_fillStatements_3 : decode prog_5_method_6_code 3 = .ok (.bipush (80), 2) := by decide +kernel
theorem d_R_fillStatements_5 : decode prog_5_method_6_code 5 = .ok (.if_icmp .gt (97), 3) := by decide +kernel
theorem d_R_fillStatements_8 : decode prog_5_method_6_code 8 = .ok (.aload_n 0, 1) := by decide +kernel
theorem d_R_fillStatements_9 : decode prog_5_method_6_code 9 = .ok (.invokevirtual 45, 3) := by decide +kernel
theorem d_R_fillStatements_12 : decode prog_5_method_6_code 12 = .ok (.invokestatic 65, 3) := by decide +kernel
theorem d_R_fillStatements_15 : decode prog_5_method_6_code 15 = .ok (.ifCond .eq (87), 3) := by decide +kernel
theorem d_R_fillStatements_18 : decode prog_5_method_6_code 18 = .ok (.aload_n 0, 1) := by decide +kernel
theorem d_R_fillStatements_19 : decode prog_5_method_6_code 19 = .ok (.getfield 32, 3) := by decide +kernel
theorem d_R_fillStatements_22 : decode prog_5_method_6_code 22 = .ok (.istore_n 2, 1) := by decide +kernel
theorem d_R_fillStatements_23 : decode prog_5_method_6_code 23 = .ok (.aload_n 0, 1) := by decide +kernel
theorem d_R_fillStatements_24 : decode prog_5_method_6_code 24 = .ok (.invokevirtual 45, 3) := by decide +kernel
theorem d_R_fillStatements_27 : decode prog_5_method_6_code 27 = .ok (.bipush (97), 2) := by decide +kernel
theorem d_R_fillStatements_29 : decode prog_5_method_6_code 29 = .ok (.isub, 1) := by decide +kernel
theorem d_R_fillStatements_30 : decode prog_5_method_6_code 30 = .ok (.istore_n 3, 1) := by decide +kernel
theorem d_R_fillStatements_31 : decode prog_5_method_6_code 31 = .ok (.aload_n 0, 1) := by decide +kernel
theorem d_R_fillStatements_32 : decode prog_5_method_6_code 32 = .ok (.dup, 1) := by decide +kernel
theorem d_R_fillStatements_33 : decode prog_5_method_6_code 33 = .ok (.getfield 32, 3) := by decide +kernel
theorem d_R_fillStatements_36 : decode prog_5_method_6_code 36 = .ok (.iconst (1), 1) := by decide +kernel
theorem d_R_fillStatements_37 : decode prog_5_method_6_code 37 = .ok (.iadd, 1) := by decide +kernel
theorem d_R_fillStatements_38 : decode prog_5_method_6_code 38 = .ok (.putfield 32, 3) := by decide +kernel
theorem d_R_fillStatements_41 : decode prog_5_method_6_code 41 = .ok (.aload_n 0, 1) := by decide +kernel
theorem d_R_fillStatements_42 : decode prog_5_method_6_code 42 = .ok (.invokevirtual 45, 3) := by decide +kernel
theorem d_R_fillStatements_45 : decode prog_5_method_6_code 45 = .ok (.bipush (61), 2) := by decide +kernel
theorem d_R_fillStatements_47 : decode prog_5_method_6_code 47 = .ok (.if_icmp .eq (10), 3) := by decide +kernel
theorem d_R_fillStatements_50 : decode prog_5_method_6_code 50 = .ok (.aload_n 0, 1) := by decide +kernel
theorem d_R_fillStatements_51 : decode prog_5_method_6_code 51 = .ok (.iload_n 2, 1) := by decide +kernel
theorem d_R_fillStatements_52 : decode prog_5_method_6_code 52 = .ok (.putfield 32, 3) := by decide +kernel
theorem d_R_fillStatements_55 : decode prog_5_method_6_code 55 = .ok (.iconst (1), 1) := by decide +kernel
theorem d_R_fillStatements_56 : decode prog_5_method_6_code 56 = .ok (.ireturn, 1) := by decide +kernel
theorem d_R_fillStatements_57 : decode prog_5_method_6_code 57 = .ok (.aload_n 0, 1) := by decide +kernel
theorem d_R_fillStatements_58 : decode prog_5_method_6_code 58 = .ok (.getfield 23, 3) := by decide +kernel
theorem d_R_fillStatements_61 : decode prog_5_method_6_code 61 = .ok (.getfield 69, 3) := by decide +kernel
theorem d_R_fillStatements_64 : decode prog_5_method_6_code 64 = .ok (.bipush (80), 2) := by decide +kernel
theorem d_R_fillStatements_66 : decode prog_5_method_6_code 66 = .ok (.if_icmp .lt (10), 3) := by decide +kernel
theorem d_R_fillStatements_69 : decode prog_5_method_6_code 69 = .ok (.aload_n 0, 1) := by decide +kernel
theorem d_R_fillStatements_70 : decode prog_5_method_6_code 70 = .ok (.iconst (3), 1) := by decide +kernel
theorem d_R_fillStatements_71 : decode prog_5_method_6_code 71 = .ok (.iload_n 2, 1) := by decide +kernel
theorem d_R_fillStatements_72 : decode prog_5_method_6_code 72 = .ok (.invokevirtual 52, 3) := by decide +kernel
theorem d_R_fillStatements_75 : decode prog_5_method_6_code 75 = .ok (.ireturn, 1) := by decide +kernel
theorem d_R_fillStatements_76 : decode prog_5_method_6_code 76 = .ok (.aload_n 0, 1) := by decide +kernel
theorem d_R_fillStatements_77 : decode prog_5_method_6_code 77 = .ok (.dup, 1) := by decide +kernel
theorem d_R_fillStatements_78 : decode prog_5_method_6_code 78 = .ok (.getfield 32, 3) := by decide +kernel
theorem d_R_fillStatements_81 : decode prog_5_method_6_code 81 = .ok (.iconst (1), 1) := by decide +kernel
theorem d_R_fillStatements_82 : decode prog_5_method_6_code 82 = .ok (.iadd, 1) := by decide +kernel
theorem d_R_fillStatements_83 : decode prog_5_method_6_code 83 = .ok (.putfield 32, 3) := by decide +kernel
theorem d_R_fillStatements_86 : decode prog_5_method_6_code 86 = .ok (.aload_n 0, 1) := by decide +kernel
theorem d_R_fillStatements_87 : decode prog_5_method_6_code 87 = .ok (.iload_n 3, 1) := by decide +kernel
theorem d_R_fillStatements_88 : decode prog_5_method_6_code 88 = .ok (.invokevirtual 72, 3) := by decide +kernel
theorem d_R_fillStatements_91 : decode prog_5_method_6_code 91 = .ok (.ifCond .ne (5), 3) := by decide +kernel
theorem d_R_fillStatements_94 : decode prog_5_method_6_code 94 = .ok (.iconst (0), 1) := by decide +kernel
theorem d_R_fillStatements_95 : decode prog_5_method_6_code 95 = .ok (.ireturn, 1) := by decide +kernel
theorem d_R_fillStatements_96 : decode prog_5_method_6_code 96 = .ok (.iinc 1 (1), 3) := by decide +kernel
theorem d_R_fillStatements_99 : decode prog_5_method_6_code 99 = .ok (.goto (-97), 3) := by decide +kernel
theorem d_R_fillStatements_102 : decode prog_5_method_6_code 102 = .ok (.iconst (1), 1) := by decide +kernel
theorem d_R_fillStatements_103 : decode prog_5_method_6_code 103 = .ok (.ireturn, 1) := by decide +kernel
theorem d_M_block_0 : decode prog_9_method_18_code 0 = .ok (.aload_n 0, 1) := by decide +kernel
theorem d_M_block_1 : decode prog_9_method_18_code 1 = .ok (.getfield 35, 3) := by decide +kernel
theorem d_M_block_4 : decode prog_9_method_18_code 4 = .ok (.aload_n 0, 1) := by decide +kernel
theorem d_M_block_5 : decode prog_9_method_18_code 5 = .ok (.getfield 118, 3) := by decide +kernel
theorem d_M_block_8 : decode prog_9_method_18_code 8 = .ok (.aload_n 0, 1) := by decide +kernel
theorem d_M_block_9 : decode prog_9_method_18_code 9 = .ok (.getfield 121, 3) := by decide +kernel
theorem d_M_block_12 : decode prog_9_method_18_code 12 = .ok (.iastore, 1) := by decide +kernel
theorem d_M_block_13 : decode prog_9_method_18_code 13 = .ok (.iconst (1), 1) := by decide +kernel
theorem d_M_block_14 : decode prog_9_method_18_code 14 = .ok (.istore_n 1, 1) := by decide +kernel
