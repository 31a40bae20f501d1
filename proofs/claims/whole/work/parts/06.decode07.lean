theorem d_M_run_81 : decode prog_9_method_52_code 81 = .ok (.iaload, 1) := by decide +kernel
theorem d_M_run_82 : decode prog_9_method_52_code 82 = .ok (.if_icmp .ge (14), 3) := by decide +kernel
theorem d_M_run_85 : decode prog_9_method_52_code 85 = .ok (.aload_n 0, 1) := by decide +kernel
theorem d_M_run_86 : decode prog_9_method_52_code 86 = .ok (.iload_n 3, 1) := by decide +kernel
theorem d_M_run_87 : decode prog_9_method_52_code 87 = .ok (.invokevirtual 234, 3) := by decide +kernel
theorem d_M_run_90 : decode prog_9_method_52_code 90 = .ok (.iinc 3 (1), 3) := by decide +kernel
theorem d_M_run_93 : decode prog_9_method_52_code 93 = .ok (.goto (103), 3) := by decide +kernel
theorem d_M_run_96 : decode prog_9_method_52_code 96 = .ok (.aload_n 0, 1) := by decide +kernel
theorem d_M_run_97 : decode prog_9_method_52_code 97 = .ok (.getfield 23, 3) := by decide +kernel
theorem d_M_run_100 : decode prog_9_method_52_code 100 = .ok (.iconst (5), 1) := by decide +kernel
theorem d_M_run_101 : decode prog_9_method_52_code 101 = .ok (.iload_n 2, 1) := by decide +kernel
theorem d_M_run_102 : decode prog_9_method_52_code 102 = .ok (.imul, 1) := by decide +kernel
theorem d_M_run_103 : decode prog_9_method_52_code 103 = .ok (.iaload, 1) := by decide +kernel
theorem d_M_run_104 : decode prog_9_method_52_code 104 = .ok (.ifCond .ne (8), 3) := by decide +kernel
theorem d_M_run_107 : decode prog_9_method_52_code 107 = .ok (.iload 4, 2) := by decide +kernel
theorem d_M_run_109 : decode prog_9_method_52_code 109 = .ok (.iconst (1), 1) := by decide +kernel
theorem d_M_run_110 : decode prog_9_method_52_code 110 = .ok (.iadd, 1) := by decide +kernel
theorem d_M_run_111 : decode prog_9_method_52_code 111 = .ok (.ireturn, 1) := by decide +kernel
theorem d_M_run_112 : decode prog_9_method_52_code 112 = .ok (.iconst (5), 1) := by decide +kernel
theorem d_M_run_113 : decode prog_9_method_52_code 113 = .ok (.iload_n 2, 1) := by decide +kernel
theorem d_M_run_114 : decode prog_9_method_52_code 114 = .ok (.imul, 1) := by decide +kernel
theorem d_M_run_115 : decode prog_9_method_52_code 115 = .ok (.istore 5, 2) := by decide +kernel
theorem d_M_run_117 : decode prog_9_method_52_code 117 = .ok (.aload_n 0, 1) := by decide +kernel
theorem d_M_run_118 : decode prog_9_method_52_code 118 = .ok (.getfield 23, 3) := by decide +kernel
theorem d_M_run_121 : decode prog_9_method_52_code 121 = .ok (.iload 5, 2) := by decide +kernel
theorem d_M_run_123 : decode prog_9_method_52_code 123 = .ok (.iaload, 1) := by decide +kernel
theorem d_M_run_124 : decode prog_9_method_52_code 124 = .ok (.iconst (1), 1) := by decide +kernel
theorem d_M_run_125 : decode prog_9_method_52_code 125 = .ok (.if_icmp .eq (30), 3) := by decide +kernel
theorem d_M_run_128 : decode prog_9_method_52_code 128 = .ok (.aload_n 0, 1) := by decide +kernel
theorem d_M_run_129 : decode prog_9_method_52_code 129 = .ok (.aload_n 0, 1) := by decide +kernel
theorem d_M_run_130 : decode prog_9_method_52_code 130 = .ok (.getfield 23, 3) := by decide +kernel
theorem d_M_run_133 : decode prog_9_method_52_code 133 = .ok (.iload 5, 2) := by decide +kernel
theorem d_M_run_135 : decode prog_9_method_52_code 135 = .ok (.iconst (1), 1) := by decide +kernel
theorem d_M_run_136 : decode prog_9_method_52_code 136 = .ok (.iadd, 1) := by decide +kernel
theorem d_M_run_137 : decode prog_9_method_52_code 137 = .ok (.iaload, 1) := by decide +kernel
theorem d_M_run_138 : decode prog_9_method_52_code 138 = .ok (.aload_n 0, 1) := by decide +kernel
theorem d_M_run_139 : decode prog_9_method_52_code 139 = .ok (.getfield 23, 3) := by decide +kernel
theorem d_M_run_142 : decode prog_9_method_52_code 142 = .ok (.iload 5, 2) := by decide +kernel
theorem d_M_run_144 : decode prog_9_method_52_code 144 = .ok (.iconst (1), 1) := by decide +kernel
theorem d_M_run_145 : decode prog_9_method_52_code 145 = .ok (.iadd, 1) := by decide +kernel
theorem d_M_run_146 : decode prog_9_method_52_code 146 = .ok (.iconst (1), 1) := by decide +kernel
theorem d_M_run_147 : decode prog_9_method_52_code 147 = .ok (.iadd, 1) := by decide +kernel
theorem d_M_run_148 : decode prog_9_method_52_code 148 = .ok (.iaload, 1) := by decide +kernel
theorem d_M_run_149 : decode prog_9_method_52_code 149 = .ok (.invokevirtual 231, 3) := by decide +kernel
theorem d_M_run_152 : decode prog_9_method_52_code 152 = .ok (.ifCond .eq (7), 3) := by decide +kernel
theorem d_M_run_155 : decode prog_9_method_52_code 155 = .ok (.iconst (1), 1) := by decide +kernel
theorem d_M_run_156 : decode prog_9_method_52_code 156 = .ok (.goto (4), 3) := by decide +kernel
theorem d_M_run_159 : decode prog_9_method_52_code 159 = .ok (.iconst (0), 1) := by decide +kernel
theorem d_M_run_160 : decode prog_9_method_52_code 160 = .ok (.istore 6, 2) := by decide +kernel
theorem d_M_run_162 : decode prog_9_method_52_code 162 = .ok (.iload 6, 2) := by decide +kernel
theorem d_M_run_164 : decode prog_9_method_52_code 164 = .ok (.ifCond .eq (15), 3) := by decide +kernel
theorem d_M_run_167 : decode prog_9_method_52_code 167 = .ok (.aload_n 0, 1) := by decide +kernel
theorem d_M_run_168 : decode prog_9_method_52_code 168 = .ok (.getfield 23, 3) := by decide +kernel
theorem d_M_run_171 : decode prog_9_method_52_code 171 = .ok (.iload 5, 2) := by decide +kernel
theorem d_M_run_173 : decode prog_9_method_52_code 173 = .ok (.iconst (3), 1) := by decide +kernel
theorem d_M_run_174 : decode prog_9_method_52_code 174 = .ok (.iadd, 1) := by decide +kernel
theorem d_M_run_175 : decode prog_9_method_52_code 175 = .ok (.iaload, 1) := by decide +kernel
theorem d_M_run_176 : decode prog_9_method_52_code 176 = .ok (.goto (12), 3) := by decide +kernel
theorem d_M_run_179 : decode prog_9_method_52_code 179 = .ok (.aload_n 0, 1) := by decide +kernel
theorem d_M_run_180 : decode prog_9_method_52_code 180 = .ok (.getfield 23, 3) := by decide +kernel
theorem d_M_run_183 : decode prog_9_method_52_code 183 = .ok (.iload 5, 2) := by decide +kernel
theorem d_M_run_185 : decode prog_9_method_52_code 185 = .ok (.iconst (4), 1) := by decide +kernel
theorem d_M_run_186 : decode prog_9_method_52_code 186 = .ok (.iadd, 1) := by decide +kernel
theorem d_M_run_187 : decode prog_9_method_52_code 187 = .ok (.iaload, 1) := by decide +kernel
theorem d_M_run_188 : decode prog_9_method_52_code 188 = .ok (.istore_n 2, 1) := by decide +kernel
theorem d_M_run_189 : decode prog_9_method_52_code 189 = .ok (.aload_n 0, 1) := by decide +kernel
theorem d_M_run_190 : decode prog_9_method_52_code 190 = .ok (.getfield 26, 3) := by decide +kernel
theorem d_M_run_193 : decode prog_9_method_52_code 193 = .ok (.iload_n 2, 1) := by decide +kernel
theorem d_M_run_194 : decode prog_9_method_52_code 194 = .ok (.iaload, 1) := by decide +kernel
theorem d_M_run_195 : decode prog_9_method_52_code 195 = .ok (.istore_n 3, 1) := by decide +kernel
theorem d_M_run_196 : decode prog_9_method_52_code 196 = .ok (.iinc 4 (1), 3) := by decide +kernel
theorem d_M_run_199 : decode prog_9_method_52_code 199 = .ok (.goto (-132), 3) := by decide +kernel
theorem d_M_run_202 : decode prog_9_method_52_code 202 = .ok (.iconst (-1), 1) := by decide +kernel
theorem d_M_run_203 : decode prog_9_method_52_code 203 = .ok (.ireturn, 1) := by decide +kernel
theorem d_F_countBlock_0 : decode prog_2_method_10_code 0 = .ok (.aload_n 0, 1) := by decide +kernel
theorem d_F_countBlock_1 : decode prog_2_method_10_code 1 = .ok (.getfield 39, 3) := by decide +kernel
theorem d_F_countBlock_4 : decode prog_2_method_10_code 4 = .ok (.iconst (1), 1) := by decide +kernel
theorem d_F_countBlock_5 : decode prog_2_method_10_code 5 = .ok (.dup2, 1) := by decide +kernel
theorem d_F_countBlock_6 : decode prog_2_method_10_code 6 = .ok (.iaload, 1) := by decide +kernel
theorem d_F_countBlock_7 : decode prog_2_method_10_code 7 = .ok (.iconst (1), 1) := by decide +kernel
theorem d_F_countBlock_8 : decode prog_2_method_10_code 8 = .ok (.iadd, 1) := by decide +kernel
theorem d_F_countBlock_9 : decode prog_2_method_10_code 9 = .ok (.iastore, 1) := by decide +kernel
theorem d_F_countBlock_10 : decode prog_2_method_10_code 10 = .ok (.aload_n 0, 1) := by decide +kernel
theorem d_F_countBlock_11 : decode prog_2_method_10_code 11 = .ok (.getfield 32, 3) := by decide +kernel
theorem d_F_countBlock_14 : decode prog_2_method_10_code 14 = .ok (.aload_n 0, 1) := by decide +kernel
theorem d_F_countBlock_15 : decode prog_2_method_10_code 15 = .ok (.getfield 20, 3) := by decide +kernel
theorem d_F_countBlock_18 : decode prog_2_method_10_code 18 = .ok (.iload_n 2, 1) := by decide +kernel
theorem d_F_countBlock_19 : decode prog_2_method_10_code 19 = .ok (.aaload, 1) := by decide +kernel
theorem d_F_countBlock_20 : decode prog_2_method_10_code 20 = .ok (.invokevirtual 64, 3) := by decide +kernel
theorem d_F_countBlock_23 : decode prog_2_method_10_code 23 = .ok (.aload_n 1, 1) := by decide +kernel
theorem d_F_countBlock_24 : decode prog_2_method_10_code 24 = .ok (.getfield 68, 3) := by decide +kernel
theorem d_F_countBlock_27 : decode prog_2_method_10_code 27 = .ok (.iload_n 2, 1) := by decide +kernel
theorem d_F_countBlock_28 : decode prog_2_method_10_code 28 = .ok (.iaload, 1) := by decide +kernel
theorem d_F_countBlock_29 : decode prog_2_method_10_code 29 = .ok (.istore_n 3, 1) := by decide +kernel
theorem d_F_countBlock_30 : decode prog_2_method_10_code 30 = .ok (.iload_n 3, 1) := by decide +kernel
theorem d_F_countBlock_31 : decode prog_2_method_10_code 31 = .ok (.aload_n 1, 1) := by decide +kernel
theorem d_F_countBlock_32 : decode prog_2_method_10_code 32 = .ok (.getfield 68, 3) := by decide +kernel
theorem d_F_countBlock_35 : decode prog_2_method_10_code 35 = .ok (.iload_n 2, 1) := by decide +kernel
theorem d_F_countBlock_36 : decode prog_2_method_10_code 36 = .ok (.iconst (1), 1) := by decide +kernel
theorem d_F_countBlock_37 : decode prog_2_method_10_code 37 = .ok (.iadd, 1) := by decide +kernel
theorem d_F_countBlock_38 : decode prog_2_method_10_code 38 = .ok (.iaload, 1) := by decide +kernel
theorem d_F_countBlock_39 : decode prog_2_method_10_code 39 = .ok (.if_icmp .ge (50), 3) := by decide +kernel
theorem d_F_countBlock_42 : decode prog_2_method_10_code 42 = .ok (.aload_n 0, 1) := by decide +kernel
theorem d_F_countBlock_43 : decode prog_2_method_10_code 43 = .ok (.getfield 39, 3) := by decide +kernel
theorem d_F_countBlock_46 : decode prog_2_method_10_code 46 = .ok (.iconst (3), 1) := by decide +kernel
theorem d_F_countBlock_47 : decode prog_2_method_10_code 47 = .ok (.dup2, 1) := by decide +kernel
theorem d_F_countBlock_48 : decode prog_2_method_10_code 48 = .ok (.iaload, 1) := by decide +kernel
theorem d_F_countBlock_49 : decode prog_2_method_10_code 49 = .ok (.iconst (1), 1) := by decide +kernel
theorem d_F_countBlock_50 : decode prog_2_method_10_code 50 = .ok (.iadd, 1) := by decide +kernel
theorem d_F_countBlock_51 : decode prog_2_method_10_code 51 = .ok (.iastore, 1) := by decide +kernel
theorem d_F_countBlock_52 : decode prog_2_method_10_code 52 = .ok (.aload_n 0, 1) := by decide +kernel
theorem d_F_countBlock_53 : decode prog_2_method_10_code 53 = .ok (.getfield 32, 3) := by decide +kernel
theorem d_F_countBlock_56 : decode prog_2_method_10_code 56 = .ok (.aload_n 1, 1) := by decide +kernel
theorem d_F_countBlock_57 : decode prog_2_method_10_code 57 = .ok (.iload_n 3, 1) := by decide +kernel
theorem d_F_countBlock_58 : decode prog_2_method_10_code 58 = .ok (.invokevirtual 112, 3) := by decide +kernel
theorem d_F_countBlock_61 : decode prog_2_method_10_code 61 = .ok (.ifCond .eq (13), 3) := by decide +kernel
theorem d_F_countBlock_64 : decode prog_2_method_10_code 64 = .ok (.aload_n 0, 1) := by decide +kernel
theorem d_F_countBlock_65 : decode prog_2_method_10_code 65 = .ok (.getfield 39, 3) := by decide +kernel
theorem d_F_countBlock_68 : decode prog_2_method_10_code 68 = .ok (.iconst (4), 1) := by decide +kernel
theorem d_F_countBlock_69 : decode prog_2_method_10_code 69 = .ok (.dup2, 1) := by decide +kernel
theorem d_F_countBlock_70 : decode prog_2_method_10_code 70 = .ok (.iaload, 1) := by decide +kernel
theorem d_F_countBlock_71 : decode prog_2_method_10_code 71 = .ok (.iconst (1), 1) := by decide +kernel
theorem d_F_countBlock_72 : decode prog_2_method_10_code 72 = .ok (.iadd, 1) := by decide +kernel
theorem d_F_countBlock_73 : decode prog_2_method_10_code 73 = .ok (.iastore, 1) := by decide +kernel
theorem d_F_countBlock_74 : decode prog_2_method_10_code 74 = .ok (.aload_n 0, 1) := by decide +kernel
theorem d_F_countBlock_75 : decode prog_2_method_10_code 75 = .ok (.getfield 32, 3) := by decide +kernel
theorem d_F_countBlock_78 : decode prog_2_method_10_code 78 = .ok (.aload_n 1, 1) := by decide +kernel
theorem d_F_countBlock_79 : decode prog_2_method_10_code 79 = .ok (.iload_n 3, 1) := by decide +kernel
theorem d_F_countBlock_80 : decode prog_2_method_10_code 80 = .ok (.invokevirtual 71, 3) := by decide +kernel
theorem d_F_countBlock_83 : decode prog_2_method_10_code 83 = .ok (.iinc 3 (1), 3) := by decide +kernel
theorem d_F_countBlock_86 : decode prog_2_method_10_code 86 = .ok (.goto (-56), 3) := by decide +kernel
theorem d_F_countBlock_89 : decode prog_2_method_10_code 89 = .ok (.aload_n 1, 1) := by decide +kernel
theorem d_F_countBlock_90 : decode prog_2_method_10_code 90 = .ok (.getfield 74, 3) := by decide +kernel
theorem d_F_countBlock_93 : decode prog_2_method_10_code 93 = .ok (.iload_n 2, 1) := by decide +kernel
theorem d_F_countBlock_94 : decode prog_2_method_10_code 94 = .ok (.iaload, 1) := by decide +kernel
theorem d_F_countBlock_95 : decode prog_2_method_10_code 95 = .ok (.iconst (2), 1) := by decide +kernel
theorem d_F_countBlock_96 : decode prog_2_method_10_code 96 = .ok (.if_icmp .ne (33), 3) := by decide +kernel
theorem d_F_countBlock_99 : decode prog_2_method_10_code 99 = .ok (.aload_n 0, 1) := by decide +kernel
theorem d_F_countBlock_100 : decode prog_2_method_10_code 100 = .ok (.getfield 39, 3) := by decide +kernel
theorem d_F_countBlock_103 : decode prog_2_method_10_code 103 = .ok (.iconst (5), 1) := by decide +kernel
theorem d_F_countBlock_104 : decode prog_2_method_10_code 104 = .ok (.dup2, 1) := by decide +kernel
theorem d_F_countBlock_105 : decode prog_2_method_10_code 105 = .ok (.iaload, 1) := by decide +kernel
theorem d_F_countBlock_106 : decode prog_2_method_10_code 106 = .ok (.iconst (1), 1) := by decide +kernel
theorem d_F_countBlock_107 : decode prog_2_method_10_code 107 = .ok (.iadd, 1) := by decide +kernel
theorem d_F_countBlock_108 : decode prog_2_method_10_code 108 = .ok (.iastore, 1) := by decide +kernel
theorem d_F_countBlock_109 : decode prog_2_method_10_code 109 = .ok (.aload_n 0, 1) := by decide +kernel
theorem d_F_countBlock_110 : decode prog_2_method_10_code 110 = .ok (.aload_n 1, 1) := by decide +kernel
theorem d_F_countBlock_111 : decode prog_2_method_10_code 111 = .ok (.iload_n 2, 1) := by decide +kernel
theorem d_F_countBlock_112 : decode prog_2_method_10_code 112 = .ok (.invokevirtual 77, 3) := by decide +kernel
theorem d_F_countBlock_115 : decode prog_2_method_10_code 115 = .ok (.ifCond .ne (14), 3) := by decide +kernel
theorem d_F_countBlock_118 : decode prog_2_method_10_code 118 = .ok (.aload_n 0, 1) := by decide +kernel
theorem d_F_countBlock_119 : decode prog_2_method_10_code 119 = .ok (.getfield 39, 3) := by decide +kernel
theorem d_F_countBlock_122 : decode prog_2_method_10_code 122 = .ok (.bipush (6), 2) := by decide +kernel
theorem d_F_countBlock_124 : decode prog_2_method_10_code 124 = .ok (.dup2, 1) := by decide +kernel
theorem d_F_countBlock_125 : decode prog_2_method_10_code 125 = .ok (.iaload, 1) := by decide +kernel
theorem d_F_countBlock_126 : decode prog_2_method_10_code 126 = .ok (.iconst (1), 1) := by decide +kernel
theorem d_F_countBlock_127 : decode prog_2_method_10_code 127 = .ok (.iadd, 1) := by decide +kernel
theorem d_F_countBlock_128 : decode prog_2_method_10_code 128 = .ok (.iastore, 1) := by decide +kernel
theorem d_F_countBlock_129 : decode prog_2_method_10_code 129 = .ok (.return_, 1) := by decide +kernel
theorem d_F_rewriteValue_0 : decode prog_2_method_13_code 0 = .ok (.aload_n 1, 1) := by decide +kernel
theorem d_F_rewriteValue_1 : decode prog_2_method_13_code 1 = .ok (.getfield 137, 3) := by decide +kernel
theorem d_F_rewriteValue_4 : decode prog_2_method_13_code 4 = .ok (.iload_n 2, 1) := by decide +kernel
theorem d_F_rewriteValue_5 : decode prog_2_method_13_code 5 = .ok (.iaload, 1) := by decide +kernel
theorem d_F_rewriteValue_6 : decode prog_2_method_13_code 6 = .ok (.istore 4, 2) := by decide +kernel
theorem d_F_rewriteValue_8 : decode prog_2_method_13_code 8 = .ok (.aload_n 0, 1) := by decide +kernel
theorem d_F_rewriteValue_9 : decode prog_2_method_13_code 9 = .ok (.getfield 32, 3) := by decide +kernel
theorem d_F_rewriteValue_12 : decode prog_2_method_13_code 12 = .ok (.aload_n 1, 1) := by decide +kernel
theorem d_F_rewriteValue_13 : decode prog_2_method_13_code 13 = .ok (.iload_n 2, 1) := by decide +kernel
theorem d_F_rewriteValue_14 : decode prog_2_method_13_code 14 = .ok (.invokevirtual 112, 3) := by decide +kernel
theorem d_F_rewriteValue_17 : decode prog_2_method_13_code 17 = .ok (.ifCond .eq (19), 3) := by decide +kernel
theorem d_F_rewriteValue_20 : decode prog_2_method_13_code 20 = .ok (.aload_n 3, 1) := by decide +kernel
theorem d_F_rewriteValue_21 : decode prog_2_method_13_code 21 = .ok (.aload_n 0, 1) := by decide +kernel
theorem d_F_rewriteValue_22 : decode prog_2_method_13_code 22 = .ok (.getfield 32, 3) := by decide +kernel
theorem d_F_rewriteValue_25 : decode prog_2_method_13_code 25 = .ok (.aload_n 1, 1) := by decide +kernel
theorem d_F_rewriteValue_26 : decode prog_2_method_13_code 26 = .ok (.iload_n 2, 1) := by decide +kernel
theorem d_F_rewriteValue_27 : decode prog_2_method_13_code 27 = .ok (.invokevirtual 140, 3) := by decide +kernel
theorem d_F_rewriteValue_30 : decode prog_2_method_13_code 30 = .ok (.invokevirtual 143, 3) := by decide +kernel
theorem d_F_rewriteValue_33 : decode prog_2_method_13_code 33 = .ok (.goto (49), 3) := by decide +kernel
theorem d_F_rewriteValue_36 : decode prog_2_method_13_code 36 = .ok (.iload 4, 2) := by decide +kernel
theorem d_F_rewriteValue_38 : decode prog_2_method_13_code 38 = .ok (.ifCond .ne (12), 3) := by decide +kernel
theorem d_F_rewriteValue_41 : decode prog_2_method_13_code 41 = .ok (.aload_n 3, 1) := by decide +kernel
theorem d_F_rewriteValue_42 : decode prog_2_method_13_code 42 = .ok (.bipush (63), 2) := by decide +kernel
theorem d_F_rewriteValue_44 : decode prog_2_method_13_code 44 = .ok (.invokevirtual 127, 3) := by decide +kernel
theorem d_F_rewriteValue_47 : decode prog_2_method_13_code 47 = .ok (.goto (35), 3) := by decide +kernel
theorem d_F_rewriteValue_50 : decode prog_2_method_13_code 50 = .ok (.aload_n 0, 1) := by decide +kernel
theorem d_F_rewriteValue_51 : decode prog_2_method_13_code 51 = .ok (.aload_n 1, 1) := by decide +kernel
theorem d_F_rewriteValue_52 : decode prog_2_method_13_code 52 = .ok (.iload_n 2, 1) := by decide +kernel
theorem d_F_rewriteValue_53 : decode prog_2_method_13_code 53 = .ok (.invokestatic 146, 3) := by decide +kernel
theorem d_F_rewriteValue_56 : decode prog_2_method_13_code 56 = .ok (.aload_n 3, 1) := by decide +kernel
theorem d_F_rewriteValue_57 : decode prog_2_method_13_code 57 = .ok (.invokevirtual 149, 3) := by decide +kernel
theorem d_F_rewriteValue_60 : decode prog_2_method_13_code 60 = .ok (.iload 4, 2) := by decide +kernel
theorem d_F_rewriteValue_62 : decode prog_2_method_13_code 62 = .ok (.iconst (1), 1) := by decide +kernel
theorem d_F_rewriteValue_63 : decode prog_2_method_13_code 63 = .ok (.if_icmp .eq (19), 3) := by decide +kernel
theorem d_F_rewriteValue_66 : decode prog_2_method_13_code 66 = .ok (.aload_n 3, 1) := by decide +kernel
theorem d_F_rewriteValue_67 : decode prog_2_method_13_code 67 = .ok (.iload 4, 2) := by decide +kernel
theorem d_F_rewriteValue_69 : decode prog_2_method_13_code 69 = .ok (.invokevirtual 127, 3) := by decide +kernel
theorem d_F_rewriteValue_72 : decode prog_2_method_13_code 72 = .ok (.aload_n 0, 1) := by decide +kernel
theorem d_F_rewriteValue_73 : decode prog_2_method_13_code 73 = .ok (.aload_n 1, 1) := by decide +kernel
theorem d_F_rewriteValue_74 : decode prog_2_method_13_code 74 = .ok (.iload_n 2, 1) := by decide +kernel
theorem d_F_rewriteValue_75 : decode prog_2_method_13_code 75 = .ok (.invokestatic 152, 3) := by decide +kernel
theorem d_F_rewriteValue_78 : decode prog_2_method_13_code 78 = .ok (.aload_n 3, 1) := by decide +kernel
theorem d_F_rewriteValue_79 : decode prog_2_method_13_code 79 = .ok (.invokevirtual 149, 3) := by decide +kernel
theorem d_F_rewriteValue_82 : decode prog_2_method_13_code 82 = .ok (.return_, 1) := by decide +kernel
theorem d_F_onlyGoal_0 : decode prog_2_method_8_code 0 = .ok (.aload_n 1, 1) := by decide +kernel
theorem d_F_onlyGoal_1 : decode prog_2_method_8_code 1 = .ok (.iload_n 2, 1) := by decide +kernel
theorem d_F_onlyGoal_2 : decode prog_2_method_8_code 2 = .ok (.aload_n 0, 1) := by decide +kernel
theorem d_F_onlyGoal_3 : decode prog_2_method_8_code 3 = .ok (.getfield 24, 3) := by decide +kernel
theorem d_F_onlyGoal_6 : decode prog_2_method_8_code 6 = .ok (.iload_n 2, 1) := by decide +kernel
theorem d_F_onlyGoal_7 : decode prog_2_method_8_code 7 = .ok (.aaload, 1) := by decide +kernel
theorem d_F_onlyGoal_8 : decode prog_2_method_8_code 8 = .ok (.aload_n 1, 1) := by decide +kernel
theorem d_F_onlyGoal_9 : decode prog_2_method_8_code 9 = .ok (.iload_n 2, 1) := by decide +kernel
theorem d_F_onlyGoal_10 : decode prog_2_method_8_code 10 = .ok (.invokestatic 93, 3) := by decide +kernel
theorem d_F_onlyGoal_13 : decode prog_2_method_8_code 13 = .ok (.invokevirtual 100, 3) := by decide +kernel
theorem d_F_onlyGoal_16 : decode prog_2_method_8_code 16 = .ok (.invokevirtual 103, 3) := by decide +kernel
theorem d_F_onlyGoal_19 : decode prog_2_method_8_code 19 = .ok (.ireturn, 1) := by decide +kernel
theorem d_X_execute_0 : decode prog_3_method_2_code 0 = .ok (.iconst (0), 1) := by decide +kernel
theorem d_X_execute_1 : decode prog_3_method_2_code 1 = .ok (.istore_n 3, 1) := by decide +kernel
theorem d_X_execute_2 : decode prog_3_method_2_code 2 = .ok (.iload_n 3, 1) := by decide +kernel
theorem d_X_execute_3 : decode prog_3_method_2_code 3 = .ok (.bipush (8), 2) := by decide +kernel
theorem d_X_execute_5 : decode prog_3_method_2_code 5 = .ok (.if_icmp .ge (16), 3) := by decide +kernel
theorem d_X_execute_8 : decode prog_3_method_2_code 8 = .ok (.aload_n 0, 1) := by decide +kernel
theorem d_X_execute_9 : decode prog_3_method_2_code 9 = .ok (.getfield 15, 3) := by decide +kernel
theorem d_X_execute_12 : decode prog_3_method_2_code 12 = .ok (.iload_n 3, 1) := by decide +kernel
theorem d_X_execute_13 : decode prog_3_method_2_code 13 = .ok (.iconst (0), 1) := by decide +kernel
theorem d_X_execute_14 : decode prog_3_method_2_code 14 = .ok (.iastore, 1) := by decide +kernel
theorem d_X_execute_15 : decode prog_3_method_2_code 15 = .ok (.iinc 3 (1), 3) := by decide +kernel
theorem d_X_execute_18 : decode prog_3_method_2_code 18 = .ok (.goto (-16), 3) := by decide +kernel
theorem d_X_execute_21 : decode prog_3_method_2_code 21 = .ok (.aload_n 0, 1) := by decide +kernel
theorem d_X_execute_22 : decode prog_3_method_2_code 22 = .ok (.iconst (0), 1) := by decide +kernel
theorem d_X_execute_23 : decode prog_3_method_2_code 23 = .ok (.putfield 18, 3) := by decide +kernel
theorem d_X_execute_26 : decode prog_3_method_2_code 26 = .ok (.iconst (0), 1) := by decide +kernel
theorem d_X_execute_27 : decode prog_3_method_2_code 27 = .ok (.istore_n 3, 1) := by decide +kernel
theorem d_X_execute_28 : decode prog_3_method_2_code 28 = .ok (.aload_n 1, 1) := by decide +kernel
theorem d_X_execute_29 : decode prog_3_method_2_code 29 = .ok (.getfield 22, 3) := by decide +kernel
theorem d_X_execute_32 : decode prog_3_method_2_code 32 = .ok (.iconst (0), 1) := by decide +kernel
theorem d_X_execute_33 : decode prog_3_method_2_code 33 = .ok (.iaload, 1) := by decide +kernel
theorem d_X_execute_34 : decode prog_3_method_2_code 34 = .ok (.istore 4, 2) := by decide +kernel
theorem d_X_execute_36 : decode prog_3_method_2_code 36 = .ok (.iconst (1), 1) := by decide +kernel
theorem d_X_execute_37 : decode prog_3_method_2_code 37 = .ok (.istore 5, 2) := by decide +kernel
theorem d_X_execute_39 : decode prog_3_method_2_code 39 = .ok (.iload 5, 2) := by decide +kernel
theorem d_X_execute_41 : decode prog_3_method_2_code 41 = .ok (.iload_n 2, 1) := by decide +kernel
theorem d_X_execute_42 : decode prog_3_method_2_code 42 = .ok (.if_icmp .gt (82), 3) := by decide +kernel
theorem d_X_execute_45 : decode prog_3_method_2_code 45 = .ok (.iload 4, 2) := by decide +kernel
theorem d_X_execute_47 : decode prog_3_method_2_code 47 = .ok (.aload_n 1, 1) := by decide +kernel
theorem d_X_execute_48 : decode prog_3_method_2_code 48 = .ok (.getfield 22, 3) := by decide +kernel
theorem d_X_execute_51 : decode prog_3_method_2_code 51 = .ok (.iload_n 3, 1) := by decide +kernel
theorem d_X_execute_52 : decode prog_3_method_2_code 52 = .ok (.iconst (1), 1) := by decide +kernel
theorem d_X_execute_53 : decode prog_3_method_2_code 53 = .ok (.iadd, 1) := by decide +kernel
theorem d_X_execute_54 : decode prog_3_method_2_code 54 = .ok (.iaload, 1) := by decide +kernel
theorem d_X_execute_55 : decode prog_3_method_2_code 55 = .ok (.if_icmp .ge (28), 3) := by decide +kernel
theorem d_X_execute_58 : decode prog_3_method_2_code 58 = .ok (.aload_n 0, 1) := by decide +kernel
theorem d_X_execute_59 : decode prog_3_method_2_code 59 = .ok (.getfield 15, 3) := by decide +kernel
theorem d_X_execute_62 : decode prog_3_method_2_code 62 = .ok (.aload_n 1, 1) := by decide +kernel
theorem d_X_execute_63 : decode prog_3_method_2_code 63 = .ok (.getfield 27, 3) := by decide +kernel
theorem d_X_execute_66 : decode prog_3_method_2_code 66 = .ok (.iload 4, 2) := by decide +kernel
theorem d_X_execute_68 : decode prog_3_method_2_code 68 = .ok (.iaload, 1) := by decide +kernel
theorem d_X_execute_69 : decode prog_3_method_2_code 69 = .ok (.aload_n 0, 1) := by decide +kernel
theorem d_X_execute_70 : decode prog_3_method_2_code 70 = .ok (.aload_n 1, 1) := by decide +kernel
theorem d_X_execute_71 : decode prog_3_method_2_code 71 = .ok (.iload 4, 2) := by decide +kernel
theorem d_X_execute_73 : decode prog_3_method_2_code 73 = .ok (.invokevirtual 30, 3) := by decide +kernel
theorem d_X_execute_76 : decode prog_3_method_2_code 76 = .ok (.iastore, 1) := by decide +kernel
theorem d_X_execute_77 : decode prog_3_method_2_code 77 = .ok (.iinc 4 (1), 3) := by decide +kernel
theorem d_X_execute_80 : decode prog_3_method_2_code 80 = .ok (.goto (38), 3) := by decide +kernel
theorem d_X_execute_83 : decode prog_3_method_2_code 83 = .ok (.aload_n 1, 1) := by decide +kernel
theorem d_X_execute_84 : decode prog_3_method_2_code 84 = .ok (.getfield 34, 3) := by decide +kernel
theorem d_X_execute_87 : decode prog_3_method_2_code 87 = .ok (.iload_n 3, 1) := by decide +kernel
theorem d_X_execute_88 : decode prog_3_method_2_code 88 = .ok (.iaload, 1) := by decide +kernel
theorem d_X_execute_89 : decode prog_3_method_2_code 89 = .ok (.ifCond .ne (6), 3) := by decide +kernel
theorem d_X_execute_92 : decode prog_3_method_2_code 92 = .ok (.iload 5, 2) := by decide +kernel
theorem d_X_execute_94 : decode prog_3_method_2_code 94 = .ok (.ireturn, 1) := by decide +kernel
theorem d_X_execute_95 : decode prog_3_method_2_code 95 = .ok (.aload_n 1, 1) := by decide +kernel
theorem d_X_execute_96 : decode prog_3_method_2_code 96 = .ok (.iload_n 3, 1) := by decide +kernel
theorem d_X_execute_97 : decode prog_3_method_2_code 97 = .ok (.aload_n 0, 1) := by decide +kernel
theorem d_X_execute_98 : decode prog_3_method_2_code 98 = .ok (.aload_n 1, 1) := by decide +kernel
theorem d_X_execute_99 : decode prog_3_method_2_code 99 = .ok (.iload_n 3, 1) := by decide +kernel
theorem d_X_execute_100 : decode prog_3_method_2_code 100 = .ok (.invokestatic 37, 3) := by decide +kernel
theorem d_X_execute_103 : decode prog_3_method_2_code 103 = .ok (.invokevirtual 41, 3) := by decide +kernel
theorem d_X_execute_106 : decode prog_3_method_2_code 106 = .ok (.invokevirtual 44, 3) := by decide +kernel
theorem d_X_execute_109 : decode prog_3_method_2_code 109 = .ok (.istore_n 3, 1) := by decide +kernel
theorem d_X_execute_110 : decode prog_3_method_2_code 110 = .ok (.aload_n 1, 1) := by decide +kernel
theorem d_X_execute_111 : decode prog_3_method_2_code 111 = .ok (.getfield 22, 3) := by decide +kernel
theorem d_X_execute_114 : decode prog_3_method_2_code 114 = .ok (.iload_n 3, 1) := by decide +kernel
theorem d_X_execute_115 : decode prog_3_method_2_code 115 = .ok (.iaload, 1) := by decide +kernel
theorem d_X_execute_116 : decode prog_3_method_2_code 116 = .ok (.istore 4, 2) := by decide +kernel
theorem d_X_execute_118 : decode prog_3_method_2_code 118 = .ok (.iinc 5 (1), 3) := by decide +kernel
theorem d_X_execute_121 : decode prog_3_method_2_code 121 = .ok (.goto (-82), 3) := by decide +kernel
theorem d_X_execute_124 : decode prog_3_method_2_code 124 = .ok (.iconst (-1), 1) := by decide +kernel
theorem d_X_execute_125 : decode prog_3_method_2_code 125 = .ok (.ireturn, 1) := by decide +kernel
theorem d_R_fillStatement_0 : decode prog_5_method_7_code 0 = .ok (.aload_n 0, 1) := by decide +kernel
theorem d_R_fillStatement_1 : decode prog_5_method_7_code 1 = .ok (.getfield 23, 3) := by decide +kernel
theorem d_R_fillStatement_4 : decode prog_5_method_7_code 4 = .ok (.getfield 69, 3) := by decide +kernel
theorem d_R_fillStatement_7 : decode prog_5_method_7_code 7 = .ok (.istore_n 2, 1) := by decide +kernel
theorem d_R_fillStatement_8 : decode prog_5_method_7_code 8 = .ok (.aload_n 0, 1) := by decide +kernel
theorem d_R_fillStatement_9 : decode prog_5_method_7_code 9 = .ok (.getfield 23, 3) := by decide +kernel
theorem d_R_fillStatement_12 : decode prog_5_method_7_code 12 = .ok (.dup, 1) := by decide +kernel
theorem d_R_fillStatement_13 : decode prog_5_method_7_code 13 = .ok (.getfield 69, 3) := by decide +kernel
theorem d_R_fillStatement_16 : decode prog_5_method_7_code 16 = .ok (.iconst (1), 1) := by decide +kernel
theorem d_R_fillStatement_17 : decode prog_5_method_7_code 17 = .ok (.iadd, 1) := by decide +kernel
theorem d_R_fillStatement_18 : decode prog_5_method_7_code 18 = .ok (.putfield 69, 3) := by decide +kernel
theorem d_R_fillStatement_21 : decode prog_5_method_7_code 21 = .ok (.aload_n 0, 1) := by decide +kernel
theorem d_R_fillStatement_22 : decode prog_5_method_7_code 22 = .ok (.getfield 23, 3) := by decide +kernel
theorem d_R_fillStatement_25 : decode prog_5_method_7_code 25 = .ok (.getfield 75, 3) := by decide +kernel
theorem d_R_fillStatement_28 : decode prog_5_method_7_code 28 = .ok (.iload_n 2, 1) := by decide +kernel
theorem d_R_fillStatement_29 : decode prog_5_method_7_code 29 = .ok (.iload_n 1, 1) := by decide +kernel
theorem d_R_fillStatement_30 : decode prog_5_method_7_code 30 = .ok (.iastore, 1) := by decide +kernel
theorem d_R_fillStatement_31 : decode prog_5_method_7_code 31 = .ok (.aload_n 0, 1) := by decide +kernel
theorem d_R_fillStatement_32 : decode prog_5_method_7_code 32 = .ok (.getfield 23, 3) := by decide +kernel
theorem d_R_fillStatement_35 : decode prog_5_method_7_code 35 = .ok (.getfield 78, 3) := by decide +kernel
theorem d_R_fillStatement_38 : decode prog_5_method_7_code 38 = .ok (.iload_n 2, 1) := by decide +kernel
theorem d_R_fillStatement_39 : decode prog_5_method_7_code 39 = .ok (.iconst (0), 1) := by decide +kernel
theorem d_R_fillStatement_40 : decode prog_5_method_7_code 40 = .ok (.iastore, 1) := by decide +kernel
theorem d_R_fillStatement_41 : decode prog_5_method_7_code 41 = .ok (.aload_n 0, 1) := by decide +kernel
theorem d_R_fillStatement_42 : decode prog_5_method_7_code 42 = .ok (.invokevirtual 45, 3) := by decide +kernel
theorem d_R_fillStatement_45 : decode prog_5_method_7_code 45 = .ok (.bipush (63), 2) := by decide +kernel
theorem d_R_fillStatement_47 : decode prog_5_method_7_code 47 = .ok (.if_icmp .ne (20), 3) := by decide +kernel
theorem d_R_fillStatement_50 : decode prog_5_method_7_code 50 = .ok (.aload_n 0, 1) := by decide +kernel
theorem d_R_fillStatement_51 : decode prog_5_method_7_code 51 = .ok (.dup, 1) := by decide +kernel
theorem d_R_fillStatement_52 : decode prog_5_method_7_code 52 = .ok (.getfield 32, 3) := by decide +kernel
theorem d_R_fillStatement_55 : decode prog_5_method_7_code 55 = .ok (.iconst (1), 1) := by decide +kernel
theorem d_R_fillStatement_56 : decode prog_5_method_7_code 56 = .ok (.iadd, 1) := by decide +kernel
theorem d_R_fillStatement_57 : decode prog_5_method_7_code 57 = .ok (.putfield 32, 3) := by decide +kernel
theorem d_R_fillStatement_60 : decode prog_5_method_7_code 60 = .ok (.aload_n 0, 1) := by decide +kernel
theorem d_R_fillStatement_61 : decode prog_5_method_7_code 61 = .ok (.bipush (59), 2) := by decide +kernel
theorem d_R_fillStatement_63 : decode prog_5_method_7_code 63 = .ok (.invokevirtual 81, 3) := by decide +kernel
theorem d_R_fillStatement_66 : decode prog_5_method_7_code 66 = .ok (.ireturn, 1) := by decide +kernel
theorem d_R_fillStatement_67 : decode prog_5_method_7_code 67 = .ok (.aload_n 0, 1) := by decide +kernel
theorem d_R_fillStatement_68 : decode prog_5_method_7_code 68 = .ok (.getfield 23, 3) := by decide +kernel
theorem d_R_fillStatement_71 : decode prog_5_method_7_code 71 = .ok (.getfield 78, 3) := by decide +kernel
theorem d_R_fillStatement_74 : decode prog_5_method_7_code 74 = .ok (.iload_n 2, 1) := by decide +kernel
theorem d_R_fillStatement_75 : decode prog_5_method_7_code 75 = .ok (.iconst (1), 1) := by decide +kernel
theorem d_R_fillStatement_76 : decode prog_5_method_7_code 76 = .ok (.iastore, 1) := by decide +kernel
theorem d_R_fillStatement_77 : decode prog_5_method_7_code 77 = .ok (.aload_n 0, 1) := by decide +kernel
theorem d_R_fillStatement_78 : decode prog_5_method_7_code 78 = .ok (.iload_n 2, 1) := by decide +kernel
theorem d_R_fillStatement_79 : decode prog_5_method_7_code 79 = .ok (.invokestatic 84, 3) := by decide +kernel
theorem d_R_fillStatement_82 : decode prog_5_method_7_code 82 = .ok (.invokevirtual 88, 3) := by decide +kernel
theorem d_R_fillStatement_85 : decode prog_5_method_7_code 85 = .ok (.ifCond .ne (5), 3) := by decide +kernel
theorem d_R_fillStatement_88 : decode prog_5_method_7_code 88 = .ok (.iconst (0), 1) := by decide +kernel
theorem d_R_fillStatement_89 : decode prog_5_method_7_code 89 = .ok (.ireturn, 1) := by decide +kernel
theorem d_R_fillStatement_90 : decode prog_5_method_7_code 90 = .ok (.aload_n 0, 1) := by decide +kernel
theorem d_R_fillStatement_91 : decode prog_5_method_7_code 91 = .ok (.invokevirtual 45, 3) := by decide +kernel
theorem d_R_fillStatement_94 : decode prog_5_method_7_code 94 = .ok (.istore_n 3, 1) := by decide +kernel
theorem d_R_fillStatement_95 : decode prog_5_method_7_code 95 = .ok (.iload_n 3, 1) := by decide +kernel
theorem d_R_fillStatement_96 : decode prog_5_method_7_code 96 = .ok (.invokestatic 91, 3) := by decide +kernel
theorem d_R_fillStatement_99 : decode prog_5_method_7_code 99 = .ok (.ifCond .eq (36), 3) := by decide +kernel
theorem d_R_fillStatement_102 : decode prog_5_method_7_code 102 = .ok (.aload_n 0, 1) := by decide +kernel
theorem d_R_fillStatement_103 : decode prog_5_method_7_code 103 = .ok (.dup, 1) := by decide +kernel
theorem d_R_fillStatement_104 : decode prog_5_method_7_code 104 = .ok (.getfield 32, 3) := by decide +kernel
theorem d_R_fillStatement_107 : decode prog_5_method_7_code 107 = .ok (.iconst (1), 1) := by decide +kernel
theorem d_R_fillStatement_108 : decode prog_5_method_7_code 108 = .ok (.iadd, 1) := by decide +kernel
theorem d_R_fillStatement_109 : decode prog_5_method_7_code 109 = .ok (.putfield 32, 3) := by decide +kernel
