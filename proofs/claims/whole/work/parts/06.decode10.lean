theorem d_M_block_15 : decode prog_9_method_18_code 15 = .ok (.aload_n 0, 1) := by decide +kernel
theorem d_M_block_16 : decode prog_9_method_18_code 16 = .ok (.getfield 38, 3) := by decide +kernel
theorem d_M_block_19 : decode prog_9_method_18_code 19 = .ok (.iconst (2), 1) := by decide +kernel
theorem d_M_block_20 : decode prog_9_method_18_code 20 = .ok (.aload_n 0, 1) := by decide +kernel
theorem d_M_block_21 : decode prog_9_method_18_code 21 = .ok (.getfield 118, 3) := by decide +kernel
theorem d_M_block_24 : decode prog_9_method_18_code 24 = .ok (.imul, 1) := by decide +kernel
theorem d_M_block_25 : decode prog_9_method_18_code 25 = .ok (.iconst (-1), 1) := by decide +kernel
theorem d_M_block_26 : decode prog_9_method_18_code 26 = .ok (.iastore, 1) := by decide +kernel
theorem d_M_block_27 : decode prog_9_method_18_code 27 = .ok (.aload_n 0, 1) := by decide +kernel
theorem d_M_block_28 : decode prog_9_method_18_code 28 = .ok (.getfield 38, 3) := by decide +kernel
theorem d_M_block_31 : decode prog_9_method_18_code 31 = .ok (.iconst (2), 1) := by decide +kernel
theorem d_M_block_32 : decode prog_9_method_18_code 32 = .ok (.aload_n 0, 1) := by decide +kernel
theorem d_M_block_33 : decode prog_9_method_18_code 33 = .ok (.getfield 118, 3) := by decide +kernel
theorem d_M_block_36 : decode prog_9_method_18_code 36 = .ok (.imul, 1) := by decide +kernel
theorem d_M_block_37 : decode prog_9_method_18_code 37 = .ok (.iconst (1), 1) := by decide +kernel
theorem d_M_block_38 : decode prog_9_method_18_code 38 = .ok (.iadd, 1) := by decide +kernel
theorem d_M_block_39 : decode prog_9_method_18_code 39 = .ok (.iconst (-1), 1) := by decide +kernel
theorem d_M_block_40 : decode prog_9_method_18_code 40 = .ok (.iastore, 1) := by decide +kernel
theorem d_M_block_41 : decode prog_9_method_18_code 41 = .ok (.iload_n 1, 1) := by decide +kernel
theorem d_M_block_42 : decode prog_9_method_18_code 42 = .ok (.ifCond .eq (200), 3) := by decide +kernel
theorem d_M_block_45 : decode prog_9_method_18_code 45 = .ok (.aload_n 0, 1) := by decide +kernel
theorem d_M_block_46 : decode prog_9_method_18_code 46 = .ok (.getfield 74, 3) := by decide +kernel
theorem d_M_block_49 : decode prog_9_method_18_code 49 = .ok (.ifCond .ne (193), 3) := by decide +kernel
theorem d_M_block_52 : decode prog_9_method_18_code 52 = .ok (.aload_n 0, 1) := by decide +kernel
theorem d_M_block_53 : decode prog_9_method_18_code 53 = .ok (.invokevirtual 80, 3) := by decide +kernel
theorem d_M_block_56 : decode prog_9_method_18_code 56 = .ok (.aload_n 0, 1) := by decide +kernel
theorem d_M_block_57 : decode prog_9_method_18_code 57 = .ok (.getfield 77, 3) := by decide +kernel
theorem d_M_block_60 : decode prog_9_method_18_code 60 = .ok (.istore_n 2, 1) := by decide +kernel
theorem d_M_block_61 : decode prog_9_method_18_code 61 = .ok (.aload_n 0, 1) := by decide +kernel
theorem d_M_block_62 : decode prog_9_method_18_code 62 = .ok (.aload_n 0, 1) := by decide +kernel
theorem d_M_block_63 : decode prog_9_method_18_code 63 = .ok (.getfield 77, 3) := by decide +kernel
theorem d_M_block_66 : decode prog_9_method_18_code 66 = .ok (.invokevirtual 83, 3) := by decide +kernel
theorem d_M_block_69 : decode prog_9_method_18_code 69 = .ok (.istore_n 3, 1) := by decide +kernel
theorem d_M_block_70 : decode prog_9_method_18_code 70 = .ok (.iconst (0), 1) := by decide +kernel
theorem d_M_block_71 : decode prog_9_method_18_code 71 = .ok (.istore_n 1, 1) := by decide +kernel
theorem d_M_block_72 : decode prog_9_method_18_code 72 = .ok (.iload_n 3, 1) := by decide +kernel
theorem d_M_block_73 : decode prog_9_method_18_code 73 = .ok (.bipush (46), 2) := by decide +kernel
theorem d_M_block_75 : decode prog_9_method_18_code 75 = .ok (.if_icmp .ne (28), 3) := by decide +kernel
theorem d_M_block_78 : decode prog_9_method_18_code 78 = .ok (.aload_n 0, 1) := by decide +kernel
theorem d_M_block_79 : decode prog_9_method_18_code 79 = .ok (.dup, 1) := by decide +kernel
theorem d_M_block_80 : decode prog_9_method_18_code 80 = .ok (.getfield 77, 3) := by decide +kernel
theorem d_M_block_83 : decode prog_9_method_18_code 83 = .ok (.iconst (1), 1) := by decide +kernel
theorem d_M_block_84 : decode prog_9_method_18_code 84 = .ok (.iadd, 1) := by decide +kernel
theorem d_M_block_85 : decode prog_9_method_18_code 85 = .ok (.putfield 77, 3) := by decide +kernel
theorem d_M_block_88 : decode prog_9_method_18_code 88 = .ok (.aload_n 0, 1) := by decide +kernel
theorem d_M_block_89 : decode prog_9_method_18_code 89 = .ok (.getfield 32, 3) := by decide +kernel
theorem d_M_block_92 : decode prog_9_method_18_code 92 = .ok (.iconst (5), 1) := by decide +kernel
theorem d_M_block_93 : decode prog_9_method_18_code 93 = .ok (.aload_n 0, 1) := by decide +kernel
theorem d_M_block_94 : decode prog_9_method_18_code 94 = .ok (.getfield 118, 3) := by decide +kernel
theorem d_M_block_97 : decode prog_9_method_18_code 97 = .ok (.imul, 1) := by decide +kernel
theorem d_M_block_98 : decode prog_9_method_18_code 98 = .ok (.iconst (0), 1) := by decide +kernel
theorem d_M_block_99 : decode prog_9_method_18_code 99 = .ok (.iastore, 1) := by decide +kernel
theorem d_M_block_100 : decode prog_9_method_18_code 100 = .ok (.goto (139), 3) := by decide +kernel
theorem d_M_block_103 : decode prog_9_method_18_code 103 = .ok (.iload_n 3, 1) := by decide +kernel
theorem d_M_block_104 : decode prog_9_method_18_code 104 = .ok (.bipush (62), 2) := by decide +kernel
theorem d_M_block_106 : decode prog_9_method_18_code 106 = .ok (.if_icmp .ne (46), 3) := by decide +kernel
theorem d_M_block_109 : decode prog_9_method_18_code 109 = .ok (.aload_n 0, 1) := by decide +kernel
theorem d_M_block_110 : decode prog_9_method_18_code 110 = .ok (.dup, 1) := by decide +kernel
theorem d_M_block_111 : decode prog_9_method_18_code 111 = .ok (.getfield 77, 3) := by decide +kernel
theorem d_M_block_114 : decode prog_9_method_18_code 114 = .ok (.iconst (1), 1) := by decide +kernel
theorem d_M_block_115 : decode prog_9_method_18_code 115 = .ok (.iadd, 1) := by decide +kernel
theorem d_M_block_116 : decode prog_9_method_18_code 116 = .ok (.putfield 77, 3) := by decide +kernel
theorem d_M_block_119 : decode prog_9_method_18_code 119 = .ok (.aload_n 0, 1) := by decide +kernel
theorem d_M_block_120 : decode prog_9_method_18_code 120 = .ok (.getfield 32, 3) := by decide +kernel
theorem d_M_block_123 : decode prog_9_method_18_code 123 = .ok (.iconst (5), 1) := by decide +kernel
theorem d_M_block_124 : decode prog_9_method_18_code 124 = .ok (.aload_n 0, 1) := by decide +kernel
theorem d_M_block_125 : decode prog_9_method_18_code 125 = .ok (.getfield 118, 3) := by decide +kernel
theorem d_M_block_128 : decode prog_9_method_18_code 128 = .ok (.imul, 1) := by decide +kernel
theorem d_M_block_129 : decode prog_9_method_18_code 129 = .ok (.iconst (1), 1) := by decide +kernel
theorem d_M_block_130 : decode prog_9_method_18_code 130 = .ok (.iastore, 1) := by decide +kernel
theorem d_M_block_131 : decode prog_9_method_18_code 131 = .ok (.aload_n 0, 1) := by decide +kernel
theorem d_M_block_132 : decode prog_9_method_18_code 132 = .ok (.getfield 32, 3) := by decide +kernel
theorem d_M_block_135 : decode prog_9_method_18_code 135 = .ok (.iconst (5), 1) := by decide +kernel
theorem d_M_block_136 : decode prog_9_method_18_code 136 = .ok (.aload_n 0, 1) := by decide +kernel
theorem d_M_block_137 : decode prog_9_method_18_code 137 = .ok (.getfield 118, 3) := by decide +kernel
theorem d_M_block_140 : decode prog_9_method_18_code 140 = .ok (.imul, 1) := by decide +kernel
theorem d_M_block_141 : decode prog_9_method_18_code 141 = .ok (.iconst (3), 1) := by decide +kernel
theorem d_M_block_142 : decode prog_9_method_18_code 142 = .ok (.iadd, 1) := by decide +kernel
theorem d_M_block_143 : decode prog_9_method_18_code 143 = .ok (.aload_n 0, 1) := by decide +kernel
theorem d_M_block_144 : decode prog_9_method_18_code 144 = .ok (.iconst (0), 1) := by decide +kernel
theorem d_M_block_145 : decode prog_9_method_18_code 145 = .ok (.invokevirtual 134, 3) := by decide +kernel
theorem d_M_block_148 : decode prog_9_method_18_code 148 = .ok (.iastore, 1) := by decide +kernel
theorem d_M_block_149 : decode prog_9_method_18_code 149 = .ok (.goto (90), 3) := by decide +kernel
theorem d_M_block_152 : decode prog_9_method_18_code 152 = .ok (.aload_n 0, 1) := by decide +kernel
theorem d_M_block_153 : decode prog_9_method_18_code 153 = .ok (.invokevirtual 124, 3) := by decide +kernel
theorem d_M_block_156 : decode prog_9_method_18_code 156 = .ok (.aload_n 0, 1) := by decide +kernel
theorem d_M_block_157 : decode prog_9_method_18_code 157 = .ok (.invokevirtual 80, 3) := by decide +kernel
theorem d_M_block_160 : decode prog_9_method_18_code 160 = .ok (.aload_n 0, 1) := by decide +kernel
theorem d_M_block_161 : decode prog_9_method_18_code 161 = .ok (.getfield 74, 3) := by decide +kernel
theorem d_M_block_164 : decode prog_9_method_18_code 164 = .ok (.ifCond .ne (64), 3) := by decide +kernel
theorem d_M_block_167 : decode prog_9_method_18_code 167 = .ok (.iload_n 3, 1) := by decide +kernel
theorem d_M_block_168 : decode prog_9_method_18_code 168 = .ok (.invokestatic 105, 3) := by decide +kernel
theorem d_M_block_171 : decode prog_9_method_18_code 171 = .ok (.ifCond .eq (57), 3) := by decide +kernel
theorem d_M_block_174 : decode prog_9_method_18_code 174 = .ok (.aload_n 0, 1) := by decide +kernel
theorem d_M_block_175 : decode prog_9_method_18_code 175 = .ok (.aload_n 0, 1) := by decide +kernel
theorem d_M_block_176 : decode prog_9_method_18_code 176 = .ok (.getfield 77, 3) := by decide +kernel
theorem d_M_block_179 : decode prog_9_method_18_code 179 = .ok (.invokevirtual 83, 3) := by decide +kernel
theorem d_M_block_182 : decode prog_9_method_18_code 182 = .ok (.bipush (61), 2) := by decide +kernel
theorem d_M_block_184 : decode prog_9_method_18_code 184 = .ok (.if_icmp .ne (44), 3) := by decide +kernel
theorem d_M_block_187 : decode prog_9_method_18_code 187 = .ok (.aload_n 0, 1) := by decide +kernel
theorem d_M_block_188 : decode prog_9_method_18_code 188 = .ok (.dup, 1) := by decide +kernel
theorem d_M_block_189 : decode prog_9_method_18_code 189 = .ok (.getfield 77, 3) := by decide +kernel
theorem d_M_block_192 : decode prog_9_method_18_code 192 = .ok (.iconst (1), 1) := by decide +kernel
theorem d_M_block_193 : decode prog_9_method_18_code 193 = .ok (.iadd, 1) := by decide +kernel
theorem d_M_block_194 : decode prog_9_method_18_code 194 = .ok (.putfield 77, 3) := by decide +kernel
theorem d_M_block_197 : decode prog_9_method_18_code 197 = .ok (.iconst (1), 1) := by decide +kernel
theorem d_M_block_198 : decode prog_9_method_18_code 198 = .ok (.istore_n 1, 1) := by decide +kernel
theorem d_M_block_199 : decode prog_9_method_18_code 199 = .ok (.aload_n 0, 1) := by decide +kernel
theorem d_M_block_200 : decode prog_9_method_18_code 200 = .ok (.getfield 121, 3) := by decide +kernel
theorem d_M_block_203 : decode prog_9_method_18_code 203 = .ok (.bipush (80), 2) := by decide +kernel
theorem d_M_block_205 : decode prog_9_method_18_code 205 = .ok (.if_icmp .ne (12), 3) := by decide +kernel
theorem d_M_block_208 : decode prog_9_method_18_code 208 = .ok (.aload_n 0, 1) := by decide +kernel
theorem d_M_block_209 : decode prog_9_method_18_code 209 = .ok (.iconst (3), 1) := by decide +kernel
theorem d_M_block_210 : decode prog_9_method_18_code 210 = .ok (.iload_n 2, 1) := by decide +kernel
theorem d_M_block_211 : decode prog_9_method_18_code 211 = .ok (.invokevirtual 87, 3) := by decide +kernel
theorem d_M_block_214 : decode prog_9_method_18_code 214 = .ok (.goto (25), 3) := by decide +kernel
theorem d_M_block_217 : decode prog_9_method_18_code 217 = .ok (.aload_n 0, 1) := by decide +kernel
theorem d_M_block_218 : decode prog_9_method_18_code 218 = .ok (.iload_n 3, 1) := by decide +kernel
theorem d_M_block_219 : decode prog_9_method_18_code 219 = .ok (.bipush (97), 2) := by decide +kernel
theorem d_M_block_221 : decode prog_9_method_18_code 221 = .ok (.isub, 1) := by decide +kernel
theorem d_M_block_222 : decode prog_9_method_18_code 222 = .ok (.invokevirtual 137, 3) := by decide +kernel
theorem d_M_block_225 : decode prog_9_method_18_code 225 = .ok (.goto (14), 3) := by decide +kernel
theorem d_M_block_228 : decode prog_9_method_18_code 228 = .ok (.aload_n 0, 1) := by decide +kernel
theorem d_M_block_229 : decode prog_9_method_18_code 229 = .ok (.getfield 74, 3) := by decide +kernel
theorem d_M_block_232 : decode prog_9_method_18_code 232 = .ok (.ifCond .ne (7), 3) := by decide +kernel
theorem d_M_block_235 : decode prog_9_method_18_code 235 = .ok (.aload_n 0, 1) := by decide +kernel
theorem d_M_block_236 : decode prog_9_method_18_code 236 = .ok (.invokevirtual 140, 3) := by decide +kernel
theorem d_M_block_239 : decode prog_9_method_18_code 239 = .ok (.goto (-198), 3) := by decide +kernel
theorem d_M_block_242 : decode prog_9_method_18_code 242 = .ok (.aload_n 0, 1) := by decide +kernel
theorem d_M_block_243 : decode prog_9_method_18_code 243 = .ok (.dup, 1) := by decide +kernel
theorem d_M_block_244 : decode prog_9_method_18_code 244 = .ok (.getfield 118, 3) := by decide +kernel
theorem d_M_block_247 : decode prog_9_method_18_code 247 = .ok (.iconst (1), 1) := by decide +kernel
theorem d_M_block_248 : decode prog_9_method_18_code 248 = .ok (.iadd, 1) := by decide +kernel
theorem d_M_block_249 : decode prog_9_method_18_code 249 = .ok (.putfield 118, 3) := by decide +kernel
theorem d_M_block_252 : decode prog_9_method_18_code 252 = .ok (.return_, 1) := by decide +kernel
theorem d_M_comes_0 : decode prog_9_method_34_code 0 = .ok (.aload_n 0, 1) := by decide +kernel
theorem d_M_comes_1 : decode prog_9_method_34_code 1 = .ok (.aload_n 0, 1) := by decide +kernel
theorem d_M_comes_2 : decode prog_9_method_34_code 2 = .ok (.iload_n 1, 1) := by decide +kernel
theorem d_M_comes_3 : decode prog_9_method_34_code 3 = .ok (.invokevirtual 191, 3) := by decide +kernel
theorem d_M_comes_6 : decode prog_9_method_34_code 6 = .ok (.ifCond .eq (7), 3) := by decide +kernel
theorem d_M_comes_9 : decode prog_9_method_34_code 9 = .ok (.iconst (1), 1) := by decide +kernel
theorem d_M_comes_10 : decode prog_9_method_34_code 10 = .ok (.goto (4), 3) := by decide +kernel
theorem d_M_comes_13 : decode prog_9_method_34_code 13 = .ok (.iconst (0), 1) := by decide +kernel
theorem d_M_comes_14 : decode prog_9_method_34_code 14 = .ok (.putfield 66, 3) := by decide +kernel
theorem d_M_comes_17 : decode prog_9_method_34_code 17 = .ok (.aload_n 0, 1) := by decide +kernel
theorem d_M_comes_18 : decode prog_9_method_34_code 18 = .ok (.getfield 66, 3) := by decide +kernel
theorem d_M_comes_21 : decode prog_9_method_34_code 21 = .ok (.ifCond .le (5), 3) := by decide +kernel
theorem d_M_comes_24 : decode prog_9_method_34_code 24 = .ok (.iconst (0), 1) := by decide +kernel
theorem d_M_comes_25 : decode prog_9_method_34_code 25 = .ok (.ireturn, 1) := by decide +kernel
theorem d_M_comes_26 : decode prog_9_method_34_code 26 = .ok (.aload_n 0, 1) := by decide +kernel
theorem d_M_comes_27 : decode prog_9_method_34_code 27 = .ok (.invokevirtual 194, 3) := by decide +kernel
theorem d_M_comes_30 : decode prog_9_method_34_code 30 = .ok (.aload_n 0, 1) := by decide +kernel
theorem d_M_comes_31 : decode prog_9_method_34_code 31 = .ok (.getfield 41, 3) := by decide +kernel
theorem d_M_comes_34 : decode prog_9_method_34_code 34 = .ok (.iload_n 1, 1) := by decide +kernel
theorem d_M_comes_35 : decode prog_9_method_34_code 35 = .ok (.baload, 1) := by decide +kernel
theorem d_M_comes_36 : decode prog_9_method_34_code 36 = .ok (.ireturn, 1) := by decide +kernel
theorem d_M_goTo_0 : decode prog_9_method_35_code 0 = .ok (.aload_n 0, 1) := by decide +kernel
theorem d_M_goTo_1 : decode prog_9_method_35_code 1 = .ok (.invokevirtual 194, 3) := by decide +kernel
theorem d_M_goTo_4 : decode prog_9_method_35_code 4 = .ok (.aload_n 0, 1) := by decide +kernel
theorem d_M_goTo_5 : decode prog_9_method_35_code 5 = .ok (.iload_n 1, 1) := by decide +kernel
theorem d_M_goTo_6 : decode prog_9_method_35_code 6 = .ok (.invokevirtual 182, 3) := by decide +kernel
theorem d_M_goTo_9 : decode prog_9_method_35_code 9 = .ok (.aload_n 0, 1) := by decide +kernel
theorem d_M_goTo_10 : decode prog_9_method_35_code 10 = .ok (.getfield 26, 3) := by decide +kernel
theorem d_M_goTo_13 : decode prog_9_method_35_code 13 = .ok (.iload_n 1, 1) := by decide +kernel
theorem d_M_goTo_14 : decode prog_9_method_35_code 14 = .ok (.iaload, 1) := by decide +kernel
theorem d_M_goTo_15 : decode prog_9_method_35_code 15 = .ok (.istore_n 3, 1) := by decide +kernel
theorem d_M_goTo_16 : decode prog_9_method_35_code 16 = .ok (.iload_n 3, 1) := by decide +kernel
theorem d_M_goTo_17 : decode prog_9_method_35_code 17 = .ok (.aload_n 0, 1) := by decide +kernel
theorem d_M_goTo_18 : decode prog_9_method_35_code 18 = .ok (.getfield 26, 3) := by decide +kernel
theorem d_M_goTo_21 : decode prog_9_method_35_code 21 = .ok (.iload_n 1, 1) := by decide +kernel
theorem d_M_goTo_22 : decode prog_9_method_35_code 22 = .ok (.iconst (1), 1) := by decide +kernel
theorem d_M_goTo_23 : decode prog_9_method_35_code 23 = .ok (.iadd, 1) := by decide +kernel
theorem d_M_goTo_24 : decode prog_9_method_35_code 24 = .ok (.iaload, 1) := by decide +kernel
theorem d_M_goTo_25 : decode prog_9_method_35_code 25 = .ok (.if_icmp .ge (18), 3) := by decide +kernel
theorem d_M_goTo_28 : decode prog_9_method_35_code 28 = .ok (.iload_n 2, 1) := by decide +kernel
theorem d_M_goTo_29 : decode prog_9_method_35_code 29 = .ok (.ifCond .eq (14), 3) := by decide +kernel
theorem d_M_goTo_32 : decode prog_9_method_35_code 32 = .ok (.aload_n 0, 1) := by decide +kernel
theorem d_M_goTo_33 : decode prog_9_method_35_code 33 = .ok (.iload_n 3, 1) := by decide +kernel
theorem d_M_goTo_34 : decode prog_9_method_35_code 34 = .ok (.invokevirtual 185, 3) := by decide +kernel
theorem d_M_goTo_37 : decode prog_9_method_35_code 37 = .ok (.iinc 3 (1), 3) := by decide +kernel
theorem d_M_goTo_40 : decode prog_9_method_35_code 40 = .ok (.goto (-24), 3) := by decide +kernel
theorem d_M_goTo_43 : decode prog_9_method_35_code 43 = .ok (.return_, 1) := by decide +kernel
theorem d_M_told_0 : decode prog_9_method_38_code 0 = .ok (.aload_n 0, 1) := by decide +kernel
theorem d_M_told_1 : decode prog_9_method_38_code 1 = .ok (.iload_n 1, 1) := by decide +kernel
theorem d_M_told_2 : decode prog_9_method_38_code 2 = .ok (.ifCond .lt (9), 3) := by decide +kernel
theorem d_M_told_5 : decode prog_9_method_38_code 5 = .ok (.iload_n 1, 1) := by decide +kernel
theorem d_M_told_6 : decode prog_9_method_38_code 6 = .ok (.bipush (6), 2) := by decide +kernel
theorem d_M_told_8 : decode prog_9_method_38_code 8 = .ok (.if_icmp .le (7), 3) := by decide +kernel
theorem d_M_told_11 : decode prog_9_method_38_code 11 = .ok (.iconst (1), 1) := by decide +kernel
theorem d_M_told_12 : decode prog_9_method_38_code 12 = .ok (.goto (4), 3) := by decide +kernel
theorem d_M_told_15 : decode prog_9_method_38_code 15 = .ok (.iconst (0), 1) := by decide +kernel
theorem d_M_told_16 : decode prog_9_method_38_code 16 = .ok (.putfield 66, 3) := by decide +kernel
theorem d_M_told_19 : decode prog_9_method_38_code 19 = .ok (.aload_n 0, 1) := by decide +kernel
theorem d_M_told_20 : decode prog_9_method_38_code 20 = .ok (.getfield 66, 3) := by decide +kernel
theorem d_M_told_23 : decode prog_9_method_38_code 23 = .ok (.ifCond .le (5), 3) := by decide +kernel
theorem d_M_told_26 : decode prog_9_method_38_code 26 = .ok (.iconst (0), 1) := by decide +kernel
theorem d_M_told_27 : decode prog_9_method_38_code 27 = .ok (.ireturn, 1) := by decide +kernel
theorem d_M_told_28 : decode prog_9_method_38_code 28 = .ok (.aload_n 0, 1) := by decide +kernel
theorem d_M_told_29 : decode prog_9_method_38_code 29 = .ok (.invokevirtual 194, 3) := by decide +kernel
theorem d_M_told_32 : decode prog_9_method_38_code 32 = .ok (.iconst (0), 1) := by decide +kernel
theorem d_M_told_33 : decode prog_9_method_38_code 33 = .ok (.istore_n 2, 1) := by decide +kernel
theorem d_M_told_34 : decode prog_9_method_38_code 34 = .ok (.iconst (0), 1) := by decide +kernel
theorem d_M_told_35 : decode prog_9_method_38_code 35 = .ok (.istore_n 3, 1) := by decide +kernel
theorem d_M_told_36 : decode prog_9_method_38_code 36 = .ok (.iconst (0), 1) := by decide +kernel
theorem d_M_told_37 : decode prog_9_method_38_code 37 = .ok (.istore 4, 2) := by decide +kernel
theorem d_M_told_39 : decode prog_9_method_38_code 39 = .ok (.iconst (0), 1) := by decide +kernel
theorem d_M_told_40 : decode prog_9_method_38_code 40 = .ok (.istore 5, 2) := by decide +kernel
theorem d_M_told_42 : decode prog_9_method_38_code 42 = .ok (.iconst (0), 1) := by decide +kernel
theorem d_M_told_43 : decode prog_9_method_38_code 43 = .ok (.istore 6, 2) := by decide +kernel
theorem d_M_told_45 : decode prog_9_method_38_code 45 = .ok (.iconst (0), 1) := by decide +kernel
theorem d_M_told_46 : decode prog_9_method_38_code 46 = .ok (.istore 7, 2) := by decide +kernel
theorem d_M_told_48 : decode prog_9_method_38_code 48 = .ok (.iload 7, 2) := by decide +kernel
theorem d_M_told_50 : decode prog_9_method_38_code 50 = .ok (.aload_n 0, 1) := by decide +kernel
theorem d_M_told_51 : decode prog_9_method_38_code 51 = .ok (.getfield 17, 3) := by decide +kernel
theorem d_M_told_54 : decode prog_9_method_38_code 54 = .ok (.if_icmp .ge (121), 3) := by decide +kernel
theorem d_M_told_57 : decode prog_9_method_38_code 57 = .ok (.aload_n 0, 1) := by decide +kernel
theorem d_M_told_58 : decode prog_9_method_38_code 58 = .ok (.getfield 41, 3) := by decide +kernel
theorem d_M_told_61 : decode prog_9_method_38_code 61 = .ok (.iload 7, 2) := by decide +kernel
theorem d_M_told_63 : decode prog_9_method_38_code 63 = .ok (.baload, 1) := by decide +kernel
theorem d_M_told_64 : decode prog_9_method_38_code 64 = .ok (.ifCond .eq (105), 3) := by decide +kernel
theorem d_M_told_67 : decode prog_9_method_38_code 67 = .ok (.iinc 2 (1), 3) := by decide +kernel
theorem d_M_told_70 : decode prog_9_method_38_code 70 = .ok (.aload_n 0, 1) := by decide +kernel
theorem d_M_told_71 : decode prog_9_method_38_code 71 = .ok (.iload 7, 2) := by decide +kernel
theorem d_M_told_73 : decode prog_9_method_38_code 73 = .ok (.invokevirtual 182, 3) := by decide +kernel
theorem d_M_told_76 : decode prog_9_method_38_code 76 = .ok (.aload_n 0, 1) := by decide +kernel
theorem d_M_told_77 : decode prog_9_method_38_code 77 = .ok (.getfield 26, 3) := by decide +kernel
theorem d_M_told_80 : decode prog_9_method_38_code 80 = .ok (.iload 7, 2) := by decide +kernel
theorem d_M_told_82 : decode prog_9_method_38_code 82 = .ok (.iaload, 1) := by decide +kernel
theorem d_M_told_83 : decode prog_9_method_38_code 83 = .ok (.istore 8, 2) := by decide +kernel
theorem d_M_told_85 : decode prog_9_method_38_code 85 = .ok (.iload 8, 2) := by decide +kernel
theorem d_M_told_87 : decode prog_9_method_38_code 87 = .ok (.aload_n 0, 1) := by decide +kernel
theorem d_M_told_88 : decode prog_9_method_38_code 88 = .ok (.getfield 26, 3) := by decide +kernel
theorem d_M_told_91 : decode prog_9_method_38_code 91 = .ok (.iload 7, 2) := by decide +kernel
theorem d_M_told_93 : decode prog_9_method_38_code 93 = .ok (.iconst (1), 1) := by decide +kernel
theorem d_M_told_94 : decode prog_9_method_38_code 94 = .ok (.iadd, 1) := by decide +kernel
theorem d_M_told_95 : decode prog_9_method_38_code 95 = .ok (.iaload, 1) := by decide +kernel
theorem d_M_told_96 : decode prog_9_method_38_code 96 = .ok (.if_icmp .ge (37), 3) := by decide +kernel
theorem d_M_told_99 : decode prog_9_method_38_code 99 = .ok (.aload_n 0, 1) := by decide +kernel
theorem d_M_told_100 : decode prog_9_method_38_code 100 = .ok (.iload 8, 2) := by decide +kernel
theorem d_M_told_102 : decode prog_9_method_38_code 102 = .ok (.invokevirtual 185, 3) := by decide +kernel
theorem d_M_told_105 : decode prog_9_method_38_code 105 = .ok (.iinc 3 (1), 3) := by decide +kernel
theorem d_M_told_108 : decode prog_9_method_38_code 108 = .ok (.aload_n 0, 1) := by decide +kernel
theorem d_M_told_109 : decode prog_9_method_38_code 109 = .ok (.getfield 156, 3) := by decide +kernel
theorem d_M_told_112 : decode prog_9_method_38_code 112 = .ok (.iconst (1), 1) := by decide +kernel
theorem d_M_told_113 : decode prog_9_method_38_code 113 = .ok (.if_icmp .ne (10), 3) := by decide +kernel
theorem d_M_told_116 : decode prog_9_method_38_code 116 = .ok (.iload 4, 2) := by decide +kernel
theorem d_M_told_118 : decode prog_9_method_38_code 118 = .ok (.iconst (1), 1) := by decide +kernel
theorem d_M_told_119 : decode prog_9_method_38_code 119 = .ok (.iadd, 1) := by decide +kernel
theorem d_M_told_120 : decode prog_9_method_38_code 120 = .ok (.goto (5), 3) := by decide +kernel
theorem d_M_told_123 : decode prog_9_method_38_code 123 = .ok (.iload 4, 2) := by decide +kernel
theorem d_M_told_125 : decode prog_9_method_38_code 125 = .ok (.istore 4, 2) := by decide +kernel
theorem d_M_told_127 : decode prog_9_method_38_code 127 = .ok (.iinc 8 (1), 3) := by decide +kernel
theorem d_M_told_130 : decode prog_9_method_38_code 130 = .ok (.goto (-45), 3) := by decide +kernel
theorem d_M_told_133 : decode prog_9_method_38_code 133 = .ok (.aload_n 0, 1) := by decide +kernel
theorem d_M_told_134 : decode prog_9_method_38_code 134 = .ok (.getfield 23, 3) := by decide +kernel
theorem d_M_told_137 : decode prog_9_method_38_code 137 = .ok (.iconst (5), 1) := by decide +kernel
theorem d_M_told_138 : decode prog_9_method_38_code 138 = .ok (.iload 7, 2) := by decide +kernel
theorem d_M_told_140 : decode prog_9_method_38_code 140 = .ok (.imul, 1) := by decide +kernel
theorem d_M_told_141 : decode prog_9_method_38_code 141 = .ok (.iaload, 1) := by decide +kernel
theorem d_M_told_142 : decode prog_9_method_38_code 142 = .ok (.iconst (2), 1) := by decide +kernel
theorem d_M_told_143 : decode prog_9_method_38_code 143 = .ok (.if_icmp .ne (26), 3) := by decide +kernel
theorem d_M_told_146 : decode prog_9_method_38_code 146 = .ok (.iinc 5 (1), 3) := by decide +kernel
theorem d_M_told_149 : decode prog_9_method_38_code 149 = .ok (.aload_n 0, 1) := by decide +kernel
theorem d_M_told_150 : decode prog_9_method_38_code 150 = .ok (.iload 7, 2) := by decide +kernel
theorem d_M_told_152 : decode prog_9_method_38_code 152 = .ok (.invokevirtual 179, 3) := by decide +kernel
theorem d_M_told_155 : decode prog_9_method_38_code 155 = .ok (.ifCond .lt (10), 3) := by decide +kernel
theorem d_M_told_158 : decode prog_9_method_38_code 158 = .ok (.iload 6, 2) := by decide +kernel
theorem d_M_told_160 : decode prog_9_method_38_code 160 = .ok (.iconst (1), 1) := by decide +kernel
theorem d_M_told_161 : decode prog_9_method_38_code 161 = .ok (.iadd, 1) := by decide +kernel
theorem d_M_told_162 : decode prog_9_method_38_code 162 = .ok (.goto (5), 3) := by decide +kernel
theorem d_M_told_165 : decode prog_9_method_38_code 165 = .ok (.iload 6, 2) := by decide +kernel
theorem d_M_told_167 : decode prog_9_method_38_code 167 = .ok (.istore 6, 2) := by decide +kernel
theorem d_M_told_169 : decode prog_9_method_38_code 169 = .ok (.iinc 7 (1), 3) := by decide +kernel
theorem d_M_told_172 : decode prog_9_method_38_code 172 = .ok (.goto (-124), 3) := by decide +kernel
theorem d_M_told_175 : decode prog_9_method_38_code 175 = .ok (.iload_n 1, 1) := by decide +kernel
theorem d_M_told_176 : decode prog_9_method_38_code 176 = .ok (.ifCond .ne (10), 3) := by decide +kernel
theorem d_M_told_179 : decode prog_9_method_38_code 179 = .ok (.aload_n 0, 1) := by decide +kernel
theorem d_M_told_180 : decode prog_9_method_38_code 180 = .ok (.getfield 17, 3) := by decide +kernel
theorem d_M_told_183 : decode prog_9_method_38_code 183 = .ok (.goto (55), 3) := by decide +kernel
theorem d_M_told_186 : decode prog_9_method_38_code 186 = .ok (.iload_n 1, 1) := by decide +kernel
theorem d_M_told_187 : decode prog_9_method_38_code 187 = .ok (.iconst (1), 1) := by decide +kernel
theorem d_M_told_188 : decode prog_9_method_38_code 188 = .ok (.if_icmp .ne (7), 3) := by decide +kernel
theorem d_M_told_191 : decode prog_9_method_38_code 191 = .ok (.iload_n 2, 1) := by decide +kernel
theorem d_M_told_192 : decode prog_9_method_38_code 192 = .ok (.goto (46), 3) := by decide +kernel
theorem d_M_told_195 : decode prog_9_method_38_code 195 = .ok (.iload_n 1, 1) := by decide +kernel
theorem d_M_told_196 : decode prog_9_method_38_code 196 = .ok (.iconst (2), 1) := by decide +kernel
theorem d_M_told_197 : decode prog_9_method_38_code 197 = .ok (.if_icmp .ne (10), 3) := by decide +kernel
theorem d_M_told_200 : decode prog_9_method_38_code 200 = .ok (.aload_n 0, 1) := by decide +kernel
theorem d_M_told_201 : decode prog_9_method_38_code 201 = .ok (.getfield 149, 3) := by decide +kernel
theorem d_M_told_204 : decode prog_9_method_38_code 204 = .ok (.goto (34), 3) := by decide +kernel
theorem d_M_told_207 : decode prog_9_method_38_code 207 = .ok (.iload_n 1, 1) := by decide +kernel
theorem d_M_told_208 : decode prog_9_method_38_code 208 = .ok (.iconst (3), 1) := by decide +kernel
theorem d_M_told_209 : decode prog_9_method_38_code 209 = .ok (.if_icmp .ne (7), 3) := by decide +kernel
theorem d_M_told_212 : decode prog_9_method_38_code 212 = .ok (.iload_n 3, 1) := by decide +kernel
theorem d_M_told_213 : decode prog_9_method_38_code 213 = .ok (.goto (25), 3) := by decide +kernel
theorem d_M_told_216 : decode prog_9_method_38_code 216 = .ok (.iload_n 1, 1) := by decide +kernel
theorem d_M_told_217 : decode prog_9_method_38_code 217 = .ok (.iconst (4), 1) := by decide +kernel
theorem d_M_told_218 : decode prog_9_method_38_code 218 = .ok (.if_icmp .ne (8), 3) := by decide +kernel
theorem d_M_told_221 : decode prog_9_method_38_code 221 = .ok (.iload 4, 2) := by decide +kernel
theorem d_M_told_223 : decode prog_9_method_38_code 223 = .ok (.goto (15), 3) := by decide +kernel
theorem d_M_told_226 : decode prog_9_method_38_code 226 = .ok (.iload_n 1, 1) := by decide +kernel
theorem d_M_told_227 : decode prog_9_method_38_code 227 = .ok (.iconst (5), 1) := by decide +kernel
theorem d_M_told_228 : decode prog_9_method_38_code 228 = .ok (.if_icmp .ne (8), 3) := by decide +kernel
theorem d_M_told_231 : decode prog_9_method_38_code 231 = .ok (.iload 5, 2) := by decide +kernel
theorem d_M_told_233 : decode prog_9_method_38_code 233 = .ok (.goto (5), 3) := by decide +kernel
theorem d_M_told_236 : decode prog_9_method_38_code 236 = .ok (.iload 6, 2) := by decide +kernel
theorem d_M_told_238 : decode prog_9_method_38_code 238 = .ok (.ireturn, 1) := by decide +kernel
theorem d_M_write_0 : decode prog_9_method_45_code 0 = .ok (.aload_n 0, 1) := by decide +kernel
theorem d_M_write_1 : decode prog_9_method_45_code 1 = .ok (.iconst (0), 1) := by decide +kernel
theorem d_M_write_2 : decode prog_9_method_45_code 2 = .ok (.putfield 66, 3) := by decide +kernel
theorem d_M_write_5 : decode prog_9_method_45_code 5 = .ok (.aload_n 0, 1) := by decide +kernel
theorem d_M_write_6 : decode prog_9_method_45_code 6 = .ok (.invokevirtual 194, 3) := by decide +kernel
theorem d_M_write_9 : decode prog_9_method_45_code 9 = .ok (.aload_n 0, 1) := by decide +kernel
theorem d_M_write_10 : decode prog_9_method_45_code 10 = .ok (.iconst (0), 1) := by decide +kernel
theorem d_M_write_11 : decode prog_9_method_45_code 11 = .ok (.putfield 201, 3) := by decide +kernel
theorem d_M_write_14 : decode prog_9_method_45_code 14 = .ok (.iconst (0), 1) := by decide +kernel
theorem d_M_write_15 : decode prog_9_method_45_code 15 = .ok (.istore_n 1, 1) := by decide +kernel
theorem d_M_write_16 : decode prog_9_method_45_code 16 = .ok (.iload_n 1, 1) := by decide +kernel
theorem d_M_write_17 : decode prog_9_method_45_code 17 = .ok (.aload_n 0, 1) := by decide +kernel
theorem d_M_write_18 : decode prog_9_method_45_code 18 = .ok (.getfield 17, 3) := by decide +kernel
theorem d_M_write_21 : decode prog_9_method_45_code 21 = .ok (.if_icmp .ge (63), 3) := by decide +kernel
theorem d_M_write_24 : decode prog_9_method_45_code 24 = .ok (.aload_n 0, 1) := by decide +kernel
theorem d_M_write_25 : decode prog_9_method_45_code 25 = .ok (.getfield 41, 3) := by decide +kernel
theorem d_M_write_28 : decode prog_9_method_45_code 28 = .ok (.iload_n 1, 1) := by decide +kernel
theorem d_M_write_29 : decode prog_9_method_45_code 29 = .ok (.baload, 1) := by decide +kernel
theorem d_M_write_30 : decode prog_9_method_45_code 30 = .ok (.ifCond .eq (48), 3) := by decide +kernel
theorem d_M_write_33 : decode prog_9_method_45_code 33 = .ok (.aload_n 0, 1) := by decide +kernel
theorem d_M_write_34 : decode prog_9_method_45_code 34 = .ok (.iload_n 1, 1) := by decide +kernel
theorem d_M_write_35 : decode prog_9_method_45_code 35 = .ok (.invokevirtual 182, 3) := by decide +kernel
theorem d_M_write_38 : decode prog_9_method_45_code 38 = .ok (.aload_n 0, 1) := by decide +kernel
theorem d_M_write_39 : decode prog_9_method_45_code 39 = .ok (.getfield 26, 3) := by decide +kernel
theorem d_M_write_42 : decode prog_9_method_45_code 42 = .ok (.iload_n 1, 1) := by decide +kernel
theorem d_M_write_43 : decode prog_9_method_45_code 43 = .ok (.iaload, 1) := by decide +kernel
theorem d_M_write_44 : decode prog_9_method_45_code 44 = .ok (.istore_n 2, 1) := by decide +kernel
theorem d_M_write_45 : decode prog_9_method_45_code 45 = .ok (.iload_n 2, 1) := by decide +kernel
theorem d_M_write_46 : decode prog_9_method_45_code 46 = .ok (.aload_n 0, 1) := by decide +kernel
theorem d_M_write_47 : decode prog_9_method_45_code 47 = .ok (.getfield 26, 3) := by decide +kernel
theorem d_M_write_50 : decode prog_9_method_45_code 50 = .ok (.iload_n 1, 1) := by decide +kernel
theorem d_M_write_51 : decode prog_9_method_45_code 51 = .ok (.iconst (1), 1) := by decide +kernel
theorem d_M_write_52 : decode prog_9_method_45_code 52 = .ok (.iadd, 1) := by decide +kernel
theorem d_M_write_53 : decode prog_9_method_45_code 53 = .ok (.iaload, 1) := by decide +kernel
theorem d_M_write_54 : decode prog_9_method_45_code 54 = .ok (.if_icmp .ge (19), 3) := by decide +kernel
theorem d_M_write_57 : decode prog_9_method_45_code 57 = .ok (.aload_n 0, 1) := by decide +kernel
theorem d_M_write_58 : decode prog_9_method_45_code 58 = .ok (.iload_n 2, 1) := by decide +kernel
theorem d_M_write_59 : decode prog_9_method_45_code 59 = .ok (.invokevirtual 219, 3) := by decide +kernel
theorem d_M_write_62 : decode prog_9_method_45_code 62 = .ok (.aload_n 0, 1) := by decide +kernel
theorem d_M_write_63 : decode prog_9_method_45_code 63 = .ok (.iload_n 2, 1) := by decide +kernel
theorem d_M_write_64 : decode prog_9_method_45_code 64 = .ok (.invokevirtual 185, 3) := by decide +kernel
theorem d_M_write_67 : decode prog_9_method_45_code 67 = .ok (.iinc 2 (1), 3) := by decide +kernel
theorem d_M_write_70 : decode prog_9_method_45_code 70 = .ok (.goto (-25), 3) := by decide +kernel
