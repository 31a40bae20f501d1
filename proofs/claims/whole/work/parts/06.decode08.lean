theorem d_R_fillStatement_112 : decode prog_5_method_7_code 112 = .ok (.aload_n 0, 1) := by decide +kernel
theorem d_R_fillStatement_113 : decode prog_5_method_7_code 113 = .ok (.getfield 23, 3) := by decide +kernel
theorem d_R_fillStatement_116 : decode prog_5_method_7_code 116 = .ok (.getfield 78, 3) := by decide +kernel
theorem d_R_fillStatement_119 : decode prog_5_method_7_code 119 = .ok (.iload_n 2, 1) := by decide +kernel
theorem d_R_fillStatement_120 : decode prog_5_method_7_code 120 = .ok (.iload_n 3, 1) := by decide +kernel
theorem d_R_fillStatement_121 : decode prog_5_method_7_code 121 = .ok (.iastore, 1) := by decide +kernel
theorem d_R_fillStatement_122 : decode prog_5_method_7_code 122 = .ok (.aload_n 0, 1) := by decide +kernel
theorem d_R_fillStatement_123 : decode prog_5_method_7_code 123 = .ok (.iload_n 2, 1) := by decide +kernel
theorem d_R_fillStatement_124 : decode prog_5_method_7_code 124 = .ok (.invokestatic 94, 3) := by decide +kernel
theorem d_R_fillStatement_127 : decode prog_5_method_7_code 127 = .ok (.invokevirtual 88, 3) := by decide +kernel
theorem d_R_fillStatement_130 : decode prog_5_method_7_code 130 = .ok (.ifCond .ne (5), 3) := by decide +kernel
theorem d_R_fillStatement_133 : decode prog_5_method_7_code 133 = .ok (.iconst (0), 1) := by decide +kernel
theorem d_R_fillStatement_134 : decode prog_5_method_7_code 134 = .ok (.ireturn, 1) := by decide +kernel
theorem d_R_fillStatement_135 : decode prog_5_method_7_code 135 = .ok (.aload_n 0, 1) := by decide +kernel
theorem d_R_fillStatement_136 : decode prog_5_method_7_code 136 = .ok (.bipush (59), 2) := by decide +kernel
theorem d_R_fillStatement_138 : decode prog_5_method_7_code 138 = .ok (.invokevirtual 81, 3) := by decide +kernel
theorem d_R_fillStatement_141 : decode prog_5_method_7_code 141 = .ok (.ireturn, 1) := by decide +kernel
theorem d_R_fillEnd_0 : decode prog_5_method_9_code 0 = .ok (.aload_n 0, 1) := by decide +kernel
theorem d_R_fillEnd_1 : decode prog_5_method_9_code 1 = .ok (.invokevirtual 45, 3) := by decide +kernel
theorem d_R_fillEnd_4 : decode prog_5_method_9_code 4 = .ok (.istore_n 1, 1) := by decide +kernel
theorem d_R_fillEnd_5 : decode prog_5_method_9_code 5 = .ok (.iload_n 1, 1) := by decide +kernel
theorem d_R_fillEnd_6 : decode prog_5_method_9_code 6 = .ok (.bipush (46), 2) := by decide +kernel
theorem d_R_fillEnd_8 : decode prog_5_method_9_code 8 = .ok (.if_icmp .ne (7), 3) := by decide +kernel
theorem d_R_fillEnd_11 : decode prog_5_method_9_code 11 = .ok (.iconst (0), 1) := by decide +kernel
theorem d_R_fillEnd_12 : decode prog_5_method_9_code 12 = .ok (.goto (14), 3) := by decide +kernel
theorem d_R_fillEnd_15 : decode prog_5_method_9_code 15 = .ok (.iload_n 1, 1) := by decide +kernel
theorem d_R_fillEnd_16 : decode prog_5_method_9_code 16 = .ok (.bipush (62), 2) := by decide +kernel
theorem d_R_fillEnd_18 : decode prog_5_method_9_code 18 = .ok (.if_icmp .ne (7), 3) := by decide +kernel
theorem d_R_fillEnd_21 : decode prog_5_method_9_code 21 = .ok (.iconst (1), 1) := by decide +kernel
theorem d_R_fillEnd_22 : decode prog_5_method_9_code 22 = .ok (.goto (4), 3) := by decide +kernel
theorem d_R_fillEnd_25 : decode prog_5_method_9_code 25 = .ok (.iconst (2), 1) := by decide +kernel
theorem d_R_fillEnd_26 : decode prog_5_method_9_code 26 = .ok (.istore_n 2, 1) := by decide +kernel
theorem d_R_fillEnd_27 : decode prog_5_method_9_code 27 = .ok (.iload_n 2, 1) := by decide +kernel
theorem d_R_fillEnd_28 : decode prog_5_method_9_code 28 = .ok (.iconst (2), 1) := by decide +kernel
theorem d_R_fillEnd_29 : decode prog_5_method_9_code 29 = .ok (.if_icmp .eq (16), 3) := by decide +kernel
theorem d_R_fillEnd_32 : decode prog_5_method_9_code 32 = .ok (.aload_n 0, 1) := by decide +kernel
theorem d_R_fillEnd_33 : decode prog_5_method_9_code 33 = .ok (.dup, 1) := by decide +kernel
theorem d_R_fillEnd_34 : decode prog_5_method_9_code 34 = .ok (.getfield 32, 3) := by decide +kernel
theorem d_R_fillEnd_37 : decode prog_5_method_9_code 37 = .ok (.iconst (1), 1) := by decide +kernel
theorem d_R_fillEnd_38 : decode prog_5_method_9_code 38 = .ok (.iadd, 1) := by decide +kernel
theorem d_R_fillEnd_39 : decode prog_5_method_9_code 39 = .ok (.putfield 32, 3) := by decide +kernel
theorem d_R_fillEnd_42 : decode prog_5_method_9_code 42 = .ok (.goto (31), 3) := by decide +kernel
theorem d_R_fillEnd_45 : decode prog_5_method_9_code 45 = .ok (.aload_n 0, 1) := by decide +kernel
theorem d_R_fillEnd_46 : decode prog_5_method_9_code 46 = .ok (.aload_n 0, 1) := by decide +kernel
theorem d_R_fillEnd_47 : decode prog_5_method_9_code 47 = .ok (.getfield 23, 3) := by decide +kernel
theorem d_R_fillEnd_50 : decode prog_5_method_9_code 50 = .ok (.getfield 108, 3) := by decide +kernel
theorem d_R_fillEnd_53 : decode prog_5_method_9_code 53 = .ok (.invokestatic 111, 3) := by decide +kernel
theorem d_R_fillEnd_56 : decode prog_5_method_9_code 56 = .ok (.invokevirtual 88, 3) := by decide +kernel
theorem d_R_fillEnd_59 : decode prog_5_method_9_code 59 = .ok (.ifCond .eq (12), 3) := by decide +kernel
theorem d_R_fillEnd_62 : decode prog_5_method_9_code 62 = .ok (.aload_n 0, 1) := by decide +kernel
theorem d_R_fillEnd_63 : decode prog_5_method_9_code 63 = .ok (.bipush (63), 2) := by decide +kernel
theorem d_R_fillEnd_65 : decode prog_5_method_9_code 65 = .ok (.invokevirtual 81, 3) := by decide +kernel
theorem d_R_fillEnd_68 : decode prog_5_method_9_code 68 = .ok (.ifCond .ne (5), 3) := by decide +kernel
theorem d_R_fillEnd_71 : decode prog_5_method_9_code 71 = .ok (.iconst (0), 1) := by decide +kernel
theorem d_R_fillEnd_72 : decode prog_5_method_9_code 72 = .ok (.ireturn, 1) := by decide +kernel
theorem d_R_fillEnd_73 : decode prog_5_method_9_code 73 = .ok (.iload_n 2, 1) := by decide +kernel
theorem d_R_fillEnd_74 : decode prog_5_method_9_code 74 = .ok (.ifCond .eq (13), 3) := by decide +kernel
theorem d_R_fillEnd_77 : decode prog_5_method_9_code 77 = .ok (.aload_n 0, 1) := by decide +kernel
theorem d_R_fillEnd_78 : decode prog_5_method_9_code 78 = .ok (.iconst (0), 1) := by decide +kernel
theorem d_R_fillEnd_79 : decode prog_5_method_9_code 79 = .ok (.invokevirtual 114, 3) := by decide +kernel
theorem d_R_fillEnd_82 : decode prog_5_method_9_code 82 = .ok (.ifCond .ne (5), 3) := by decide +kernel
theorem d_R_fillEnd_85 : decode prog_5_method_9_code 85 = .ok (.iconst (0), 1) := by decide +kernel
theorem d_R_fillEnd_86 : decode prog_5_method_9_code 86 = .ok (.ireturn, 1) := by decide +kernel
theorem d_R_fillEnd_87 : decode prog_5_method_9_code 87 = .ok (.iload_n 2, 1) := by decide +kernel
theorem d_R_fillEnd_88 : decode prog_5_method_9_code 88 = .ok (.iconst (2), 1) := by decide +kernel
theorem d_R_fillEnd_89 : decode prog_5_method_9_code 89 = .ok (.if_icmp .ne (22), 3) := by decide +kernel
theorem d_R_fillEnd_92 : decode prog_5_method_9_code 92 = .ok (.aload_n 0, 1) := by decide +kernel
theorem d_R_fillEnd_93 : decode prog_5_method_9_code 93 = .ok (.bipush (58), 2) := by decide +kernel
theorem d_R_fillEnd_95 : decode prog_5_method_9_code 95 = .ok (.invokevirtual 81, 3) := by decide +kernel
theorem d_R_fillEnd_98 : decode prog_5_method_9_code 98 = .ok (.ifCond .eq (11), 3) := by decide +kernel
theorem d_R_fillEnd_101 : decode prog_5_method_9_code 101 = .ok (.aload_n 0, 1) := by decide +kernel
theorem d_R_fillEnd_102 : decode prog_5_method_9_code 102 = .ok (.iconst (1), 1) := by decide +kernel
theorem d_R_fillEnd_103 : decode prog_5_method_9_code 103 = .ok (.invokevirtual 114, 3) := by decide +kernel
theorem d_R_fillEnd_106 : decode prog_5_method_9_code 106 = .ok (.ifCond .ne (5), 3) := by decide +kernel
theorem d_R_fillEnd_109 : decode prog_5_method_9_code 109 = .ok (.iconst (0), 1) := by decide +kernel
theorem d_R_fillEnd_110 : decode prog_5_method_9_code 110 = .ok (.ireturn, 1) := by decide +kernel
theorem d_R_fillEnd_111 : decode prog_5_method_9_code 111 = .ok (.aload_n 0, 1) := by decide +kernel
theorem d_R_fillEnd_112 : decode prog_5_method_9_code 112 = .ok (.getfield 23, 3) := by decide +kernel
theorem d_R_fillEnd_115 : decode prog_5_method_9_code 115 = .ok (.iload_n 2, 1) := by decide +kernel
theorem d_R_fillEnd_116 : decode prog_5_method_9_code 116 = .ok (.invokevirtual 117, 3) := by decide +kernel
theorem d_R_fillEnd_119 : decode prog_5_method_9_code 119 = .ok (.iconst (1), 1) := by decide +kernel
theorem d_R_fillEnd_120 : decode prog_5_method_9_code 120 = .ok (.ireturn, 1) := by decide +kernel
theorem d_M_statement_0 : decode prog_9_method_16_code 0 = .ok (.bipush (7), 2) := by decide +kernel
theorem d_M_statement_2 : decode prog_9_method_16_code 2 = .ok (.aload_n 0, 1) := by decide +kernel
theorem d_M_statement_3 : decode prog_9_method_16_code 3 = .ok (.getfield 121, 3) := by decide +kernel
theorem d_M_statement_6 : decode prog_9_method_16_code 6 = .ok (.imul, 1) := by decide +kernel
theorem d_M_statement_7 : decode prog_9_method_16_code 7 = .ok (.istore_n 2, 1) := by decide +kernel
theorem d_M_statement_8 : decode prog_9_method_16_code 8 = .ok (.aload_n 0, 1) := by decide +kernel
theorem d_M_statement_9 : decode prog_9_method_16_code 9 = .ok (.getfield 29, 3) := by decide +kernel
theorem d_M_statement_12 : decode prog_9_method_16_code 12 = .ok (.iload_n 2, 1) := by decide +kernel
theorem d_M_statement_13 : decode prog_9_method_16_code 13 = .ok (.iconst (0), 1) := by decide +kernel
theorem d_M_statement_14 : decode prog_9_method_16_code 14 = .ok (.iadd, 1) := by decide +kernel
theorem d_M_statement_15 : decode prog_9_method_16_code 15 = .ok (.iload_n 1, 1) := by decide +kernel
theorem d_M_statement_16 : decode prog_9_method_16_code 16 = .ok (.iastore, 1) := by decide +kernel
theorem d_M_statement_17 : decode prog_9_method_16_code 17 = .ok (.aload_n 0, 1) := by decide +kernel
theorem d_M_statement_18 : decode prog_9_method_16_code 18 = .ok (.invokevirtual 80, 3) := by decide +kernel
theorem d_M_statement_21 : decode prog_9_method_16_code 21 = .ok (.aload_n 0, 1) := by decide +kernel
theorem d_M_statement_22 : decode prog_9_method_16_code 22 = .ok (.aload_n 0, 1) := by decide +kernel
theorem d_M_statement_23 : decode prog_9_method_16_code 23 = .ok (.getfield 77, 3) := by decide +kernel
theorem d_M_statement_26 : decode prog_9_method_16_code 26 = .ok (.invokevirtual 83, 3) := by decide +kernel
theorem d_M_statement_29 : decode prog_9_method_16_code 29 = .ok (.bipush (63), 2) := by decide +kernel
theorem d_M_statement_31 : decode prog_9_method_16_code 31 = .ok (.if_icmp .ne (25), 3) := by decide +kernel
theorem d_M_statement_34 : decode prog_9_method_16_code 34 = .ok (.aload_n 0, 1) := by decide +kernel
theorem d_M_statement_35 : decode prog_9_method_16_code 35 = .ok (.dup, 1) := by decide +kernel
theorem d_M_statement_36 : decode prog_9_method_16_code 36 = .ok (.getfield 77, 3) := by decide +kernel
theorem d_M_statement_39 : decode prog_9_method_16_code 39 = .ok (.iconst (1), 1) := by decide +kernel
theorem d_M_statement_40 : decode prog_9_method_16_code 40 = .ok (.iadd, 1) := by decide +kernel
theorem d_M_statement_41 : decode prog_9_method_16_code 41 = .ok (.putfield 77, 3) := by decide +kernel
theorem d_M_statement_44 : decode prog_9_method_16_code 44 = .ok (.aload_n 0, 1) := by decide +kernel
theorem d_M_statement_45 : decode prog_9_method_16_code 45 = .ok (.getfield 29, 3) := by decide +kernel
theorem d_M_statement_48 : decode prog_9_method_16_code 48 = .ok (.iload_n 2, 1) := by decide +kernel
theorem d_M_statement_49 : decode prog_9_method_16_code 49 = .ok (.iconst (1), 1) := by decide +kernel
theorem d_M_statement_50 : decode prog_9_method_16_code 50 = .ok (.iadd, 1) := by decide +kernel
theorem d_M_statement_51 : decode prog_9_method_16_code 51 = .ok (.iconst (0), 1) := by decide +kernel
theorem d_M_statement_52 : decode prog_9_method_16_code 52 = .ok (.iastore, 1) := by decide +kernel
theorem d_M_statement_53 : decode prog_9_method_16_code 53 = .ok (.goto (127), 3) := by decide +kernel
theorem d_M_statement_56 : decode prog_9_method_16_code 56 = .ok (.aload_n 0, 1) := by decide +kernel
theorem d_M_statement_57 : decode prog_9_method_16_code 57 = .ok (.invokevirtual 124, 3) := by decide +kernel
theorem d_M_statement_60 : decode prog_9_method_16_code 60 = .ok (.aload_n 0, 1) := by decide +kernel
theorem d_M_statement_61 : decode prog_9_method_16_code 61 = .ok (.getfield 29, 3) := by decide +kernel
theorem d_M_statement_64 : decode prog_9_method_16_code 64 = .ok (.iload_n 2, 1) := by decide +kernel
theorem d_M_statement_65 : decode prog_9_method_16_code 65 = .ok (.iconst (3), 1) := by decide +kernel
theorem d_M_statement_66 : decode prog_9_method_16_code 66 = .ok (.iadd, 1) := by decide +kernel
theorem d_M_statement_67 : decode prog_9_method_16_code 67 = .ok (.aload_n 0, 1) := by decide +kernel
theorem d_M_statement_68 : decode prog_9_method_16_code 68 = .ok (.getfield 108, 3) := by decide +kernel
theorem d_M_statement_71 : decode prog_9_method_16_code 71 = .ok (.iastore, 1) := by decide +kernel
theorem d_M_statement_72 : decode prog_9_method_16_code 72 = .ok (.aload_n 0, 1) := by decide +kernel
theorem d_M_statement_73 : decode prog_9_method_16_code 73 = .ok (.getfield 29, 3) := by decide +kernel
theorem d_M_statement_76 : decode prog_9_method_16_code 76 = .ok (.iload_n 2, 1) := by decide +kernel
theorem d_M_statement_77 : decode prog_9_method_16_code 77 = .ok (.iconst (3), 1) := by decide +kernel
theorem d_M_statement_78 : decode prog_9_method_16_code 78 = .ok (.iadd, 1) := by decide +kernel
theorem d_M_statement_79 : decode prog_9_method_16_code 79 = .ok (.iconst (1), 1) := by decide +kernel
theorem d_M_statement_80 : decode prog_9_method_16_code 80 = .ok (.iadd, 1) := by decide +kernel
theorem d_M_statement_81 : decode prog_9_method_16_code 81 = .ok (.aload_n 0, 1) := by decide +kernel
theorem d_M_statement_82 : decode prog_9_method_16_code 82 = .ok (.getfield 111, 3) := by decide +kernel
theorem d_M_statement_85 : decode prog_9_method_16_code 85 = .ok (.iastore, 1) := by decide +kernel
theorem d_M_statement_86 : decode prog_9_method_16_code 86 = .ok (.aload_n 0, 1) := by decide +kernel
theorem d_M_statement_87 : decode prog_9_method_16_code 87 = .ok (.getfield 29, 3) := by decide +kernel
theorem d_M_statement_90 : decode prog_9_method_16_code 90 = .ok (.iload_n 2, 1) := by decide +kernel
theorem d_M_statement_91 : decode prog_9_method_16_code 91 = .ok (.iconst (1), 1) := by decide +kernel
theorem d_M_statement_92 : decode prog_9_method_16_code 92 = .ok (.iadd, 1) := by decide +kernel
theorem d_M_statement_93 : decode prog_9_method_16_code 93 = .ok (.iconst (1), 1) := by decide +kernel
theorem d_M_statement_94 : decode prog_9_method_16_code 94 = .ok (.iastore, 1) := by decide +kernel
theorem d_M_statement_95 : decode prog_9_method_16_code 95 = .ok (.aload_n 0, 1) := by decide +kernel
theorem d_M_statement_96 : decode prog_9_method_16_code 96 = .ok (.invokevirtual 80, 3) := by decide +kernel
theorem d_M_statement_99 : decode prog_9_method_16_code 99 = .ok (.aload_n 0, 1) := by decide +kernel
theorem d_M_statement_100 : decode prog_9_method_16_code 100 = .ok (.aload_n 0, 1) := by decide +kernel
theorem d_M_statement_101 : decode prog_9_method_16_code 101 = .ok (.getfield 77, 3) := by decide +kernel
theorem d_M_statement_104 : decode prog_9_method_16_code 104 = .ok (.invokevirtual 83, 3) := by decide +kernel
theorem d_M_statement_107 : decode prog_9_method_16_code 107 = .ok (.invokestatic 127, 3) := by decide +kernel
theorem d_M_statement_110 : decode prog_9_method_16_code 110 = .ok (.istore_n 3, 1) := by decide +kernel
theorem d_M_statement_111 : decode prog_9_method_16_code 111 = .ok (.aload_n 0, 1) := by decide +kernel
theorem d_M_statement_112 : decode prog_9_method_16_code 112 = .ok (.getfield 74, 3) := by decide +kernel
theorem d_M_statement_115 : decode prog_9_method_16_code 115 = .ok (.ifCond .ne (65), 3) := by decide +kernel
theorem d_M_statement_118 : decode prog_9_method_16_code 118 = .ok (.iload_n 3, 1) := by decide +kernel
theorem d_M_statement_119 : decode prog_9_method_16_code 119 = .ok (.ifCond .lt (61), 3) := by decide +kernel
theorem d_M_statement_122 : decode prog_9_method_16_code 122 = .ok (.aload_n 0, 1) := by decide +kernel
theorem d_M_statement_123 : decode prog_9_method_16_code 123 = .ok (.dup, 1) := by decide +kernel
theorem d_M_statement_124 : decode prog_9_method_16_code 124 = .ok (.getfield 77, 3) := by decide +kernel
theorem d_M_statement_127 : decode prog_9_method_16_code 127 = .ok (.iconst (1), 1) := by decide +kernel
theorem d_M_statement_128 : decode prog_9_method_16_code 128 = .ok (.iadd, 1) := by decide +kernel
theorem d_M_statement_129 : decode prog_9_method_16_code 129 = .ok (.putfield 77, 3) := by decide +kernel
theorem d_M_statement_132 : decode prog_9_method_16_code 132 = .ok (.aload_n 0, 1) := by decide +kernel
theorem d_M_statement_133 : decode prog_9_method_16_code 133 = .ok (.invokevirtual 124, 3) := by decide +kernel
theorem d_M_statement_136 : decode prog_9_method_16_code 136 = .ok (.aload_n 0, 1) := by decide +kernel
theorem d_M_statement_137 : decode prog_9_method_16_code 137 = .ok (.getfield 29, 3) := by decide +kernel
theorem d_M_statement_140 : decode prog_9_method_16_code 140 = .ok (.iload_n 2, 1) := by decide +kernel
theorem d_M_statement_141 : decode prog_9_method_16_code 141 = .ok (.iconst (1), 1) := by decide +kernel
theorem d_M_statement_142 : decode prog_9_method_16_code 142 = .ok (.iadd, 1) := by decide +kernel
theorem d_M_statement_143 : decode prog_9_method_16_code 143 = .ok (.iconst (2), 1) := by decide +kernel
theorem d_M_statement_144 : decode prog_9_method_16_code 144 = .ok (.iastore, 1) := by decide +kernel
theorem d_M_statement_145 : decode prog_9_method_16_code 145 = .ok (.aload_n 0, 1) := by decide +kernel
theorem d_M_statement_146 : decode prog_9_method_16_code 146 = .ok (.getfield 29, 3) := by decide +kernel
theorem d_M_statement_149 : decode prog_9_method_16_code 149 = .ok (.iload_n 2, 1) := by decide +kernel
theorem d_M_statement_150 : decode prog_9_method_16_code 150 = .ok (.iconst (2), 1) := by decide +kernel
theorem d_M_statement_151 : decode prog_9_method_16_code 151 = .ok (.iadd, 1) := by decide +kernel
theorem d_M_statement_152 : decode prog_9_method_16_code 152 = .ok (.iload_n 3, 1) := by decide +kernel
theorem d_M_statement_153 : decode prog_9_method_16_code 153 = .ok (.iastore, 1) := by decide +kernel
theorem d_M_statement_154 : decode prog_9_method_16_code 154 = .ok (.aload_n 0, 1) := by decide +kernel
theorem d_M_statement_155 : decode prog_9_method_16_code 155 = .ok (.getfield 29, 3) := by decide +kernel
theorem d_M_statement_158 : decode prog_9_method_16_code 158 = .ok (.iload_n 2, 1) := by decide +kernel
theorem d_M_statement_159 : decode prog_9_method_16_code 159 = .ok (.iconst (5), 1) := by decide +kernel
theorem d_M_statement_160 : decode prog_9_method_16_code 160 = .ok (.iadd, 1) := by decide +kernel
theorem d_M_statement_161 : decode prog_9_method_16_code 161 = .ok (.aload_n 0, 1) := by decide +kernel
theorem d_M_statement_162 : decode prog_9_method_16_code 162 = .ok (.getfield 108, 3) := by decide +kernel
theorem d_M_statement_165 : decode prog_9_method_16_code 165 = .ok (.iastore, 1) := by decide +kernel
theorem d_M_statement_166 : decode prog_9_method_16_code 166 = .ok (.aload_n 0, 1) := by decide +kernel
theorem d_M_statement_167 : decode prog_9_method_16_code 167 = .ok (.getfield 29, 3) := by decide +kernel
theorem d_M_statement_170 : decode prog_9_method_16_code 170 = .ok (.iload_n 2, 1) := by decide +kernel
theorem d_M_statement_171 : decode prog_9_method_16_code 171 = .ok (.iconst (5), 1) := by decide +kernel
theorem d_M_statement_172 : decode prog_9_method_16_code 172 = .ok (.iadd, 1) := by decide +kernel
theorem d_M_statement_173 : decode prog_9_method_16_code 173 = .ok (.iconst (1), 1) := by decide +kernel
theorem d_M_statement_174 : decode prog_9_method_16_code 174 = .ok (.iadd, 1) := by decide +kernel
theorem d_M_statement_175 : decode prog_9_method_16_code 175 = .ok (.aload_n 0, 1) := by decide +kernel
theorem d_M_statement_176 : decode prog_9_method_16_code 176 = .ok (.getfield 111, 3) := by decide +kernel
theorem d_M_statement_179 : decode prog_9_method_16_code 179 = .ok (.iastore, 1) := by decide +kernel
theorem d_M_statement_180 : decode prog_9_method_16_code 180 = .ok (.aload_n 0, 1) := by decide +kernel
theorem d_M_statement_181 : decode prog_9_method_16_code 181 = .ok (.getfield 74, 3) := by decide +kernel
theorem d_M_statement_184 : decode prog_9_method_16_code 184 = .ok (.ifCond .ne (9), 3) := by decide +kernel
theorem d_M_statement_187 : decode prog_9_method_16_code 187 = .ok (.aload_n 0, 1) := by decide +kernel
theorem d_M_statement_188 : decode prog_9_method_16_code 188 = .ok (.bipush (59), 2) := by decide +kernel
theorem d_M_statement_190 : decode prog_9_method_16_code 190 = .ok (.invokevirtual 130, 3) := by decide +kernel
theorem d_M_statement_193 : decode prog_9_method_16_code 193 = .ok (.aload_n 0, 1) := by decide +kernel
theorem d_M_statement_194 : decode prog_9_method_16_code 194 = .ok (.dup, 1) := by decide +kernel
theorem d_M_statement_195 : decode prog_9_method_16_code 195 = .ok (.getfield 121, 3) := by decide +kernel
theorem d_M_statement_198 : decode prog_9_method_16_code 198 = .ok (.iconst (1), 1) := by decide +kernel
theorem d_M_statement_199 : decode prog_9_method_16_code 199 = .ok (.iadd, 1) := by decide +kernel
theorem d_M_statement_200 : decode prog_9_method_16_code 200 = .ok (.putfield 121, 3) := by decide +kernel
theorem d_M_statement_203 : decode prog_9_method_16_code 203 = .ok (.return_, 1) := by decide +kernel
theorem d_M_choice_0 : decode prog_9_method_17_code 0 = .ok (.iconst (5), 1) := by decide +kernel
theorem d_M_choice_1 : decode prog_9_method_17_code 1 = .ok (.aload_n 0, 1) := by decide +kernel
theorem d_M_choice_2 : decode prog_9_method_17_code 2 = .ok (.getfield 118, 3) := by decide +kernel
theorem d_M_choice_5 : decode prog_9_method_17_code 5 = .ok (.imul, 1) := by decide +kernel
theorem d_M_choice_6 : decode prog_9_method_17_code 6 = .ok (.istore_n 1, 1) := by decide +kernel
theorem d_M_choice_7 : decode prog_9_method_17_code 7 = .ok (.aload_n 0, 1) := by decide +kernel
theorem d_M_choice_8 : decode prog_9_method_17_code 8 = .ok (.getfield 32, 3) := by decide +kernel
theorem d_M_choice_11 : decode prog_9_method_17_code 11 = .ok (.iload_n 1, 1) := by decide +kernel
theorem d_M_choice_12 : decode prog_9_method_17_code 12 = .ok (.iconst (2), 1) := by decide +kernel
theorem d_M_choice_13 : decode prog_9_method_17_code 13 = .ok (.iastore, 1) := by decide +kernel
theorem d_M_choice_14 : decode prog_9_method_17_code 14 = .ok (.aload_n 0, 1) := by decide +kernel
theorem d_M_choice_15 : decode prog_9_method_17_code 15 = .ok (.getfield 32, 3) := by decide +kernel
theorem d_M_choice_18 : decode prog_9_method_17_code 18 = .ok (.iload_n 1, 1) := by decide +kernel
theorem d_M_choice_19 : decode prog_9_method_17_code 19 = .ok (.iconst (1), 1) := by decide +kernel
theorem d_M_choice_20 : decode prog_9_method_17_code 20 = .ok (.iadd, 1) := by decide +kernel
theorem d_M_choice_21 : decode prog_9_method_17_code 21 = .ok (.aload_n 0, 1) := by decide +kernel
theorem d_M_choice_22 : decode prog_9_method_17_code 22 = .ok (.getfield 108, 3) := by decide +kernel
theorem d_M_choice_25 : decode prog_9_method_17_code 25 = .ok (.iastore, 1) := by decide +kernel
theorem d_M_choice_26 : decode prog_9_method_17_code 26 = .ok (.aload_n 0, 1) := by decide +kernel
theorem d_M_choice_27 : decode prog_9_method_17_code 27 = .ok (.getfield 32, 3) := by decide +kernel
theorem d_M_choice_30 : decode prog_9_method_17_code 30 = .ok (.iload_n 1, 1) := by decide +kernel
theorem d_M_choice_31 : decode prog_9_method_17_code 31 = .ok (.iconst (1), 1) := by decide +kernel
theorem d_M_choice_32 : decode prog_9_method_17_code 32 = .ok (.iadd, 1) := by decide +kernel
theorem d_M_choice_33 : decode prog_9_method_17_code 33 = .ok (.iconst (1), 1) := by decide +kernel
theorem d_M_choice_34 : decode prog_9_method_17_code 34 = .ok (.iadd, 1) := by decide +kernel
theorem d_M_choice_35 : decode prog_9_method_17_code 35 = .ok (.aload_n 0, 1) := by decide +kernel
theorem d_M_choice_36 : decode prog_9_method_17_code 36 = .ok (.getfield 111, 3) := by decide +kernel
theorem d_M_choice_39 : decode prog_9_method_17_code 39 = .ok (.iastore, 1) := by decide +kernel
theorem d_M_choice_40 : decode prog_9_method_17_code 40 = .ok (.aload_n 0, 1) := by decide +kernel
theorem d_M_choice_41 : decode prog_9_method_17_code 41 = .ok (.bipush (63), 2) := by decide +kernel
theorem d_M_choice_43 : decode prog_9_method_17_code 43 = .ok (.invokevirtual 130, 3) := by decide +kernel
theorem d_M_choice_46 : decode prog_9_method_17_code 46 = .ok (.aload_n 0, 1) := by decide +kernel
theorem d_M_choice_47 : decode prog_9_method_17_code 47 = .ok (.getfield 74, 3) := by decide +kernel
theorem d_M_choice_50 : decode prog_9_method_17_code 50 = .ok (.ifCond .ne (16), 3) := by decide +kernel
theorem d_M_choice_53 : decode prog_9_method_17_code 53 = .ok (.aload_n 0, 1) := by decide +kernel
theorem d_M_choice_54 : decode prog_9_method_17_code 54 = .ok (.getfield 32, 3) := by decide +kernel
theorem d_M_choice_57 : decode prog_9_method_17_code 57 = .ok (.iload_n 1, 1) := by decide +kernel
theorem d_M_choice_58 : decode prog_9_method_17_code 58 = .ok (.iconst (3), 1) := by decide +kernel
theorem d_M_choice_59 : decode prog_9_method_17_code 59 = .ok (.iadd, 1) := by decide +kernel
theorem d_M_choice_60 : decode prog_9_method_17_code 60 = .ok (.aload_n 0, 1) := by decide +kernel
theorem d_M_choice_61 : decode prog_9_method_17_code 61 = .ok (.iconst (0), 1) := by decide +kernel
theorem d_M_choice_62 : decode prog_9_method_17_code 62 = .ok (.invokevirtual 134, 3) := by decide +kernel
theorem d_M_choice_65 : decode prog_9_method_17_code 65 = .ok (.iastore, 1) := by decide +kernel
theorem d_M_choice_66 : decode prog_9_method_17_code 66 = .ok (.aload_n 0, 1) := by decide +kernel
theorem d_M_choice_67 : decode prog_9_method_17_code 67 = .ok (.getfield 74, 3) := by decide +kernel
theorem d_M_choice_70 : decode prog_9_method_17_code 70 = .ok (.ifCond .ne (9), 3) := by decide +kernel
theorem d_M_choice_73 : decode prog_9_method_17_code 73 = .ok (.aload_n 0, 1) := by decide +kernel
theorem d_M_choice_74 : decode prog_9_method_17_code 74 = .ok (.bipush (58), 2) := by decide +kernel
theorem d_M_choice_76 : decode prog_9_method_17_code 76 = .ok (.invokevirtual 130, 3) := by decide +kernel
theorem d_M_choice_79 : decode prog_9_method_17_code 79 = .ok (.aload_n 0, 1) := by decide +kernel
theorem d_M_choice_80 : decode prog_9_method_17_code 80 = .ok (.getfield 74, 3) := by decide +kernel
theorem d_M_choice_83 : decode prog_9_method_17_code 83 = .ok (.ifCond .ne (16), 3) := by decide +kernel
theorem d_M_choice_86 : decode prog_9_method_17_code 86 = .ok (.aload_n 0, 1) := by decide +kernel
theorem d_M_choice_87 : decode prog_9_method_17_code 87 = .ok (.getfield 32, 3) := by decide +kernel
theorem d_M_choice_90 : decode prog_9_method_17_code 90 = .ok (.iload_n 1, 1) := by decide +kernel
theorem d_M_choice_91 : decode prog_9_method_17_code 91 = .ok (.iconst (4), 1) := by decide +kernel
theorem d_M_choice_92 : decode prog_9_method_17_code 92 = .ok (.iadd, 1) := by decide +kernel
theorem d_M_choice_93 : decode prog_9_method_17_code 93 = .ok (.aload_n 0, 1) := by decide +kernel
theorem d_M_choice_94 : decode prog_9_method_17_code 94 = .ok (.iconst (1), 1) := by decide +kernel
theorem d_M_choice_95 : decode prog_9_method_17_code 95 = .ok (.invokevirtual 134, 3) := by decide +kernel
theorem d_M_choice_98 : decode prog_9_method_17_code 98 = .ok (.iastore, 1) := by decide +kernel
theorem d_M_choice_99 : decode prog_9_method_17_code 99 = .ok (.return_, 1) := by decide +kernel
theorem d_M_know_0 : decode prog_9_method_32_code 0 = .ok (.aload_n 0, 1) := by decide +kernel
theorem d_M_know_1 : decode prog_9_method_32_code 1 = .ok (.getfield 152, 3) := by decide +kernel
theorem d_M_know_4 : decode prog_9_method_32_code 4 = .ok (.ifCond .eq (4), 3) := by decide +kernel
theorem d_M_know_7 : decode prog_9_method_32_code 7 = .ok (.return_, 1) := by decide +kernel
theorem d_M_know_8 : decode prog_9_method_32_code 8 = .ok (.iconst (0), 1) := by decide +kernel
theorem d_M_know_9 : decode prog_9_method_32_code 9 = .ok (.istore_n 1, 1) := by decide +kernel
theorem d_M_know_10 : decode prog_9_method_32_code 10 = .ok (.iload_n 1, 1) := by decide +kernel
theorem d_M_know_11 : decode prog_9_method_32_code 11 = .ok (.sipush (192), 3) := by decide +kernel
theorem d_M_know_14 : decode prog_9_method_32_code 14 = .ok (.if_icmp .ge (23), 3) := by decide +kernel
theorem d_M_know_17 : decode prog_9_method_32_code 17 = .ok (.aload_n 0, 1) := by decide +kernel
theorem d_M_know_18 : decode prog_9_method_32_code 18 = .ok (.getfield 45, 3) := by decide +kernel
theorem d_M_know_21 : decode prog_9_method_32_code 21 = .ok (.iload_n 1, 1) := by decide +kernel
theorem d_M_know_22 : decode prog_9_method_32_code 22 = .ok (.iconst (0), 1) := by decide +kernel
theorem d_M_know_23 : decode prog_9_method_32_code 23 = .ok (.iastore, 1) := by decide +kernel
theorem d_M_know_24 : decode prog_9_method_32_code 24 = .ok (.aload_n 0, 1) := by decide +kernel
theorem d_M_know_25 : decode prog_9_method_32_code 25 = .ok (.getfield 48, 3) := by decide +kernel
theorem d_M_know_28 : decode prog_9_method_32_code 28 = .ok (.iload_n 1, 1) := by decide +kernel
theorem d_M_know_29 : decode prog_9_method_32_code 29 = .ok (.iconst (0), 1) := by decide +kernel
theorem d_M_know_30 : decode prog_9_method_32_code 30 = .ok (.iastore, 1) := by decide +kernel
theorem d_M_know_31 : decode prog_9_method_32_code 31 = .ok (.iinc 1 (1), 3) := by decide +kernel
theorem d_M_know_34 : decode prog_9_method_32_code 34 = .ok (.goto (-24), 3) := by decide +kernel
theorem d_M_know_37 : decode prog_9_method_32_code 37 = .ok (.iconst (0), 1) := by decide +kernel
theorem d_M_know_38 : decode prog_9_method_32_code 38 = .ok (.istore_n 1, 1) := by decide +kernel
theorem d_M_know_39 : decode prog_9_method_32_code 39 = .ok (.iload_n 1, 1) := by decide +kernel
theorem d_M_know_40 : decode prog_9_method_32_code 40 = .ok (.bipush (24), 2) := by decide +kernel
theorem d_M_know_42 : decode prog_9_method_32_code 42 = .ok (.if_icmp .ge (16), 3) := by decide +kernel
theorem d_M_know_45 : decode prog_9_method_32_code 45 = .ok (.aload_n 0, 1) := by decide +kernel
theorem d_M_know_46 : decode prog_9_method_32_code 46 = .ok (.getfield 41, 3) := by decide +kernel
theorem d_M_know_49 : decode prog_9_method_32_code 49 = .ok (.iload_n 1, 1) := by decide +kernel
theorem d_M_know_50 : decode prog_9_method_32_code 50 = .ok (.iconst (0), 1) := by decide +kernel
theorem d_M_know_51 : decode prog_9_method_32_code 51 = .ok (.bastore, 1) := by decide +kernel
theorem d_M_know_52 : decode prog_9_method_32_code 52 = .ok (.iinc 1 (1), 3) := by decide +kernel
theorem d_M_know_55 : decode prog_9_method_32_code 55 = .ok (.goto (-16), 3) := by decide +kernel
theorem d_M_know_58 : decode prog_9_method_32_code 58 = .ok (.aload_n 0, 1) := by decide +kernel
theorem d_M_know_59 : decode prog_9_method_32_code 59 = .ok (.getfield 41, 3) := by decide +kernel
theorem d_M_know_62 : decode prog_9_method_32_code 62 = .ok (.iconst (0), 1) := by decide +kernel
theorem d_M_know_63 : decode prog_9_method_32_code 63 = .ok (.iconst (1), 1) := by decide +kernel
theorem d_M_know_64 : decode prog_9_method_32_code 64 = .ok (.bastore, 1) := by decide +kernel
theorem d_M_know_65 : decode prog_9_method_32_code 65 = .ok (.iconst (0), 1) := by decide +kernel
theorem d_M_know_66 : decode prog_9_method_32_code 66 = .ok (.istore_n 1, 1) := by decide +kernel
theorem d_M_know_67 : decode prog_9_method_32_code 67 = .ok (.iload_n 1, 1) := by decide +kernel
theorem d_M_know_68 : decode prog_9_method_32_code 68 = .ok (.bipush (8), 2) := by decide +kernel
theorem d_M_know_70 : decode prog_9_method_32_code 70 = .ok (.if_icmp .ge (16), 3) := by decide +kernel
theorem d_M_know_73 : decode prog_9_method_32_code 73 = .ok (.aload_n 0, 1) := by decide +kernel
theorem d_M_know_74 : decode prog_9_method_32_code 74 = .ok (.getfield 45, 3) := by decide +kernel
theorem d_M_know_77 : decode prog_9_method_32_code 77 = .ok (.iload_n 1, 1) := by decide +kernel
theorem d_M_know_78 : decode prog_9_method_32_code 78 = .ok (.iconst (1), 1) := by decide +kernel
theorem d_M_know_79 : decode prog_9_method_32_code 79 = .ok (.iastore, 1) := by decide +kernel
theorem d_M_know_80 : decode prog_9_method_32_code 80 = .ok (.iinc 1 (1), 3) := by decide +kernel
theorem d_M_know_83 : decode prog_9_method_32_code 83 = .ok (.goto (-16), 3) := by decide +kernel
theorem d_M_know_86 : decode prog_9_method_32_code 86 = .ok (.iconst (1), 1) := by decide +kernel
theorem d_M_know_87 : decode prog_9_method_32_code 87 = .ok (.istore_n 1, 1) := by decide +kernel
theorem d_M_know_88 : decode prog_9_method_32_code 88 = .ok (.iload_n 1, 1) := by decide +kernel
theorem d_M_know_89 : decode prog_9_method_32_code 89 = .ok (.ifCond .eq (86), 3) := by decide +kernel
theorem d_M_know_92 : decode prog_9_method_32_code 92 = .ok (.iconst (0), 1) := by decide +kernel
theorem d_M_know_93 : decode prog_9_method_32_code 93 = .ok (.istore_n 1, 1) := by decide +kernel
theorem d_M_know_94 : decode prog_9_method_32_code 94 = .ok (.iconst (0), 1) := by decide +kernel
theorem d_M_know_95 : decode prog_9_method_32_code 95 = .ok (.istore_n 2, 1) := by decide +kernel
theorem d_M_know_96 : decode prog_9_method_32_code 96 = .ok (.iload_n 2, 1) := by decide +kernel
theorem d_M_know_97 : decode prog_9_method_32_code 97 = .ok (.aload_n 0, 1) := by decide +kernel
theorem d_M_know_98 : decode prog_9_method_32_code 98 = .ok (.getfield 17, 3) := by decide +kernel
theorem d_M_know_101 : decode prog_9_method_32_code 101 = .ok (.if_icmp .ge (71), 3) := by decide +kernel
theorem d_M_know_104 : decode prog_9_method_32_code 104 = .ok (.aload_n 0, 1) := by decide +kernel
theorem d_M_know_105 : decode prog_9_method_32_code 105 = .ok (.getfield 41, 3) := by decide +kernel
theorem d_M_know_108 : decode prog_9_method_32_code 108 = .ok (.iload_n 2, 1) := by decide +kernel
theorem d_M_know_109 : decode prog_9_method_32_code 109 = .ok (.baload, 1) := by decide +kernel
theorem d_M_know_110 : decode prog_9_method_32_code 110 = .ok (.ifCond .eq (56), 3) := by decide +kernel
theorem d_M_know_113 : decode prog_9_method_32_code 113 = .ok (.aload_n 0, 1) := by decide +kernel
theorem d_M_know_114 : decode prog_9_method_32_code 114 = .ok (.iload_n 2, 1) := by decide +kernel
theorem d_M_know_115 : decode prog_9_method_32_code 115 = .ok (.invokevirtual 182, 3) := by decide +kernel
theorem d_M_know_118 : decode prog_9_method_32_code 118 = .ok (.aload_n 0, 1) := by decide +kernel
theorem d_M_know_119 : decode prog_9_method_32_code 119 = .ok (.getfield 26, 3) := by decide +kernel
theorem d_M_know_122 : decode prog_9_method_32_code 122 = .ok (.iload_n 2, 1) := by decide +kernel
theorem d_M_know_123 : decode prog_9_method_32_code 123 = .ok (.iaload, 1) := by decide +kernel
theorem d_M_know_124 : decode prog_9_method_32_code 124 = .ok (.istore_n 3, 1) := by decide +kernel
theorem d_M_know_125 : decode prog_9_method_32_code 125 = .ok (.iload_n 3, 1) := by decide +kernel
theorem d_M_know_126 : decode prog_9_method_32_code 126 = .ok (.aload_n 0, 1) := by decide +kernel
theorem d_M_know_127 : decode prog_9_method_32_code 127 = .ok (.getfield 26, 3) := by decide +kernel
theorem d_M_know_130 : decode prog_9_method_32_code 130 = .ok (.iload_n 2, 1) := by decide +kernel
