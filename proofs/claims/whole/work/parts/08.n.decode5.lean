theorem d_M_decide_72 : decode b_M_decide 72 = .ok (.iconst 1, 1) := by decide +kernel
theorem d_M_decide_73 : decode b_M_decide 73 = .ok (.goto 4, 3) := by decide +kernel
theorem d_M_decide_76 : decode b_M_decide 76 = .ok (.iconst 0, 1) := by decide +kernel
theorem d_M_decide_77 : decode b_M_decide 77 = .ok (.putfield 198, 3) := by decide +kernel
theorem d_M_decide_80 : decode b_M_decide 80 = .ok (.aload_n 0, 1) := by decide +kernel
theorem d_M_decide_81 : decode b_M_decide 81 = .ok (.aload_n 0, 1) := by decide +kernel
theorem d_M_decide_82 : decode b_M_decide 82 = .ok (.iconst 2, 1) := by decide +kernel
theorem d_M_decide_83 : decode b_M_decide 83 = .ok (.invokevirtual 79, 3) := by decide +kernel
theorem d_M_decide_86 : decode b_M_decide 86 = .ok (.bipush 65, 2) := by decide +kernel
theorem d_M_decide_88 : decode b_M_decide 88 = .ok (.if_icmp .ne 7, 3) := by decide +kernel
theorem d_M_decide_91 : decode b_M_decide 91 = .ok (.iconst 1, 1) := by decide +kernel
theorem d_M_decide_92 : decode b_M_decide 92 = .ok (.goto 4, 3) := by decide +kernel
theorem d_M_decide_95 : decode b_M_decide 95 = .ok (.iconst 0, 1) := by decide +kernel
theorem d_M_decide_96 : decode b_M_decide 96 = .ok (.putfield 178, 3) := by decide +kernel
theorem d_M_decide_99 : decode b_M_decide 99 = .ok (.aload_n 0, 1) := by decide +kernel
theorem d_M_decide_100 : decode b_M_decide 100 = .ok (.invokevirtual 201, 3) := by decide +kernel
theorem d_M_decide_103 : decode b_M_decide 103 = .ok (.iconst 0, 1) := by decide +kernel
theorem d_M_decide_104 : decode b_M_decide 104 = .ok (.istore_n 2, 1) := by decide +kernel
theorem d_M_decide_105 : decode b_M_decide 105 = .ok (.iload_n 2, 1) := by decide +kernel
theorem d_M_decide_106 : decode b_M_decide 106 = .ok (.bipush 32, 2) := by decide +kernel
theorem d_M_decide_108 : decode b_M_decide 108 = .ok (.if_icmp .ge 38, 3) := by decide +kernel
theorem d_M_decide_111 : decode b_M_decide 111 = .ok (.aload_n 0, 1) := by decide +kernel
theorem d_M_decide_112 : decode b_M_decide 112 = .ok (.getfield 20, 3) := by decide +kernel
theorem d_M_decide_115 : decode b_M_decide 115 = .ok (.iload_n 2, 1) := by decide +kernel
theorem d_M_decide_116 : decode b_M_decide 116 = .ok (.iaload, 1) := by decide +kernel
theorem d_M_decide_117 : decode b_M_decide 117 = .ok (.bipush (-5), 2) := by decide +kernel
theorem d_M_decide_119 : decode b_M_decide 119 = .ok (.if_icmp .lt 13, 3) := by decide +kernel
theorem d_M_decide_122 : decode b_M_decide 122 = .ok (.aload_n 0, 1) := by decide +kernel
theorem d_M_decide_123 : decode b_M_decide 123 = .ok (.getfield 20, 3) := by decide +kernel
theorem d_M_decide_126 : decode b_M_decide 126 = .ok (.iload_n 2, 1) := by decide +kernel
theorem d_M_decide_127 : decode b_M_decide 127 = .ok (.iaload, 1) := by decide +kernel
theorem d_M_decide_128 : decode b_M_decide 128 = .ok (.iconst 5, 1) := by decide +kernel
theorem d_M_decide_129 : decode b_M_decide 129 = .ok (.if_icmp .le 11, 3) := by decide +kernel
theorem d_M_decide_132 : decode b_M_decide 132 = .ok (.aload_n 0, 1) := by decide +kernel
theorem d_M_decide_133 : decode b_M_decide 133 = .ok (.bipush (-2), 2) := by decide +kernel
theorem d_M_decide_135 : decode b_M_decide 135 = .ok (.iconst (-1), 1) := by decide +kernel
theorem d_M_decide_136 : decode b_M_decide 136 = .ok (.invokevirtual 188, 3) := by decide +kernel
theorem d_M_decide_139 : decode b_M_decide 139 = .ok (.ireturn, 1) := by decide +kernel
theorem d_M_decide_140 : decode b_M_decide 140 = .ok (.iinc 2 1, 3) := by decide +kernel
theorem d_M_decide_143 : decode b_M_decide 143 = .ok (.goto (-38), 3) := by decide +kernel
theorem d_M_decide_146 : decode b_M_decide 146 = .ok (.aload_n 0, 1) := by decide +kernel
theorem d_M_decide_147 : decode b_M_decide 147 = .ok (.iconst (-1), 1) := by decide +kernel
theorem d_M_decide_148 : decode b_M_decide 148 = .ok (.putfield 16, 3) := by decide +kernel
theorem d_M_decide_151 : decode b_M_decide 151 = .ok (.aload_n 0, 1) := by decide +kernel
theorem d_M_decide_152 : decode b_M_decide 152 = .ok (.invokevirtual 204, 3) := by decide +kernel
theorem d_M_decide_155 : decode b_M_decide 155 = .ok (.aload_n 0, 1) := by decide +kernel
theorem d_M_decide_156 : decode b_M_decide 156 = .ok (.iconst 2, 1) := by decide +kernel
theorem d_M_decide_157 : decode b_M_decide 157 = .ok (.aload_n 0, 1) := by decide +kernel
theorem d_M_decide_158 : decode b_M_decide 158 = .ok (.getfield 134, 3) := by decide +kernel
theorem d_M_decide_161 : decode b_M_decide 161 = .ok (.imul, 1) := by decide +kernel
theorem d_M_decide_162 : decode b_M_decide 162 = .ok (.iconst 1, 1) := by decide +kernel
theorem d_M_decide_163 : decode b_M_decide 163 = .ok (.iadd, 1) := by decide +kernel
theorem d_M_decide_164 : decode b_M_decide 164 = .ok (.putfield 182, 3) := by decide +kernel
theorem d_M_decide_167 : decode b_M_decide 167 = .ok (.iconst 1, 1) := by decide +kernel
theorem d_M_decide_168 : decode b_M_decide 168 = .ok (.istore_n 2, 1) := by decide +kernel
theorem d_M_decide_169 : decode b_M_decide 169 = .ok (.iconst 0, 1) := by decide +kernel
theorem d_M_decide_170 : decode b_M_decide 170 = .ok (.istore_n 3, 1) := by decide +kernel
theorem d_M_decide_171 : decode b_M_decide 171 = .ok (.iconst 0, 1) := by decide +kernel
theorem d_M_decide_172 : decode b_M_decide 172 = .ok (.istore 4, 2) := by decide +kernel
theorem d_M_decide_174 : decode b_M_decide 174 = .ok (.iload 4, 2) := by decide +kernel
theorem d_M_decide_176 : decode b_M_decide 176 = .ok (.aload_n 0, 1) := by decide +kernel
theorem d_M_decide_177 : decode b_M_decide 177 = .ok (.getfield 182, 3) := by decide +kernel
theorem d_M_decide_180 : decode b_M_decide 180 = .ok (.if_icmp .ge 47, 3) := by decide +kernel
theorem d_M_decide_183 : decode b_M_decide 183 = .ok (.aload_n 0, 1) := by decide +kernel
theorem d_M_decide_184 : decode b_M_decide 184 = .ok (.iload 4, 2) := by decide +kernel
theorem d_M_decide_186 : decode b_M_decide 186 = .ok (.invokevirtual 207, 3) := by decide +kernel
theorem d_M_decide_189 : decode b_M_decide 189 = .ok (.istore 5, 2) := by decide +kernel
theorem d_M_decide_191 : decode b_M_decide 191 = .ok (.iload_n 2, 1) := by decide +kernel
theorem d_M_decide_192 : decode b_M_decide 192 = .ok (.ifCond .eq 12, 3) := by decide +kernel
theorem d_M_decide_195 : decode b_M_decide 195 = .ok (.iload 5, 2) := by decide +kernel
theorem d_M_decide_197 : decode b_M_decide 197 = .ok (.ifCond .eq 7, 3) := by decide +kernel
theorem d_M_decide_200 : decode b_M_decide 200 = .ok (.iconst 1, 1) := by decide +kernel
theorem d_M_decide_201 : decode b_M_decide 201 = .ok (.goto 4, 3) := by decide +kernel
theorem d_M_decide_204 : decode b_M_decide 204 = .ok (.iconst 0, 1) := by decide +kernel
theorem d_M_decide_205 : decode b_M_decide 205 = .ok (.istore_n 2, 1) := by decide +kernel
theorem d_M_decide_206 : decode b_M_decide 206 = .ok (.iload_n 3, 1) := by decide +kernel
theorem d_M_decide_207 : decode b_M_decide 207 = .ok (.ifCond .ne 8, 3) := by decide +kernel
theorem d_M_decide_210 : decode b_M_decide 210 = .ok (.iload 5, 2) := by decide +kernel
theorem d_M_decide_212 : decode b_M_decide 212 = .ok (.ifCond .eq 7, 3) := by decide +kernel
theorem d_M_decide_215 : decode b_M_decide 215 = .ok (.iconst 1, 1) := by decide +kernel
theorem d_M_decide_216 : decode b_M_decide 216 = .ok (.goto 4, 3) := by decide +kernel
theorem d_M_decide_219 : decode b_M_decide 219 = .ok (.iconst 0, 1) := by decide +kernel
theorem d_M_decide_220 : decode b_M_decide 220 = .ok (.istore_n 3, 1) := by decide +kernel
theorem d_M_decide_221 : decode b_M_decide 221 = .ok (.iinc 4 1, 3) := by decide +kernel
theorem d_M_decide_224 : decode b_M_decide 224 = .ok (.goto (-50), 3) := by decide +kernel
theorem d_M_decide_227 : decode b_M_decide 227 = .ok (.aload_n 0, 1) := by decide +kernel
theorem d_M_decide_228 : decode b_M_decide 228 = .ok (.getfield 198, 3) := by decide +kernel
theorem d_M_decide_231 : decode b_M_decide 231 = .ok (.ifCond .eq 10, 3) := by decide +kernel
theorem d_M_decide_234 : decode b_M_decide 234 = .ok (.iload_n 2, 1) := by decide +kernel
theorem d_M_decide_235 : decode b_M_decide 235 = .ok (.ifCond .eq 14, 3) := by decide +kernel
theorem d_M_decide_238 : decode b_M_decide 238 = .ok (.goto 7, 3) := by decide +kernel
theorem d_M_decide_241 : decode b_M_decide 241 = .ok (.iload_n 3, 1) := by decide +kernel
theorem d_M_decide_242 : decode b_M_decide 242 = .ok (.ifCond .eq 7, 3) := by decide +kernel
theorem d_M_decide_245 : decode b_M_decide 245 = .ok (.iconst 1, 1) := by decide +kernel
theorem d_M_decide_246 : decode b_M_decide 246 = .ok (.goto 4, 3) := by decide +kernel
theorem d_M_decide_249 : decode b_M_decide 249 = .ok (.iconst 0, 1) := by decide +kernel
theorem d_M_decide_250 : decode b_M_decide 250 = .ok (.ireturn, 1) := by decide +kernel
theorem d_M_place_0 : decode b_M_place 0 = .ok (.aload_n 0, 1) := by decide +kernel
theorem d_M_place_1 : decode b_M_place 1 = .ok (.getfield 16, 3) := by decide +kernel
theorem d_M_place_4 : decode b_M_place 4 = .ok (.ireturn, 1) := by decide +kernel
theorem d_M_polynomials_0 : decode b_M_polynomials 0 = .ok (.aload_n 0, 1) := by decide +kernel
theorem d_M_polynomials_1 : decode b_M_polynomials 1 = .ok (.getfield 103, 3) := by decide +kernel
theorem d_M_polynomials_4 : decode b_M_polynomials 4 = .ok (.ireturn, 1) := by decide +kernel
theorem d_M_coefficient_0 : decode b_M_coefficient 0 = .ok (.iload_n 1, 1) := by decide +kernel
theorem d_M_coefficient_1 : decode b_M_coefficient 1 = .ok (.ifCond .lt 20, 3) := by decide +kernel
theorem d_M_coefficient_4 : decode b_M_coefficient 4 = .ok (.iload_n 1, 1) := by decide +kernel
theorem d_M_coefficient_5 : decode b_M_coefficient 5 = .ok (.aload_n 0, 1) := by decide +kernel
theorem d_M_coefficient_6 : decode b_M_coefficient 6 = .ok (.getfield 103, 3) := by decide +kernel
theorem d_M_coefficient_9 : decode b_M_coefficient 9 = .ok (.if_icmp .ge 12, 3) := by decide +kernel
theorem d_M_coefficient_12 : decode b_M_coefficient 12 = .ok (.iload_n 2, 1) := by decide +kernel
theorem d_M_coefficient_13 : decode b_M_coefficient 13 = .ok (.ifCond .lt 8, 3) := by decide +kernel
theorem d_M_coefficient_16 : decode b_M_coefficient 16 = .ok (.iload_n 2, 1) := by decide +kernel
theorem d_M_coefficient_17 : decode b_M_coefficient 17 = .ok (.iconst 3, 1) := by decide +kernel
theorem d_M_coefficient_18 : decode b_M_coefficient 18 = .ok (.if_icmp .le 8, 3) := by decide +kernel
theorem d_M_coefficient_21 : decode b_M_coefficient 21 = .ok (.bipush 9, 2) := by decide +kernel
theorem d_M_coefficient_23 : decode b_M_coefficient 23 = .ok (.goto 13, 3) := by decide +kernel
theorem d_M_coefficient_26 : decode b_M_coefficient 26 = .ok (.aload_n 0, 1) := by decide +kernel
theorem d_M_coefficient_27 : decode b_M_coefficient 27 = .ok (.getfield 20, 3) := by decide +kernel
theorem d_M_coefficient_30 : decode b_M_coefficient 30 = .ok (.iconst 4, 1) := by decide +kernel
theorem d_M_coefficient_31 : decode b_M_coefficient 31 = .ok (.iload_n 1, 1) := by decide +kernel
theorem d_M_coefficient_32 : decode b_M_coefficient 32 = .ok (.imul, 1) := by decide +kernel
theorem d_M_coefficient_33 : decode b_M_coefficient 33 = .ok (.iload_n 2, 1) := by decide +kernel
theorem d_M_coefficient_34 : decode b_M_coefficient 34 = .ok (.iadd, 1) := by decide +kernel
theorem d_M_coefficient_35 : decode b_M_coefficient 35 = .ok (.iaload, 1) := by decide +kernel
theorem d_M_coefficient_36 : decode b_M_coefficient 36 = .ok (.ireturn, 1) := by decide +kernel
theorem d_M_columns_0 : decode b_M_columns 0 = .ok (.aload_n 0, 1) := by decide +kernel
theorem d_M_columns_1 : decode b_M_columns 1 = .ok (.getfield 182, 3) := by decide +kernel
theorem d_M_columns_4 : decode b_M_columns 4 = .ok (.ireturn, 1) := by decide +kernel
theorem d_M_isColumn_0 : decode b_M_isColumn 0 = .ok (.iload_n 1, 1) := by decide +kernel
theorem d_M_isColumn_1 : decode b_M_isColumn 1 = .ok (.ifCond .lt 15, 3) := by decide +kernel
theorem d_M_isColumn_4 : decode b_M_isColumn 4 = .ok (.iload_n 1, 1) := by decide +kernel
theorem d_M_isColumn_5 : decode b_M_isColumn 5 = .ok (.aload_n 0, 1) := by decide +kernel
theorem d_M_isColumn_6 : decode b_M_isColumn 6 = .ok (.getfield 182, 3) := by decide +kernel
theorem d_M_isColumn_9 : decode b_M_isColumn 9 = .ok (.if_icmp .ge 7, 3) := by decide +kernel
theorem d_M_isColumn_12 : decode b_M_isColumn 12 = .ok (.iconst 1, 1) := by decide +kernel
theorem d_M_isColumn_13 : decode b_M_isColumn 13 = .ok (.goto 4, 3) := by decide +kernel
theorem d_M_isColumn_16 : decode b_M_isColumn 16 = .ok (.iconst 0, 1) := by decide +kernel
theorem d_M_isColumn_17 : decode b_M_isColumn 17 = .ok (.ireturn, 1) := by decide +kernel
theorem d_M_isCell_0 : decode b_M_isCell 0 = .ok (.aload_n 0, 1) := by decide +kernel
theorem d_M_isCell_1 : decode b_M_isCell 1 = .ok (.iload_n 1, 1) := by decide +kernel
theorem d_M_isCell_2 : decode b_M_isCell 2 = .ok (.invokevirtual 210, 3) := by decide +kernel
theorem d_M_isCell_5 : decode b_M_isCell 5 = .ok (.ifCond .ne 5, 3) := by decide +kernel
theorem d_M_isCell_8 : decode b_M_isCell 8 = .ok (.iconst 0, 1) := by decide +kernel
theorem d_M_isCell_9 : decode b_M_isCell 9 = .ok (.ireturn, 1) := by decide +kernel
theorem d_M_isCell_10 : decode b_M_isCell 10 = .ok (.aload_n 0, 1) := by decide +kernel
theorem d_M_isCell_11 : decode b_M_isCell 11 = .ok (.iload_n 1, 1) := by decide +kernel
theorem d_M_isCell_12 : decode b_M_isCell 12 = .ok (.invokevirtual 169, 3) := by decide +kernel
theorem d_M_isCell_15 : decode b_M_isCell 15 = .ok (.iload_n 2, 1) := by decide +kernel
theorem d_M_isCell_16 : decode b_M_isCell 16 = .ok (.ifCond .lt 17, 3) := by decide +kernel
theorem d_M_isCell_19 : decode b_M_isCell 19 = .ok (.iload_n 2, 1) := by decide +kernel
theorem d_M_isCell_20 : decode b_M_isCell 20 = .ok (.iconst 2, 1) := by decide +kernel
theorem d_M_isCell_21 : decode b_M_isCell 21 = .ok (.aload_n 0, 1) := by decide +kernel
theorem d_M_isCell_22 : decode b_M_isCell 22 = .ok (.getfield 160, 3) := by decide +kernel
theorem d_M_isCell_25 : decode b_M_isCell 25 = .ok (.imul, 1) := by decide +kernel
theorem d_M_isCell_26 : decode b_M_isCell 26 = .ok (.if_icmp .gt 7, 3) := by decide +kernel
theorem d_M_isCell_29 : decode b_M_isCell 29 = .ok (.iconst 1, 1) := by decide +kernel
theorem d_M_isCell_30 : decode b_M_isCell 30 = .ok (.goto 4, 3) := by decide +kernel
theorem d_M_isCell_33 : decode b_M_isCell 33 = .ok (.iconst 0, 1) := by decide +kernel
theorem d_M_isCell_34 : decode b_M_isCell 34 = .ok (.ireturn, 1) := by decide +kernel
theorem d_M_cells_0 : decode b_M_cells 0 = .ok (.aload_n 0, 1) := by decide +kernel
theorem d_M_cells_1 : decode b_M_cells 1 = .ok (.iload_n 1, 1) := by decide +kernel
theorem d_M_cells_2 : decode b_M_cells 2 = .ok (.invokevirtual 210, 3) := by decide +kernel
theorem d_M_cells_5 : decode b_M_cells 5 = .ok (.ifCond .ne 5, 3) := by decide +kernel
theorem d_M_cells_8 : decode b_M_cells 8 = .ok (.iconst 0, 1) := by decide +kernel
theorem d_M_cells_9 : decode b_M_cells 9 = .ok (.ireturn, 1) := by decide +kernel
theorem d_M_cells_10 : decode b_M_cells 10 = .ok (.aload_n 0, 1) := by decide +kernel
theorem d_M_cells_11 : decode b_M_cells 11 = .ok (.iload_n 1, 1) := by decide +kernel
theorem d_M_cells_12 : decode b_M_cells 12 = .ok (.invokevirtual 169, 3) := by decide +kernel
theorem d_M_cells_15 : decode b_M_cells 15 = .ok (.iconst 2, 1) := by decide +kernel
theorem d_M_cells_16 : decode b_M_cells 16 = .ok (.aload_n 0, 1) := by decide +kernel
theorem d_M_cells_17 : decode b_M_cells 17 = .ok (.getfield 160, 3) := by decide +kernel
theorem d_M_cells_20 : decode b_M_cells 20 = .ok (.imul, 1) := by decide +kernel
theorem d_M_cells_21 : decode b_M_cells 21 = .ok (.iconst 1, 1) := by decide +kernel
theorem d_M_cells_22 : decode b_M_cells 22 = .ok (.iadd, 1) := by decide +kernel
theorem d_M_cells_23 : decode b_M_cells 23 = .ok (.ireturn, 1) := by decide +kernel
theorem d_M_sign_0 : decode b_M_sign 0 = .ok (.iload_n 3, 1) := by decide +kernel
theorem d_M_sign_1 : decode b_M_sign 1 = .ok (.ifCond .lt 20, 3) := by decide +kernel
theorem d_M_sign_4 : decode b_M_sign 4 = .ok (.iload_n 3, 1) := by decide +kernel
theorem d_M_sign_5 : decode b_M_sign 5 = .ok (.aload_n 0, 1) := by decide +kernel
theorem d_M_sign_6 : decode b_M_sign 6 = .ok (.getfield 103, 3) := by decide +kernel
theorem d_M_sign_9 : decode b_M_sign 9 = .ok (.if_icmp .ge 12, 3) := by decide +kernel
theorem d_M_sign_12 : decode b_M_sign 12 = .ok (.aload_n 0, 1) := by decide +kernel
theorem d_M_sign_13 : decode b_M_sign 13 = .ok (.iload_n 1, 1) := by decide +kernel
theorem d_M_sign_14 : decode b_M_sign 14 = .ok (.iload_n 2, 1) := by decide +kernel
theorem d_M_sign_15 : decode b_M_sign 15 = .ok (.invokevirtual 213, 3) := by decide +kernel
theorem d_M_sign_18 : decode b_M_sign 18 = .ok (.ifCond .ne 8, 3) := by decide +kernel
theorem d_M_sign_21 : decode b_M_sign 21 = .ok (.bipush 9, 2) := by decide +kernel
theorem d_M_sign_23 : decode b_M_sign 23 = .ok (.goto 10, 3) := by decide +kernel
theorem d_M_sign_26 : decode b_M_sign 26 = .ok (.aload_n 0, 1) := by decide +kernel
theorem d_M_sign_27 : decode b_M_sign 27 = .ok (.iload_n 1, 1) := by decide +kernel
theorem d_M_sign_28 : decode b_M_sign 28 = .ok (.iload_n 2, 1) := by decide +kernel
theorem d_M_sign_29 : decode b_M_sign 29 = .ok (.iload_n 3, 1) := by decide +kernel
theorem d_M_sign_30 : decode b_M_sign 30 = .ok (.invokevirtual 172, 3) := by decide +kernel
theorem d_M_sign_33 : decode b_M_sign 33 = .ok (.ireturn, 1) := by decide +kernel
theorem d_M_truth_0 : decode b_M_truth 0 = .ok (.aload_n 0, 1) := by decide +kernel
theorem d_M_truth_1 : decode b_M_truth 1 = .ok (.iload_n 1, 1) := by decide +kernel
theorem d_M_truth_2 : decode b_M_truth 2 = .ok (.iload_n 2, 1) := by decide +kernel
theorem d_M_truth_3 : decode b_M_truth 3 = .ok (.invokevirtual 213, 3) := by decide +kernel
theorem d_M_truth_6 : decode b_M_truth 6 = .ok (.ifCond .ne 8, 3) := by decide +kernel
theorem d_M_truth_9 : decode b_M_truth 9 = .ok (.bipush 9, 2) := by decide +kernel
theorem d_M_truth_11 : decode b_M_truth 11 = .ok (.goto 17, 3) := by decide +kernel
theorem d_M_truth_14 : decode b_M_truth 14 = .ok (.aload_n 0, 1) := by decide +kernel
theorem d_M_truth_15 : decode b_M_truth 15 = .ok (.iload_n 1, 1) := by decide +kernel
theorem d_M_truth_16 : decode b_M_truth 16 = .ok (.iload_n 2, 1) := by decide +kernel
theorem d_M_truth_17 : decode b_M_truth 17 = .ok (.invokevirtual 175, 3) := by decide +kernel
theorem d_M_truth_20 : decode b_M_truth 20 = .ok (.ifCond .eq 7, 3) := by decide +kernel
theorem d_M_truth_23 : decode b_M_truth 23 = .ok (.iconst 1, 1) := by decide +kernel
theorem d_M_truth_24 : decode b_M_truth 24 = .ok (.goto 4, 3) := by decide +kernel
theorem d_M_truth_27 : decode b_M_truth 27 = .ok (.iconst 0, 1) := by decide +kernel
theorem d_M_truth_28 : decode b_M_truth 28 = .ok (.ireturn, 1) := by decide +kernel
theorem d_M_holds_0 : decode b_M_holds 0 = .ok (.aload_n 0, 1) := by decide +kernel
theorem d_M_holds_1 : decode b_M_holds 1 = .ok (.iload_n 1, 1) := by decide +kernel
theorem d_M_holds_2 : decode b_M_holds 2 = .ok (.invokevirtual 210, 3) := by decide +kernel
theorem d_M_holds_5 : decode b_M_holds 5 = .ok (.ifCond .ne 8, 3) := by decide +kernel
theorem d_M_holds_8 : decode b_M_holds 8 = .ok (.bipush 9, 2) := by decide +kernel
theorem d_M_holds_10 : decode b_M_holds 10 = .ok (.goto 16, 3) := by decide +kernel
theorem d_M_holds_13 : decode b_M_holds 13 = .ok (.aload_n 0, 1) := by decide +kernel
theorem d_M_holds_14 : decode b_M_holds 14 = .ok (.iload_n 1, 1) := by decide +kernel
theorem d_M_holds_15 : decode b_M_holds 15 = .ok (.invokevirtual 207, 3) := by decide +kernel
theorem d_M_holds_18 : decode b_M_holds 18 = .ok (.ifCond .eq 7, 3) := by decide +kernel
theorem d_M_holds_21 : decode b_M_holds 21 = .ok (.iconst 1, 1) := by decide +kernel
theorem d_M_holds_22 : decode b_M_holds 22 = .ok (.goto 4, 3) := by decide +kernel
theorem d_M_holds_25 : decode b_M_holds 25 = .ok (.iconst 0, 1) := by decide +kernel
theorem d_M_holds_26 : decode b_M_holds 26 = .ok (.ireturn, 1) := by decide +kernel
theorem d_M_witness_0 : decode b_M_witness 0 = .ok (.iconst 0, 1) := by decide +kernel
theorem d_M_witness_1 : decode b_M_witness 1 = .ok (.istore_n 1, 1) := by decide +kernel
theorem d_M_witness_2 : decode b_M_witness 2 = .ok (.iload_n 1, 1) := by decide +kernel
theorem d_M_witness_3 : decode b_M_witness 3 = .ok (.aload_n 0, 1) := by decide +kernel
theorem d_M_witness_4 : decode b_M_witness 4 = .ok (.getfield 182, 3) := by decide +kernel
theorem d_M_witness_7 : decode b_M_witness 7 = .ok (.if_icmp .ge 23, 3) := by decide +kernel
theorem d_M_witness_10 : decode b_M_witness 10 = .ok (.aload_n 0, 1) := by decide +kernel
theorem d_M_witness_11 : decode b_M_witness 11 = .ok (.iload_n 1, 1) := by decide +kernel
theorem d_M_witness_12 : decode b_M_witness 12 = .ok (.invokevirtual 207, 3) := by decide +kernel
theorem d_M_witness_15 : decode b_M_witness 15 = .ok (.aload_n 0, 1) := by decide +kernel
theorem d_M_witness_16 : decode b_M_witness 16 = .ok (.getfield 198, 3) := by decide +kernel
theorem d_M_witness_19 : decode b_M_witness 19 = .ok (.if_icmp .eq 5, 3) := by decide +kernel
theorem d_M_witness_22 : decode b_M_witness 22 = .ok (.iload_n 1, 1) := by decide +kernel
theorem d_M_witness_23 : decode b_M_witness 23 = .ok (.ireturn, 1) := by decide +kernel
theorem d_M_witness_24 : decode b_M_witness 24 = .ok (.iinc 1 1, 3) := by decide +kernel
theorem d_M_witness_27 : decode b_M_witness 27 = .ok (.goto (-25), 3) := by decide +kernel
theorem d_M_witness_30 : decode b_M_witness 30 = .ok (.iconst (-1), 1) := by decide +kernel
theorem d_M_witness_31 : decode b_M_witness 31 = .ok (.ireturn, 1) := by decide +kernel
theorem d_M_compare_0 : decode b_M_compare 0 = .ok (.aload_n 0, 1) := by decide +kernel
theorem d_M_compare_1 : decode b_M_compare 1 = .ok (.iload_n 1, 1) := by decide +kernel
theorem d_M_compare_2 : decode b_M_compare 2 = .ok (.invokevirtual 210, 3) := by decide +kernel
theorem d_M_compare_5 : decode b_M_compare 5 = .ok (.ifCond .eq 34, 3) := by decide +kernel
theorem d_M_compare_8 : decode b_M_compare 8 = .ok (.iload_n 1, 1) := by decide +kernel
theorem d_M_compare_9 : decode b_M_compare 9 = .ok (.iconst 2, 1) := by decide +kernel
theorem d_M_compare_10 : decode b_M_compare 10 = .ok (.irem, 1) := by decide +kernel
theorem d_M_compare_11 : decode b_M_compare 11 = .ok (.ifCond .eq 28, 3) := by decide +kernel
theorem d_M_compare_14 : decode b_M_compare 14 = .ok (.iload_n 2, 1) := by decide +kernel
theorem d_M_compare_15 : decode b_M_compare 15 = .ok (.sipush (-1000), 3) := by decide +kernel
theorem d_M_compare_18 : decode b_M_compare 18 = .ok (.if_icmp .lt 21, 3) := by decide +kernel
theorem d_M_compare_21 : decode b_M_compare 21 = .ok (.iload_n 2, 1) := by decide +kernel
theorem d_M_compare_22 : decode b_M_compare 22 = .ok (.sipush 1000, 3) := by decide +kernel
theorem d_M_compare_25 : decode b_M_compare 25 = .ok (.if_icmp .gt 14, 3) := by decide +kernel
theorem d_M_compare_28 : decode b_M_compare 28 = .ok (.iload_n 3, 1) := by decide +kernel
theorem d_M_compare_29 : decode b_M_compare 29 = .ok (.iconst 1, 1) := by decide +kernel
theorem d_M_compare_30 : decode b_M_compare 30 = .ok (.if_icmp .lt 9, 3) := by decide +kernel
theorem d_M_compare_33 : decode b_M_compare 33 = .ok (.iload_n 3, 1) := by decide +kernel
theorem d_M_compare_34 : decode b_M_compare 34 = .ok (.bipush 100, 2) := by decide +kernel
theorem d_M_compare_36 : decode b_M_compare 36 = .ok (.if_icmp .le 6, 3) := by decide +kernel
theorem d_M_compare_39 : decode b_M_compare 39 = .ok (.bipush 9, 2) := by decide +kernel
theorem d_M_compare_41 : decode b_M_compare 41 = .ok (.ireturn, 1) := by decide +kernel
theorem d_M_compare_42 : decode b_M_compare 42 = .ok (.aload_n 0, 1) := by decide +kernel
theorem d_M_compare_43 : decode b_M_compare 43 = .ok (.iload_n 1, 1) := by decide +kernel
theorem d_M_compare_44 : decode b_M_compare 44 = .ok (.iconst 2, 1) := by decide +kernel
theorem d_M_compare_45 : decode b_M_compare 45 = .ok (.idiv, 1) := by decide +kernel
theorem d_M_compare_46 : decode b_M_compare 46 = .ok (.lconst 0, 1) := by decide +kernel
theorem d_M_compare_47 : decode b_M_compare 47 = .ok (.iload_n 3, 1) := by decide +kernel
theorem d_M_compare_48 : decode b_M_compare 48 = .ok (.i2l, 1) := by decide +kernel
theorem d_M_compare_49 : decode b_M_compare 49 = .ok (.iload_n 2, 1) := by decide +kernel
theorem d_M_compare_50 : decode b_M_compare 50 = .ok (.ineg, 1) := by decide +kernel
theorem d_M_compare_51 : decode b_M_compare 51 = .ok (.i2l, 1) := by decide +kernel
theorem d_M_compare_52 : decode b_M_compare 52 = .ok (.invokevirtual 127, 3) := by decide +kernel
theorem d_M_compare_55 : decode b_M_compare 55 = .ok (.ireturn, 1) := by decide +kernel
