theorem d_M_compareY_11 : decode b_M_compareY 11 = .ok (.iload_n 3, 1) := by decide +kernel
theorem d_M_compareY_12 : decode b_M_compareY 12 = .ok (.iconst 1, 1) := by decide +kernel
theorem d_M_compareY_13 : decode b_M_compareY 13 = .ok (.invokevirtual 153, 3) := by decide +kernel
theorem d_M_compareY_16 : decode b_M_compareY 16 = .ok (.aload_n 0, 1) := by decide +kernel
theorem d_M_compareY_17 : decode b_M_compareY 17 = .ok (.iload_n 2, 1) := by decide +kernel
theorem d_M_compareY_18 : decode b_M_compareY 18 = .ok (.iload_n 3, 1) := by decide +kernel
theorem d_M_compareY_19 : decode b_M_compareY 19 = .ok (.iconst 0, 1) := by decide +kernel
theorem d_M_compareY_20 : decode b_M_compareY 20 = .ok (.invokevirtual 153, 3) := by decide +kernel
theorem d_M_compareY_23 : decode b_M_compareY 23 = .ok (.invokevirtual 157, 3) := by decide +kernel
theorem d_M_compareY_26 : decode b_M_compareY 26 = .ok (.aload_n 0, 1) := by decide +kernel
theorem d_M_compareY_27 : decode b_M_compareY 27 = .ok (.getfield 49, 3) := by decide +kernel
theorem d_M_compareY_30 : decode b_M_compareY 30 = .ok (.iload_n 2, 1) := by decide +kernel
theorem d_M_compareY_31 : decode b_M_compareY 31 = .ok (.iaload, 1) := by decide +kernel
theorem d_M_compareY_32 : decode b_M_compareY 32 = .ok (.imul, 1) := by decide +kernel
theorem d_M_compareY_33 : decode b_M_compareY 33 = .ok (.aload_n 0, 1) := by decide +kernel
theorem d_M_compareY_34 : decode b_M_compareY 34 = .ok (.getfield 49, 3) := by decide +kernel
theorem d_M_compareY_37 : decode b_M_compareY 37 = .ok (.iload_n 3, 1) := by decide +kernel
theorem d_M_compareY_38 : decode b_M_compareY 38 = .ok (.iaload, 1) := by decide +kernel
theorem d_M_compareY_39 : decode b_M_compareY 39 = .ok (.imul, 1) := by decide +kernel
theorem d_M_compareY_40 : decode b_M_compareY 40 = .ok (.ireturn, 1) := by decide +kernel
theorem d_M_isFirst_0 : decode b_M_isFirst 0 = .ok (.iconst 1, 1) := by decide +kernel
theorem d_M_isFirst_1 : decode b_M_isFirst 1 = .ok (.istore_n 3, 1) := by decide +kernel
theorem d_M_isFirst_2 : decode b_M_isFirst 2 = .ok (.iconst 0, 1) := by decide +kernel
theorem d_M_isFirst_3 : decode b_M_isFirst 3 = .ok (.istore 4, 2) := by decide +kernel
theorem d_M_isFirst_5 : decode b_M_isFirst 5 = .ok (.iload 4, 2) := by decide +kernel
theorem d_M_isFirst_7 : decode b_M_isFirst 7 = .ok (.iload_n 2, 1) := by decide +kernel
theorem d_M_isFirst_8 : decode b_M_isFirst 8 = .ok (.if_icmp .ge 32, 3) := by decide +kernel
theorem d_M_isFirst_11 : decode b_M_isFirst 11 = .ok (.aload_n 0, 1) := by decide +kernel
theorem d_M_isFirst_12 : decode b_M_isFirst 12 = .ok (.getfield 49, 3) := by decide +kernel
theorem d_M_isFirst_15 : decode b_M_isFirst 15 = .ok (.iload 4, 2) := by decide +kernel
theorem d_M_isFirst_17 : decode b_M_isFirst 17 = .ok (.iaload, 1) := by decide +kernel
theorem d_M_isFirst_18 : decode b_M_isFirst 18 = .ok (.ifCond .eq 16, 3) := by decide +kernel
theorem d_M_isFirst_21 : decode b_M_isFirst 21 = .ok (.aload_n 0, 1) := by decide +kernel
theorem d_M_isFirst_22 : decode b_M_isFirst 22 = .ok (.iload_n 1, 1) := by decide +kernel
theorem d_M_isFirst_23 : decode b_M_isFirst 23 = .ok (.iload 4, 2) := by decide +kernel
theorem d_M_isFirst_25 : decode b_M_isFirst 25 = .ok (.iload_n 2, 1) := by decide +kernel
theorem d_M_isFirst_26 : decode b_M_isFirst 26 = .ok (.invokevirtual 163, 3) := by decide +kernel
theorem d_M_isFirst_29 : decode b_M_isFirst 29 = .ok (.ifCond .ne 5, 3) := by decide +kernel
theorem d_M_isFirst_32 : decode b_M_isFirst 32 = .ok (.iconst 0, 1) := by decide +kernel
theorem d_M_isFirst_33 : decode b_M_isFirst 33 = .ok (.istore_n 3, 1) := by decide +kernel
theorem d_M_isFirst_34 : decode b_M_isFirst 34 = .ok (.iinc 4 1, 3) := by decide +kernel
theorem d_M_isFirst_37 : decode b_M_isFirst 37 = .ok (.goto (-32), 3) := by decide +kernel
theorem d_M_isFirst_40 : decode b_M_isFirst 40 = .ok (.iload_n 3, 1) := by decide +kernel
theorem d_M_isFirst_41 : decode b_M_isFirst 41 = .ok (.ireturn, 1) := by decide +kernel
theorem d_M_look_0 : decode b_M_look 0 = .ok (.aload_n 0, 1) := by decide +kernel
theorem d_M_look_1 : decode b_M_look 1 = .ok (.getfield 46, 3) := by decide +kernel
theorem d_M_look_4 : decode b_M_look 4 = .ok (.iload_n 1, 1) := by decide +kernel
theorem d_M_look_5 : decode b_M_look 5 = .ok (.if_icmp .ne 4, 3) := by decide +kernel
theorem d_M_look_8 : decode b_M_look 8 = .ok (.return_, 1) := by decide +kernel
theorem d_M_look_9 : decode b_M_look 9 = .ok (.aload_n 0, 1) := by decide +kernel
theorem d_M_look_10 : decode b_M_look 10 = .ok (.iload_n 1, 1) := by decide +kernel
theorem d_M_look_11 : decode b_M_look 11 = .ok (.putfield 46, 3) := by decide +kernel
theorem d_M_look_14 : decode b_M_look 14 = .ok (.iconst 0, 1) := by decide +kernel
theorem d_M_look_15 : decode b_M_look 15 = .ok (.istore_n 2, 1) := by decide +kernel
theorem d_M_look_16 : decode b_M_look 16 = .ok (.iload_n 2, 1) := by decide +kernel
theorem d_M_look_17 : decode b_M_look 17 = .ok (.aload_n 0, 1) := by decide +kernel
theorem d_M_look_18 : decode b_M_look 18 = .ok (.getfield 103, 3) := by decide +kernel
theorem d_M_look_21 : decode b_M_look 21 = .ok (.if_icmp .ge 43, 3) := by decide +kernel
theorem d_M_look_24 : decode b_M_look 24 = .ok (.aload_n 0, 1) := by decide +kernel
theorem d_M_look_25 : decode b_M_look 25 = .ok (.getfield 49, 3) := by decide +kernel
theorem d_M_look_28 : decode b_M_look 28 = .ok (.iload_n 2, 1) := by decide +kernel
theorem d_M_look_29 : decode b_M_look 29 = .ok (.aload_n 0, 1) := by decide +kernel
theorem d_M_look_30 : decode b_M_look 30 = .ok (.iload_n 1, 1) := by decide +kernel
theorem d_M_look_31 : decode b_M_look 31 = .ok (.lconst 0, 1) := by decide +kernel
theorem d_M_look_32 : decode b_M_look 32 = .ok (.aload_n 0, 1) := by decide +kernel
theorem d_M_look_33 : decode b_M_look 33 = .ok (.getfield 20, 3) := by decide +kernel
theorem d_M_look_36 : decode b_M_look 36 = .ok (.iconst 4, 1) := by decide +kernel
theorem d_M_look_37 : decode b_M_look 37 = .ok (.iload_n 2, 1) := by decide +kernel
theorem d_M_look_38 : decode b_M_look 38 = .ok (.imul, 1) := by decide +kernel
theorem d_M_look_39 : decode b_M_look 39 = .ok (.iconst 3, 1) := by decide +kernel
theorem d_M_look_40 : decode b_M_look 40 = .ok (.iadd, 1) := by decide +kernel
theorem d_M_look_41 : decode b_M_look 41 = .ok (.iaload, 1) := by decide +kernel
theorem d_M_look_42 : decode b_M_look 42 = .ok (.i2l, 1) := by decide +kernel
theorem d_M_look_43 : decode b_M_look 43 = .ok (.aload_n 0, 1) := by decide +kernel
theorem d_M_look_44 : decode b_M_look 44 = .ok (.getfield 20, 3) := by decide +kernel
theorem d_M_look_47 : decode b_M_look 47 = .ok (.iconst 4, 1) := by decide +kernel
theorem d_M_look_48 : decode b_M_look 48 = .ok (.iload_n 2, 1) := by decide +kernel
theorem d_M_look_49 : decode b_M_look 49 = .ok (.imul, 1) := by decide +kernel
theorem d_M_look_50 : decode b_M_look 50 = .ok (.iconst 2, 1) := by decide +kernel
theorem d_M_look_51 : decode b_M_look 51 = .ok (.iadd, 1) := by decide +kernel
theorem d_M_look_52 : decode b_M_look 52 = .ok (.iaload, 1) := by decide +kernel
theorem d_M_look_53 : decode b_M_look 53 = .ok (.i2l, 1) := by decide +kernel
theorem d_M_look_54 : decode b_M_look 54 = .ok (.invokevirtual 157, 3) := by decide +kernel
theorem d_M_look_57 : decode b_M_look 57 = .ok (.iastore, 1) := by decide +kernel
theorem d_M_look_58 : decode b_M_look 58 = .ok (.iinc 2 1, 3) := by decide +kernel
theorem d_M_look_61 : decode b_M_look 61 = .ok (.goto (-45), 3) := by decide +kernel
theorem d_M_look_64 : decode b_M_look 64 = .ok (.aload_n 0, 1) := by decide +kernel
theorem d_M_look_65 : decode b_M_look 65 = .ok (.iconst 0, 1) := by decide +kernel
theorem d_M_look_66 : decode b_M_look 66 = .ok (.putfield 160, 3) := by decide +kernel
theorem d_M_look_69 : decode b_M_look 69 = .ok (.iconst 0, 1) := by decide +kernel
theorem d_M_look_70 : decode b_M_look 70 = .ok (.istore_n 2, 1) := by decide +kernel
theorem d_M_look_71 : decode b_M_look 71 = .ok (.iload_n 2, 1) := by decide +kernel
theorem d_M_look_72 : decode b_M_look 72 = .ok (.aload_n 0, 1) := by decide +kernel
theorem d_M_look_73 : decode b_M_look 73 = .ok (.getfield 103, 3) := by decide +kernel
theorem d_M_look_76 : decode b_M_look 76 = .ok (.if_icmp .ge 142, 3) := by decide +kernel
theorem d_M_look_79 : decode b_M_look 79 = .ok (.aload_n 0, 1) := by decide +kernel
theorem d_M_look_80 : decode b_M_look 80 = .ok (.getfield 49, 3) := by decide +kernel
theorem d_M_look_83 : decode b_M_look 83 = .ok (.iload_n 2, 1) := by decide +kernel
theorem d_M_look_84 : decode b_M_look 84 = .ok (.iaload, 1) := by decide +kernel
theorem d_M_look_85 : decode b_M_look 85 = .ok (.ifCond .eq 7, 3) := by decide +kernel
theorem d_M_look_88 : decode b_M_look 88 = .ok (.iconst 1, 1) := by decide +kernel
theorem d_M_look_89 : decode b_M_look 89 = .ok (.goto 4, 3) := by decide +kernel
theorem d_M_look_92 : decode b_M_look 92 = .ok (.iconst 0, 1) := by decide +kernel
theorem d_M_look_93 : decode b_M_look 93 = .ok (.istore_n 3, 1) := by decide +kernel
theorem d_M_look_94 : decode b_M_look 94 = .ok (.aload_n 0, 1) := by decide +kernel
theorem d_M_look_95 : decode b_M_look 95 = .ok (.getfield 52, 3) := by decide +kernel
theorem d_M_look_98 : decode b_M_look 98 = .ok (.iload_n 2, 1) := by decide +kernel
theorem d_M_look_99 : decode b_M_look 99 = .ok (.iconst 0, 1) := by decide +kernel
theorem d_M_look_100 : decode b_M_look 100 = .ok (.iastore, 1) := by decide +kernel
theorem d_M_look_101 : decode b_M_look 101 = .ok (.iconst 0, 1) := by decide +kernel
theorem d_M_look_102 : decode b_M_look 102 = .ok (.istore 4, 2) := by decide +kernel
theorem d_M_look_104 : decode b_M_look 104 = .ok (.iload 4, 2) := by decide +kernel
theorem d_M_look_106 : decode b_M_look 106 = .ok (.aload_n 0, 1) := by decide +kernel
theorem d_M_look_107 : decode b_M_look 107 = .ok (.getfield 103, 3) := by decide +kernel
theorem d_M_look_110 : decode b_M_look 110 = .ok (.if_icmp .ge 81, 3) := by decide +kernel
theorem d_M_look_113 : decode b_M_look 113 = .ok (.aload_n 0, 1) := by decide +kernel
theorem d_M_look_114 : decode b_M_look 114 = .ok (.getfield 49, 3) := by decide +kernel
theorem d_M_look_117 : decode b_M_look 117 = .ok (.iload_n 2, 1) := by decide +kernel
theorem d_M_look_118 : decode b_M_look 118 = .ok (.iaload, 1) := by decide +kernel
theorem d_M_look_119 : decode b_M_look 119 = .ok (.ifCond .eq 66, 3) := by decide +kernel
theorem d_M_look_122 : decode b_M_look 122 = .ok (.aload_n 0, 1) := by decide +kernel
theorem d_M_look_123 : decode b_M_look 123 = .ok (.getfield 49, 3) := by decide +kernel
theorem d_M_look_126 : decode b_M_look 126 = .ok (.iload 4, 2) := by decide +kernel
theorem d_M_look_128 : decode b_M_look 128 = .ok (.iaload, 1) := by decide +kernel
theorem d_M_look_129 : decode b_M_look 129 = .ok (.ifCond .ne 6, 3) := by decide +kernel
theorem d_M_look_132 : decode b_M_look 132 = .ok (.goto 53, 3) := by decide +kernel
theorem d_M_look_135 : decode b_M_look 135 = .ok (.iload 4, 2) := by decide +kernel
theorem d_M_look_137 : decode b_M_look 137 = .ok (.iload_n 2, 1) := by decide +kernel
theorem d_M_look_138 : decode b_M_look 138 = .ok (.if_icmp .ge 16, 3) := by decide +kernel
theorem d_M_look_141 : decode b_M_look 141 = .ok (.aload_n 0, 1) := by decide +kernel
theorem d_M_look_142 : decode b_M_look 142 = .ok (.iload_n 1, 1) := by decide +kernel
theorem d_M_look_143 : decode b_M_look 143 = .ok (.iload_n 2, 1) := by decide +kernel
theorem d_M_look_144 : decode b_M_look 144 = .ok (.iload 4, 2) := by decide +kernel
theorem d_M_look_146 : decode b_M_look 146 = .ok (.invokevirtual 163, 3) := by decide +kernel
theorem d_M_look_149 : decode b_M_look 149 = .ok (.ifCond .ne 5, 3) := by decide +kernel
theorem d_M_look_152 : decode b_M_look 152 = .ok (.iconst 0, 1) := by decide +kernel
theorem d_M_look_153 : decode b_M_look 153 = .ok (.istore_n 3, 1) := by decide +kernel
theorem d_M_look_154 : decode b_M_look 154 = .ok (.aload_n 0, 1) := by decide +kernel
theorem d_M_look_155 : decode b_M_look 155 = .ok (.iload_n 1, 1) := by decide +kernel
theorem d_M_look_156 : decode b_M_look 156 = .ok (.iload_n 2, 1) := by decide +kernel
theorem d_M_look_157 : decode b_M_look 157 = .ok (.iload 4, 2) := by decide +kernel
theorem d_M_look_159 : decode b_M_look 159 = .ok (.invokevirtual 163, 3) := by decide +kernel
theorem d_M_look_162 : decode b_M_look 162 = .ok (.ifCond .le 23, 3) := by decide +kernel
theorem d_M_look_165 : decode b_M_look 165 = .ok (.aload_n 0, 1) := by decide +kernel
theorem d_M_look_166 : decode b_M_look 166 = .ok (.iload_n 1, 1) := by decide +kernel
theorem d_M_look_167 : decode b_M_look 167 = .ok (.iload 4, 2) := by decide +kernel
theorem d_M_look_169 : decode b_M_look 169 = .ok (.invokevirtual 166, 3) := by decide +kernel
theorem d_M_look_172 : decode b_M_look 172 = .ok (.ifCond .eq 13, 3) := by decide +kernel
theorem d_M_look_175 : decode b_M_look 175 = .ok (.aload_n 0, 1) := by decide +kernel
theorem d_M_look_176 : decode b_M_look 176 = .ok (.getfield 52, 3) := by decide +kernel
theorem d_M_look_179 : decode b_M_look 179 = .ok (.iload_n 2, 1) := by decide +kernel
theorem d_M_look_180 : decode b_M_look 180 = .ok (.dup2, 1) := by decide +kernel
theorem d_M_look_181 : decode b_M_look 181 = .ok (.iaload, 1) := by decide +kernel
theorem d_M_look_182 : decode b_M_look 182 = .ok (.iconst 1, 1) := by decide +kernel
theorem d_M_look_183 : decode b_M_look 183 = .ok (.iadd, 1) := by decide +kernel
theorem d_M_look_184 : decode b_M_look 184 = .ok (.iastore, 1) := by decide +kernel
theorem d_M_look_185 : decode b_M_look 185 = .ok (.iinc 4 1, 3) := by decide +kernel
theorem d_M_look_188 : decode b_M_look 188 = .ok (.goto (-84), 3) := by decide +kernel
theorem d_M_look_191 : decode b_M_look 191 = .ok (.aload_n 0, 1) := by decide +kernel
theorem d_M_look_192 : decode b_M_look 192 = .ok (.iload_n 3, 1) := by decide +kernel
theorem d_M_look_193 : decode b_M_look 193 = .ok (.ifCond .eq 12, 3) := by decide +kernel
theorem d_M_look_196 : decode b_M_look 196 = .ok (.aload_n 0, 1) := by decide +kernel
theorem d_M_look_197 : decode b_M_look 197 = .ok (.getfield 160, 3) := by decide +kernel
theorem d_M_look_200 : decode b_M_look 200 = .ok (.iconst 1, 1) := by decide +kernel
theorem d_M_look_201 : decode b_M_look 201 = .ok (.iadd, 1) := by decide +kernel
theorem d_M_look_202 : decode b_M_look 202 = .ok (.goto 7, 3) := by decide +kernel
theorem d_M_look_205 : decode b_M_look 205 = .ok (.aload_n 0, 1) := by decide +kernel
theorem d_M_look_206 : decode b_M_look 206 = .ok (.getfield 160, 3) := by decide +kernel
theorem d_M_look_209 : decode b_M_look 209 = .ok (.putfield 160, 3) := by decide +kernel
theorem d_M_look_212 : decode b_M_look 212 = .ok (.iinc 2 1, 3) := by decide +kernel
theorem d_M_look_215 : decode b_M_look 215 = .ok (.goto (-144), 3) := by decide +kernel
theorem d_M_look_218 : decode b_M_look 218 = .ok (.return_, 1) := by decide +kernel
theorem d_M_signOfCell_0 : decode b_M_signOfCell 0 = .ok (.aload_n 0, 1) := by decide +kernel
theorem d_M_signOfCell_1 : decode b_M_signOfCell 1 = .ok (.iload_n 1, 1) := by decide +kernel
theorem d_M_signOfCell_2 : decode b_M_signOfCell 2 = .ok (.invokevirtual 169, 3) := by decide +kernel
theorem d_M_signOfCell_5 : decode b_M_signOfCell 5 = .ok (.aload_n 0, 1) := by decide +kernel
theorem d_M_signOfCell_6 : decode b_M_signOfCell 6 = .ok (.getfield 49, 3) := by decide +kernel
theorem d_M_signOfCell_9 : decode b_M_signOfCell 9 = .ok (.iload_n 3, 1) := by decide +kernel
theorem d_M_signOfCell_10 : decode b_M_signOfCell 10 = .ok (.iaload, 1) := by decide +kernel
theorem d_M_signOfCell_11 : decode b_M_signOfCell 11 = .ok (.ifCond .ne 30, 3) := by decide +kernel
theorem d_M_signOfCell_14 : decode b_M_signOfCell 14 = .ok (.aload_n 0, 1) := by decide +kernel
theorem d_M_signOfCell_15 : decode b_M_signOfCell 15 = .ok (.iload_n 1, 1) := by decide +kernel
theorem d_M_signOfCell_16 : decode b_M_signOfCell 16 = .ok (.lconst 0, 1) := by decide +kernel
theorem d_M_signOfCell_17 : decode b_M_signOfCell 17 = .ok (.aload_n 0, 1) := by decide +kernel
theorem d_M_signOfCell_18 : decode b_M_signOfCell 18 = .ok (.getfield 20, 3) := by decide +kernel
theorem d_M_signOfCell_21 : decode b_M_signOfCell 21 = .ok (.iconst 4, 1) := by decide +kernel
theorem d_M_signOfCell_22 : decode b_M_signOfCell 22 = .ok (.iload_n 3, 1) := by decide +kernel
theorem d_M_signOfCell_23 : decode b_M_signOfCell 23 = .ok (.imul, 1) := by decide +kernel
theorem d_M_signOfCell_24 : decode b_M_signOfCell 24 = .ok (.iconst 1, 1) := by decide +kernel
theorem d_M_signOfCell_25 : decode b_M_signOfCell 25 = .ok (.iadd, 1) := by decide +kernel
theorem d_M_signOfCell_26 : decode b_M_signOfCell 26 = .ok (.iaload, 1) := by decide +kernel
theorem d_M_signOfCell_27 : decode b_M_signOfCell 27 = .ok (.i2l, 1) := by decide +kernel
theorem d_M_signOfCell_28 : decode b_M_signOfCell 28 = .ok (.aload_n 0, 1) := by decide +kernel
theorem d_M_signOfCell_29 : decode b_M_signOfCell 29 = .ok (.getfield 20, 3) := by decide +kernel
theorem d_M_signOfCell_32 : decode b_M_signOfCell 32 = .ok (.iconst 4, 1) := by decide +kernel
theorem d_M_signOfCell_33 : decode b_M_signOfCell 33 = .ok (.iload_n 3, 1) := by decide +kernel
theorem d_M_signOfCell_34 : decode b_M_signOfCell 34 = .ok (.imul, 1) := by decide +kernel
theorem d_M_signOfCell_35 : decode b_M_signOfCell 35 = .ok (.iaload, 1) := by decide +kernel
theorem d_M_signOfCell_36 : decode b_M_signOfCell 36 = .ok (.i2l, 1) := by decide +kernel
theorem d_M_signOfCell_37 : decode b_M_signOfCell 37 = .ok (.invokevirtual 157, 3) := by decide +kernel
theorem d_M_signOfCell_40 : decode b_M_signOfCell 40 = .ok (.ireturn, 1) := by decide +kernel
theorem d_M_signOfCell_41 : decode b_M_signOfCell 41 = .ok (.iconst 2, 1) := by decide +kernel
theorem d_M_signOfCell_42 : decode b_M_signOfCell 42 = .ok (.aload_n 0, 1) := by decide +kernel
theorem d_M_signOfCell_43 : decode b_M_signOfCell 43 = .ok (.getfield 52, 3) := by decide +kernel
theorem d_M_signOfCell_46 : decode b_M_signOfCell 46 = .ok (.iload_n 3, 1) := by decide +kernel
theorem d_M_signOfCell_47 : decode b_M_signOfCell 47 = .ok (.iaload, 1) := by decide +kernel
theorem d_M_signOfCell_48 : decode b_M_signOfCell 48 = .ok (.imul, 1) := by decide +kernel
theorem d_M_signOfCell_49 : decode b_M_signOfCell 49 = .ok (.iconst 1, 1) := by decide +kernel
theorem d_M_signOfCell_50 : decode b_M_signOfCell 50 = .ok (.iadd, 1) := by decide +kernel
theorem d_M_signOfCell_51 : decode b_M_signOfCell 51 = .ok (.istore 4, 2) := by decide +kernel
theorem d_M_signOfCell_53 : decode b_M_signOfCell 53 = .ok (.iload_n 2, 1) := by decide +kernel
theorem d_M_signOfCell_54 : decode b_M_signOfCell 54 = .ok (.iload 4, 2) := by decide +kernel
theorem d_M_signOfCell_56 : decode b_M_signOfCell 56 = .ok (.if_icmp .ne 7, 3) := by decide +kernel
theorem d_M_signOfCell_59 : decode b_M_signOfCell 59 = .ok (.iconst 0, 1) := by decide +kernel
theorem d_M_signOfCell_60 : decode b_M_signOfCell 60 = .ok (.goto 25, 3) := by decide +kernel
theorem d_M_signOfCell_63 : decode b_M_signOfCell 63 = .ok (.iload_n 2, 1) := by decide +kernel
theorem d_M_signOfCell_64 : decode b_M_signOfCell 64 = .ok (.iload 4, 2) := by decide +kernel
theorem d_M_signOfCell_66 : decode b_M_signOfCell 66 = .ok (.if_icmp .le 12, 3) := by decide +kernel
theorem d_M_signOfCell_69 : decode b_M_signOfCell 69 = .ok (.aload_n 0, 1) := by decide +kernel
theorem d_M_signOfCell_70 : decode b_M_signOfCell 70 = .ok (.getfield 49, 3) := by decide +kernel
theorem d_M_signOfCell_73 : decode b_M_signOfCell 73 = .ok (.iload_n 3, 1) := by decide +kernel
theorem d_M_signOfCell_74 : decode b_M_signOfCell 74 = .ok (.iaload, 1) := by decide +kernel
theorem d_M_signOfCell_75 : decode b_M_signOfCell 75 = .ok (.goto 10, 3) := by decide +kernel
theorem d_M_signOfCell_78 : decode b_M_signOfCell 78 = .ok (.aload_n 0, 1) := by decide +kernel
theorem d_M_signOfCell_79 : decode b_M_signOfCell 79 = .ok (.getfield 49, 3) := by decide +kernel
theorem d_M_signOfCell_82 : decode b_M_signOfCell 82 = .ok (.iload_n 3, 1) := by decide +kernel
theorem d_M_signOfCell_83 : decode b_M_signOfCell 83 = .ok (.iaload, 1) := by decide +kernel
theorem d_M_signOfCell_84 : decode b_M_signOfCell 84 = .ok (.ineg, 1) := by decide +kernel
theorem d_M_signOfCell_85 : decode b_M_signOfCell 85 = .ok (.ireturn, 1) := by decide +kernel
theorem d_M_formulaIn_0 : decode b_M_formulaIn 0 = .ok (.iconst 0, 1) := by decide +kernel
theorem d_M_formulaIn_1 : decode b_M_formulaIn 1 = .ok (.istore_n 3, 1) := by decide +kernel
theorem d_M_formulaIn_2 : decode b_M_formulaIn 2 = .ok (.iconst 0, 1) := by decide +kernel
theorem d_M_formulaIn_3 : decode b_M_formulaIn 3 = .ok (.istore 4, 2) := by decide +kernel
theorem d_M_formulaIn_5 : decode b_M_formulaIn 5 = .ok (.iload 4, 2) := by decide +kernel
theorem d_M_formulaIn_7 : decode b_M_formulaIn 7 = .ok (.aload_n 0, 1) := by decide +kernel
theorem d_M_formulaIn_8 : decode b_M_formulaIn 8 = .ok (.getfield 93, 3) := by decide +kernel
theorem d_M_formulaIn_11 : decode b_M_formulaIn 11 = .ok (.if_icmp .ge 212, 3) := by decide +kernel
theorem d_M_formulaIn_14 : decode b_M_formulaIn 14 = .ok (.aload_n 0, 1) := by decide +kernel
theorem d_M_formulaIn_15 : decode b_M_formulaIn 15 = .ok (.getfield 23, 3) := by decide +kernel
theorem d_M_formulaIn_18 : decode b_M_formulaIn 18 = .ok (.iload 4, 2) := by decide +kernel
theorem d_M_formulaIn_20 : decode b_M_formulaIn 20 = .ok (.iaload, 1) := by decide +kernel
theorem d_M_formulaIn_21 : decode b_M_formulaIn 21 = .ok (.istore 5, 2) := by decide +kernel
theorem d_M_formulaIn_23 : decode b_M_formulaIn 23 = .ok (.iload 5, 2) := by decide +kernel
theorem d_M_formulaIn_25 : decode b_M_formulaIn 25 = .ok (.bipush 12, 2) := by decide +kernel
theorem d_M_formulaIn_27 : decode b_M_formulaIn 27 = .ok (.if_icmp .ne 30, 3) := by decide +kernel
theorem d_M_formulaIn_30 : decode b_M_formulaIn 30 = .ok (.aload_n 0, 1) := by decide +kernel
theorem d_M_formulaIn_31 : decode b_M_formulaIn 31 = .ok (.getfield 29, 3) := by decide +kernel
theorem d_M_formulaIn_34 : decode b_M_formulaIn 34 = .ok (.iload_n 3, 1) := by decide +kernel
theorem d_M_formulaIn_35 : decode b_M_formulaIn 35 = .ok (.iconst 1, 1) := by decide +kernel
theorem d_M_formulaIn_36 : decode b_M_formulaIn 36 = .ok (.isub, 1) := by decide +kernel
theorem d_M_formulaIn_37 : decode b_M_formulaIn 37 = .ok (.aload_n 0, 1) := by decide +kernel
theorem d_M_formulaIn_38 : decode b_M_formulaIn 38 = .ok (.getfield 29, 3) := by decide +kernel
theorem d_M_formulaIn_41 : decode b_M_formulaIn 41 = .ok (.iload_n 3, 1) := by decide +kernel
theorem d_M_formulaIn_42 : decode b_M_formulaIn 42 = .ok (.iconst 1, 1) := by decide +kernel
theorem d_M_formulaIn_43 : decode b_M_formulaIn 43 = .ok (.isub, 1) := by decide +kernel
theorem d_M_formulaIn_44 : decode b_M_formulaIn 44 = .ok (.baload, 1) := by decide +kernel
theorem d_M_formulaIn_45 : decode b_M_formulaIn 45 = .ok (.ifCond .ne 7, 3) := by decide +kernel
theorem d_M_formulaIn_48 : decode b_M_formulaIn 48 = .ok (.iconst 1, 1) := by decide +kernel
theorem d_M_formulaIn_49 : decode b_M_formulaIn 49 = .ok (.goto 4, 3) := by decide +kernel
theorem d_M_formulaIn_52 : decode b_M_formulaIn 52 = .ok (.iconst 0, 1) := by decide +kernel
theorem d_M_formulaIn_53 : decode b_M_formulaIn 53 = .ok (.bastore, 1) := by decide +kernel
theorem d_M_formulaIn_54 : decode b_M_formulaIn 54 = .ok (.goto 163, 3) := by decide +kernel
theorem d_M_formulaIn_57 : decode b_M_formulaIn 57 = .ok (.iload 5, 2) := by decide +kernel
theorem d_M_formulaIn_59 : decode b_M_formulaIn 59 = .ok (.bipush 10, 2) := by decide +kernel
theorem d_M_formulaIn_61 : decode b_M_formulaIn 61 = .ok (.if_icmp .lt 77, 3) := by decide +kernel
theorem d_M_formulaIn_64 : decode b_M_formulaIn 64 = .ok (.iinc 3 (-1), 3) := by decide +kernel
theorem d_M_formulaIn_67 : decode b_M_formulaIn 67 = .ok (.aload_n 0, 1) := by decide +kernel
theorem d_M_formulaIn_68 : decode b_M_formulaIn 68 = .ok (.getfield 29, 3) := by decide +kernel
theorem d_M_formulaIn_71 : decode b_M_formulaIn 71 = .ok (.iload_n 3, 1) := by decide +kernel
theorem d_M_formulaIn_72 : decode b_M_formulaIn 72 = .ok (.iconst 1, 1) := by decide +kernel
theorem d_M_formulaIn_73 : decode b_M_formulaIn 73 = .ok (.isub, 1) := by decide +kernel
theorem d_M_formulaIn_74 : decode b_M_formulaIn 74 = .ok (.iload 5, 2) := by decide +kernel
theorem d_M_formulaIn_76 : decode b_M_formulaIn 76 = .ok (.bipush 10, 2) := by decide +kernel
theorem d_M_formulaIn_78 : decode b_M_formulaIn 78 = .ok (.if_icmp .ne 31, 3) := by decide +kernel
theorem d_M_formulaIn_81 : decode b_M_formulaIn 81 = .ok (.aload_n 0, 1) := by decide +kernel
theorem d_M_formulaIn_82 : decode b_M_formulaIn 82 = .ok (.getfield 29, 3) := by decide +kernel
theorem d_M_formulaIn_85 : decode b_M_formulaIn 85 = .ok (.iload_n 3, 1) := by decide +kernel
theorem d_M_formulaIn_86 : decode b_M_formulaIn 86 = .ok (.iconst 1, 1) := by decide +kernel
theorem d_M_formulaIn_87 : decode b_M_formulaIn 87 = .ok (.isub, 1) := by decide +kernel
theorem d_M_formulaIn_88 : decode b_M_formulaIn 88 = .ok (.baload, 1) := by decide +kernel
theorem d_M_formulaIn_89 : decode b_M_formulaIn 89 = .ok (.ifCond .eq 16, 3) := by decide +kernel
theorem d_M_formulaIn_92 : decode b_M_formulaIn 92 = .ok (.aload_n 0, 1) := by decide +kernel
theorem d_M_formulaIn_93 : decode b_M_formulaIn 93 = .ok (.getfield 29, 3) := by decide +kernel
theorem d_M_formulaIn_96 : decode b_M_formulaIn 96 = .ok (.iload_n 3, 1) := by decide +kernel
theorem d_M_formulaIn_97 : decode b_M_formulaIn 97 = .ok (.baload, 1) := by decide +kernel
theorem d_M_formulaIn_98 : decode b_M_formulaIn 98 = .ok (.ifCond .eq 7, 3) := by decide +kernel
theorem d_M_formulaIn_101 : decode b_M_formulaIn 101 = .ok (.iconst 1, 1) := by decide +kernel
theorem d_M_formulaIn_102 : decode b_M_formulaIn 102 = .ok (.goto 32, 3) := by decide +kernel
theorem d_M_formulaIn_105 : decode b_M_formulaIn 105 = .ok (.iconst 0, 1) := by decide +kernel
theorem d_M_formulaIn_106 : decode b_M_formulaIn 106 = .ok (.goto 28, 3) := by decide +kernel
theorem d_M_formulaIn_109 : decode b_M_formulaIn 109 = .ok (.aload_n 0, 1) := by decide +kernel
theorem d_M_formulaIn_110 : decode b_M_formulaIn 110 = .ok (.getfield 29, 3) := by decide +kernel
theorem d_M_formulaIn_113 : decode b_M_formulaIn 113 = .ok (.iload_n 3, 1) := by decide +kernel
theorem d_M_formulaIn_114 : decode b_M_formulaIn 114 = .ok (.iconst 1, 1) := by decide +kernel
theorem d_M_formulaIn_115 : decode b_M_formulaIn 115 = .ok (.isub, 1) := by decide +kernel
theorem d_M_formulaIn_116 : decode b_M_formulaIn 116 = .ok (.baload, 1) := by decide +kernel
theorem d_M_formulaIn_117 : decode b_M_formulaIn 117 = .ok (.ifCond .ne 12, 3) := by decide +kernel
theorem d_M_formulaIn_120 : decode b_M_formulaIn 120 = .ok (.aload_n 0, 1) := by decide +kernel
theorem d_M_formulaIn_121 : decode b_M_formulaIn 121 = .ok (.getfield 29, 3) := by decide +kernel
theorem d_M_formulaIn_124 : decode b_M_formulaIn 124 = .ok (.iload_n 3, 1) := by decide +kernel
theorem d_M_formulaIn_125 : decode b_M_formulaIn 125 = .ok (.baload, 1) := by decide +kernel
theorem d_M_formulaIn_126 : decode b_M_formulaIn 126 = .ok (.ifCond .eq 7, 3) := by decide +kernel
theorem d_M_formulaIn_129 : decode b_M_formulaIn 129 = .ok (.iconst 1, 1) := by decide +kernel
theorem d_M_formulaIn_130 : decode b_M_formulaIn 130 = .ok (.goto 4, 3) := by decide +kernel
theorem d_M_formulaIn_133 : decode b_M_formulaIn 133 = .ok (.iconst 0, 1) := by decide +kernel
theorem d_M_formulaIn_134 : decode b_M_formulaIn 134 = .ok (.bastore, 1) := by decide +kernel
theorem d_M_formulaIn_135 : decode b_M_formulaIn 135 = .ok (.goto 82, 3) := by decide +kernel
theorem d_M_formulaIn_138 : decode b_M_formulaIn 138 = .ok (.aload_n 0, 1) := by decide +kernel
theorem d_M_formulaIn_139 : decode b_M_formulaIn 139 = .ok (.iload_n 1, 1) := by decide +kernel
theorem d_M_formulaIn_140 : decode b_M_formulaIn 140 = .ok (.iload_n 2, 1) := by decide +kernel
theorem d_M_formulaIn_141 : decode b_M_formulaIn 141 = .ok (.iload 5, 2) := by decide +kernel
theorem d_M_formulaIn_143 : decode b_M_formulaIn 143 = .ok (.invokevirtual 172, 3) := by decide +kernel
theorem d_M_formulaIn_146 : decode b_M_formulaIn 146 = .ok (.istore 6, 2) := by decide +kernel
theorem d_M_formulaIn_148 : decode b_M_formulaIn 148 = .ok (.aload_n 0, 1) := by decide +kernel
theorem d_M_formulaIn_149 : decode b_M_formulaIn 149 = .ok (.getfield 29, 3) := by decide +kernel
theorem d_M_formulaIn_152 : decode b_M_formulaIn 152 = .ok (.iload_n 3, 1) := by decide +kernel
theorem d_M_formulaIn_153 : decode b_M_formulaIn 153 = .ok (.aload_n 0, 1) := by decide +kernel
theorem d_M_formulaIn_154 : decode b_M_formulaIn 154 = .ok (.getfield 55, 3) := by decide +kernel
theorem d_M_formulaIn_157 : decode b_M_formulaIn 157 = .ok (.iload 5, 2) := by decide +kernel
theorem d_M_formulaIn_159 : decode b_M_formulaIn 159 = .ok (.iaload, 1) := by decide +kernel
theorem d_M_formulaIn_160 : decode b_M_formulaIn 160 = .ok (.bipush 60, 2) := by decide +kernel
theorem d_M_formulaIn_162 : decode b_M_formulaIn 162 = .ok (.if_icmp .ne 16, 3) := by decide +kernel
theorem d_M_formulaIn_165 : decode b_M_formulaIn 165 = .ok (.iload 6, 2) := by decide +kernel
theorem d_M_formulaIn_167 : decode b_M_formulaIn 167 = .ok (.ifCond .ge 7, 3) := by decide +kernel
theorem d_M_formulaIn_170 : decode b_M_formulaIn 170 = .ok (.iconst 1, 1) := by decide +kernel
theorem d_M_formulaIn_171 : decode b_M_formulaIn 171 = .ok (.goto 42, 3) := by decide +kernel
theorem d_M_formulaIn_174 : decode b_M_formulaIn 174 = .ok (.iconst 0, 1) := by decide +kernel
theorem d_M_formulaIn_175 : decode b_M_formulaIn 175 = .ok (.goto 38, 3) := by decide +kernel
theorem d_M_formulaIn_178 : decode b_M_formulaIn 178 = .ok (.aload_n 0, 1) := by decide +kernel
theorem d_M_formulaIn_179 : decode b_M_formulaIn 179 = .ok (.getfield 55, 3) := by decide +kernel
theorem d_M_formulaIn_182 : decode b_M_formulaIn 182 = .ok (.iload 5, 2) := by decide +kernel
theorem d_M_formulaIn_184 : decode b_M_formulaIn 184 = .ok (.iaload, 1) := by decide +kernel
theorem d_M_formulaIn_185 : decode b_M_formulaIn 185 = .ok (.bipush 61, 2) := by decide +kernel
theorem d_M_formulaIn_187 : decode b_M_formulaIn 187 = .ok (.if_icmp .ne 16, 3) := by decide +kernel
theorem d_M_formulaIn_190 : decode b_M_formulaIn 190 = .ok (.iload 6, 2) := by decide +kernel
theorem d_M_formulaIn_192 : decode b_M_formulaIn 192 = .ok (.ifCond .ne 7, 3) := by decide +kernel
theorem d_M_formulaIn_195 : decode b_M_formulaIn 195 = .ok (.iconst 1, 1) := by decide +kernel
theorem d_M_formulaIn_196 : decode b_M_formulaIn 196 = .ok (.goto 17, 3) := by decide +kernel
theorem d_M_formulaIn_199 : decode b_M_formulaIn 199 = .ok (.iconst 0, 1) := by decide +kernel
theorem d_M_formulaIn_200 : decode b_M_formulaIn 200 = .ok (.goto 13, 3) := by decide +kernel
theorem d_M_formulaIn_203 : decode b_M_formulaIn 203 = .ok (.iload 6, 2) := by decide +kernel
theorem d_M_formulaIn_205 : decode b_M_formulaIn 205 = .ok (.ifCond .le 7, 3) := by decide +kernel
theorem d_M_formulaIn_208 : decode b_M_formulaIn 208 = .ok (.iconst 1, 1) := by decide +kernel
theorem d_M_formulaIn_209 : decode b_M_formulaIn 209 = .ok (.goto 4, 3) := by decide +kernel
theorem d_M_formulaIn_212 : decode b_M_formulaIn 212 = .ok (.iconst 0, 1) := by decide +kernel
theorem d_M_formulaIn_213 : decode b_M_formulaIn 213 = .ok (.bastore, 1) := by decide +kernel
theorem d_M_formulaIn_214 : decode b_M_formulaIn 214 = .ok (.iinc 3 1, 3) := by decide +kernel
theorem d_M_formulaIn_217 : decode b_M_formulaIn 217 = .ok (.iinc 4 1, 3) := by decide +kernel
theorem d_M_formulaIn_220 : decode b_M_formulaIn 220 = .ok (.goto (-215), 3) := by decide +kernel
theorem d_M_formulaIn_223 : decode b_M_formulaIn 223 = .ok (.aload_n 0, 1) := by decide +kernel
theorem d_M_formulaIn_224 : decode b_M_formulaIn 224 = .ok (.getfield 29, 3) := by decide +kernel
theorem d_M_formulaIn_227 : decode b_M_formulaIn 227 = .ok (.iconst 0, 1) := by decide +kernel
theorem d_M_formulaIn_228 : decode b_M_formulaIn 228 = .ok (.baload, 1) := by decide +kernel
theorem d_M_formulaIn_229 : decode b_M_formulaIn 229 = .ok (.ireturn, 1) := by decide +kernel
theorem d_M_columnHolds_0 : decode b_M_columnHolds 0 = .ok (.aload_n 0, 1) := by decide +kernel
theorem d_M_columnHolds_1 : decode b_M_columnHolds 1 = .ok (.iload_n 1, 1) := by decide +kernel
theorem d_M_columnHolds_2 : decode b_M_columnHolds 2 = .ok (.invokevirtual 169, 3) := by decide +kernel
theorem d_M_columnHolds_5 : decode b_M_columnHolds 5 = .ok (.iconst 1, 1) := by decide +kernel
theorem d_M_columnHolds_6 : decode b_M_columnHolds 6 = .ok (.istore_n 2, 1) := by decide +kernel
theorem d_M_columnHolds_7 : decode b_M_columnHolds 7 = .ok (.iconst 0, 1) := by decide +kernel
theorem d_M_columnHolds_8 : decode b_M_columnHolds 8 = .ok (.istore_n 3, 1) := by decide +kernel
theorem d_M_columnHolds_9 : decode b_M_columnHolds 9 = .ok (.iconst 0, 1) := by decide +kernel
theorem d_M_columnHolds_10 : decode b_M_columnHolds 10 = .ok (.istore 4, 2) := by decide +kernel
theorem d_M_columnHolds_12 : decode b_M_columnHolds 12 = .ok (.iload 4, 2) := by decide +kernel
theorem d_M_columnHolds_14 : decode b_M_columnHolds 14 = .ok (.iconst 2, 1) := by decide +kernel
theorem d_M_columnHolds_15 : decode b_M_columnHolds 15 = .ok (.aload_n 0, 1) := by decide +kernel
theorem d_M_columnHolds_16 : decode b_M_columnHolds 16 = .ok (.getfield 160, 3) := by decide +kernel
theorem d_M_columnHolds_19 : decode b_M_columnHolds 19 = .ok (.imul, 1) := by decide +kernel
theorem d_M_columnHolds_20 : decode b_M_columnHolds 20 = .ok (.if_icmp .gt 48, 3) := by decide +kernel
theorem d_M_columnHolds_23 : decode b_M_columnHolds 23 = .ok (.aload_n 0, 1) := by decide +kernel
theorem d_M_columnHolds_24 : decode b_M_columnHolds 24 = .ok (.iload_n 1, 1) := by decide +kernel
theorem d_M_columnHolds_25 : decode b_M_columnHolds 25 = .ok (.iload 4, 2) := by decide +kernel
theorem d_M_columnHolds_27 : decode b_M_columnHolds 27 = .ok (.invokevirtual 175, 3) := by decide +kernel
theorem d_M_columnHolds_30 : decode b_M_columnHolds 30 = .ok (.istore 5, 2) := by decide +kernel
theorem d_M_columnHolds_32 : decode b_M_columnHolds 32 = .ok (.iload_n 2, 1) := by decide +kernel
theorem d_M_columnHolds_33 : decode b_M_columnHolds 33 = .ok (.ifCond .eq 12, 3) := by decide +kernel
theorem d_M_columnHolds_36 : decode b_M_columnHolds 36 = .ok (.iload 5, 2) := by decide +kernel
theorem d_M_columnHolds_38 : decode b_M_columnHolds 38 = .ok (.ifCond .eq 7, 3) := by decide +kernel
theorem d_M_columnHolds_41 : decode b_M_columnHolds 41 = .ok (.iconst 1, 1) := by decide +kernel
theorem d_M_columnHolds_42 : decode b_M_columnHolds 42 = .ok (.goto 4, 3) := by decide +kernel
theorem d_M_columnHolds_45 : decode b_M_columnHolds 45 = .ok (.iconst 0, 1) := by decide +kernel
theorem d_M_columnHolds_46 : decode b_M_columnHolds 46 = .ok (.istore_n 2, 1) := by decide +kernel
theorem d_M_columnHolds_47 : decode b_M_columnHolds 47 = .ok (.iload_n 3, 1) := by decide +kernel
theorem d_M_columnHolds_48 : decode b_M_columnHolds 48 = .ok (.ifCond .ne 8, 3) := by decide +kernel
theorem d_M_columnHolds_51 : decode b_M_columnHolds 51 = .ok (.iload 5, 2) := by decide +kernel
theorem d_M_columnHolds_53 : decode b_M_columnHolds 53 = .ok (.ifCond .eq 7, 3) := by decide +kernel
theorem d_M_columnHolds_56 : decode b_M_columnHolds 56 = .ok (.iconst 1, 1) := by decide +kernel
theorem d_M_columnHolds_57 : decode b_M_columnHolds 57 = .ok (.goto 4, 3) := by decide +kernel
theorem d_M_columnHolds_60 : decode b_M_columnHolds 60 = .ok (.iconst 0, 1) := by decide +kernel
theorem d_M_columnHolds_61 : decode b_M_columnHolds 61 = .ok (.istore_n 3, 1) := by decide +kernel
theorem d_M_columnHolds_62 : decode b_M_columnHolds 62 = .ok (.iinc 4 1, 3) := by decide +kernel
theorem d_M_columnHolds_65 : decode b_M_columnHolds 65 = .ok (.goto (-53), 3) := by decide +kernel
theorem d_M_columnHolds_68 : decode b_M_columnHolds 68 = .ok (.aload_n 0, 1) := by decide +kernel
theorem d_M_columnHolds_69 : decode b_M_columnHolds 69 = .ok (.getfield 178, 3) := by decide +kernel
theorem d_M_columnHolds_72 : decode b_M_columnHolds 72 = .ok (.ifCond .eq 7, 3) := by decide +kernel
theorem d_M_columnHolds_75 : decode b_M_columnHolds 75 = .ok (.iload_n 2, 1) := by decide +kernel
theorem d_M_columnHolds_76 : decode b_M_columnHolds 76 = .ok (.goto 4, 3) := by decide +kernel
theorem d_M_columnHolds_79 : decode b_M_columnHolds 79 = .ok (.iload_n 3, 1) := by decide +kernel
theorem d_M_columnHolds_80 : decode b_M_columnHolds 80 = .ok (.ireturn, 1) := by decide +kernel
theorem d_M_wrong_0 : decode b_M_wrong 0 = .ok (.aload_n 0, 1) := by decide +kernel
theorem d_M_wrong_1 : decode b_M_wrong 1 = .ok (.iconst 0, 1) := by decide +kernel
theorem d_M_wrong_2 : decode b_M_wrong 2 = .ok (.putfield 103, 3) := by decide +kernel
theorem d_M_wrong_5 : decode b_M_wrong 5 = .ok (.aload_n 0, 1) := by decide +kernel
theorem d_M_wrong_6 : decode b_M_wrong 6 = .ok (.iconst 0, 1) := by decide +kernel
theorem d_M_wrong_7 : decode b_M_wrong 7 = .ok (.putfield 182, 3) := by decide +kernel
theorem d_M_wrong_10 : decode b_M_wrong 10 = .ok (.aload_n 0, 1) := by decide +kernel
theorem d_M_wrong_11 : decode b_M_wrong 11 = .ok (.iload_n 2, 1) := by decide +kernel
theorem d_M_wrong_12 : decode b_M_wrong 12 = .ok (.putfield 16, 3) := by decide +kernel
theorem d_M_wrong_15 : decode b_M_wrong 15 = .ok (.iload_n 1, 1) := by decide +kernel
theorem d_M_wrong_16 : decode b_M_wrong 16 = .ok (.ireturn, 1) := by decide +kernel
theorem d_M_decide_0 : decode b_M_decide 0 = .ok (.aload_n 0, 1) := by decide +kernel
theorem d_M_decide_1 : decode b_M_decide 1 = .ok (.invokevirtual 185, 3) := by decide +kernel
theorem d_M_decide_4 : decode b_M_decide 4 = .ok (.aload_n 0, 1) := by decide +kernel
theorem d_M_decide_5 : decode b_M_decide 5 = .ok (.iconst (-1), 1) := by decide +kernel
theorem d_M_decide_6 : decode b_M_decide 6 = .ok (.putfield 46, 3) := by decide +kernel
theorem d_M_decide_9 : decode b_M_decide 9 = .ok (.aload_n 0, 1) := by decide +kernel
theorem d_M_decide_10 : decode b_M_decide 10 = .ok (.bipush 40, 2) := by decide +kernel
theorem d_M_decide_12 : decode b_M_decide 12 = .ok (.invokevirtual 90, 3) := by decide +kernel
theorem d_M_decide_15 : decode b_M_decide 15 = .ok (.bipush 8, 2) := by decide +kernel
theorem d_M_decide_17 : decode b_M_decide 17 = .ok (.if_icmp .le 11, 3) := by decide +kernel
theorem d_M_decide_20 : decode b_M_decide 20 = .ok (.aload_n 0, 1) := by decide +kernel
theorem d_M_decide_21 : decode b_M_decide 21 = .ok (.bipush (-2), 2) := by decide +kernel
theorem d_M_decide_23 : decode b_M_decide 23 = .ok (.iconst (-1), 1) := by decide +kernel
theorem d_M_decide_24 : decode b_M_decide 24 = .ok (.invokevirtual 188, 3) := by decide +kernel
theorem d_M_decide_27 : decode b_M_decide 27 = .ok (.ireturn, 1) := by decide +kernel
theorem d_M_decide_28 : decode b_M_decide 28 = .ok (.aload_n 0, 1) := by decide +kernel
theorem d_M_decide_29 : decode b_M_decide 29 = .ok (.invokevirtual 191, 3) := by decide +kernel
theorem d_M_decide_32 : decode b_M_decide 32 = .ok (.istore_n 1, 1) := by decide +kernel
theorem d_M_decide_33 : decode b_M_decide 33 = .ok (.iload_n 1, 1) := by decide +kernel
theorem d_M_decide_34 : decode b_M_decide 34 = .ok (.ifCond .lt 10, 3) := by decide +kernel
theorem d_M_decide_37 : decode b_M_decide 37 = .ok (.aload_n 0, 1) := by decide +kernel
theorem d_M_decide_38 : decode b_M_decide 38 = .ok (.iconst (-1), 1) := by decide +kernel
theorem d_M_decide_39 : decode b_M_decide 39 = .ok (.iload_n 1, 1) := by decide +kernel
theorem d_M_decide_40 : decode b_M_decide 40 = .ok (.invokevirtual 188, 3) := by decide +kernel
theorem d_M_decide_43 : decode b_M_decide 43 = .ok (.ireturn, 1) := by decide +kernel
theorem d_M_decide_44 : decode b_M_decide 44 = .ok (.aload_n 0, 1) := by decide +kernel
theorem d_M_decide_45 : decode b_M_decide 45 = .ok (.invokevirtual 195, 3) := by decide +kernel
theorem d_M_decide_48 : decode b_M_decide 48 = .ok (.bipush 8, 2) := by decide +kernel
theorem d_M_decide_50 : decode b_M_decide 50 = .ok (.if_icmp .le 11, 3) := by decide +kernel
theorem d_M_decide_53 : decode b_M_decide 53 = .ok (.aload_n 0, 1) := by decide +kernel
theorem d_M_decide_54 : decode b_M_decide 54 = .ok (.bipush (-2), 2) := by decide +kernel
theorem d_M_decide_56 : decode b_M_decide 56 = .ok (.iconst (-1), 1) := by decide +kernel
theorem d_M_decide_57 : decode b_M_decide 57 = .ok (.invokevirtual 188, 3) := by decide +kernel
theorem d_M_decide_60 : decode b_M_decide 60 = .ok (.ireturn, 1) := by decide +kernel
theorem d_M_decide_61 : decode b_M_decide 61 = .ok (.aload_n 0, 1) := by decide +kernel
theorem d_M_decide_62 : decode b_M_decide 62 = .ok (.aload_n 0, 1) := by decide +kernel
theorem d_M_decide_63 : decode b_M_decide 63 = .ok (.iconst 0, 1) := by decide +kernel
theorem d_M_decide_64 : decode b_M_decide 64 = .ok (.invokevirtual 79, 3) := by decide +kernel
theorem d_M_decide_67 : decode b_M_decide 67 = .ok (.bipush 65, 2) := by decide +kernel
theorem d_M_decide_69 : decode b_M_decide 69 = .ok (.if_icmp .ne 7, 3) := by decide +kernel
