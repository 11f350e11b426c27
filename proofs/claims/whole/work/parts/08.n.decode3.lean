theorem d_M_signBehind_51 : decode b_M_signBehind 51 = .ok (.iload 8, 2) := by decide +kernel
theorem d_M_signBehind_53 : decode b_M_signBehind 53 = .ok (.ifCond .ne 18, 3) := by decide +kernel
theorem d_M_signBehind_56 : decode b_M_signBehind 56 = .ok (.aload_n 0, 1) := by decide +kernel
theorem d_M_signBehind_57 : decode b_M_signBehind 57 = .ok (.iload_n 1, 1) := by decide +kernel
theorem d_M_signBehind_58 : decode b_M_signBehind 58 = .ok (.lconst 0, 1) := by decide +kernel
theorem d_M_signBehind_59 : decode b_M_signBehind 59 = .ok (.ldc2_w 121, 3) := by decide +kernel
theorem d_M_signBehind_62 : decode b_M_signBehind 62 = .ok (.lload_n 2, 1) := by decide +kernel
theorem d_M_signBehind_63 : decode b_M_signBehind 63 = .ok (.lmul, 1) := by decide +kernel
theorem d_M_signBehind_64 : decode b_M_signBehind 64 = .ok (.lload 4, 2) := by decide +kernel
theorem d_M_signBehind_66 : decode b_M_signBehind 66 = .ok (.invokevirtual 127, 3) := by decide +kernel
theorem d_M_signBehind_69 : decode b_M_signBehind 69 = .ok (.istore 8, 2) := by decide +kernel
theorem d_M_signBehind_71 : decode b_M_signBehind 71 = .ok (.iload 8, 2) := by decide +kernel
theorem d_M_signBehind_73 : decode b_M_signBehind 73 = .ok (.ifCond .ne 10, 3) := by decide +kernel
theorem d_M_signBehind_76 : decode b_M_signBehind 76 = .ok (.lload_n 2, 1) := by decide +kernel
theorem d_M_signBehind_77 : decode b_M_signBehind 77 = .ok (.invokestatic 115, 3) := by decide +kernel
theorem d_M_signBehind_80 : decode b_M_signBehind 80 = .ok (.goto 5, 3) := by decide +kernel
theorem d_M_signBehind_83 : decode b_M_signBehind 83 = .ok (.iload 8, 2) := by decide +kernel
theorem d_M_signBehind_85 : decode b_M_signBehind 85 = .ok (.ireturn, 1) := by decide +kernel
theorem d_M_signIn_0 : decode b_M_signIn 0 = .ok (.iload_n 1, 1) := by decide +kernel
theorem d_M_signIn_1 : decode b_M_signIn 1 = .ok (.iconst 2, 1) := by decide +kernel
theorem d_M_signIn_2 : decode b_M_signIn 2 = .ok (.irem, 1) := by decide +kernel
theorem d_M_signIn_3 : decode b_M_signIn 3 = .ok (.iconst 1, 1) := by decide +kernel
theorem d_M_signIn_4 : decode b_M_signIn 4 = .ok (.if_icmp .ne 18, 3) := by decide +kernel
theorem d_M_signIn_7 : decode b_M_signIn 7 = .ok (.aload_n 0, 1) := by decide +kernel
theorem d_M_signIn_8 : decode b_M_signIn 8 = .ok (.iload_n 1, 1) := by decide +kernel
theorem d_M_signIn_9 : decode b_M_signIn 9 = .ok (.iconst 2, 1) := by decide +kernel
theorem d_M_signIn_10 : decode b_M_signIn 10 = .ok (.idiv, 1) := by decide +kernel
theorem d_M_signIn_11 : decode b_M_signIn 11 = .ok (.lload_n 2, 1) := by decide +kernel
theorem d_M_signIn_12 : decode b_M_signIn 12 = .ok (.lload 4, 2) := by decide +kernel
theorem d_M_signIn_14 : decode b_M_signIn 14 = .ok (.lload 6, 2) := by decide +kernel
theorem d_M_signIn_16 : decode b_M_signIn 16 = .ok (.invokevirtual 127, 3) := by decide +kernel
theorem d_M_signIn_19 : decode b_M_signIn 19 = .ok (.goto 17, 3) := by decide +kernel
theorem d_M_signIn_22 : decode b_M_signIn 22 = .ok (.aload_n 0, 1) := by decide +kernel
theorem d_M_signIn_23 : decode b_M_signIn 23 = .ok (.iload_n 1, 1) := by decide +kernel
theorem d_M_signIn_24 : decode b_M_signIn 24 = .ok (.iconst 2, 1) := by decide +kernel
theorem d_M_signIn_25 : decode b_M_signIn 25 = .ok (.idiv, 1) := by decide +kernel
theorem d_M_signIn_26 : decode b_M_signIn 26 = .ok (.iconst 1, 1) := by decide +kernel
theorem d_M_signIn_27 : decode b_M_signIn 27 = .ok (.isub, 1) := by decide +kernel
theorem d_M_signIn_28 : decode b_M_signIn 28 = .ok (.lload_n 2, 1) := by decide +kernel
theorem d_M_signIn_29 : decode b_M_signIn 29 = .ok (.lload 4, 2) := by decide +kernel
theorem d_M_signIn_31 : decode b_M_signIn 31 = .ok (.lload 6, 2) := by decide +kernel
theorem d_M_signIn_33 : decode b_M_signIn 33 = .ok (.invokevirtual 131, 3) := by decide +kernel
theorem d_M_signIn_36 : decode b_M_signIn 36 = .ok (.ireturn, 1) := by decide +kernel
theorem d_M_against_0 : decode b_M_against 0 = .ok (.aload_n 0, 1) := by decide +kernel
theorem d_M_against_1 : decode b_M_against 1 = .ok (.iload_n 1, 1) := by decide +kernel
theorem d_M_against_2 : decode b_M_against 2 = .ok (.lload_n 2, 1) := by decide +kernel
theorem d_M_against_3 : decode b_M_against 3 = .ok (.lload 4, 2) := by decide +kernel
theorem d_M_against_5 : decode b_M_against 5 = .ok (.lload 6, 2) := by decide +kernel
theorem d_M_against_7 : decode b_M_against 7 = .ok (.invokevirtual 127, 3) := by decide +kernel
theorem d_M_against_10 : decode b_M_against 10 = .ok (.istore 9, 2) := by decide +kernel
theorem d_M_against_12 : decode b_M_against 12 = .ok (.lload_n 2, 1) := by decide +kernel
theorem d_M_against_13 : decode b_M_against 13 = .ok (.lconst 0, 1) := by decide +kernel
theorem d_M_against_14 : decode b_M_against 14 = .ok (.lcmp, 1) := by decide +kernel
theorem d_M_against_15 : decode b_M_against 15 = .ok (.ifCond .ne 6, 3) := by decide +kernel
theorem d_M_against_18 : decode b_M_against 18 = .ok (.iload 9, 2) := by decide +kernel
theorem d_M_against_20 : decode b_M_against 20 = .ok (.ireturn, 1) := by decide +kernel
theorem d_M_against_21 : decode b_M_against 21 = .ok (.aload_n 0, 1) := by decide +kernel
theorem d_M_against_22 : decode b_M_against 22 = .ok (.iload_n 1, 1) := by decide +kernel
theorem d_M_against_23 : decode b_M_against 23 = .ok (.lconst 0, 1) := by decide +kernel
theorem d_M_against_24 : decode b_M_against 24 = .ok (.ldc2_w 121, 3) := by decide +kernel
theorem d_M_against_27 : decode b_M_against 27 = .ok (.lload_n 2, 1) := by decide +kernel
theorem d_M_against_28 : decode b_M_against 28 = .ok (.lmul, 1) := by decide +kernel
theorem d_M_against_29 : decode b_M_against 29 = .ok (.lload 4, 2) := by decide +kernel
theorem d_M_against_31 : decode b_M_against 31 = .ok (.invokevirtual 127, 3) := by decide +kernel
theorem d_M_against_34 : decode b_M_against 34 = .ok (.istore 10, 2) := by decide +kernel
theorem d_M_against_36 : decode b_M_against 36 = .ok (.iload 9, 2) := by decide +kernel
theorem d_M_against_38 : decode b_M_against 38 = .ok (.ifCond .le 16, 3) := by decide +kernel
theorem d_M_against_41 : decode b_M_against 41 = .ok (.iload 10, 2) := by decide +kernel
theorem d_M_against_43 : decode b_M_against 43 = .ok (.ifCond .ge 7, 3) := by decide +kernel
theorem d_M_against_46 : decode b_M_against 46 = .ok (.iconst 0, 1) := by decide +kernel
theorem d_M_against_47 : decode b_M_against 47 = .ok (.goto 26, 3) := by decide +kernel
theorem d_M_against_50 : decode b_M_against 50 = .ok (.iconst 4, 1) := by decide +kernel
theorem d_M_against_51 : decode b_M_against 51 = .ok (.goto 22, 3) := by decide +kernel
theorem d_M_against_54 : decode b_M_against 54 = .ok (.iload 9, 2) := by decide +kernel
theorem d_M_against_56 : decode b_M_against 56 = .ok (.ifCond .ge 7, 3) := by decide +kernel
theorem d_M_against_59 : decode b_M_against 59 = .ok (.iconst 2, 1) := by decide +kernel
theorem d_M_against_60 : decode b_M_against 60 = .ok (.goto 13, 3) := by decide +kernel
theorem d_M_against_63 : decode b_M_against 63 = .ok (.iload 10, 2) := by decide +kernel
theorem d_M_against_65 : decode b_M_against 65 = .ok (.ifCond .ge 7, 3) := by decide +kernel
theorem d_M_against_68 : decode b_M_against 68 = .ok (.iconst 1, 1) := by decide +kernel
theorem d_M_against_69 : decode b_M_against 69 = .ok (.goto 4, 3) := by decide +kernel
theorem d_M_against_72 : decode b_M_against 72 = .ok (.iconst 3, 1) := by decide +kernel
theorem d_M_against_73 : decode b_M_against 73 = .ok (.istore 11, 2) := by decide +kernel
theorem d_M_against_75 : decode b_M_against 75 = .ok (.iload 9, 2) := by decide +kernel
theorem d_M_against_77 : decode b_M_against 77 = .ok (.ifCond .ne 10, 3) := by decide +kernel
theorem d_M_against_80 : decode b_M_against 80 = .ok (.iload 10, 2) := by decide +kernel
theorem d_M_against_82 : decode b_M_against 82 = .ok (.ifCond .ne 5, 3) := by decide +kernel
theorem d_M_against_85 : decode b_M_against 85 = .ok (.iconst 0, 1) := by decide +kernel
theorem d_M_against_86 : decode b_M_against 86 = .ok (.ireturn, 1) := by decide +kernel
theorem d_M_against_87 : decode b_M_against 87 = .ok (.iload 8, 2) := by decide +kernel
theorem d_M_against_89 : decode b_M_against 89 = .ok (.ifCond .ge 7, 3) := by decide +kernel
theorem d_M_against_92 : decode b_M_against 92 = .ok (.iconst 1, 1) := by decide +kernel
theorem d_M_against_93 : decode b_M_against 93 = .ok (.goto 4, 3) := by decide +kernel
theorem d_M_against_96 : decode b_M_against 96 = .ok (.iconst 3, 1) := by decide +kernel
theorem d_M_against_97 : decode b_M_against 97 = .ok (.istore 12, 2) := by decide +kernel
theorem d_M_against_99 : decode b_M_against 99 = .ok (.iload 11, 2) := by decide +kernel
theorem d_M_against_101 : decode b_M_against 101 = .ok (.iload 12, 2) := by decide +kernel
theorem d_M_against_103 : decode b_M_against 103 = .ok (.isub, 1) := by decide +kernel
theorem d_M_against_104 : decode b_M_against 104 = .ok (.ireturn, 1) := by decide +kernel
theorem d_M_addRoot_0 : decode b_M_addRoot 0 = .ok (.aload_n 0, 1) := by decide +kernel
theorem d_M_addRoot_1 : decode b_M_addRoot 1 = .ok (.getfield 134, 3) := by decide +kernel
theorem d_M_addRoot_4 : decode b_M_addRoot 4 = .ok (.istore 8, 2) := by decide +kernel
theorem d_M_addRoot_6 : decode b_M_addRoot 6 = .ok (.iconst 0, 1) := by decide +kernel
theorem d_M_addRoot_7 : decode b_M_addRoot 7 = .ok (.istore 9, 2) := by decide +kernel
theorem d_M_addRoot_9 : decode b_M_addRoot 9 = .ok (.iload 9, 2) := by decide +kernel
theorem d_M_addRoot_11 : decode b_M_addRoot 11 = .ok (.aload_n 0, 1) := by decide +kernel
theorem d_M_addRoot_12 : decode b_M_addRoot 12 = .ok (.getfield 134, 3) := by decide +kernel
theorem d_M_addRoot_15 : decode b_M_addRoot 15 = .ok (.if_icmp .ge 50, 3) := by decide +kernel
theorem d_M_addRoot_18 : decode b_M_addRoot 18 = .ok (.aload_n 0, 1) := by decide +kernel
theorem d_M_addRoot_19 : decode b_M_addRoot 19 = .ok (.iload 9, 2) := by decide +kernel
theorem d_M_addRoot_21 : decode b_M_addRoot 21 = .ok (.lload_n 1, 1) := by decide +kernel
theorem d_M_addRoot_22 : decode b_M_addRoot 22 = .ok (.lload_n 3, 1) := by decide +kernel
theorem d_M_addRoot_23 : decode b_M_addRoot 23 = .ok (.lload 5, 2) := by decide +kernel
theorem d_M_addRoot_25 : decode b_M_addRoot 25 = .ok (.iload 7, 2) := by decide +kernel
theorem d_M_addRoot_27 : decode b_M_addRoot 27 = .ok (.invokevirtual 137, 3) := by decide +kernel
theorem d_M_addRoot_30 : decode b_M_addRoot 30 = .ok (.istore 10, 2) := by decide +kernel
theorem d_M_addRoot_32 : decode b_M_addRoot 32 = .ok (.iload 10, 2) := by decide +kernel
theorem d_M_addRoot_34 : decode b_M_addRoot 34 = .ok (.ifCond .ne 4, 3) := by decide +kernel
theorem d_M_addRoot_37 : decode b_M_addRoot 37 = .ok (.return_, 1) := by decide +kernel
theorem d_M_addRoot_38 : decode b_M_addRoot 38 = .ok (.iload 10, 2) := by decide +kernel
theorem d_M_addRoot_40 : decode b_M_addRoot 40 = .ok (.ifCond .le 15, 3) := by decide +kernel
theorem d_M_addRoot_43 : decode b_M_addRoot 43 = .ok (.iload 8, 2) := by decide +kernel
theorem d_M_addRoot_45 : decode b_M_addRoot 45 = .ok (.iload 9, 2) := by decide +kernel
theorem d_M_addRoot_47 : decode b_M_addRoot 47 = .ok (.if_icmp .le 8, 3) := by decide +kernel
theorem d_M_addRoot_50 : decode b_M_addRoot 50 = .ok (.iload 9, 2) := by decide +kernel
theorem d_M_addRoot_52 : decode b_M_addRoot 52 = .ok (.goto 5, 3) := by decide +kernel
theorem d_M_addRoot_55 : decode b_M_addRoot 55 = .ok (.iload 8, 2) := by decide +kernel
theorem d_M_addRoot_57 : decode b_M_addRoot 57 = .ok (.istore 8, 2) := by decide +kernel
theorem d_M_addRoot_59 : decode b_M_addRoot 59 = .ok (.iinc 9 1, 3) := by decide +kernel
theorem d_M_addRoot_62 : decode b_M_addRoot 62 = .ok (.goto (-53), 3) := by decide +kernel
theorem d_M_addRoot_65 : decode b_M_addRoot 65 = .ok (.aload_n 0, 1) := by decide +kernel
theorem d_M_addRoot_66 : decode b_M_addRoot 66 = .ok (.getfield 134, 3) := by decide +kernel
theorem d_M_addRoot_69 : decode b_M_addRoot 69 = .ok (.istore 9, 2) := by decide +kernel
theorem d_M_addRoot_71 : decode b_M_addRoot 71 = .ok (.iload 9, 2) := by decide +kernel
theorem d_M_addRoot_73 : decode b_M_addRoot 73 = .ok (.iload 8, 2) := by decide +kernel
theorem d_M_addRoot_75 : decode b_M_addRoot 75 = .ok (.if_icmp .le 73, 3) := by decide +kernel
theorem d_M_addRoot_78 : decode b_M_addRoot 78 = .ok (.aload_n 0, 1) := by decide +kernel
theorem d_M_addRoot_79 : decode b_M_addRoot 79 = .ok (.getfield 33, 3) := by decide +kernel
theorem d_M_addRoot_82 : decode b_M_addRoot 82 = .ok (.iload 9, 2) := by decide +kernel
theorem d_M_addRoot_84 : decode b_M_addRoot 84 = .ok (.aload_n 0, 1) := by decide +kernel
theorem d_M_addRoot_85 : decode b_M_addRoot 85 = .ok (.getfield 33, 3) := by decide +kernel
theorem d_M_addRoot_88 : decode b_M_addRoot 88 = .ok (.iload 9, 2) := by decide +kernel
theorem d_M_addRoot_90 : decode b_M_addRoot 90 = .ok (.iconst 1, 1) := by decide +kernel
theorem d_M_addRoot_91 : decode b_M_addRoot 91 = .ok (.isub, 1) := by decide +kernel
theorem d_M_addRoot_92 : decode b_M_addRoot 92 = .ok (.laload, 1) := by decide +kernel
theorem d_M_addRoot_93 : decode b_M_addRoot 93 = .ok (.lastore, 1) := by decide +kernel
theorem d_M_addRoot_94 : decode b_M_addRoot 94 = .ok (.aload_n 0, 1) := by decide +kernel
theorem d_M_addRoot_95 : decode b_M_addRoot 95 = .ok (.getfield 37, 3) := by decide +kernel
theorem d_M_addRoot_98 : decode b_M_addRoot 98 = .ok (.iload 9, 2) := by decide +kernel
theorem d_M_addRoot_100 : decode b_M_addRoot 100 = .ok (.aload_n 0, 1) := by decide +kernel
theorem d_M_addRoot_101 : decode b_M_addRoot 101 = .ok (.getfield 37, 3) := by decide +kernel
theorem d_M_addRoot_104 : decode b_M_addRoot 104 = .ok (.iload 9, 2) := by decide +kernel
theorem d_M_addRoot_106 : decode b_M_addRoot 106 = .ok (.iconst 1, 1) := by decide +kernel
theorem d_M_addRoot_107 : decode b_M_addRoot 107 = .ok (.isub, 1) := by decide +kernel
theorem d_M_addRoot_108 : decode b_M_addRoot 108 = .ok (.laload, 1) := by decide +kernel
theorem d_M_addRoot_109 : decode b_M_addRoot 109 = .ok (.lastore, 1) := by decide +kernel
theorem d_M_addRoot_110 : decode b_M_addRoot 110 = .ok (.aload_n 0, 1) := by decide +kernel
theorem d_M_addRoot_111 : decode b_M_addRoot 111 = .ok (.getfield 40, 3) := by decide +kernel
theorem d_M_addRoot_114 : decode b_M_addRoot 114 = .ok (.iload 9, 2) := by decide +kernel
theorem d_M_addRoot_116 : decode b_M_addRoot 116 = .ok (.aload_n 0, 1) := by decide +kernel
theorem d_M_addRoot_117 : decode b_M_addRoot 117 = .ok (.getfield 40, 3) := by decide +kernel
theorem d_M_addRoot_120 : decode b_M_addRoot 120 = .ok (.iload 9, 2) := by decide +kernel
theorem d_M_addRoot_122 : decode b_M_addRoot 122 = .ok (.iconst 1, 1) := by decide +kernel
theorem d_M_addRoot_123 : decode b_M_addRoot 123 = .ok (.isub, 1) := by decide +kernel
theorem d_M_addRoot_124 : decode b_M_addRoot 124 = .ok (.laload, 1) := by decide +kernel
theorem d_M_addRoot_125 : decode b_M_addRoot 125 = .ok (.lastore, 1) := by decide +kernel
theorem d_M_addRoot_126 : decode b_M_addRoot 126 = .ok (.aload_n 0, 1) := by decide +kernel
theorem d_M_addRoot_127 : decode b_M_addRoot 127 = .ok (.getfield 43, 3) := by decide +kernel
theorem d_M_addRoot_130 : decode b_M_addRoot 130 = .ok (.iload 9, 2) := by decide +kernel
theorem d_M_addRoot_132 : decode b_M_addRoot 132 = .ok (.aload_n 0, 1) := by decide +kernel
theorem d_M_addRoot_133 : decode b_M_addRoot 133 = .ok (.getfield 43, 3) := by decide +kernel
theorem d_M_addRoot_136 : decode b_M_addRoot 136 = .ok (.iload 9, 2) := by decide +kernel
theorem d_M_addRoot_138 : decode b_M_addRoot 138 = .ok (.iconst 1, 1) := by decide +kernel
theorem d_M_addRoot_139 : decode b_M_addRoot 139 = .ok (.isub, 1) := by decide +kernel
theorem d_M_addRoot_140 : decode b_M_addRoot 140 = .ok (.iaload, 1) := by decide +kernel
theorem d_M_addRoot_141 : decode b_M_addRoot 141 = .ok (.iastore, 1) := by decide +kernel
theorem d_M_addRoot_142 : decode b_M_addRoot 142 = .ok (.iinc 9 (-1), 3) := by decide +kernel
theorem d_M_addRoot_145 : decode b_M_addRoot 145 = .ok (.goto (-74), 3) := by decide +kernel
theorem d_M_addRoot_148 : decode b_M_addRoot 148 = .ok (.aload_n 0, 1) := by decide +kernel
theorem d_M_addRoot_149 : decode b_M_addRoot 149 = .ok (.getfield 33, 3) := by decide +kernel
theorem d_M_addRoot_152 : decode b_M_addRoot 152 = .ok (.iload 8, 2) := by decide +kernel
theorem d_M_addRoot_154 : decode b_M_addRoot 154 = .ok (.lload_n 1, 1) := by decide +kernel
theorem d_M_addRoot_155 : decode b_M_addRoot 155 = .ok (.lastore, 1) := by decide +kernel
theorem d_M_addRoot_156 : decode b_M_addRoot 156 = .ok (.aload_n 0, 1) := by decide +kernel
theorem d_M_addRoot_157 : decode b_M_addRoot 157 = .ok (.getfield 37, 3) := by decide +kernel
theorem d_M_addRoot_160 : decode b_M_addRoot 160 = .ok (.iload 8, 2) := by decide +kernel
theorem d_M_addRoot_162 : decode b_M_addRoot 162 = .ok (.lload_n 3, 1) := by decide +kernel
theorem d_M_addRoot_163 : decode b_M_addRoot 163 = .ok (.lastore, 1) := by decide +kernel
theorem d_M_addRoot_164 : decode b_M_addRoot 164 = .ok (.aload_n 0, 1) := by decide +kernel
theorem d_M_addRoot_165 : decode b_M_addRoot 165 = .ok (.getfield 40, 3) := by decide +kernel
theorem d_M_addRoot_168 : decode b_M_addRoot 168 = .ok (.iload 8, 2) := by decide +kernel
theorem d_M_addRoot_170 : decode b_M_addRoot 170 = .ok (.lload 5, 2) := by decide +kernel
theorem d_M_addRoot_172 : decode b_M_addRoot 172 = .ok (.lastore, 1) := by decide +kernel
theorem d_M_addRoot_173 : decode b_M_addRoot 173 = .ok (.aload_n 0, 1) := by decide +kernel
theorem d_M_addRoot_174 : decode b_M_addRoot 174 = .ok (.getfield 43, 3) := by decide +kernel
theorem d_M_addRoot_177 : decode b_M_addRoot 177 = .ok (.iload 8, 2) := by decide +kernel
theorem d_M_addRoot_179 : decode b_M_addRoot 179 = .ok (.iload 7, 2) := by decide +kernel
theorem d_M_addRoot_181 : decode b_M_addRoot 181 = .ok (.iastore, 1) := by decide +kernel
theorem d_M_addRoot_182 : decode b_M_addRoot 182 = .ok (.aload_n 0, 1) := by decide +kernel
theorem d_M_addRoot_183 : decode b_M_addRoot 183 = .ok (.dup, 1) := by decide +kernel
theorem d_M_addRoot_184 : decode b_M_addRoot 184 = .ok (.getfield 134, 3) := by decide +kernel
theorem d_M_addRoot_187 : decode b_M_addRoot 187 = .ok (.iconst 1, 1) := by decide +kernel
theorem d_M_addRoot_188 : decode b_M_addRoot 188 = .ok (.iadd, 1) := by decide +kernel
theorem d_M_addRoot_189 : decode b_M_addRoot 189 = .ok (.putfield 134, 3) := by decide +kernel
theorem d_M_addRoot_192 : decode b_M_addRoot 192 = .ok (.return_, 1) := by decide +kernel
theorem d_M_addRoots_0 : decode b_M_addRoots 0 = .ok (.lload_n 1, 1) := by decide +kernel
theorem d_M_addRoots_1 : decode b_M_addRoots 1 = .ok (.lconst 0, 1) := by decide +kernel
theorem d_M_addRoots_2 : decode b_M_addRoots 2 = .ok (.lcmp, 1) := by decide +kernel
theorem d_M_addRoots_3 : decode b_M_addRoots 3 = .ok (.ifCond .lt 15, 3) := by decide +kernel
theorem d_M_addRoots_6 : decode b_M_addRoots 6 = .ok (.lload_n 1, 1) := by decide +kernel
theorem d_M_addRoots_7 : decode b_M_addRoots 7 = .ok (.lconst 0, 1) := by decide +kernel
theorem d_M_addRoots_8 : decode b_M_addRoots 8 = .ok (.lcmp, 1) := by decide +kernel
theorem d_M_addRoots_9 : decode b_M_addRoots 9 = .ok (.ifCond .ne 13, 3) := by decide +kernel
theorem d_M_addRoots_12 : decode b_M_addRoots 12 = .ok (.lload_n 3, 1) := by decide +kernel
theorem d_M_addRoots_13 : decode b_M_addRoots 13 = .ok (.lconst 0, 1) := by decide +kernel
theorem d_M_addRoots_14 : decode b_M_addRoots 14 = .ok (.lcmp, 1) := by decide +kernel
theorem d_M_addRoots_15 : decode b_M_addRoots 15 = .ok (.ifCond .ge 7, 3) := by decide +kernel
theorem d_M_addRoots_18 : decode b_M_addRoots 18 = .ok (.iconst 1, 1) := by decide +kernel
theorem d_M_addRoots_19 : decode b_M_addRoots 19 = .ok (.goto 4, 3) := by decide +kernel
theorem d_M_addRoots_22 : decode b_M_addRoots 22 = .ok (.iconst 0, 1) := by decide +kernel
theorem d_M_addRoots_23 : decode b_M_addRoots 23 = .ok (.istore 7, 2) := by decide +kernel
theorem d_M_addRoots_25 : decode b_M_addRoots 25 = .ok (.iload 7, 2) := by decide +kernel
theorem d_M_addRoots_27 : decode b_M_addRoots 27 = .ok (.ifCond .eq 8, 3) := by decide +kernel
theorem d_M_addRoots_30 : decode b_M_addRoots 30 = .ok (.lload_n 1, 1) := by decide +kernel
theorem d_M_addRoots_31 : decode b_M_addRoots 31 = .ok (.lneg, 1) := by decide +kernel
theorem d_M_addRoots_32 : decode b_M_addRoots 32 = .ok (.goto 4, 3) := by decide +kernel
theorem d_M_addRoots_35 : decode b_M_addRoots 35 = .ok (.lload_n 1, 1) := by decide +kernel
theorem d_M_addRoots_36 : decode b_M_addRoots 36 = .ok (.lstore 8, 2) := by decide +kernel
theorem d_M_addRoots_38 : decode b_M_addRoots 38 = .ok (.iload 7, 2) := by decide +kernel
theorem d_M_addRoots_40 : decode b_M_addRoots 40 = .ok (.ifCond .eq 8, 3) := by decide +kernel
theorem d_M_addRoots_43 : decode b_M_addRoots 43 = .ok (.lload_n 3, 1) := by decide +kernel
theorem d_M_addRoots_44 : decode b_M_addRoots 44 = .ok (.lneg, 1) := by decide +kernel
theorem d_M_addRoots_45 : decode b_M_addRoots 45 = .ok (.goto 4, 3) := by decide +kernel
theorem d_M_addRoots_48 : decode b_M_addRoots 48 = .ok (.lload_n 3, 1) := by decide +kernel
theorem d_M_addRoots_49 : decode b_M_addRoots 49 = .ok (.lstore 10, 2) := by decide +kernel
theorem d_M_addRoots_51 : decode b_M_addRoots 51 = .ok (.iload 7, 2) := by decide +kernel
theorem d_M_addRoots_53 : decode b_M_addRoots 53 = .ok (.ifCond .eq 9, 3) := by decide +kernel
theorem d_M_addRoots_56 : decode b_M_addRoots 56 = .ok (.lload 5, 2) := by decide +kernel
theorem d_M_addRoots_58 : decode b_M_addRoots 58 = .ok (.lneg, 1) := by decide +kernel
theorem d_M_addRoots_59 : decode b_M_addRoots 59 = .ok (.goto 5, 3) := by decide +kernel
theorem d_M_addRoots_62 : decode b_M_addRoots 62 = .ok (.lload 5, 2) := by decide +kernel
theorem d_M_addRoots_64 : decode b_M_addRoots 64 = .ok (.lstore 12, 2) := by decide +kernel
theorem d_M_addRoots_66 : decode b_M_addRoots 66 = .ok (.lload 8, 2) := by decide +kernel
theorem d_M_addRoots_68 : decode b_M_addRoots 68 = .ok (.lconst 0, 1) := by decide +kernel
theorem d_M_addRoots_69 : decode b_M_addRoots 69 = .ok (.lcmp, 1) := by decide +kernel
theorem d_M_addRoots_70 : decode b_M_addRoots 70 = .ok (.ifCond .ne 10, 3) := by decide +kernel
theorem d_M_addRoots_73 : decode b_M_addRoots 73 = .ok (.lload 10, 2) := by decide +kernel
theorem d_M_addRoots_75 : decode b_M_addRoots 75 = .ok (.lconst 0, 1) := by decide +kernel
theorem d_M_addRoots_76 : decode b_M_addRoots 76 = .ok (.lcmp, 1) := by decide +kernel
theorem d_M_addRoots_77 : decode b_M_addRoots 77 = .ok (.ifCond .eq 30, 3) := by decide +kernel
theorem d_M_addRoots_80 : decode b_M_addRoots 80 = .ok (.lload 8, 2) := by decide +kernel
theorem d_M_addRoots_82 : decode b_M_addRoots 82 = .ok (.lconst 0, 1) := by decide +kernel
theorem d_M_addRoots_83 : decode b_M_addRoots 83 = .ok (.lcmp, 1) := by decide +kernel
theorem d_M_addRoots_84 : decode b_M_addRoots 84 = .ok (.ifCond .eq 24, 3) := by decide +kernel
theorem d_M_addRoots_87 : decode b_M_addRoots 87 = .ok (.lload 10, 2) := by decide +kernel
theorem d_M_addRoots_89 : decode b_M_addRoots 89 = .ok (.lload 10, 2) := by decide +kernel
theorem d_M_addRoots_91 : decode b_M_addRoots 91 = .ok (.lmul, 1) := by decide +kernel
theorem d_M_addRoots_92 : decode b_M_addRoots 92 = .ok (.ldc2_w 119, 3) := by decide +kernel
theorem d_M_addRoots_95 : decode b_M_addRoots 95 = .ok (.lload 8, 2) := by decide +kernel
theorem d_M_addRoots_97 : decode b_M_addRoots 97 = .ok (.lmul, 1) := by decide +kernel
theorem d_M_addRoots_98 : decode b_M_addRoots 98 = .ok (.lload 12, 2) := by decide +kernel
theorem d_M_addRoots_100 : decode b_M_addRoots 100 = .ok (.lmul, 1) := by decide +kernel
theorem d_M_addRoots_101 : decode b_M_addRoots 101 = .ok (.lsub, 1) := by decide +kernel
theorem d_M_addRoots_102 : decode b_M_addRoots 102 = .ok (.lconst 0, 1) := by decide +kernel
theorem d_M_addRoots_103 : decode b_M_addRoots 103 = .ok (.lcmp, 1) := by decide +kernel
theorem d_M_addRoots_104 : decode b_M_addRoots 104 = .ok (.ifCond .ge 4, 3) := by decide +kernel
theorem d_M_addRoots_107 : decode b_M_addRoots 107 = .ok (.return_, 1) := by decide +kernel
theorem d_M_addRoots_108 : decode b_M_addRoots 108 = .ok (.lload 8, 2) := by decide +kernel
theorem d_M_addRoots_110 : decode b_M_addRoots 110 = .ok (.lconst 0, 1) := by decide +kernel
theorem d_M_addRoots_111 : decode b_M_addRoots 111 = .ok (.lcmp, 1) := by decide +kernel
theorem d_M_addRoots_112 : decode b_M_addRoots 112 = .ok (.ifCond .eq 14, 3) := by decide +kernel
theorem d_M_addRoots_115 : decode b_M_addRoots 115 = .ok (.aload_n 0, 1) := by decide +kernel
theorem d_M_addRoots_116 : decode b_M_addRoots 116 = .ok (.lload 8, 2) := by decide +kernel
theorem d_M_addRoots_118 : decode b_M_addRoots 118 = .ok (.lload 10, 2) := by decide +kernel
theorem d_M_addRoots_120 : decode b_M_addRoots 120 = .ok (.lload 12, 2) := by decide +kernel
theorem d_M_addRoots_122 : decode b_M_addRoots 122 = .ok (.iconst (-1), 1) := by decide +kernel
theorem d_M_addRoots_123 : decode b_M_addRoots 123 = .ok (.invokevirtual 141, 3) := by decide +kernel
theorem d_M_addRoots_126 : decode b_M_addRoots 126 = .ok (.aload_n 0, 1) := by decide +kernel
theorem d_M_addRoots_127 : decode b_M_addRoots 127 = .ok (.lload 8, 2) := by decide +kernel
theorem d_M_addRoots_129 : decode b_M_addRoots 129 = .ok (.lload 10, 2) := by decide +kernel
theorem d_M_addRoots_131 : decode b_M_addRoots 131 = .ok (.lload 12, 2) := by decide +kernel
theorem d_M_addRoots_133 : decode b_M_addRoots 133 = .ok (.iconst 1, 1) := by decide +kernel
theorem d_M_addRoots_134 : decode b_M_addRoots 134 = .ok (.invokevirtual 141, 3) := by decide +kernel
theorem d_M_addRoots_137 : decode b_M_addRoots 137 = .ok (.return_, 1) := by decide +kernel
theorem d_M_cross_0 : decode b_M_cross 0 = .ok (.aload_n 0, 1) := by decide +kernel
theorem d_M_cross_1 : decode b_M_cross 1 = .ok (.getfield 20, 3) := by decide +kernel
theorem d_M_cross_4 : decode b_M_cross 4 = .ok (.iconst 4, 1) := by decide +kernel
theorem d_M_cross_5 : decode b_M_cross 5 = .ok (.iload_n 1, 1) := by decide +kernel
theorem d_M_cross_6 : decode b_M_cross 6 = .ok (.imul, 1) := by decide +kernel
theorem d_M_cross_7 : decode b_M_cross 7 = .ok (.iload_n 3, 1) := by decide +kernel
theorem d_M_cross_8 : decode b_M_cross 8 = .ok (.iadd, 1) := by decide +kernel
theorem d_M_cross_9 : decode b_M_cross 9 = .ok (.iaload, 1) := by decide +kernel
theorem d_M_cross_10 : decode b_M_cross 10 = .ok (.i2l, 1) := by decide +kernel
theorem d_M_cross_11 : decode b_M_cross 11 = .ok (.aload_n 0, 1) := by decide +kernel
theorem d_M_cross_12 : decode b_M_cross 12 = .ok (.getfield 20, 3) := by decide +kernel
theorem d_M_cross_15 : decode b_M_cross 15 = .ok (.iconst 4, 1) := by decide +kernel
theorem d_M_cross_16 : decode b_M_cross 16 = .ok (.iload_n 2, 1) := by decide +kernel
theorem d_M_cross_17 : decode b_M_cross 17 = .ok (.imul, 1) := by decide +kernel
theorem d_M_cross_18 : decode b_M_cross 18 = .ok (.iload 4, 2) := by decide +kernel
theorem d_M_cross_20 : decode b_M_cross 20 = .ok (.iadd, 1) := by decide +kernel
theorem d_M_cross_21 : decode b_M_cross 21 = .ok (.iaload, 1) := by decide +kernel
theorem d_M_cross_22 : decode b_M_cross 22 = .ok (.i2l, 1) := by decide +kernel
theorem d_M_cross_23 : decode b_M_cross 23 = .ok (.lmul, 1) := by decide +kernel
theorem d_M_cross_24 : decode b_M_cross 24 = .ok (.lreturn, 1) := by decide +kernel
theorem d_M_mixed_0 : decode b_M_mixed 0 = .ok (.iload_n 3, 1) := by decide +kernel
theorem d_M_mixed_1 : decode b_M_mixed 1 = .ok (.ifCond .ne 21, 3) := by decide +kernel
theorem d_M_mixed_4 : decode b_M_mixed 4 = .ok (.aload_n 0, 1) := by decide +kernel
theorem d_M_mixed_5 : decode b_M_mixed 5 = .ok (.iload_n 1, 1) := by decide +kernel
theorem d_M_mixed_6 : decode b_M_mixed 6 = .ok (.iload_n 2, 1) := by decide +kernel
theorem d_M_mixed_7 : decode b_M_mixed 7 = .ok (.iconst 2, 1) := by decide +kernel
theorem d_M_mixed_8 : decode b_M_mixed 8 = .ok (.iconst 0, 1) := by decide +kernel
theorem d_M_mixed_9 : decode b_M_mixed 9 = .ok (.invokevirtual 145, 3) := by decide +kernel
theorem d_M_mixed_12 : decode b_M_mixed 12 = .ok (.aload_n 0, 1) := by decide +kernel
theorem d_M_mixed_13 : decode b_M_mixed 13 = .ok (.iload_n 2, 1) := by decide +kernel
theorem d_M_mixed_14 : decode b_M_mixed 14 = .ok (.iload_n 1, 1) := by decide +kernel
theorem d_M_mixed_15 : decode b_M_mixed 15 = .ok (.iconst 2, 1) := by decide +kernel
theorem d_M_mixed_16 : decode b_M_mixed 16 = .ok (.iconst 0, 1) := by decide +kernel
theorem d_M_mixed_17 : decode b_M_mixed 17 = .ok (.invokevirtual 145, 3) := by decide +kernel
theorem d_M_mixed_20 : decode b_M_mixed 20 = .ok (.lsub, 1) := by decide +kernel
theorem d_M_mixed_21 : decode b_M_mixed 21 = .ok (.lreturn, 1) := by decide +kernel
theorem d_M_mixed_22 : decode b_M_mixed 22 = .ok (.iload_n 3, 1) := by decide +kernel
theorem d_M_mixed_23 : decode b_M_mixed 23 = .ok (.iconst 2, 1) := by decide +kernel
theorem d_M_mixed_24 : decode b_M_mixed 24 = .ok (.if_icmp .ne 21, 3) := by decide +kernel
theorem d_M_mixed_27 : decode b_M_mixed 27 = .ok (.aload_n 0, 1) := by decide +kernel
theorem d_M_mixed_28 : decode b_M_mixed 28 = .ok (.iload_n 1, 1) := by decide +kernel
theorem d_M_mixed_29 : decode b_M_mixed 29 = .ok (.iload_n 2, 1) := by decide +kernel
theorem d_M_mixed_30 : decode b_M_mixed 30 = .ok (.iconst 3, 1) := by decide +kernel
theorem d_M_mixed_31 : decode b_M_mixed 31 = .ok (.iconst 1, 1) := by decide +kernel
theorem d_M_mixed_32 : decode b_M_mixed 32 = .ok (.invokevirtual 145, 3) := by decide +kernel
theorem d_M_mixed_35 : decode b_M_mixed 35 = .ok (.aload_n 0, 1) := by decide +kernel
theorem d_M_mixed_36 : decode b_M_mixed 36 = .ok (.iload_n 2, 1) := by decide +kernel
theorem d_M_mixed_37 : decode b_M_mixed 37 = .ok (.iload_n 1, 1) := by decide +kernel
theorem d_M_mixed_38 : decode b_M_mixed 38 = .ok (.iconst 3, 1) := by decide +kernel
theorem d_M_mixed_39 : decode b_M_mixed 39 = .ok (.iconst 1, 1) := by decide +kernel
theorem d_M_mixed_40 : decode b_M_mixed 40 = .ok (.invokevirtual 145, 3) := by decide +kernel
theorem d_M_mixed_43 : decode b_M_mixed 43 = .ok (.lsub, 1) := by decide +kernel
theorem d_M_mixed_44 : decode b_M_mixed 44 = .ok (.lreturn, 1) := by decide +kernel
theorem d_M_mixed_45 : decode b_M_mixed 45 = .ok (.aload_n 0, 1) := by decide +kernel
theorem d_M_mixed_46 : decode b_M_mixed 46 = .ok (.iload_n 1, 1) := by decide +kernel
theorem d_M_mixed_47 : decode b_M_mixed 47 = .ok (.iload_n 2, 1) := by decide +kernel
theorem d_M_mixed_48 : decode b_M_mixed 48 = .ok (.iconst 2, 1) := by decide +kernel
theorem d_M_mixed_49 : decode b_M_mixed 49 = .ok (.iconst 1, 1) := by decide +kernel
theorem d_M_mixed_50 : decode b_M_mixed 50 = .ok (.invokevirtual 145, 3) := by decide +kernel
theorem d_M_mixed_53 : decode b_M_mixed 53 = .ok (.aload_n 0, 1) := by decide +kernel
theorem d_M_mixed_54 : decode b_M_mixed 54 = .ok (.iload_n 1, 1) := by decide +kernel
theorem d_M_mixed_55 : decode b_M_mixed 55 = .ok (.iload_n 2, 1) := by decide +kernel
theorem d_M_mixed_56 : decode b_M_mixed 56 = .ok (.iconst 3, 1) := by decide +kernel
theorem d_M_mixed_57 : decode b_M_mixed 57 = .ok (.iconst 0, 1) := by decide +kernel
theorem d_M_mixed_58 : decode b_M_mixed 58 = .ok (.invokevirtual 145, 3) := by decide +kernel
theorem d_M_mixed_61 : decode b_M_mixed 61 = .ok (.ladd, 1) := by decide +kernel
theorem d_M_mixed_62 : decode b_M_mixed 62 = .ok (.aload_n 0, 1) := by decide +kernel
theorem d_M_mixed_63 : decode b_M_mixed 63 = .ok (.iload_n 2, 1) := by decide +kernel
theorem d_M_mixed_64 : decode b_M_mixed 64 = .ok (.iload_n 1, 1) := by decide +kernel
theorem d_M_mixed_65 : decode b_M_mixed 65 = .ok (.iconst 2, 1) := by decide +kernel
theorem d_M_mixed_66 : decode b_M_mixed 66 = .ok (.iconst 1, 1) := by decide +kernel
theorem d_M_mixed_67 : decode b_M_mixed 67 = .ok (.invokevirtual 145, 3) := by decide +kernel
theorem d_M_mixed_70 : decode b_M_mixed 70 = .ok (.lsub, 1) := by decide +kernel
theorem d_M_mixed_71 : decode b_M_mixed 71 = .ok (.aload_n 0, 1) := by decide +kernel
theorem d_M_mixed_72 : decode b_M_mixed 72 = .ok (.iload_n 2, 1) := by decide +kernel
theorem d_M_mixed_73 : decode b_M_mixed 73 = .ok (.iload_n 1, 1) := by decide +kernel
theorem d_M_mixed_74 : decode b_M_mixed 74 = .ok (.iconst 3, 1) := by decide +kernel
theorem d_M_mixed_75 : decode b_M_mixed 75 = .ok (.iconst 0, 1) := by decide +kernel
theorem d_M_mixed_76 : decode b_M_mixed 76 = .ok (.invokevirtual 145, 3) := by decide +kernel
theorem d_M_mixed_79 : decode b_M_mixed 79 = .ok (.lsub, 1) := by decide +kernel
theorem d_M_mixed_80 : decode b_M_mixed 80 = .ok (.lreturn, 1) := by decide +kernel
theorem d_M_findCriticals_0 : decode b_M_findCriticals 0 = .ok (.aload_n 0, 1) := by decide +kernel
theorem d_M_findCriticals_1 : decode b_M_findCriticals 1 = .ok (.iconst 0, 1) := by decide +kernel
theorem d_M_findCriticals_2 : decode b_M_findCriticals 2 = .ok (.putfield 134, 3) := by decide +kernel
theorem d_M_findCriticals_5 : decode b_M_findCriticals 5 = .ok (.iconst 0, 1) := by decide +kernel
theorem d_M_findCriticals_6 : decode b_M_findCriticals 6 = .ok (.istore_n 1, 1) := by decide +kernel
theorem d_M_findCriticals_7 : decode b_M_findCriticals 7 = .ok (.iload_n 1, 1) := by decide +kernel
theorem d_M_findCriticals_8 : decode b_M_findCriticals 8 = .ok (.aload_n 0, 1) := by decide +kernel
theorem d_M_findCriticals_9 : decode b_M_findCriticals 9 = .ok (.getfield 103, 3) := by decide +kernel
theorem d_M_findCriticals_12 : decode b_M_findCriticals 12 = .ok (.if_icmp .ge 99, 3) := by decide +kernel
theorem d_M_findCriticals_15 : decode b_M_findCriticals 15 = .ok (.aload_n 0, 1) := by decide +kernel
theorem d_M_findCriticals_16 : decode b_M_findCriticals 16 = .ok (.lconst 0, 1) := by decide +kernel
theorem d_M_findCriticals_17 : decode b_M_findCriticals 17 = .ok (.aload_n 0, 1) := by decide +kernel
theorem d_M_findCriticals_18 : decode b_M_findCriticals 18 = .ok (.getfield 20, 3) := by decide +kernel
theorem d_M_findCriticals_21 : decode b_M_findCriticals 21 = .ok (.iconst 4, 1) := by decide +kernel
theorem d_M_findCriticals_22 : decode b_M_findCriticals 22 = .ok (.iload_n 1, 1) := by decide +kernel
theorem d_M_findCriticals_23 : decode b_M_findCriticals 23 = .ok (.imul, 1) := by decide +kernel
theorem d_M_findCriticals_24 : decode b_M_findCriticals 24 = .ok (.iconst 3, 1) := by decide +kernel
theorem d_M_findCriticals_25 : decode b_M_findCriticals 25 = .ok (.iadd, 1) := by decide +kernel
theorem d_M_findCriticals_26 : decode b_M_findCriticals 26 = .ok (.iaload, 1) := by decide +kernel
theorem d_M_findCriticals_27 : decode b_M_findCriticals 27 = .ok (.i2l, 1) := by decide +kernel
theorem d_M_findCriticals_28 : decode b_M_findCriticals 28 = .ok (.aload_n 0, 1) := by decide +kernel
theorem d_M_findCriticals_29 : decode b_M_findCriticals 29 = .ok (.getfield 20, 3) := by decide +kernel
theorem d_M_findCriticals_32 : decode b_M_findCriticals 32 = .ok (.iconst 4, 1) := by decide +kernel
theorem d_M_findCriticals_33 : decode b_M_findCriticals 33 = .ok (.iload_n 1, 1) := by decide +kernel
theorem d_M_findCriticals_34 : decode b_M_findCriticals 34 = .ok (.imul, 1) := by decide +kernel
theorem d_M_findCriticals_35 : decode b_M_findCriticals 35 = .ok (.iconst 2, 1) := by decide +kernel
theorem d_M_findCriticals_36 : decode b_M_findCriticals 36 = .ok (.iadd, 1) := by decide +kernel
theorem d_M_findCriticals_37 : decode b_M_findCriticals 37 = .ok (.iaload, 1) := by decide +kernel
theorem d_M_findCriticals_38 : decode b_M_findCriticals 38 = .ok (.i2l, 1) := by decide +kernel
theorem d_M_findCriticals_39 : decode b_M_findCriticals 39 = .ok (.invokevirtual 149, 3) := by decide +kernel
theorem d_M_findCriticals_42 : decode b_M_findCriticals 42 = .ok (.aload_n 0, 1) := by decide +kernel
theorem d_M_findCriticals_43 : decode b_M_findCriticals 43 = .ok (.lconst 0, 1) := by decide +kernel
theorem d_M_findCriticals_44 : decode b_M_findCriticals 44 = .ok (.aload_n 0, 1) := by decide +kernel
theorem d_M_findCriticals_45 : decode b_M_findCriticals 45 = .ok (.getfield 20, 3) := by decide +kernel
theorem d_M_findCriticals_48 : decode b_M_findCriticals 48 = .ok (.iconst 4, 1) := by decide +kernel
theorem d_M_findCriticals_49 : decode b_M_findCriticals 49 = .ok (.iload_n 1, 1) := by decide +kernel
theorem d_M_findCriticals_50 : decode b_M_findCriticals 50 = .ok (.imul, 1) := by decide +kernel
theorem d_M_findCriticals_51 : decode b_M_findCriticals 51 = .ok (.iconst 1, 1) := by decide +kernel
theorem d_M_findCriticals_52 : decode b_M_findCriticals 52 = .ok (.iadd, 1) := by decide +kernel
theorem d_M_findCriticals_53 : decode b_M_findCriticals 53 = .ok (.iaload, 1) := by decide +kernel
theorem d_M_findCriticals_54 : decode b_M_findCriticals 54 = .ok (.i2l, 1) := by decide +kernel
theorem d_M_findCriticals_55 : decode b_M_findCriticals 55 = .ok (.aload_n 0, 1) := by decide +kernel
theorem d_M_findCriticals_56 : decode b_M_findCriticals 56 = .ok (.getfield 20, 3) := by decide +kernel
theorem d_M_findCriticals_59 : decode b_M_findCriticals 59 = .ok (.iconst 4, 1) := by decide +kernel
theorem d_M_findCriticals_60 : decode b_M_findCriticals 60 = .ok (.iload_n 1, 1) := by decide +kernel
theorem d_M_findCriticals_61 : decode b_M_findCriticals 61 = .ok (.imul, 1) := by decide +kernel
theorem d_M_findCriticals_62 : decode b_M_findCriticals 62 = .ok (.iaload, 1) := by decide +kernel
theorem d_M_findCriticals_63 : decode b_M_findCriticals 63 = .ok (.i2l, 1) := by decide +kernel
theorem d_M_findCriticals_64 : decode b_M_findCriticals 64 = .ok (.invokevirtual 149, 3) := by decide +kernel
theorem d_M_findCriticals_67 : decode b_M_findCriticals 67 = .ok (.iconst 0, 1) := by decide +kernel
theorem d_M_findCriticals_68 : decode b_M_findCriticals 68 = .ok (.istore_n 2, 1) := by decide +kernel
theorem d_M_findCriticals_69 : decode b_M_findCriticals 69 = .ok (.iload_n 2, 1) := by decide +kernel
theorem d_M_findCriticals_70 : decode b_M_findCriticals 70 = .ok (.iload_n 1, 1) := by decide +kernel
theorem d_M_findCriticals_71 : decode b_M_findCriticals 71 = .ok (.if_icmp .ge 34, 3) := by decide +kernel
theorem d_M_findCriticals_74 : decode b_M_findCriticals 74 = .ok (.aload_n 0, 1) := by decide +kernel
theorem d_M_findCriticals_75 : decode b_M_findCriticals 75 = .ok (.aload_n 0, 1) := by decide +kernel
theorem d_M_findCriticals_76 : decode b_M_findCriticals 76 = .ok (.iload_n 1, 1) := by decide +kernel
theorem d_M_findCriticals_77 : decode b_M_findCriticals 77 = .ok (.iload_n 2, 1) := by decide +kernel
theorem d_M_findCriticals_78 : decode b_M_findCriticals 78 = .ok (.iconst 2, 1) := by decide +kernel
theorem d_M_findCriticals_79 : decode b_M_findCriticals 79 = .ok (.invokevirtual 153, 3) := by decide +kernel
theorem d_M_findCriticals_82 : decode b_M_findCriticals 82 = .ok (.aload_n 0, 1) := by decide +kernel
theorem d_M_findCriticals_83 : decode b_M_findCriticals 83 = .ok (.iload_n 1, 1) := by decide +kernel
theorem d_M_findCriticals_84 : decode b_M_findCriticals 84 = .ok (.iload_n 2, 1) := by decide +kernel
theorem d_M_findCriticals_85 : decode b_M_findCriticals 85 = .ok (.iconst 1, 1) := by decide +kernel
theorem d_M_findCriticals_86 : decode b_M_findCriticals 86 = .ok (.invokevirtual 153, 3) := by decide +kernel
theorem d_M_findCriticals_89 : decode b_M_findCriticals 89 = .ok (.aload_n 0, 1) := by decide +kernel
theorem d_M_findCriticals_90 : decode b_M_findCriticals 90 = .ok (.iload_n 1, 1) := by decide +kernel
theorem d_M_findCriticals_91 : decode b_M_findCriticals 91 = .ok (.iload_n 2, 1) := by decide +kernel
theorem d_M_findCriticals_92 : decode b_M_findCriticals 92 = .ok (.iconst 0, 1) := by decide +kernel
theorem d_M_findCriticals_93 : decode b_M_findCriticals 93 = .ok (.invokevirtual 153, 3) := by decide +kernel
theorem d_M_findCriticals_96 : decode b_M_findCriticals 96 = .ok (.invokevirtual 149, 3) := by decide +kernel
theorem d_M_findCriticals_99 : decode b_M_findCriticals 99 = .ok (.iinc 2 1, 3) := by decide +kernel
theorem d_M_findCriticals_102 : decode b_M_findCriticals 102 = .ok (.goto (-33), 3) := by decide +kernel
theorem d_M_findCriticals_105 : decode b_M_findCriticals 105 = .ok (.iinc 1 1, 3) := by decide +kernel
theorem d_M_findCriticals_108 : decode b_M_findCriticals 108 = .ok (.goto (-101), 3) := by decide +kernel
theorem d_M_findCriticals_111 : decode b_M_findCriticals 111 = .ok (.return_, 1) := by decide +kernel
theorem d_M_compareY_0 : decode b_M_compareY 0 = .ok (.aload_n 0, 1) := by decide +kernel
theorem d_M_compareY_1 : decode b_M_compareY 1 = .ok (.iload_n 1, 1) := by decide +kernel
theorem d_M_compareY_2 : decode b_M_compareY 2 = .ok (.aload_n 0, 1) := by decide +kernel
theorem d_M_compareY_3 : decode b_M_compareY 3 = .ok (.iload_n 2, 1) := by decide +kernel
theorem d_M_compareY_4 : decode b_M_compareY 4 = .ok (.iload_n 3, 1) := by decide +kernel
theorem d_M_compareY_5 : decode b_M_compareY 5 = .ok (.iconst 2, 1) := by decide +kernel
theorem d_M_compareY_6 : decode b_M_compareY 6 = .ok (.invokevirtual 153, 3) := by decide +kernel
theorem d_M_compareY_9 : decode b_M_compareY 9 = .ok (.aload_n 0, 1) := by decide +kernel
theorem d_M_compareY_10 : decode b_M_compareY 10 = .ok (.iload_n 2, 1) := by decide +kernel
