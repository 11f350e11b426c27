theorem d_M_readSum_143 : decode b_M_readSum 143 = .ok (.invokevirtual 79, 3) := by decide +kernel
theorem d_M_readSum_146 : decode b_M_readSum 146 = .ok (.bipush 120, 2) := by decide +kernel
theorem d_M_readSum_148 : decode b_M_readSum 148 = .ok (.if_icmp .ne 20, 3) := by decide +kernel
theorem d_M_readSum_151 : decode b_M_readSum 151 = .ok (.aload_n 0, 1) := by decide +kernel
theorem d_M_readSum_152 : decode b_M_readSum 152 = .ok (.iload 4, 2) := by decide +kernel
theorem d_M_readSum_154 : decode b_M_readSum 154 = .ok (.iconst 1, 1) := by decide +kernel
theorem d_M_readSum_155 : decode b_M_readSum 155 = .ok (.iadd, 1) := by decide +kernel
theorem d_M_readSum_156 : decode b_M_readSum 156 = .ok (.invokevirtual 79, 3) := by decide +kernel
theorem d_M_readSum_159 : decode b_M_readSum 159 = .ok (.bipush 121, 2) := by decide +kernel
theorem d_M_readSum_161 : decode b_M_readSum 161 = .ok (.if_icmp .ne 7, 3) := by decide +kernel
theorem d_M_readSum_164 : decode b_M_readSum 164 = .ok (.iconst 1, 1) := by decide +kernel
theorem d_M_readSum_165 : decode b_M_readSum 165 = .ok (.goto 4, 3) := by decide +kernel
theorem d_M_readSum_168 : decode b_M_readSum 168 = .ok (.iconst 0, 1) := by decide +kernel
theorem d_M_readSum_169 : decode b_M_readSum 169 = .ok (.istore 9, 2) := by decide +kernel
theorem d_M_readSum_171 : decode b_M_readSum 171 = .ok (.iload 8, 2) := by decide +kernel
theorem d_M_readSum_173 : decode b_M_readSum 173 = .ok (.ifCond .eq 15, 3) := by decide +kernel
theorem d_M_readSum_176 : decode b_M_readSum 176 = .ok (.iload 9, 2) := by decide +kernel
theorem d_M_readSum_178 : decode b_M_readSum 178 = .ok (.ifCond .eq 10, 3) := by decide +kernel
theorem d_M_readSum_181 : decode b_M_readSum 181 = .ok (.iload 4, 2) := by decide +kernel
theorem d_M_readSum_183 : decode b_M_readSum 183 = .ok (.iconst 2, 1) := by decide +kernel
theorem d_M_readSum_184 : decode b_M_readSum 184 = .ok (.iadd, 1) := by decide +kernel
theorem d_M_readSum_185 : decode b_M_readSum 185 = .ok (.goto 22, 3) := by decide +kernel
theorem d_M_readSum_188 : decode b_M_readSum 188 = .ok (.iload 8, 2) := by decide +kernel
theorem d_M_readSum_190 : decode b_M_readSum 190 = .ok (.ifCond .ne 8, 3) := by decide +kernel
theorem d_M_readSum_193 : decode b_M_readSum 193 = .ok (.iload 9, 2) := by decide +kernel
theorem d_M_readSum_195 : decode b_M_readSum 195 = .ok (.ifCond .eq 10, 3) := by decide +kernel
theorem d_M_readSum_198 : decode b_M_readSum 198 = .ok (.iload 4, 2) := by decide +kernel
theorem d_M_readSum_200 : decode b_M_readSum 200 = .ok (.iconst 1, 1) := by decide +kernel
theorem d_M_readSum_201 : decode b_M_readSum 201 = .ok (.iadd, 1) := by decide +kernel
theorem d_M_readSum_202 : decode b_M_readSum 202 = .ok (.goto 5, 3) := by decide +kernel
theorem d_M_readSum_205 : decode b_M_readSum 205 = .ok (.iload 4, 2) := by decide +kernel
theorem d_M_readSum_207 : decode b_M_readSum 207 = .ok (.istore 4, 2) := by decide +kernel
theorem d_M_readSum_209 : decode b_M_readSum 209 = .ok (.iconst 4, 1) := by decide +kernel
theorem d_M_readSum_210 : decode b_M_readSum 210 = .ok (.iload_n 2, 1) := by decide +kernel
theorem d_M_readSum_211 : decode b_M_readSum 211 = .ok (.imul, 1) := by decide +kernel
theorem d_M_readSum_212 : decode b_M_readSum 212 = .ok (.iload 8, 2) := by decide +kernel
theorem d_M_readSum_214 : decode b_M_readSum 214 = .ok (.ifCond .eq 7, 3) := by decide +kernel
theorem d_M_readSum_217 : decode b_M_readSum 217 = .ok (.iconst 1, 1) := by decide +kernel
theorem d_M_readSum_218 : decode b_M_readSum 218 = .ok (.goto 4, 3) := by decide +kernel
theorem d_M_readSum_221 : decode b_M_readSum 221 = .ok (.iconst 0, 1) := by decide +kernel
theorem d_M_readSum_222 : decode b_M_readSum 222 = .ok (.iadd, 1) := by decide +kernel
theorem d_M_readSum_223 : decode b_M_readSum 223 = .ok (.iload 9, 2) := by decide +kernel
theorem d_M_readSum_225 : decode b_M_readSum 225 = .ok (.ifCond .eq 7, 3) := by decide +kernel
theorem d_M_readSum_228 : decode b_M_readSum 228 = .ok (.iconst 2, 1) := by decide +kernel
theorem d_M_readSum_229 : decode b_M_readSum 229 = .ok (.goto 4, 3) := by decide +kernel
theorem d_M_readSum_232 : decode b_M_readSum 232 = .ok (.iconst 0, 1) := by decide +kernel
theorem d_M_readSum_233 : decode b_M_readSum 233 = .ok (.iadd, 1) := by decide +kernel
theorem d_M_readSum_234 : decode b_M_readSum 234 = .ok (.istore 10, 2) := by decide +kernel
theorem d_M_readSum_236 : decode b_M_readSum 236 = .ok (.aload_n 0, 1) := by decide +kernel
theorem d_M_readSum_237 : decode b_M_readSum 237 = .ok (.getfield 20, 3) := by decide +kernel
theorem d_M_readSum_240 : decode b_M_readSum 240 = .ok (.iload 10, 2) := by decide +kernel
theorem d_M_readSum_242 : decode b_M_readSum 242 = .ok (.aload_n 0, 1) := by decide +kernel
theorem d_M_readSum_243 : decode b_M_readSum 243 = .ok (.getfield 20, 3) := by decide +kernel
theorem d_M_readSum_246 : decode b_M_readSum 246 = .ok (.iload 10, 2) := by decide +kernel
theorem d_M_readSum_248 : decode b_M_readSum 248 = .ok (.iaload, 1) := by decide +kernel
theorem d_M_readSum_249 : decode b_M_readSum 249 = .ok (.iload 5, 2) := by decide +kernel
theorem d_M_readSum_251 : decode b_M_readSum 251 = .ok (.iload 7, 2) := by decide +kernel
theorem d_M_readSum_253 : decode b_M_readSum 253 = .ok (.imul, 1) := by decide +kernel
theorem d_M_readSum_254 : decode b_M_readSum 254 = .ok (.iadd, 1) := by decide +kernel
theorem d_M_readSum_255 : decode b_M_readSum 255 = .ok (.iastore, 1) := by decide +kernel
theorem d_M_readSum_256 : decode b_M_readSum 256 = .ok (.aload_n 0, 1) := by decide +kernel
theorem d_M_readSum_257 : decode b_M_readSum 257 = .ok (.iload 4, 2) := by decide +kernel
theorem d_M_readSum_259 : decode b_M_readSum 259 = .ok (.invokevirtual 79, 3) := by decide +kernel
theorem d_M_readSum_262 : decode b_M_readSum 262 = .ok (.bipush 43, 2) := by decide +kernel
theorem d_M_readSum_264 : decode b_M_readSum 264 = .ok (.if_icmp .eq 14, 3) := by decide +kernel
theorem d_M_readSum_267 : decode b_M_readSum 267 = .ok (.aload_n 0, 1) := by decide +kernel
theorem d_M_readSum_268 : decode b_M_readSum 268 = .ok (.iload 4, 2) := by decide +kernel
theorem d_M_readSum_270 : decode b_M_readSum 270 = .ok (.invokevirtual 79, 3) := by decide +kernel
theorem d_M_readSum_273 : decode b_M_readSum 273 = .ok (.bipush 45, 2) := by decide +kernel
theorem d_M_readSum_275 : decode b_M_readSum 275 = .ok (.if_icmp .ne 7, 3) := by decide +kernel
theorem d_M_readSum_278 : decode b_M_readSum 278 = .ok (.iconst 1, 1) := by decide +kernel
theorem d_M_readSum_279 : decode b_M_readSum 279 = .ok (.goto 4, 3) := by decide +kernel
theorem d_M_readSum_282 : decode b_M_readSum 282 = .ok (.iconst 0, 1) := by decide +kernel
theorem d_M_readSum_283 : decode b_M_readSum 283 = .ok (.istore 6, 2) := by decide +kernel
theorem d_M_readSum_285 : decode b_M_readSum 285 = .ok (.goto (-276), 3) := by decide +kernel
theorem d_M_readSum_288 : decode b_M_readSum 288 = .ok (.iload 4, 2) := by decide +kernel
theorem d_M_readSum_290 : decode b_M_readSum 290 = .ok (.ireturn, 1) := by decide +kernel
theorem d_M_give_0 : decode b_M_give 0 = .ok (.aload_n 0, 1) := by decide +kernel
theorem d_M_give_1 : decode b_M_give 1 = .ok (.getfield 23, 3) := by decide +kernel
theorem d_M_give_4 : decode b_M_give 4 = .ok (.aload_n 0, 1) := by decide +kernel
theorem d_M_give_5 : decode b_M_give 5 = .ok (.getfield 93, 3) := by decide +kernel
theorem d_M_give_8 : decode b_M_give 8 = .ok (.iload_n 1, 1) := by decide +kernel
theorem d_M_give_9 : decode b_M_give 9 = .ok (.iastore, 1) := by decide +kernel
theorem d_M_give_10 : decode b_M_give 10 = .ok (.aload_n 0, 1) := by decide +kernel
theorem d_M_give_11 : decode b_M_give 11 = .ok (.dup, 1) := by decide +kernel
theorem d_M_give_12 : decode b_M_give 12 = .ok (.getfield 93, 3) := by decide +kernel
theorem d_M_give_15 : decode b_M_give 15 = .ok (.iconst 1, 1) := by decide +kernel
theorem d_M_give_16 : decode b_M_give 16 = .ok (.iadd, 1) := by decide +kernel
theorem d_M_give_17 : decode b_M_give 17 = .ok (.putfield 93, 3) := by decide +kernel
theorem d_M_give_20 : decode b_M_give 20 = .ok (.return_, 1) := by decide +kernel
theorem d_M_giveAll_0 : decode b_M_giveAll 0 = .ok (.aload_n 0, 1) := by decide +kernel
theorem d_M_giveAll_1 : decode b_M_giveAll 1 = .ok (.getfield 96, 3) := by decide +kernel
theorem d_M_giveAll_4 : decode b_M_giveAll 4 = .ok (.ifCond .le 73, 3) := by decide +kernel
theorem d_M_giveAll_7 : decode b_M_giveAll 7 = .ok (.aload_n 0, 1) := by decide +kernel
theorem d_M_giveAll_8 : decode b_M_giveAll 8 = .ok (.getfield 26, 3) := by decide +kernel
theorem d_M_giveAll_11 : decode b_M_giveAll 11 = .ok (.aload_n 0, 1) := by decide +kernel
theorem d_M_giveAll_12 : decode b_M_giveAll 12 = .ok (.getfield 96, 3) := by decide +kernel
theorem d_M_giveAll_15 : decode b_M_giveAll 15 = .ok (.iconst 1, 1) := by decide +kernel
theorem d_M_giveAll_16 : decode b_M_giveAll 16 = .ok (.isub, 1) := by decide +kernel
theorem d_M_giveAll_17 : decode b_M_giveAll 17 = .ok (.iaload, 1) := by decide +kernel
theorem d_M_giveAll_18 : decode b_M_giveAll 18 = .ok (.iload_n 1, 1) := by decide +kernel
theorem d_M_giveAll_19 : decode b_M_giveAll 19 = .ok (.if_icmp .lt 58, 3) := by decide +kernel
theorem d_M_giveAll_22 : decode b_M_giveAll 22 = .ok (.aload_n 0, 1) := by decide +kernel
theorem d_M_giveAll_23 : decode b_M_giveAll 23 = .ok (.dup, 1) := by decide +kernel
theorem d_M_giveAll_24 : decode b_M_giveAll 24 = .ok (.getfield 96, 3) := by decide +kernel
theorem d_M_giveAll_27 : decode b_M_giveAll 27 = .ok (.iconst 1, 1) := by decide +kernel
theorem d_M_giveAll_28 : decode b_M_giveAll 28 = .ok (.isub, 1) := by decide +kernel
theorem d_M_giveAll_29 : decode b_M_giveAll 29 = .ok (.putfield 96, 3) := by decide +kernel
theorem d_M_giveAll_32 : decode b_M_giveAll 32 = .ok (.aload_n 0, 1) := by decide +kernel
theorem d_M_giveAll_33 : decode b_M_giveAll 33 = .ok (.aload_n 0, 1) := by decide +kernel
theorem d_M_giveAll_34 : decode b_M_giveAll 34 = .ok (.getfield 26, 3) := by decide +kernel
theorem d_M_giveAll_37 : decode b_M_giveAll 37 = .ok (.aload_n 0, 1) := by decide +kernel
theorem d_M_giveAll_38 : decode b_M_giveAll 38 = .ok (.getfield 96, 3) := by decide +kernel
theorem d_M_giveAll_41 : decode b_M_giveAll 41 = .ok (.iaload, 1) := by decide +kernel
theorem d_M_giveAll_42 : decode b_M_giveAll 42 = .ok (.iconst 3, 1) := by decide +kernel
theorem d_M_giveAll_43 : decode b_M_giveAll 43 = .ok (.if_icmp .ne 8, 3) := by decide +kernel
theorem d_M_giveAll_46 : decode b_M_giveAll 46 = .ok (.bipush 12, 2) := by decide +kernel
theorem d_M_giveAll_48 : decode b_M_giveAll 48 = .ok (.goto 23, 3) := by decide +kernel
theorem d_M_giveAll_51 : decode b_M_giveAll 51 = .ok (.aload_n 0, 1) := by decide +kernel
theorem d_M_giveAll_52 : decode b_M_giveAll 52 = .ok (.getfield 26, 3) := by decide +kernel
theorem d_M_giveAll_55 : decode b_M_giveAll 55 = .ok (.aload_n 0, 1) := by decide +kernel
theorem d_M_giveAll_56 : decode b_M_giveAll 56 = .ok (.getfield 96, 3) := by decide +kernel
theorem d_M_giveAll_59 : decode b_M_giveAll 59 = .ok (.iaload, 1) := by decide +kernel
theorem d_M_giveAll_60 : decode b_M_giveAll 60 = .ok (.iconst 2, 1) := by decide +kernel
theorem d_M_giveAll_61 : decode b_M_giveAll 61 = .ok (.if_icmp .ne 8, 3) := by decide +kernel
theorem d_M_giveAll_64 : decode b_M_giveAll 64 = .ok (.bipush 10, 2) := by decide +kernel
theorem d_M_giveAll_66 : decode b_M_giveAll 66 = .ok (.goto 5, 3) := by decide +kernel
theorem d_M_giveAll_69 : decode b_M_giveAll 69 = .ok (.bipush 11, 2) := by decide +kernel
theorem d_M_giveAll_71 : decode b_M_giveAll 71 = .ok (.invokevirtual 99, 3) := by decide +kernel
theorem d_M_giveAll_74 : decode b_M_giveAll 74 = .ok (.goto (-74), 3) := by decide +kernel
theorem d_M_giveAll_77 : decode b_M_giveAll 77 = .ok (.return_, 1) := by decide +kernel
theorem d_M_wait0_0 : decode b_M_wait0 0 = .ok (.aload_n 0, 1) := by decide +kernel
theorem d_M_wait0_1 : decode b_M_wait0 1 = .ok (.getfield 26, 3) := by decide +kernel
theorem d_M_wait0_4 : decode b_M_wait0 4 = .ok (.aload_n 0, 1) := by decide +kernel
theorem d_M_wait0_5 : decode b_M_wait0 5 = .ok (.getfield 96, 3) := by decide +kernel
theorem d_M_wait0_8 : decode b_M_wait0 8 = .ok (.iload_n 1, 1) := by decide +kernel
theorem d_M_wait0_9 : decode b_M_wait0 9 = .ok (.iastore, 1) := by decide +kernel
theorem d_M_wait0_10 : decode b_M_wait0 10 = .ok (.aload_n 0, 1) := by decide +kernel
theorem d_M_wait0_11 : decode b_M_wait0 11 = .ok (.dup, 1) := by decide +kernel
theorem d_M_wait0_12 : decode b_M_wait0 12 = .ok (.getfield 96, 3) := by decide +kernel
theorem d_M_wait0_15 : decode b_M_wait0 15 = .ok (.iconst 1, 1) := by decide +kernel
theorem d_M_wait0_16 : decode b_M_wait0 16 = .ok (.iadd, 1) := by decide +kernel
theorem d_M_wait0_17 : decode b_M_wait0 17 = .ok (.putfield 96, 3) := by decide +kernel
theorem d_M_wait0_20 : decode b_M_wait0 20 = .ok (.return_, 1) := by decide +kernel
theorem d_M_readFormula_0 : decode b_M_readFormula 0 = .ok (.aload_n 0, 1) := by decide +kernel
theorem d_M_readFormula_1 : decode b_M_readFormula 1 = .ok (.iconst 0, 1) := by decide +kernel
theorem d_M_readFormula_2 : decode b_M_readFormula 2 = .ok (.putfield 103, 3) := by decide +kernel
theorem d_M_readFormula_5 : decode b_M_readFormula 5 = .ok (.aload_n 0, 1) := by decide +kernel
theorem d_M_readFormula_6 : decode b_M_readFormula 6 = .ok (.iconst 0, 1) := by decide +kernel
theorem d_M_readFormula_7 : decode b_M_readFormula 7 = .ok (.putfield 93, 3) := by decide +kernel
theorem d_M_readFormula_10 : decode b_M_readFormula 10 = .ok (.aload_n 0, 1) := by decide +kernel
theorem d_M_readFormula_11 : decode b_M_readFormula 11 = .ok (.iconst 0, 1) := by decide +kernel
theorem d_M_readFormula_12 : decode b_M_readFormula 12 = .ok (.putfield 96, 3) := by decide +kernel
theorem d_M_readFormula_15 : decode b_M_readFormula 15 = .ok (.iconst 0, 1) := by decide +kernel
theorem d_M_readFormula_16 : decode b_M_readFormula 16 = .ok (.istore_n 1, 1) := by decide +kernel
theorem d_M_readFormula_17 : decode b_M_readFormula 17 = .ok (.iload_n 1, 1) := by decide +kernel
theorem d_M_readFormula_18 : decode b_M_readFormula 18 = .ok (.bipush 32, 2) := by decide +kernel
theorem d_M_readFormula_20 : decode b_M_readFormula 20 = .ok (.if_icmp .ge 16, 3) := by decide +kernel
theorem d_M_readFormula_23 : decode b_M_readFormula 23 = .ok (.aload_n 0, 1) := by decide +kernel
theorem d_M_readFormula_24 : decode b_M_readFormula 24 = .ok (.getfield 20, 3) := by decide +kernel
theorem d_M_readFormula_27 : decode b_M_readFormula 27 = .ok (.iload_n 1, 1) := by decide +kernel
theorem d_M_readFormula_28 : decode b_M_readFormula 28 = .ok (.iconst 0, 1) := by decide +kernel
theorem d_M_readFormula_29 : decode b_M_readFormula 29 = .ok (.iastore, 1) := by decide +kernel
theorem d_M_readFormula_30 : decode b_M_readFormula 30 = .ok (.iinc 1 1, 3) := by decide +kernel
theorem d_M_readFormula_33 : decode b_M_readFormula 33 = .ok (.goto (-16), 3) := by decide +kernel
theorem d_M_readFormula_36 : decode b_M_readFormula 36 = .ok (.iconst 5, 1) := by decide +kernel
theorem d_M_readFormula_37 : decode b_M_readFormula 37 = .ok (.istore_n 1, 1) := by decide +kernel
theorem d_M_readFormula_38 : decode b_M_readFormula 38 = .ok (.iload_n 1, 1) := by decide +kernel
theorem d_M_readFormula_39 : decode b_M_readFormula 39 = .ok (.aload_n 0, 1) := by decide +kernel
theorem d_M_readFormula_40 : decode b_M_readFormula 40 = .ok (.getfield 61, 3) := by decide +kernel
theorem d_M_readFormula_43 : decode b_M_readFormula 43 = .ok (.if_icmp .ge 170, 3) := by decide +kernel
theorem d_M_readFormula_46 : decode b_M_readFormula 46 = .ok (.aload_n 0, 1) := by decide +kernel
theorem d_M_readFormula_47 : decode b_M_readFormula 47 = .ok (.iload_n 1, 1) := by decide +kernel
theorem d_M_readFormula_48 : decode b_M_readFormula 48 = .ok (.invokevirtual 79, 3) := by decide +kernel
theorem d_M_readFormula_51 : decode b_M_readFormula 51 = .ok (.istore_n 2, 1) := by decide +kernel
theorem d_M_readFormula_52 : decode b_M_readFormula 52 = .ok (.iload_n 2, 1) := by decide +kernel
theorem d_M_readFormula_53 : decode b_M_readFormula 53 = .ok (.bipush 126, 2) := by decide +kernel
theorem d_M_readFormula_55 : decode b_M_readFormula 55 = .ok (.if_icmp .ne 11, 3) := by decide +kernel
theorem d_M_readFormula_58 : decode b_M_readFormula 58 = .ok (.aload_n 0, 1) := by decide +kernel
theorem d_M_readFormula_59 : decode b_M_readFormula 59 = .ok (.iconst 3, 1) := by decide +kernel
theorem d_M_readFormula_60 : decode b_M_readFormula 60 = .ok (.invokevirtual 106, 3) := by decide +kernel
theorem d_M_readFormula_63 : decode b_M_readFormula 63 = .ok (.goto 144, 3) := by decide +kernel
theorem d_M_readFormula_66 : decode b_M_readFormula 66 = .ok (.iload_n 2, 1) := by decide +kernel
theorem d_M_readFormula_67 : decode b_M_readFormula 67 = .ok (.bipush 40, 2) := by decide +kernel
theorem d_M_readFormula_69 : decode b_M_readFormula 69 = .ok (.if_icmp .ne 11, 3) := by decide +kernel
theorem d_M_readFormula_72 : decode b_M_readFormula 72 = .ok (.aload_n 0, 1) := by decide +kernel
theorem d_M_readFormula_73 : decode b_M_readFormula 73 = .ok (.iconst 0, 1) := by decide +kernel
theorem d_M_readFormula_74 : decode b_M_readFormula 74 = .ok (.invokevirtual 106, 3) := by decide +kernel
theorem d_M_readFormula_77 : decode b_M_readFormula 77 = .ok (.goto 130, 3) := by decide +kernel
theorem d_M_readFormula_80 : decode b_M_readFormula 80 = .ok (.iload_n 2, 1) := by decide +kernel
theorem d_M_readFormula_81 : decode b_M_readFormula 81 = .ok (.bipush 41, 2) := by decide +kernel
theorem d_M_readFormula_83 : decode b_M_readFormula 83 = .ok (.if_icmp .ne 21, 3) := by decide +kernel
theorem d_M_readFormula_86 : decode b_M_readFormula 86 = .ok (.aload_n 0, 1) := by decide +kernel
theorem d_M_readFormula_87 : decode b_M_readFormula 87 = .ok (.iconst 1, 1) := by decide +kernel
theorem d_M_readFormula_88 : decode b_M_readFormula 88 = .ok (.invokevirtual 109, 3) := by decide +kernel
theorem d_M_readFormula_91 : decode b_M_readFormula 91 = .ok (.aload_n 0, 1) := by decide +kernel
theorem d_M_readFormula_92 : decode b_M_readFormula 92 = .ok (.dup, 1) := by decide +kernel
theorem d_M_readFormula_93 : decode b_M_readFormula 93 = .ok (.getfield 96, 3) := by decide +kernel
theorem d_M_readFormula_96 : decode b_M_readFormula 96 = .ok (.iconst 1, 1) := by decide +kernel
theorem d_M_readFormula_97 : decode b_M_readFormula 97 = .ok (.isub, 1) := by decide +kernel
theorem d_M_readFormula_98 : decode b_M_readFormula 98 = .ok (.putfield 96, 3) := by decide +kernel
theorem d_M_readFormula_101 : decode b_M_readFormula 101 = .ok (.goto 106, 3) := by decide +kernel
theorem d_M_readFormula_104 : decode b_M_readFormula 104 = .ok (.iload_n 2, 1) := by decide +kernel
theorem d_M_readFormula_105 : decode b_M_readFormula 105 = .ok (.bipush 38, 2) := by decide +kernel
theorem d_M_readFormula_107 : decode b_M_readFormula 107 = .ok (.if_icmp .eq 9, 3) := by decide +kernel
theorem d_M_readFormula_110 : decode b_M_readFormula 110 = .ok (.iload_n 2, 1) := by decide +kernel
theorem d_M_readFormula_111 : decode b_M_readFormula 111 = .ok (.bipush 124, 2) := by decide +kernel
theorem d_M_readFormula_113 : decode b_M_readFormula 113 = .ok (.if_icmp .ne 36, 3) := by decide +kernel
theorem d_M_readFormula_116 : decode b_M_readFormula 116 = .ok (.aload_n 0, 1) := by decide +kernel
theorem d_M_readFormula_117 : decode b_M_readFormula 117 = .ok (.iload_n 2, 1) := by decide +kernel
theorem d_M_readFormula_118 : decode b_M_readFormula 118 = .ok (.bipush 38, 2) := by decide +kernel
theorem d_M_readFormula_120 : decode b_M_readFormula 120 = .ok (.if_icmp .ne 7, 3) := by decide +kernel
theorem d_M_readFormula_123 : decode b_M_readFormula 123 = .ok (.iconst 2, 1) := by decide +kernel
theorem d_M_readFormula_124 : decode b_M_readFormula 124 = .ok (.goto 4, 3) := by decide +kernel
theorem d_M_readFormula_127 : decode b_M_readFormula 127 = .ok (.iconst 1, 1) := by decide +kernel
theorem d_M_readFormula_128 : decode b_M_readFormula 128 = .ok (.invokevirtual 109, 3) := by decide +kernel
theorem d_M_readFormula_131 : decode b_M_readFormula 131 = .ok (.aload_n 0, 1) := by decide +kernel
theorem d_M_readFormula_132 : decode b_M_readFormula 132 = .ok (.iload_n 2, 1) := by decide +kernel
theorem d_M_readFormula_133 : decode b_M_readFormula 133 = .ok (.bipush 38, 2) := by decide +kernel
theorem d_M_readFormula_135 : decode b_M_readFormula 135 = .ok (.if_icmp .ne 7, 3) := by decide +kernel
theorem d_M_readFormula_138 : decode b_M_readFormula 138 = .ok (.iconst 2, 1) := by decide +kernel
theorem d_M_readFormula_139 : decode b_M_readFormula 139 = .ok (.goto 4, 3) := by decide +kernel
theorem d_M_readFormula_142 : decode b_M_readFormula 142 = .ok (.iconst 1, 1) := by decide +kernel
theorem d_M_readFormula_143 : decode b_M_readFormula 143 = .ok (.invokevirtual 106, 3) := by decide +kernel
theorem d_M_readFormula_146 : decode b_M_readFormula 146 = .ok (.goto 61, 3) := by decide +kernel
theorem d_M_readFormula_149 : decode b_M_readFormula 149 = .ok (.aload_n 0, 1) := by decide +kernel
theorem d_M_readFormula_150 : decode b_M_readFormula 150 = .ok (.iload_n 1, 1) := by decide +kernel
theorem d_M_readFormula_151 : decode b_M_readFormula 151 = .ok (.aload_n 0, 1) := by decide +kernel
theorem d_M_readFormula_152 : decode b_M_readFormula 152 = .ok (.getfield 103, 3) := by decide +kernel
theorem d_M_readFormula_155 : decode b_M_readFormula 155 = .ok (.iconst 1, 1) := by decide +kernel
theorem d_M_readFormula_156 : decode b_M_readFormula 156 = .ok (.invokevirtual 112, 3) := by decide +kernel
theorem d_M_readFormula_159 : decode b_M_readFormula 159 = .ok (.istore_n 1, 1) := by decide +kernel
theorem d_M_readFormula_160 : decode b_M_readFormula 160 = .ok (.aload_n 0, 1) := by decide +kernel
theorem d_M_readFormula_161 : decode b_M_readFormula 161 = .ok (.getfield 55, 3) := by decide +kernel
theorem d_M_readFormula_164 : decode b_M_readFormula 164 = .ok (.aload_n 0, 1) := by decide +kernel
theorem d_M_readFormula_165 : decode b_M_readFormula 165 = .ok (.getfield 103, 3) := by decide +kernel
theorem d_M_readFormula_168 : decode b_M_readFormula 168 = .ok (.aload_n 0, 1) := by decide +kernel
theorem d_M_readFormula_169 : decode b_M_readFormula 169 = .ok (.iload_n 1, 1) := by decide +kernel
theorem d_M_readFormula_170 : decode b_M_readFormula 170 = .ok (.invokevirtual 79, 3) := by decide +kernel
theorem d_M_readFormula_173 : decode b_M_readFormula 173 = .ok (.iastore, 1) := by decide +kernel
theorem d_M_readFormula_174 : decode b_M_readFormula 174 = .ok (.aload_n 0, 1) := by decide +kernel
theorem d_M_readFormula_175 : decode b_M_readFormula 175 = .ok (.iload_n 1, 1) := by decide +kernel
theorem d_M_readFormula_176 : decode b_M_readFormula 176 = .ok (.iconst 1, 1) := by decide +kernel
theorem d_M_readFormula_177 : decode b_M_readFormula 177 = .ok (.iadd, 1) := by decide +kernel
theorem d_M_readFormula_178 : decode b_M_readFormula 178 = .ok (.aload_n 0, 1) := by decide +kernel
theorem d_M_readFormula_179 : decode b_M_readFormula 179 = .ok (.getfield 103, 3) := by decide +kernel
theorem d_M_readFormula_182 : decode b_M_readFormula 182 = .ok (.iconst (-1), 1) := by decide +kernel
theorem d_M_readFormula_183 : decode b_M_readFormula 183 = .ok (.invokevirtual 112, 3) := by decide +kernel
theorem d_M_readFormula_186 : decode b_M_readFormula 186 = .ok (.iconst 1, 1) := by decide +kernel
theorem d_M_readFormula_187 : decode b_M_readFormula 187 = .ok (.isub, 1) := by decide +kernel
theorem d_M_readFormula_188 : decode b_M_readFormula 188 = .ok (.istore_n 1, 1) := by decide +kernel
theorem d_M_readFormula_189 : decode b_M_readFormula 189 = .ok (.aload_n 0, 1) := by decide +kernel
theorem d_M_readFormula_190 : decode b_M_readFormula 190 = .ok (.aload_n 0, 1) := by decide +kernel
theorem d_M_readFormula_191 : decode b_M_readFormula 191 = .ok (.getfield 103, 3) := by decide +kernel
theorem d_M_readFormula_194 : decode b_M_readFormula 194 = .ok (.invokevirtual 99, 3) := by decide +kernel
theorem d_M_readFormula_197 : decode b_M_readFormula 197 = .ok (.aload_n 0, 1) := by decide +kernel
theorem d_M_readFormula_198 : decode b_M_readFormula 198 = .ok (.dup, 1) := by decide +kernel
theorem d_M_readFormula_199 : decode b_M_readFormula 199 = .ok (.getfield 103, 3) := by decide +kernel
theorem d_M_readFormula_202 : decode b_M_readFormula 202 = .ok (.iconst 1, 1) := by decide +kernel
theorem d_M_readFormula_203 : decode b_M_readFormula 203 = .ok (.iadd, 1) := by decide +kernel
theorem d_M_readFormula_204 : decode b_M_readFormula 204 = .ok (.putfield 103, 3) := by decide +kernel
theorem d_M_readFormula_207 : decode b_M_readFormula 207 = .ok (.iinc 1 1, 3) := by decide +kernel
theorem d_M_readFormula_210 : decode b_M_readFormula 210 = .ok (.goto (-172), 3) := by decide +kernel
theorem d_M_readFormula_213 : decode b_M_readFormula 213 = .ok (.aload_n 0, 1) := by decide +kernel
theorem d_M_readFormula_214 : decode b_M_readFormula 214 = .ok (.iconst 1, 1) := by decide +kernel
theorem d_M_readFormula_215 : decode b_M_readFormula 215 = .ok (.invokevirtual 109, 3) := by decide +kernel
theorem d_M_readFormula_218 : decode b_M_readFormula 218 = .ok (.return_, 1) := by decide +kernel
theorem d_M_sgn_0 : decode b_M_sgn 0 = .ok (.lload_n 0, 1) := by decide +kernel
theorem d_M_sgn_1 : decode b_M_sgn 1 = .ok (.lconst 0, 1) := by decide +kernel
theorem d_M_sgn_2 : decode b_M_sgn 2 = .ok (.lcmp, 1) := by decide +kernel
theorem d_M_sgn_3 : decode b_M_sgn 3 = .ok (.ifCond .le 7, 3) := by decide +kernel
theorem d_M_sgn_6 : decode b_M_sgn 6 = .ok (.iconst 1, 1) := by decide +kernel
theorem d_M_sgn_7 : decode b_M_sgn 7 = .ok (.goto 14, 3) := by decide +kernel
theorem d_M_sgn_10 : decode b_M_sgn 10 = .ok (.lload_n 0, 1) := by decide +kernel
theorem d_M_sgn_11 : decode b_M_sgn 11 = .ok (.lconst 0, 1) := by decide +kernel
theorem d_M_sgn_12 : decode b_M_sgn 12 = .ok (.lcmp, 1) := by decide +kernel
theorem d_M_sgn_13 : decode b_M_sgn 13 = .ok (.ifCond .ge 7, 3) := by decide +kernel
theorem d_M_sgn_16 : decode b_M_sgn 16 = .ok (.iconst (-1), 1) := by decide +kernel
theorem d_M_sgn_17 : decode b_M_sgn 17 = .ok (.goto 4, 3) := by decide +kernel
theorem d_M_sgn_20 : decode b_M_sgn 20 = .ok (.iconst 0, 1) := by decide +kernel
theorem d_M_sgn_21 : decode b_M_sgn 21 = .ok (.ireturn, 1) := by decide +kernel
theorem d_M_signOf_0 : decode b_M_signOf 0 = .ok (.lload_n 0, 1) := by decide +kernel
theorem d_M_signOf_1 : decode b_M_signOf 1 = .ok (.invokestatic 115, 3) := by decide +kernel
theorem d_M_signOf_4 : decode b_M_signOf 4 = .ok (.istore 6, 2) := by decide +kernel
theorem d_M_signOf_6 : decode b_M_signOf 6 = .ok (.lload 4, 2) := by decide +kernel
theorem d_M_signOf_8 : decode b_M_signOf 8 = .ok (.lconst 0, 1) := by decide +kernel
theorem d_M_signOf_9 : decode b_M_signOf 9 = .ok (.lcmp, 1) := by decide +kernel
theorem d_M_signOf_10 : decode b_M_signOf 10 = .ok (.ifCond .ne 7, 3) := by decide +kernel
theorem d_M_signOf_13 : decode b_M_signOf 13 = .ok (.iconst 0, 1) := by decide +kernel
theorem d_M_signOf_14 : decode b_M_signOf 14 = .ok (.goto 7, 3) := by decide +kernel
theorem d_M_signOf_17 : decode b_M_signOf 17 = .ok (.lload_n 2, 1) := by decide +kernel
theorem d_M_signOf_18 : decode b_M_signOf 18 = .ok (.invokestatic 115, 3) := by decide +kernel
theorem d_M_signOf_21 : decode b_M_signOf 21 = .ok (.istore 7, 2) := by decide +kernel
theorem d_M_signOf_23 : decode b_M_signOf 23 = .ok (.iload 6, 2) := by decide +kernel
theorem d_M_signOf_25 : decode b_M_signOf 25 = .ok (.iload 7, 2) := by decide +kernel
theorem d_M_signOf_27 : decode b_M_signOf 27 = .ok (.if_icmp .eq 8, 3) := by decide +kernel
theorem d_M_signOf_30 : decode b_M_signOf 30 = .ok (.iload 7, 2) := by decide +kernel
theorem d_M_signOf_32 : decode b_M_signOf 32 = .ok (.ifCond .ne 6, 3) := by decide +kernel
theorem d_M_signOf_35 : decode b_M_signOf 35 = .ok (.iload 6, 2) := by decide +kernel
theorem d_M_signOf_37 : decode b_M_signOf 37 = .ok (.ireturn, 1) := by decide +kernel
theorem d_M_signOf_38 : decode b_M_signOf 38 = .ok (.iload 6, 2) := by decide +kernel
theorem d_M_signOf_40 : decode b_M_signOf 40 = .ok (.ifCond .ne 6, 3) := by decide +kernel
theorem d_M_signOf_43 : decode b_M_signOf 43 = .ok (.iload 7, 2) := by decide +kernel
theorem d_M_signOf_45 : decode b_M_signOf 45 = .ok (.ireturn, 1) := by decide +kernel
theorem d_M_signOf_46 : decode b_M_signOf 46 = .ok (.lload_n 0, 1) := by decide +kernel
theorem d_M_signOf_47 : decode b_M_signOf 47 = .ok (.lload_n 0, 1) := by decide +kernel
theorem d_M_signOf_48 : decode b_M_signOf 48 = .ok (.lmul, 1) := by decide +kernel
theorem d_M_signOf_49 : decode b_M_signOf 49 = .ok (.lstore 8, 2) := by decide +kernel
theorem d_M_signOf_51 : decode b_M_signOf 51 = .ok (.lload_n 2, 1) := by decide +kernel
theorem d_M_signOf_52 : decode b_M_signOf 52 = .ok (.lload_n 2, 1) := by decide +kernel
theorem d_M_signOf_53 : decode b_M_signOf 53 = .ok (.lmul, 1) := by decide +kernel
theorem d_M_signOf_54 : decode b_M_signOf 54 = .ok (.lload 4, 2) := by decide +kernel
theorem d_M_signOf_56 : decode b_M_signOf 56 = .ok (.lmul, 1) := by decide +kernel
theorem d_M_signOf_57 : decode b_M_signOf 57 = .ok (.lstore 10, 2) := by decide +kernel
theorem d_M_signOf_59 : decode b_M_signOf 59 = .ok (.lload 8, 2) := by decide +kernel
theorem d_M_signOf_61 : decode b_M_signOf 61 = .ok (.lload 10, 2) := by decide +kernel
theorem d_M_signOf_63 : decode b_M_signOf 63 = .ok (.lcmp, 1) := by decide +kernel
theorem d_M_signOf_64 : decode b_M_signOf 64 = .ok (.ifCond .le 8, 3) := by decide +kernel
theorem d_M_signOf_67 : decode b_M_signOf 67 = .ok (.iload 6, 2) := by decide +kernel
theorem d_M_signOf_69 : decode b_M_signOf 69 = .ok (.goto 17, 3) := by decide +kernel
theorem d_M_signOf_72 : decode b_M_signOf 72 = .ok (.lload 8, 2) := by decide +kernel
theorem d_M_signOf_74 : decode b_M_signOf 74 = .ok (.lload 10, 2) := by decide +kernel
theorem d_M_signOf_76 : decode b_M_signOf 76 = .ok (.lcmp, 1) := by decide +kernel
theorem d_M_signOf_77 : decode b_M_signOf 77 = .ok (.ifCond .ge 8, 3) := by decide +kernel
theorem d_M_signOf_80 : decode b_M_signOf 80 = .ok (.iload 7, 2) := by decide +kernel
theorem d_M_signOf_82 : decode b_M_signOf 82 = .ok (.goto 4, 3) := by decide +kernel
theorem d_M_signOf_85 : decode b_M_signOf 85 = .ok (.iconst 0, 1) := by decide +kernel
theorem d_M_signOf_86 : decode b_M_signOf 86 = .ok (.ireturn, 1) := by decide +kernel
theorem d_M_signAt_0 : decode b_M_signAt 0 = .ok (.aload_n 0, 1) := by decide +kernel
theorem d_M_signAt_1 : decode b_M_signAt 1 = .ok (.getfield 33, 3) := by decide +kernel
theorem d_M_signAt_4 : decode b_M_signAt 4 = .ok (.iload_n 1, 1) := by decide +kernel
theorem d_M_signAt_5 : decode b_M_signAt 5 = .ok (.laload, 1) := by decide +kernel
theorem d_M_signAt_6 : decode b_M_signAt 6 = .ok (.lstore 8, 2) := by decide +kernel
theorem d_M_signAt_8 : decode b_M_signAt 8 = .ok (.aload_n 0, 1) := by decide +kernel
theorem d_M_signAt_9 : decode b_M_signAt 9 = .ok (.getfield 37, 3) := by decide +kernel
theorem d_M_signAt_12 : decode b_M_signAt 12 = .ok (.iload_n 1, 1) := by decide +kernel
theorem d_M_signAt_13 : decode b_M_signAt 13 = .ok (.laload, 1) := by decide +kernel
theorem d_M_signAt_14 : decode b_M_signAt 14 = .ok (.lstore 10, 2) := by decide +kernel
theorem d_M_signAt_16 : decode b_M_signAt 16 = .ok (.aload_n 0, 1) := by decide +kernel
theorem d_M_signAt_17 : decode b_M_signAt 17 = .ok (.getfield 40, 3) := by decide +kernel
theorem d_M_signAt_20 : decode b_M_signAt 20 = .ok (.iload_n 1, 1) := by decide +kernel
theorem d_M_signAt_21 : decode b_M_signAt 21 = .ok (.laload, 1) := by decide +kernel
theorem d_M_signAt_22 : decode b_M_signAt 22 = .ok (.lstore 12, 2) := by decide +kernel
theorem d_M_signAt_24 : decode b_M_signAt 24 = .ok (.lload 8, 2) := by decide +kernel
theorem d_M_signAt_26 : decode b_M_signAt 26 = .ok (.lconst 0, 1) := by decide +kernel
theorem d_M_signAt_27 : decode b_M_signAt 27 = .ok (.lcmp, 1) := by decide +kernel
theorem d_M_signAt_28 : decode b_M_signAt 28 = .ok (.ifCond .ne 32, 3) := by decide +kernel
theorem d_M_signAt_31 : decode b_M_signAt 31 = .ok (.lload_n 2, 1) := by decide +kernel
theorem d_M_signAt_32 : decode b_M_signAt 32 = .ok (.lload 12, 2) := by decide +kernel
theorem d_M_signAt_34 : decode b_M_signAt 34 = .ok (.lmul, 1) := by decide +kernel
theorem d_M_signAt_35 : decode b_M_signAt 35 = .ok (.lload 12, 2) := by decide +kernel
theorem d_M_signAt_37 : decode b_M_signAt 37 = .ok (.lmul, 1) := by decide +kernel
theorem d_M_signAt_38 : decode b_M_signAt 38 = .ok (.lload 4, 2) := by decide +kernel
theorem d_M_signAt_40 : decode b_M_signAt 40 = .ok (.lload 12, 2) := by decide +kernel
theorem d_M_signAt_42 : decode b_M_signAt 42 = .ok (.lmul, 1) := by decide +kernel
theorem d_M_signAt_43 : decode b_M_signAt 43 = .ok (.lload 10, 2) := by decide +kernel
theorem d_M_signAt_45 : decode b_M_signAt 45 = .ok (.lmul, 1) := by decide +kernel
theorem d_M_signAt_46 : decode b_M_signAt 46 = .ok (.lsub, 1) := by decide +kernel
theorem d_M_signAt_47 : decode b_M_signAt 47 = .ok (.lload 6, 2) := by decide +kernel
theorem d_M_signAt_49 : decode b_M_signAt 49 = .ok (.lload 10, 2) := by decide +kernel
theorem d_M_signAt_51 : decode b_M_signAt 51 = .ok (.lmul, 1) := by decide +kernel
theorem d_M_signAt_52 : decode b_M_signAt 52 = .ok (.lload 10, 2) := by decide +kernel
theorem d_M_signAt_54 : decode b_M_signAt 54 = .ok (.lmul, 1) := by decide +kernel
theorem d_M_signAt_55 : decode b_M_signAt 55 = .ok (.ladd, 1) := by decide +kernel
theorem d_M_signAt_56 : decode b_M_signAt 56 = .ok (.invokestatic 115, 3) := by decide +kernel
theorem d_M_signAt_59 : decode b_M_signAt 59 = .ok (.ireturn, 1) := by decide +kernel
theorem d_M_signAt_60 : decode b_M_signAt 60 = .ok (.lload 10, 2) := by decide +kernel
theorem d_M_signAt_62 : decode b_M_signAt 62 = .ok (.lload 10, 2) := by decide +kernel
theorem d_M_signAt_64 : decode b_M_signAt 64 = .ok (.lmul, 1) := by decide +kernel
theorem d_M_signAt_65 : decode b_M_signAt 65 = .ok (.ldc2_w 119, 3) := by decide +kernel
theorem d_M_signAt_68 : decode b_M_signAt 68 = .ok (.lload 8, 2) := by decide +kernel
theorem d_M_signAt_70 : decode b_M_signAt 70 = .ok (.lmul, 1) := by decide +kernel
theorem d_M_signAt_71 : decode b_M_signAt 71 = .ok (.lload 12, 2) := by decide +kernel
theorem d_M_signAt_73 : decode b_M_signAt 73 = .ok (.lmul, 1) := by decide +kernel
theorem d_M_signAt_74 : decode b_M_signAt 74 = .ok (.lsub, 1) := by decide +kernel
theorem d_M_signAt_75 : decode b_M_signAt 75 = .ok (.lstore 14, 2) := by decide +kernel
theorem d_M_signAt_77 : decode b_M_signAt 77 = .ok (.lload_n 2, 1) := by decide +kernel
theorem d_M_signAt_78 : decode b_M_signAt 78 = .ok (.lload 10, 2) := by decide +kernel
theorem d_M_signAt_80 : decode b_M_signAt 80 = .ok (.lload 10, 2) := by decide +kernel
theorem d_M_signAt_82 : decode b_M_signAt 82 = .ok (.lmul, 1) := by decide +kernel
theorem d_M_signAt_83 : decode b_M_signAt 83 = .ok (.lload 14, 2) := by decide +kernel
theorem d_M_signAt_85 : decode b_M_signAt 85 = .ok (.ladd, 1) := by decide +kernel
theorem d_M_signAt_86 : decode b_M_signAt 86 = .ok (.lmul, 1) := by decide +kernel
theorem d_M_signAt_87 : decode b_M_signAt 87 = .ok (.ldc2_w 121, 3) := by decide +kernel
theorem d_M_signAt_90 : decode b_M_signAt 90 = .ok (.lload 8, 2) := by decide +kernel
theorem d_M_signAt_92 : decode b_M_signAt 92 = .ok (.lmul, 1) := by decide +kernel
theorem d_M_signAt_93 : decode b_M_signAt 93 = .ok (.lload 10, 2) := by decide +kernel
theorem d_M_signAt_95 : decode b_M_signAt 95 = .ok (.lmul, 1) := by decide +kernel
theorem d_M_signAt_96 : decode b_M_signAt 96 = .ok (.lload 4, 2) := by decide +kernel
theorem d_M_signAt_98 : decode b_M_signAt 98 = .ok (.lmul, 1) := by decide +kernel
theorem d_M_signAt_99 : decode b_M_signAt 99 = .ok (.lsub, 1) := by decide +kernel
theorem d_M_signAt_100 : decode b_M_signAt 100 = .ok (.ldc2_w 119, 3) := by decide +kernel
theorem d_M_signAt_103 : decode b_M_signAt 103 = .ok (.lload 8, 2) := by decide +kernel
theorem d_M_signAt_105 : decode b_M_signAt 105 = .ok (.lmul, 1) := by decide +kernel
theorem d_M_signAt_106 : decode b_M_signAt 106 = .ok (.lload 8, 2) := by decide +kernel
theorem d_M_signAt_108 : decode b_M_signAt 108 = .ok (.lmul, 1) := by decide +kernel
theorem d_M_signAt_109 : decode b_M_signAt 109 = .ok (.lload 6, 2) := by decide +kernel
theorem d_M_signAt_111 : decode b_M_signAt 111 = .ok (.lmul, 1) := by decide +kernel
theorem d_M_signAt_112 : decode b_M_signAt 112 = .ok (.ladd, 1) := by decide +kernel
theorem d_M_signAt_113 : decode b_M_signAt 113 = .ok (.lstore 16, 2) := by decide +kernel
theorem d_M_signAt_115 : decode b_M_signAt 115 = .ok (.ldc2_w 121, 3) := by decide +kernel
theorem d_M_signAt_118 : decode b_M_signAt 118 = .ok (.lload 8, 2) := by decide +kernel
theorem d_M_signAt_120 : decode b_M_signAt 120 = .ok (.lmul, 1) := by decide +kernel
theorem d_M_signAt_121 : decode b_M_signAt 121 = .ok (.lload 4, 2) := by decide +kernel
theorem d_M_signAt_123 : decode b_M_signAt 123 = .ok (.lmul, 1) := by decide +kernel
theorem d_M_signAt_124 : decode b_M_signAt 124 = .ok (.ldc2_w 121, 3) := by decide +kernel
theorem d_M_signAt_127 : decode b_M_signAt 127 = .ok (.lload_n 2, 1) := by decide +kernel
theorem d_M_signAt_128 : decode b_M_signAt 128 = .ok (.lmul, 1) := by decide +kernel
theorem d_M_signAt_129 : decode b_M_signAt 129 = .ok (.lload 10, 2) := by decide +kernel
theorem d_M_signAt_131 : decode b_M_signAt 131 = .ok (.lmul, 1) := by decide +kernel
theorem d_M_signAt_132 : decode b_M_signAt 132 = .ok (.lsub, 1) := by decide +kernel
theorem d_M_signAt_133 : decode b_M_signAt 133 = .ok (.lstore 18, 2) := by decide +kernel
theorem d_M_signAt_135 : decode b_M_signAt 135 = .ok (.lload 16, 2) := by decide +kernel
theorem d_M_signAt_137 : decode b_M_signAt 137 = .ok (.aload_n 0, 1) := by decide +kernel
theorem d_M_signAt_138 : decode b_M_signAt 138 = .ok (.getfield 43, 3) := by decide +kernel
theorem d_M_signAt_141 : decode b_M_signAt 141 = .ok (.iload_n 1, 1) := by decide +kernel
theorem d_M_signAt_142 : decode b_M_signAt 142 = .ok (.iaload, 1) := by decide +kernel
theorem d_M_signAt_143 : decode b_M_signAt 143 = .ok (.i2l, 1) := by decide +kernel
theorem d_M_signAt_144 : decode b_M_signAt 144 = .ok (.lload 18, 2) := by decide +kernel
theorem d_M_signAt_146 : decode b_M_signAt 146 = .ok (.lmul, 1) := by decide +kernel
theorem d_M_signAt_147 : decode b_M_signAt 147 = .ok (.lload 14, 2) := by decide +kernel
theorem d_M_signAt_149 : decode b_M_signAt 149 = .ok (.invokestatic 123, 3) := by decide +kernel
theorem d_M_signAt_152 : decode b_M_signAt 152 = .ok (.ireturn, 1) := by decide +kernel
theorem d_M_signBehind_0 : decode b_M_signBehind 0 = .ok (.iload_n 1, 1) := by decide +kernel
theorem d_M_signBehind_1 : decode b_M_signBehind 1 = .ok (.ifCond .ge 38, 3) := by decide +kernel
theorem d_M_signBehind_4 : decode b_M_signBehind 4 = .ok (.lload_n 2, 1) := by decide +kernel
theorem d_M_signBehind_5 : decode b_M_signBehind 5 = .ok (.lconst 0, 1) := by decide +kernel
theorem d_M_signBehind_6 : decode b_M_signBehind 6 = .ok (.lcmp, 1) := by decide +kernel
theorem d_M_signBehind_7 : decode b_M_signBehind 7 = .ok (.ifCond .eq 10, 3) := by decide +kernel
theorem d_M_signBehind_10 : decode b_M_signBehind 10 = .ok (.lload_n 2, 1) := by decide +kernel
theorem d_M_signBehind_11 : decode b_M_signBehind 11 = .ok (.invokestatic 115, 3) := by decide +kernel
theorem d_M_signBehind_14 : decode b_M_signBehind 14 = .ok (.goto 24, 3) := by decide +kernel
theorem d_M_signBehind_17 : decode b_M_signBehind 17 = .ok (.lload 4, 2) := by decide +kernel
theorem d_M_signBehind_19 : decode b_M_signBehind 19 = .ok (.lconst 0, 1) := by decide +kernel
theorem d_M_signBehind_20 : decode b_M_signBehind 20 = .ok (.lcmp, 1) := by decide +kernel
theorem d_M_signBehind_21 : decode b_M_signBehind 21 = .ok (.ifCond .eq 12, 3) := by decide +kernel
theorem d_M_signBehind_24 : decode b_M_signBehind 24 = .ok (.lload 4, 2) := by decide +kernel
theorem d_M_signBehind_26 : decode b_M_signBehind 26 = .ok (.invokestatic 115, 3) := by decide +kernel
theorem d_M_signBehind_29 : decode b_M_signBehind 29 = .ok (.ineg, 1) := by decide +kernel
theorem d_M_signBehind_30 : decode b_M_signBehind 30 = .ok (.goto 8, 3) := by decide +kernel
theorem d_M_signBehind_33 : decode b_M_signBehind 33 = .ok (.lload 6, 2) := by decide +kernel
theorem d_M_signBehind_35 : decode b_M_signBehind 35 = .ok (.invokestatic 115, 3) := by decide +kernel
theorem d_M_signBehind_38 : decode b_M_signBehind 38 = .ok (.ireturn, 1) := by decide +kernel
theorem d_M_signBehind_39 : decode b_M_signBehind 39 = .ok (.aload_n 0, 1) := by decide +kernel
theorem d_M_signBehind_40 : decode b_M_signBehind 40 = .ok (.iload_n 1, 1) := by decide +kernel
theorem d_M_signBehind_41 : decode b_M_signBehind 41 = .ok (.lload_n 2, 1) := by decide +kernel
theorem d_M_signBehind_42 : decode b_M_signBehind 42 = .ok (.lload 4, 2) := by decide +kernel
theorem d_M_signBehind_44 : decode b_M_signBehind 44 = .ok (.lload 6, 2) := by decide +kernel
theorem d_M_signBehind_46 : decode b_M_signBehind 46 = .ok (.invokevirtual 127, 3) := by decide +kernel
theorem d_M_signBehind_49 : decode b_M_signBehind 49 = .ok (.istore 8, 2) := by decide +kernel
