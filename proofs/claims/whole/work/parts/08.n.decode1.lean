theorem d_M_write_0 : decode b_M_write 0 = .ok (.iload_n 1, 1) := by decide +kernel
theorem d_M_write_1 : decode b_M_write 1 = .ok (.bipush 32, 2) := by decide +kernel
theorem d_M_write_3 : decode b_M_write 3 = .ok (.if_icmp .lt 18, 3) := by decide +kernel
theorem d_M_write_6 : decode b_M_write 6 = .ok (.iload_n 1, 1) := by decide +kernel
theorem d_M_write_7 : decode b_M_write 7 = .ok (.bipush 126, 2) := by decide +kernel
theorem d_M_write_9 : decode b_M_write 9 = .ok (.if_icmp .gt 12, 3) := by decide +kernel
theorem d_M_write_12 : decode b_M_write 12 = .ok (.aload_n 0, 1) := by decide +kernel
theorem d_M_write_13 : decode b_M_write 13 = .ok (.getfield 58, 3) := by decide +kernel
theorem d_M_write_16 : decode b_M_write 16 = .ok (.bipush 80, 2) := by decide +kernel
theorem d_M_write_18 : decode b_M_write 18 = .ok (.if_icmp .ne 5, 3) := by decide +kernel
theorem d_M_write_21 : decode b_M_write 21 = .ok (.iconst 0, 1) := by decide +kernel
theorem d_M_write_22 : decode b_M_write 22 = .ok (.ireturn, 1) := by decide +kernel
theorem d_M_write_23 : decode b_M_write 23 = .ok (.aload_n 0, 1) := by decide +kernel
theorem d_M_write_24 : decode b_M_write 24 = .ok (.getfield 7, 3) := by decide +kernel
theorem d_M_write_27 : decode b_M_write 27 = .ok (.aload_n 0, 1) := by decide +kernel
theorem d_M_write_28 : decode b_M_write 28 = .ok (.getfield 58, 3) := by decide +kernel
theorem d_M_write_31 : decode b_M_write 31 = .ok (.iload_n 1, 1) := by decide +kernel
theorem d_M_write_32 : decode b_M_write 32 = .ok (.iastore, 1) := by decide +kernel
theorem d_M_write_33 : decode b_M_write 33 = .ok (.aload_n 0, 1) := by decide +kernel
theorem d_M_write_34 : decode b_M_write 34 = .ok (.dup, 1) := by decide +kernel
theorem d_M_write_35 : decode b_M_write 35 = .ok (.getfield 58, 3) := by decide +kernel
theorem d_M_write_38 : decode b_M_write 38 = .ok (.iconst 1, 1) := by decide +kernel
theorem d_M_write_39 : decode b_M_write 39 = .ok (.iadd, 1) := by decide +kernel
theorem d_M_write_40 : decode b_M_write 40 = .ok (.putfield 58, 3) := by decide +kernel
theorem d_M_write_43 : decode b_M_write 43 = .ok (.iconst 1, 1) := by decide +kernel
theorem d_M_write_44 : decode b_M_write 44 = .ok (.ireturn, 1) := by decide +kernel
theorem d_M_at_0 : decode b_M_at 0 = .ok (.iload_n 1, 1) := by decide +kernel
theorem d_M_at_1 : decode b_M_at 1 = .ok (.aload_n 0, 1) := by decide +kernel
theorem d_M_at_2 : decode b_M_at 2 = .ok (.getfield 61, 3) := by decide +kernel
theorem d_M_at_5 : decode b_M_at 5 = .ok (.if_icmp .ge 12, 3) := by decide +kernel
theorem d_M_at_8 : decode b_M_at 8 = .ok (.aload_n 0, 1) := by decide +kernel
theorem d_M_at_9 : decode b_M_at 9 = .ok (.getfield 13, 3) := by decide +kernel
theorem d_M_at_12 : decode b_M_at 12 = .ok (.iload_n 1, 1) := by decide +kernel
theorem d_M_at_13 : decode b_M_at 13 = .ok (.iaload, 1) := by decide +kernel
theorem d_M_at_14 : decode b_M_at 14 = .ok (.goto 4, 3) := by decide +kernel
theorem d_M_at_17 : decode b_M_at 17 = .ok (.iconst 0, 1) := by decide +kernel
theorem d_M_at_18 : decode b_M_at 18 = .ok (.ireturn, 1) := by decide +kernel
theorem d_M_isDigit_0 : decode b_M_isDigit 0 = .ok (.iload_n 0, 1) := by decide +kernel
theorem d_M_isDigit_1 : decode b_M_isDigit 1 = .ok (.bipush 48, 2) := by decide +kernel
theorem d_M_isDigit_3 : decode b_M_isDigit 3 = .ok (.if_icmp .lt 13, 3) := by decide +kernel
theorem d_M_isDigit_6 : decode b_M_isDigit 6 = .ok (.iload_n 0, 1) := by decide +kernel
theorem d_M_isDigit_7 : decode b_M_isDigit 7 = .ok (.bipush 57, 2) := by decide +kernel
theorem d_M_isDigit_9 : decode b_M_isDigit 9 = .ok (.if_icmp .gt 7, 3) := by decide +kernel
theorem d_M_isDigit_12 : decode b_M_isDigit 12 = .ok (.iconst 1, 1) := by decide +kernel
theorem d_M_isDigit_13 : decode b_M_isDigit 13 = .ok (.goto 4, 3) := by decide +kernel
theorem d_M_isDigit_16 : decode b_M_isDigit 16 = .ok (.iconst 0, 1) := by decide +kernel
theorem d_M_isDigit_17 : decode b_M_isDigit 17 = .ok (.ireturn, 1) := by decide +kernel
theorem d_M_term_0 : decode b_M_term 0 = .ok (.iload_n 0, 1) := by decide +kernel
theorem d_M_term_1 : decode b_M_term 1 = .ok (.bipush 12, 2) := by decide +kernel
theorem d_M_term_3 : decode b_M_term 3 = .ok (.if_icmp .ge 8, 3) := by decide +kernel
theorem d_M_term_6 : decode b_M_term 6 = .ok (.bipush 6, 2) := by decide +kernel
theorem d_M_term_8 : decode b_M_term 8 = .ok (.goto 5, 3) := by decide +kernel
theorem d_M_term_11 : decode b_M_term 11 = .ok (.bipush 12, 2) := by decide +kernel
theorem d_M_term_13 : decode b_M_term 13 = .ok (.istore_n 2, 1) := by decide +kernel
theorem d_M_term_14 : decode b_M_term 14 = .ok (.iload_n 1, 1) := by decide +kernel
theorem d_M_term_15 : decode b_M_term 15 = .ok (.bipush 45, 2) := by decide +kernel
theorem d_M_term_17 : decode b_M_term 17 = .ok (.if_icmp .ne 12, 3) := by decide +kernel
theorem d_M_term_20 : decode b_M_term 20 = .ok (.iload_n 0, 1) := by decide +kernel
theorem d_M_term_21 : decode b_M_term 21 = .ok (.iload_n 2, 1) := by decide +kernel
theorem d_M_term_22 : decode b_M_term 22 = .ok (.if_icmp .ne 7, 3) := by decide +kernel
theorem d_M_term_25 : decode b_M_term 25 = .ok (.iload_n 2, 1) := by decide +kernel
theorem d_M_term_26 : decode b_M_term 26 = .ok (.iconst 1, 1) := by decide +kernel
theorem d_M_term_27 : decode b_M_term 27 = .ok (.iadd, 1) := by decide +kernel
theorem d_M_term_28 : decode b_M_term 28 = .ok (.ireturn, 1) := by decide +kernel
theorem d_M_term_29 : decode b_M_term 29 = .ok (.iload_n 1, 1) := by decide +kernel
theorem d_M_term_30 : decode b_M_term 30 = .ok (.invokestatic 75, 3) := by decide +kernel
theorem d_M_term_33 : decode b_M_term 33 = .ok (.ifCond .eq 9, 3) := by decide +kernel
theorem d_M_term_36 : decode b_M_term 36 = .ok (.iload_n 2, 1) := by decide +kernel
theorem d_M_term_37 : decode b_M_term 37 = .ok (.iconst 2, 1) := by decide +kernel
theorem d_M_term_38 : decode b_M_term 38 = .ok (.iadd, 1) := by decide +kernel
theorem d_M_term_39 : decode b_M_term 39 = .ok (.goto 28, 3) := by decide +kernel
theorem d_M_term_42 : decode b_M_term 42 = .ok (.iload_n 1, 1) := by decide +kernel
theorem d_M_term_43 : decode b_M_term 43 = .ok (.bipush 120, 2) := by decide +kernel
theorem d_M_term_45 : decode b_M_term 45 = .ok (.if_icmp .ne 9, 3) := by decide +kernel
theorem d_M_term_48 : decode b_M_term 48 = .ok (.iload_n 2, 1) := by decide +kernel
theorem d_M_term_49 : decode b_M_term 49 = .ok (.iconst 3, 1) := by decide +kernel
theorem d_M_term_50 : decode b_M_term 50 = .ok (.iadd, 1) := by decide +kernel
theorem d_M_term_51 : decode b_M_term 51 = .ok (.goto 16, 3) := by decide +kernel
theorem d_M_term_54 : decode b_M_term 54 = .ok (.iload_n 1, 1) := by decide +kernel
theorem d_M_term_55 : decode b_M_term 55 = .ok (.bipush 121, 2) := by decide +kernel
theorem d_M_term_57 : decode b_M_term 57 = .ok (.if_icmp .ne 9, 3) := by decide +kernel
theorem d_M_term_60 : decode b_M_term 60 = .ok (.iload_n 2, 1) := by decide +kernel
theorem d_M_term_61 : decode b_M_term 61 = .ok (.iconst 4, 1) := by decide +kernel
theorem d_M_term_62 : decode b_M_term 62 = .ok (.iadd, 1) := by decide +kernel
theorem d_M_term_63 : decode b_M_term 63 = .ok (.goto 4, 3) := by decide +kernel
theorem d_M_term_66 : decode b_M_term 66 = .ok (.iconst (-1), 1) := by decide +kernel
theorem d_M_term_67 : decode b_M_term 67 = .ok (.ireturn, 1) := by decide +kernel
theorem d_M_behind_0 : decode b_M_behind 0 = .ok (.iload_n 0, 1) := by decide +kernel
theorem d_M_behind_1 : decode b_M_behind 1 = .ok (.bipush 38, 2) := by decide +kernel
theorem d_M_behind_3 : decode b_M_behind 3 = .ok (.if_icmp .eq 9, 3) := by decide +kernel
theorem d_M_behind_6 : decode b_M_behind 6 = .ok (.iload_n 0, 1) := by decide +kernel
theorem d_M_behind_7 : decode b_M_behind 7 = .ok (.bipush 124, 2) := by decide +kernel
theorem d_M_behind_9 : decode b_M_behind 9 = .ok (.if_icmp .ne 7, 3) := by decide +kernel
theorem d_M_behind_12 : decode b_M_behind 12 = .ok (.iconst 5, 1) := by decide +kernel
theorem d_M_behind_13 : decode b_M_behind 13 = .ok (.goto 19, 3) := by decide +kernel
theorem d_M_behind_16 : decode b_M_behind 16 = .ok (.iload_n 0, 1) := by decide +kernel
theorem d_M_behind_17 : decode b_M_behind 17 = .ok (.bipush 41, 2) := by decide +kernel
theorem d_M_behind_19 : decode b_M_behind 19 = .ok (.if_icmp .ne 12, 3) := by decide +kernel
theorem d_M_behind_22 : decode b_M_behind 22 = .ok (.iload_n 1, 1) := by decide +kernel
theorem d_M_behind_23 : decode b_M_behind 23 = .ok (.ifCond .le 8, 3) := by decide +kernel
theorem d_M_behind_26 : decode b_M_behind 26 = .ok (.bipush 18, 2) := by decide +kernel
theorem d_M_behind_28 : decode b_M_behind 28 = .ok (.goto 4, 3) := by decide +kernel
theorem d_M_behind_31 : decode b_M_behind 31 = .ok (.iconst (-1), 1) := by decide +kernel
theorem d_M_behind_32 : decode b_M_behind 32 = .ok (.ireturn, 1) := by decide +kernel
theorem d_M_inSum_0 : decode b_M_inSum 0 = .ok (.iload_n 0, 1) := by decide +kernel
theorem d_M_inSum_1 : decode b_M_inSum 1 = .ok (.bipush 12, 2) := by decide +kernel
theorem d_M_inSum_3 : decode b_M_inSum 3 = .ok (.if_icmp .ge 8, 3) := by decide +kernel
theorem d_M_inSum_6 : decode b_M_inSum 6 = .ok (.bipush 6, 2) := by decide +kernel
theorem d_M_inSum_8 : decode b_M_inSum 8 = .ok (.goto 5, 3) := by decide +kernel
theorem d_M_inSum_11 : decode b_M_inSum 11 = .ok (.bipush 12, 2) := by decide +kernel
theorem d_M_inSum_13 : decode b_M_inSum 13 = .ok (.istore_n 3, 1) := by decide +kernel
theorem d_M_inSum_14 : decode b_M_inSum 14 = .ok (.iload_n 0, 1) := by decide +kernel
theorem d_M_inSum_15 : decode b_M_inSum 15 = .ok (.iload_n 3, 1) := by decide +kernel
theorem d_M_inSum_16 : decode b_M_inSum 16 = .ok (.isub, 1) := by decide +kernel
theorem d_M_inSum_17 : decode b_M_inSum 17 = .ok (.istore 4, 2) := by decide +kernel
theorem d_M_inSum_19 : decode b_M_inSum 19 = .ok (.iload 4, 2) := by decide +kernel
theorem d_M_inSum_21 : decode b_M_inSum 21 = .ok (.iconst 2, 1) := by decide +kernel
theorem d_M_inSum_22 : decode b_M_inSum 22 = .ok (.if_icmp .ge 9, 3) := by decide +kernel
theorem d_M_inSum_25 : decode b_M_inSum 25 = .ok (.iload_n 0, 1) := by decide +kernel
theorem d_M_inSum_26 : decode b_M_inSum 26 = .ok (.iload_n 1, 1) := by decide +kernel
theorem d_M_inSum_27 : decode b_M_inSum 27 = .ok (.invokestatic 64, 3) := by decide +kernel
theorem d_M_inSum_30 : decode b_M_inSum 30 = .ok (.ireturn, 1) := by decide +kernel
theorem d_M_inSum_31 : decode b_M_inSum 31 = .ok (.iload 4, 2) := by decide +kernel
theorem d_M_inSum_33 : decode b_M_inSum 33 = .ok (.iconst 2, 1) := by decide +kernel
theorem d_M_inSum_34 : decode b_M_inSum 34 = .ok (.if_icmp .ne 31, 3) := by decide +kernel
theorem d_M_inSum_37 : decode b_M_inSum 37 = .ok (.iload_n 1, 1) := by decide +kernel
theorem d_M_inSum_38 : decode b_M_inSum 38 = .ok (.bipush 120, 2) := by decide +kernel
theorem d_M_inSum_40 : decode b_M_inSum 40 = .ok (.if_icmp .eq 9, 3) := by decide +kernel
theorem d_M_inSum_43 : decode b_M_inSum 43 = .ok (.iload_n 1, 1) := by decide +kernel
theorem d_M_inSum_44 : decode b_M_inSum 44 = .ok (.bipush 121, 2) := by decide +kernel
theorem d_M_inSum_46 : decode b_M_inSum 46 = .ok (.if_icmp .ne 19, 3) := by decide +kernel
theorem d_M_inSum_49 : decode b_M_inSum 49 = .ok (.iload_n 1, 1) := by decide +kernel
theorem d_M_inSum_50 : decode b_M_inSum 50 = .ok (.bipush 120, 2) := by decide +kernel
theorem d_M_inSum_52 : decode b_M_inSum 52 = .ok (.if_icmp .ne 9, 3) := by decide +kernel
theorem d_M_inSum_55 : decode b_M_inSum 55 = .ok (.iload_n 3, 1) := by decide +kernel
theorem d_M_inSum_56 : decode b_M_inSum 56 = .ok (.iconst 3, 1) := by decide +kernel
theorem d_M_inSum_57 : decode b_M_inSum 57 = .ok (.iadd, 1) := by decide +kernel
theorem d_M_inSum_58 : decode b_M_inSum 58 = .ok (.goto 6, 3) := by decide +kernel
theorem d_M_inSum_61 : decode b_M_inSum 61 = .ok (.iload_n 3, 1) := by decide +kernel
theorem d_M_inSum_62 : decode b_M_inSum 62 = .ok (.iconst 4, 1) := by decide +kernel
theorem d_M_inSum_63 : decode b_M_inSum 63 = .ok (.iadd, 1) := by decide +kernel
theorem d_M_inSum_64 : decode b_M_inSum 64 = .ok (.ireturn, 1) := by decide +kernel
theorem d_M_inSum_65 : decode b_M_inSum 65 = .ok (.iload 4, 2) := by decide +kernel
theorem d_M_inSum_67 : decode b_M_inSum 67 = .ok (.iconst 3, 1) := by decide +kernel
theorem d_M_inSum_68 : decode b_M_inSum 68 = .ok (.if_icmp .ne 9, 3) := by decide +kernel
theorem d_M_inSum_71 : decode b_M_inSum 71 = .ok (.iload_n 1, 1) := by decide +kernel
theorem d_M_inSum_72 : decode b_M_inSum 72 = .ok (.bipush 121, 2) := by decide +kernel
theorem d_M_inSum_74 : decode b_M_inSum 74 = .ok (.if_icmp .eq 15, 3) := by decide +kernel
theorem d_M_inSum_77 : decode b_M_inSum 77 = .ok (.iload 4, 2) := by decide +kernel
theorem d_M_inSum_79 : decode b_M_inSum 79 = .ok (.iconst 4, 1) := by decide +kernel
theorem d_M_inSum_80 : decode b_M_inSum 80 = .ok (.if_icmp .ne 13, 3) := by decide +kernel
theorem d_M_inSum_83 : decode b_M_inSum 83 = .ok (.iload_n 1, 1) := by decide +kernel
theorem d_M_inSum_84 : decode b_M_inSum 84 = .ok (.bipush 120, 2) := by decide +kernel
theorem d_M_inSum_86 : decode b_M_inSum 86 = .ok (.if_icmp .ne 7, 3) := by decide +kernel
theorem d_M_inSum_89 : decode b_M_inSum 89 = .ok (.iload_n 3, 1) := by decide +kernel
theorem d_M_inSum_90 : decode b_M_inSum 90 = .ok (.iconst 5, 1) := by decide +kernel
theorem d_M_inSum_91 : decode b_M_inSum 91 = .ok (.iadd, 1) := by decide +kernel
theorem d_M_inSum_92 : decode b_M_inSum 92 = .ok (.ireturn, 1) := by decide +kernel
theorem d_M_inSum_93 : decode b_M_inSum 93 = .ok (.iload_n 1, 1) := by decide +kernel
theorem d_M_inSum_94 : decode b_M_inSum 94 = .ok (.bipush 43, 2) := by decide +kernel
theorem d_M_inSum_96 : decode b_M_inSum 96 = .ok (.if_icmp .eq 9, 3) := by decide +kernel
theorem d_M_inSum_99 : decode b_M_inSum 99 = .ok (.iload_n 1, 1) := by decide +kernel
theorem d_M_inSum_100 : decode b_M_inSum 100 = .ok (.bipush 45, 2) := by decide +kernel
theorem d_M_inSum_102 : decode b_M_inSum 102 = .ok (.if_icmp .ne 7, 3) := by decide +kernel
theorem d_M_inSum_105 : decode b_M_inSum 105 = .ok (.iload_n 3, 1) := by decide +kernel
theorem d_M_inSum_106 : decode b_M_inSum 106 = .ok (.iconst 1, 1) := by decide +kernel
theorem d_M_inSum_107 : decode b_M_inSum 107 = .ok (.iadd, 1) := by decide +kernel
theorem d_M_inSum_108 : decode b_M_inSum 108 = .ok (.ireturn, 1) := by decide +kernel
theorem d_M_inSum_109 : decode b_M_inSum 109 = .ok (.iload_n 3, 1) := by decide +kernel
theorem d_M_inSum_110 : decode b_M_inSum 110 = .ok (.bipush 12, 2) := by decide +kernel
theorem d_M_inSum_112 : decode b_M_inSum 112 = .ok (.if_icmp .ne 9, 3) := by decide +kernel
theorem d_M_inSum_115 : decode b_M_inSum 115 = .ok (.iload_n 1, 1) := by decide +kernel
theorem d_M_inSum_116 : decode b_M_inSum 116 = .ok (.iload_n 2, 1) := by decide +kernel
theorem d_M_inSum_117 : decode b_M_inSum 117 = .ok (.invokestatic 68, 3) := by decide +kernel
theorem d_M_inSum_120 : decode b_M_inSum 120 = .ok (.ireturn, 1) := by decide +kernel
theorem d_M_inSum_121 : decode b_M_inSum 121 = .ok (.iload_n 1, 1) := by decide +kernel
theorem d_M_inSum_122 : decode b_M_inSum 122 = .ok (.bipush 60, 2) := by decide +kernel
theorem d_M_inSum_124 : decode b_M_inSum 124 = .ok (.if_icmp .eq 15, 3) := by decide +kernel
theorem d_M_inSum_127 : decode b_M_inSum 127 = .ok (.iload_n 1, 1) := by decide +kernel
theorem d_M_inSum_128 : decode b_M_inSum 128 = .ok (.bipush 61, 2) := by decide +kernel
theorem d_M_inSum_130 : decode b_M_inSum 130 = .ok (.if_icmp .eq 9, 3) := by decide +kernel
theorem d_M_inSum_133 : decode b_M_inSum 133 = .ok (.iload_n 1, 1) := by decide +kernel
theorem d_M_inSum_134 : decode b_M_inSum 134 = .ok (.bipush 62, 2) := by decide +kernel
theorem d_M_inSum_136 : decode b_M_inSum 136 = .ok (.if_icmp .ne 8, 3) := by decide +kernel
theorem d_M_inSum_139 : decode b_M_inSum 139 = .ok (.bipush 12, 2) := by decide +kernel
theorem d_M_inSum_141 : decode b_M_inSum 141 = .ok (.goto 4, 3) := by decide +kernel
theorem d_M_inSum_144 : decode b_M_inSum 144 = .ok (.iconst (-1), 1) := by decide +kernel
theorem d_M_inSum_145 : decode b_M_inSum 145 = .ok (.ireturn, 1) := by decide +kernel
theorem d_M_after_0 : decode b_M_after 0 = .ok (.iload_n 0, 1) := by decide +kernel
theorem d_M_after_1 : decode b_M_after 1 = .ok (.tableswitch 192 0 18 #[91, 109, 121, 139, 151, 163, 192, 192, 192, 192, 192, 192, 192, 192, 192, 192, 192, 192, 186], 91) := by decide +kernel
theorem d_M_after_92 : decode b_M_after 92 = .ok (.iload_n 1, 1) := by decide +kernel
theorem d_M_after_93 : decode b_M_after 93 = .ok (.bipush 69, 2) := by decide +kernel
theorem d_M_after_95 : decode b_M_after 95 = .ok (.if_icmp .eq 9, 3) := by decide +kernel
theorem d_M_after_98 : decode b_M_after 98 = .ok (.iload_n 1, 1) := by decide +kernel
theorem d_M_after_99 : decode b_M_after 99 = .ok (.bipush 65, 2) := by decide +kernel
theorem d_M_after_101 : decode b_M_after 101 = .ok (.if_icmp .ne 7, 3) := by decide +kernel
theorem d_M_after_104 : decode b_M_after 104 = .ok (.iconst 1, 1) := by decide +kernel
theorem d_M_after_105 : decode b_M_after 105 = .ok (.goto 4, 3) := by decide +kernel
theorem d_M_after_108 : decode b_M_after 108 = .ok (.iconst (-1), 1) := by decide +kernel
theorem d_M_after_109 : decode b_M_after 109 = .ok (.ireturn, 1) := by decide +kernel
theorem d_M_after_110 : decode b_M_after 110 = .ok (.iload_n 1, 1) := by decide +kernel
theorem d_M_after_111 : decode b_M_after 111 = .ok (.bipush 120, 2) := by decide +kernel
theorem d_M_after_113 : decode b_M_after 113 = .ok (.if_icmp .ne 7, 3) := by decide +kernel
theorem d_M_after_116 : decode b_M_after 116 = .ok (.iconst 2, 1) := by decide +kernel
theorem d_M_after_117 : decode b_M_after 117 = .ok (.goto 4, 3) := by decide +kernel
theorem d_M_after_120 : decode b_M_after 120 = .ok (.iconst (-1), 1) := by decide +kernel
theorem d_M_after_121 : decode b_M_after 121 = .ok (.ireturn, 1) := by decide +kernel
theorem d_M_after_122 : decode b_M_after 122 = .ok (.iload_n 1, 1) := by decide +kernel
theorem d_M_after_123 : decode b_M_after 123 = .ok (.bipush 69, 2) := by decide +kernel
theorem d_M_after_125 : decode b_M_after 125 = .ok (.if_icmp .eq 9, 3) := by decide +kernel
theorem d_M_after_128 : decode b_M_after 128 = .ok (.iload_n 1, 1) := by decide +kernel
theorem d_M_after_129 : decode b_M_after 129 = .ok (.bipush 65, 2) := by decide +kernel
theorem d_M_after_131 : decode b_M_after 131 = .ok (.if_icmp .ne 7, 3) := by decide +kernel
theorem d_M_after_134 : decode b_M_after 134 = .ok (.iconst 3, 1) := by decide +kernel
theorem d_M_after_135 : decode b_M_after 135 = .ok (.goto 4, 3) := by decide +kernel
theorem d_M_after_138 : decode b_M_after 138 = .ok (.iconst (-1), 1) := by decide +kernel
theorem d_M_after_139 : decode b_M_after 139 = .ok (.ireturn, 1) := by decide +kernel
theorem d_M_after_140 : decode b_M_after 140 = .ok (.iload_n 1, 1) := by decide +kernel
theorem d_M_after_141 : decode b_M_after 141 = .ok (.bipush 121, 2) := by decide +kernel
theorem d_M_after_143 : decode b_M_after 143 = .ok (.if_icmp .ne 7, 3) := by decide +kernel
theorem d_M_after_146 : decode b_M_after 146 = .ok (.iconst 4, 1) := by decide +kernel
theorem d_M_after_147 : decode b_M_after 147 = .ok (.goto 4, 3) := by decide +kernel
theorem d_M_after_150 : decode b_M_after 150 = .ok (.iconst (-1), 1) := by decide +kernel
theorem d_M_after_151 : decode b_M_after 151 = .ok (.ireturn, 1) := by decide +kernel
theorem d_M_after_152 : decode b_M_after 152 = .ok (.iload_n 1, 1) := by decide +kernel
theorem d_M_after_153 : decode b_M_after 153 = .ok (.bipush 58, 2) := by decide +kernel
theorem d_M_after_155 : decode b_M_after 155 = .ok (.if_icmp .ne 7, 3) := by decide +kernel
theorem d_M_after_158 : decode b_M_after 158 = .ok (.iconst 5, 1) := by decide +kernel
theorem d_M_after_159 : decode b_M_after 159 = .ok (.goto 4, 3) := by decide +kernel
theorem d_M_after_162 : decode b_M_after 162 = .ok (.iconst (-1), 1) := by decide +kernel
theorem d_M_after_163 : decode b_M_after 163 = .ok (.ireturn, 1) := by decide +kernel
theorem d_M_after_164 : decode b_M_after 164 = .ok (.iload_n 1, 1) := by decide +kernel
theorem d_M_after_165 : decode b_M_after 165 = .ok (.bipush 126, 2) := by decide +kernel
theorem d_M_after_167 : decode b_M_after 167 = .ok (.if_icmp .eq 9, 3) := by decide +kernel
theorem d_M_after_170 : decode b_M_after 170 = .ok (.iload_n 1, 1) := by decide +kernel
theorem d_M_after_171 : decode b_M_after 171 = .ok (.bipush 40, 2) := by decide +kernel
theorem d_M_after_173 : decode b_M_after 173 = .ok (.if_icmp .ne 7, 3) := by decide +kernel
theorem d_M_after_176 : decode b_M_after 176 = .ok (.iconst 5, 1) := by decide +kernel
theorem d_M_after_177 : decode b_M_after 177 = .ok (.goto 9, 3) := by decide +kernel
theorem d_M_after_180 : decode b_M_after 180 = .ok (.bipush 6, 2) := by decide +kernel
theorem d_M_after_182 : decode b_M_after 182 = .ok (.iload_n 1, 1) := by decide +kernel
theorem d_M_after_183 : decode b_M_after 183 = .ok (.invokestatic 64, 3) := by decide +kernel
theorem d_M_after_186 : decode b_M_after 186 = .ok (.ireturn, 1) := by decide +kernel
theorem d_M_after_187 : decode b_M_after 187 = .ok (.iload_n 1, 1) := by decide +kernel
theorem d_M_after_188 : decode b_M_after 188 = .ok (.iload_n 2, 1) := by decide +kernel
theorem d_M_after_189 : decode b_M_after 189 = .ok (.invokestatic 68, 3) := by decide +kernel
theorem d_M_after_192 : decode b_M_after 192 = .ok (.ireturn, 1) := by decide +kernel
theorem d_M_after_193 : decode b_M_after 193 = .ok (.iload_n 0, 1) := by decide +kernel
theorem d_M_after_194 : decode b_M_after 194 = .ok (.iload_n 1, 1) := by decide +kernel
theorem d_M_after_195 : decode b_M_after 195 = .ok (.iload_n 2, 1) := by decide +kernel
theorem d_M_after_196 : decode b_M_after 196 = .ok (.invokestatic 71, 3) := by decide +kernel
theorem d_M_after_199 : decode b_M_after 199 = .ok (.ireturn, 1) := by decide +kernel
theorem d_M_mayEnd_0 : decode b_M_mayEnd 0 = .ok (.iload_n 2, 1) := by decide +kernel
theorem d_M_mayEnd_1 : decode b_M_mayEnd 1 = .ok (.ifCond .ne 25, 3) := by decide +kernel
theorem d_M_mayEnd_4 : decode b_M_mayEnd 4 = .ok (.iload_n 1, 1) := by decide +kernel
theorem d_M_mayEnd_5 : decode b_M_mayEnd 5 = .ok (.bipush 18, 2) := by decide +kernel
theorem d_M_mayEnd_7 : decode b_M_mayEnd 7 = .ok (.if_icmp .eq 15, 3) := by decide +kernel
theorem d_M_mayEnd_10 : decode b_M_mayEnd 10 = .ok (.iload_n 1, 1) := by decide +kernel
theorem d_M_mayEnd_11 : decode b_M_mayEnd 11 = .ok (.bipush 13, 2) := by decide +kernel
theorem d_M_mayEnd_13 : decode b_M_mayEnd 13 = .ok (.if_icmp .le 13, 3) := by decide +kernel
theorem d_M_mayEnd_16 : decode b_M_mayEnd 16 = .ok (.iload_n 1, 1) := by decide +kernel
theorem d_M_mayEnd_17 : decode b_M_mayEnd 17 = .ok (.bipush 18, 2) := by decide +kernel
theorem d_M_mayEnd_19 : decode b_M_mayEnd 19 = .ok (.if_icmp .ge 7, 3) := by decide +kernel
theorem d_M_mayEnd_22 : decode b_M_mayEnd 22 = .ok (.iconst 1, 1) := by decide +kernel
theorem d_M_mayEnd_23 : decode b_M_mayEnd 23 = .ok (.goto 4, 3) := by decide +kernel
theorem d_M_mayEnd_26 : decode b_M_mayEnd 26 = .ok (.iconst 0, 1) := by decide +kernel
theorem d_M_mayEnd_27 : decode b_M_mayEnd 27 = .ok (.ireturn, 1) := by decide +kernel
theorem d_M_illAt_0 : decode b_M_illAt 0 = .ok (.iconst 0, 1) := by decide +kernel
theorem d_M_illAt_1 : decode b_M_illAt 1 = .ok (.istore_n 1, 1) := by decide +kernel
theorem d_M_illAt_2 : decode b_M_illAt 2 = .ok (.iconst 0, 1) := by decide +kernel
theorem d_M_illAt_3 : decode b_M_illAt 3 = .ok (.istore_n 2, 1) := by decide +kernel
theorem d_M_illAt_4 : decode b_M_illAt 4 = .ok (.iconst 0, 1) := by decide +kernel
theorem d_M_illAt_5 : decode b_M_illAt 5 = .ok (.istore_n 3, 1) := by decide +kernel
theorem d_M_illAt_6 : decode b_M_illAt 6 = .ok (.iload_n 3, 1) := by decide +kernel
theorem d_M_illAt_7 : decode b_M_illAt 7 = .ok (.aload_n 0, 1) := by decide +kernel
theorem d_M_illAt_8 : decode b_M_illAt 8 = .ok (.getfield 61, 3) := by decide +kernel
theorem d_M_illAt_11 : decode b_M_illAt 11 = .ok (.if_icmp .ge 52, 3) := by decide +kernel
theorem d_M_illAt_14 : decode b_M_illAt 14 = .ok (.iload_n 1, 1) := by decide +kernel
theorem d_M_illAt_15 : decode b_M_illAt 15 = .ok (.aload_n 0, 1) := by decide +kernel
theorem d_M_illAt_16 : decode b_M_illAt 16 = .ok (.iload_n 3, 1) := by decide +kernel
theorem d_M_illAt_17 : decode b_M_illAt 17 = .ok (.invokevirtual 79, 3) := by decide +kernel
theorem d_M_illAt_20 : decode b_M_illAt 20 = .ok (.iload_n 2, 1) := by decide +kernel
theorem d_M_illAt_21 : decode b_M_illAt 21 = .ok (.invokestatic 83, 3) := by decide +kernel
theorem d_M_illAt_24 : decode b_M_illAt 24 = .ok (.istore_n 1, 1) := by decide +kernel
theorem d_M_illAt_25 : decode b_M_illAt 25 = .ok (.iload_n 1, 1) := by decide +kernel
theorem d_M_illAt_26 : decode b_M_illAt 26 = .ok (.ifCond .ge 5, 3) := by decide +kernel
theorem d_M_illAt_29 : decode b_M_illAt 29 = .ok (.iload_n 3, 1) := by decide +kernel
theorem d_M_illAt_30 : decode b_M_illAt 30 = .ok (.ireturn, 1) := by decide +kernel
theorem d_M_illAt_31 : decode b_M_illAt 31 = .ok (.aload_n 0, 1) := by decide +kernel
theorem d_M_illAt_32 : decode b_M_illAt 32 = .ok (.iload_n 3, 1) := by decide +kernel
theorem d_M_illAt_33 : decode b_M_illAt 33 = .ok (.invokevirtual 79, 3) := by decide +kernel
theorem d_M_illAt_36 : decode b_M_illAt 36 = .ok (.bipush 40, 2) := by decide +kernel
theorem d_M_illAt_38 : decode b_M_illAt 38 = .ok (.if_icmp .ne 6, 3) := by decide +kernel
theorem d_M_illAt_41 : decode b_M_illAt 41 = .ok (.iinc 2 1, 3) := by decide +kernel
theorem d_M_illAt_44 : decode b_M_illAt 44 = .ok (.aload_n 0, 1) := by decide +kernel
theorem d_M_illAt_45 : decode b_M_illAt 45 = .ok (.iload_n 3, 1) := by decide +kernel
theorem d_M_illAt_46 : decode b_M_illAt 46 = .ok (.invokevirtual 79, 3) := by decide +kernel
theorem d_M_illAt_49 : decode b_M_illAt 49 = .ok (.bipush 41, 2) := by decide +kernel
theorem d_M_illAt_51 : decode b_M_illAt 51 = .ok (.if_icmp .ne 6, 3) := by decide +kernel
theorem d_M_illAt_54 : decode b_M_illAt 54 = .ok (.iinc 2 (-1), 3) := by decide +kernel
theorem d_M_illAt_57 : decode b_M_illAt 57 = .ok (.iinc 3 1, 3) := by decide +kernel
theorem d_M_illAt_60 : decode b_M_illAt 60 = .ok (.goto (-54), 3) := by decide +kernel
theorem d_M_illAt_63 : decode b_M_illAt 63 = .ok (.aload_n 0, 1) := by decide +kernel
theorem d_M_illAt_64 : decode b_M_illAt 64 = .ok (.iload_n 1, 1) := by decide +kernel
theorem d_M_illAt_65 : decode b_M_illAt 65 = .ok (.iload_n 2, 1) := by decide +kernel
theorem d_M_illAt_66 : decode b_M_illAt 66 = .ok (.invokevirtual 86, 3) := by decide +kernel
theorem d_M_illAt_69 : decode b_M_illAt 69 = .ok (.ifCond .eq 7, 3) := by decide +kernel
theorem d_M_illAt_72 : decode b_M_illAt 72 = .ok (.iconst (-1), 1) := by decide +kernel
theorem d_M_illAt_73 : decode b_M_illAt 73 = .ok (.goto 7, 3) := by decide +kernel
theorem d_M_illAt_76 : decode b_M_illAt 76 = .ok (.aload_n 0, 1) := by decide +kernel
theorem d_M_illAt_77 : decode b_M_illAt 77 = .ok (.getfield 61, 3) := by decide +kernel
theorem d_M_illAt_80 : decode b_M_illAt 80 = .ok (.ireturn, 1) := by decide +kernel
theorem d_M_takeText_0 : decode b_M_takeText 0 = .ok (.aload_n 0, 1) := by decide +kernel
theorem d_M_takeText_1 : decode b_M_takeText 1 = .ok (.iconst 0, 1) := by decide +kernel
theorem d_M_takeText_2 : decode b_M_takeText 2 = .ok (.putfield 61, 3) := by decide +kernel
theorem d_M_takeText_5 : decode b_M_takeText 5 = .ok (.iconst 0, 1) := by decide +kernel
theorem d_M_takeText_6 : decode b_M_takeText 6 = .ok (.istore_n 1, 1) := by decide +kernel
theorem d_M_takeText_7 : decode b_M_takeText 7 = .ok (.iload_n 1, 1) := by decide +kernel
theorem d_M_takeText_8 : decode b_M_takeText 8 = .ok (.aload_n 0, 1) := by decide +kernel
theorem d_M_takeText_9 : decode b_M_takeText 9 = .ok (.getfield 58, 3) := by decide +kernel
theorem d_M_takeText_12 : decode b_M_takeText 12 = .ok (.if_icmp .ge 45, 3) := by decide +kernel
theorem d_M_takeText_15 : decode b_M_takeText 15 = .ok (.aload_n 0, 1) := by decide +kernel
theorem d_M_takeText_16 : decode b_M_takeText 16 = .ok (.getfield 7, 3) := by decide +kernel
theorem d_M_takeText_19 : decode b_M_takeText 19 = .ok (.iload_n 1, 1) := by decide +kernel
theorem d_M_takeText_20 : decode b_M_takeText 20 = .ok (.iaload, 1) := by decide +kernel
theorem d_M_takeText_21 : decode b_M_takeText 21 = .ok (.bipush 32, 2) := by decide +kernel
theorem d_M_takeText_23 : decode b_M_takeText 23 = .ok (.if_icmp .eq 28, 3) := by decide +kernel
theorem d_M_takeText_26 : decode b_M_takeText 26 = .ok (.aload_n 0, 1) := by decide +kernel
theorem d_M_takeText_27 : decode b_M_takeText 27 = .ok (.getfield 13, 3) := by decide +kernel
theorem d_M_takeText_30 : decode b_M_takeText 30 = .ok (.aload_n 0, 1) := by decide +kernel
theorem d_M_takeText_31 : decode b_M_takeText 31 = .ok (.getfield 61, 3) := by decide +kernel
theorem d_M_takeText_34 : decode b_M_takeText 34 = .ok (.aload_n 0, 1) := by decide +kernel
theorem d_M_takeText_35 : decode b_M_takeText 35 = .ok (.getfield 7, 3) := by decide +kernel
theorem d_M_takeText_38 : decode b_M_takeText 38 = .ok (.iload_n 1, 1) := by decide +kernel
theorem d_M_takeText_39 : decode b_M_takeText 39 = .ok (.iaload, 1) := by decide +kernel
theorem d_M_takeText_40 : decode b_M_takeText 40 = .ok (.iastore, 1) := by decide +kernel
theorem d_M_takeText_41 : decode b_M_takeText 41 = .ok (.aload_n 0, 1) := by decide +kernel
theorem d_M_takeText_42 : decode b_M_takeText 42 = .ok (.dup, 1) := by decide +kernel
theorem d_M_takeText_43 : decode b_M_takeText 43 = .ok (.getfield 61, 3) := by decide +kernel
theorem d_M_takeText_46 : decode b_M_takeText 46 = .ok (.iconst 1, 1) := by decide +kernel
theorem d_M_takeText_47 : decode b_M_takeText 47 = .ok (.iadd, 1) := by decide +kernel
theorem d_M_takeText_48 : decode b_M_takeText 48 = .ok (.putfield 61, 3) := by decide +kernel
theorem d_M_takeText_51 : decode b_M_takeText 51 = .ok (.iinc 1 1, 3) := by decide +kernel
theorem d_M_takeText_54 : decode b_M_takeText 54 = .ok (.goto (-47), 3) := by decide +kernel
theorem d_M_takeText_57 : decode b_M_takeText 57 = .ok (.aload_n 0, 1) := by decide +kernel
theorem d_M_takeText_58 : decode b_M_takeText 58 = .ok (.iconst 0, 1) := by decide +kernel
theorem d_M_takeText_59 : decode b_M_takeText 59 = .ok (.putfield 58, 3) := by decide +kernel
theorem d_M_takeText_62 : decode b_M_takeText 62 = .ok (.return_, 1) := by decide +kernel
theorem d_M_count_0 : decode b_M_count 0 = .ok (.iconst 0, 1) := by decide +kernel
theorem d_M_count_1 : decode b_M_count 1 = .ok (.istore_n 2, 1) := by decide +kernel
theorem d_M_count_2 : decode b_M_count 2 = .ok (.iconst 0, 1) := by decide +kernel
theorem d_M_count_3 : decode b_M_count 3 = .ok (.istore_n 3, 1) := by decide +kernel
theorem d_M_count_4 : decode b_M_count 4 = .ok (.iload_n 3, 1) := by decide +kernel
theorem d_M_count_5 : decode b_M_count 5 = .ok (.aload_n 0, 1) := by decide +kernel
theorem d_M_count_6 : decode b_M_count 6 = .ok (.getfield 61, 3) := by decide +kernel
theorem d_M_count_9 : decode b_M_count 9 = .ok (.if_icmp .ge 22, 3) := by decide +kernel
theorem d_M_count_12 : decode b_M_count 12 = .ok (.aload_n 0, 1) := by decide +kernel
theorem d_M_count_13 : decode b_M_count 13 = .ok (.getfield 13, 3) := by decide +kernel
theorem d_M_count_16 : decode b_M_count 16 = .ok (.iload_n 3, 1) := by decide +kernel
theorem d_M_count_17 : decode b_M_count 17 = .ok (.iaload, 1) := by decide +kernel
theorem d_M_count_18 : decode b_M_count 18 = .ok (.iload_n 1, 1) := by decide +kernel
theorem d_M_count_19 : decode b_M_count 19 = .ok (.if_icmp .ne 6, 3) := by decide +kernel
theorem d_M_count_22 : decode b_M_count 22 = .ok (.iinc 2 1, 3) := by decide +kernel
theorem d_M_count_25 : decode b_M_count 25 = .ok (.iinc 3 1, 3) := by decide +kernel
theorem d_M_count_28 : decode b_M_count 28 = .ok (.goto (-24), 3) := by decide +kernel
theorem d_M_count_31 : decode b_M_count 31 = .ok (.iload_n 2, 1) := by decide +kernel
theorem d_M_count_32 : decode b_M_count 32 = .ok (.ireturn, 1) := by decide +kernel
theorem d_M_relations_0 : decode b_M_relations 0 = .ok (.aload_n 0, 1) := by decide +kernel
theorem d_M_relations_1 : decode b_M_relations 1 = .ok (.bipush 60, 2) := by decide +kernel
theorem d_M_relations_3 : decode b_M_relations 3 = .ok (.invokevirtual 90, 3) := by decide +kernel
theorem d_M_relations_6 : decode b_M_relations 6 = .ok (.aload_n 0, 1) := by decide +kernel
theorem d_M_relations_7 : decode b_M_relations 7 = .ok (.bipush 61, 2) := by decide +kernel
theorem d_M_relations_9 : decode b_M_relations 9 = .ok (.invokevirtual 90, 3) := by decide +kernel
theorem d_M_relations_12 : decode b_M_relations 12 = .ok (.iadd, 1) := by decide +kernel
theorem d_M_relations_13 : decode b_M_relations 13 = .ok (.aload_n 0, 1) := by decide +kernel
theorem d_M_relations_14 : decode b_M_relations 14 = .ok (.bipush 62, 2) := by decide +kernel
theorem d_M_relations_16 : decode b_M_relations 16 = .ok (.invokevirtual 90, 3) := by decide +kernel
theorem d_M_relations_19 : decode b_M_relations 19 = .ok (.iadd, 1) := by decide +kernel
theorem d_M_relations_20 : decode b_M_relations 20 = .ok (.ireturn, 1) := by decide +kernel
theorem d_M_readSum_0 : decode b_M_readSum 0 = .ok (.iload_n 1, 1) := by decide +kernel
theorem d_M_readSum_1 : decode b_M_readSum 1 = .ok (.istore 4, 2) := by decide +kernel
theorem d_M_readSum_3 : decode b_M_readSum 3 = .ok (.iload_n 3, 1) := by decide +kernel
theorem d_M_readSum_4 : decode b_M_readSum 4 = .ok (.istore 5, 2) := by decide +kernel
theorem d_M_readSum_6 : decode b_M_readSum 6 = .ok (.iconst 1, 1) := by decide +kernel
theorem d_M_readSum_7 : decode b_M_readSum 7 = .ok (.istore 6, 2) := by decide +kernel
theorem d_M_readSum_9 : decode b_M_readSum 9 = .ok (.iload 6, 2) := by decide +kernel
theorem d_M_readSum_11 : decode b_M_readSum 11 = .ok (.ifCond .eq 277, 3) := by decide +kernel
theorem d_M_readSum_14 : decode b_M_readSum 14 = .ok (.aload_n 0, 1) := by decide +kernel
theorem d_M_readSum_15 : decode b_M_readSum 15 = .ok (.iload 4, 2) := by decide +kernel
theorem d_M_readSum_17 : decode b_M_readSum 17 = .ok (.invokevirtual 79, 3) := by decide +kernel
theorem d_M_readSum_20 : decode b_M_readSum 20 = .ok (.bipush 43, 2) := by decide +kernel
theorem d_M_readSum_22 : decode b_M_readSum 22 = .ok (.if_icmp .eq 14, 3) := by decide +kernel
theorem d_M_readSum_25 : decode b_M_readSum 25 = .ok (.aload_n 0, 1) := by decide +kernel
theorem d_M_readSum_26 : decode b_M_readSum 26 = .ok (.iload 4, 2) := by decide +kernel
theorem d_M_readSum_28 : decode b_M_readSum 28 = .ok (.invokevirtual 79, 3) := by decide +kernel
theorem d_M_readSum_31 : decode b_M_readSum 31 = .ok (.bipush 45, 2) := by decide +kernel
theorem d_M_readSum_33 : decode b_M_readSum 33 = .ok (.if_icmp .ne 25, 3) := by decide +kernel
theorem d_M_readSum_36 : decode b_M_readSum 36 = .ok (.aload_n 0, 1) := by decide +kernel
theorem d_M_readSum_37 : decode b_M_readSum 37 = .ok (.iload 4, 2) := by decide +kernel
theorem d_M_readSum_39 : decode b_M_readSum 39 = .ok (.invokevirtual 79, 3) := by decide +kernel
theorem d_M_readSum_42 : decode b_M_readSum 42 = .ok (.bipush 45, 2) := by decide +kernel
theorem d_M_readSum_44 : decode b_M_readSum 44 = .ok (.if_icmp .ne 8, 3) := by decide +kernel
theorem d_M_readSum_47 : decode b_M_readSum 47 = .ok (.iload_n 3, 1) := by decide +kernel
theorem d_M_readSum_48 : decode b_M_readSum 48 = .ok (.ineg, 1) := by decide +kernel
theorem d_M_readSum_49 : decode b_M_readSum 49 = .ok (.goto 4, 3) := by decide +kernel
theorem d_M_readSum_52 : decode b_M_readSum 52 = .ok (.iload_n 3, 1) := by decide +kernel
theorem d_M_readSum_53 : decode b_M_readSum 53 = .ok (.istore 5, 2) := by decide +kernel
theorem d_M_readSum_55 : decode b_M_readSum 55 = .ok (.iinc 4 1, 3) := by decide +kernel
theorem d_M_readSum_58 : decode b_M_readSum 58 = .ok (.iconst 1, 1) := by decide +kernel
theorem d_M_readSum_59 : decode b_M_readSum 59 = .ok (.istore 7, 2) := by decide +kernel
theorem d_M_readSum_61 : decode b_M_readSum 61 = .ok (.aload_n 0, 1) := by decide +kernel
theorem d_M_readSum_62 : decode b_M_readSum 62 = .ok (.iload 4, 2) := by decide +kernel
theorem d_M_readSum_64 : decode b_M_readSum 64 = .ok (.invokevirtual 79, 3) := by decide +kernel
theorem d_M_readSum_67 : decode b_M_readSum 67 = .ok (.invokestatic 75, 3) := by decide +kernel
theorem d_M_readSum_70 : decode b_M_readSum 70 = .ok (.ifCond .eq 17, 3) := by decide +kernel
theorem d_M_readSum_73 : decode b_M_readSum 73 = .ok (.aload_n 0, 1) := by decide +kernel
theorem d_M_readSum_74 : decode b_M_readSum 74 = .ok (.iload 4, 2) := by decide +kernel
theorem d_M_readSum_76 : decode b_M_readSum 76 = .ok (.invokevirtual 79, 3) := by decide +kernel
theorem d_M_readSum_79 : decode b_M_readSum 79 = .ok (.bipush 48, 2) := by decide +kernel
theorem d_M_readSum_81 : decode b_M_readSum 81 = .ok (.isub, 1) := by decide +kernel
theorem d_M_readSum_82 : decode b_M_readSum 82 = .ok (.istore 7, 2) := by decide +kernel
theorem d_M_readSum_84 : decode b_M_readSum 84 = .ok (.iinc 4 1, 3) := by decide +kernel
theorem d_M_readSum_87 : decode b_M_readSum 87 = .ok (.aload_n 0, 1) := by decide +kernel
theorem d_M_readSum_88 : decode b_M_readSum 88 = .ok (.iload 4, 2) := by decide +kernel
theorem d_M_readSum_90 : decode b_M_readSum 90 = .ok (.invokevirtual 79, 3) := by decide +kernel
theorem d_M_readSum_93 : decode b_M_readSum 93 = .ok (.bipush 120, 2) := by decide +kernel
theorem d_M_readSum_95 : decode b_M_readSum 95 = .ok (.if_icmp .eq 27, 3) := by decide +kernel
theorem d_M_readSum_98 : decode b_M_readSum 98 = .ok (.aload_n 0, 1) := by decide +kernel
theorem d_M_readSum_99 : decode b_M_readSum 99 = .ok (.iload 4, 2) := by decide +kernel
theorem d_M_readSum_101 : decode b_M_readSum 101 = .ok (.invokevirtual 79, 3) := by decide +kernel
theorem d_M_readSum_104 : decode b_M_readSum 104 = .ok (.bipush 121, 2) := by decide +kernel
theorem d_M_readSum_106 : decode b_M_readSum 106 = .ok (.if_icmp .ne 20, 3) := by decide +kernel
theorem d_M_readSum_109 : decode b_M_readSum 109 = .ok (.aload_n 0, 1) := by decide +kernel
theorem d_M_readSum_110 : decode b_M_readSum 110 = .ok (.iload 4, 2) := by decide +kernel
theorem d_M_readSum_112 : decode b_M_readSum 112 = .ok (.iconst 1, 1) := by decide +kernel
theorem d_M_readSum_113 : decode b_M_readSum 113 = .ok (.iadd, 1) := by decide +kernel
theorem d_M_readSum_114 : decode b_M_readSum 114 = .ok (.invokevirtual 79, 3) := by decide +kernel
theorem d_M_readSum_117 : decode b_M_readSum 117 = .ok (.bipush 120, 2) := by decide +kernel
theorem d_M_readSum_119 : decode b_M_readSum 119 = .ok (.if_icmp .ne 7, 3) := by decide +kernel
theorem d_M_readSum_122 : decode b_M_readSum 122 = .ok (.iconst 1, 1) := by decide +kernel
theorem d_M_readSum_123 : decode b_M_readSum 123 = .ok (.goto 4, 3) := by decide +kernel
theorem d_M_readSum_126 : decode b_M_readSum 126 = .ok (.iconst 0, 1) := by decide +kernel
theorem d_M_readSum_127 : decode b_M_readSum 127 = .ok (.istore 8, 2) := by decide +kernel
theorem d_M_readSum_129 : decode b_M_readSum 129 = .ok (.aload_n 0, 1) := by decide +kernel
theorem d_M_readSum_130 : decode b_M_readSum 130 = .ok (.iload 4, 2) := by decide +kernel
theorem d_M_readSum_132 : decode b_M_readSum 132 = .ok (.invokevirtual 79, 3) := by decide +kernel
theorem d_M_readSum_135 : decode b_M_readSum 135 = .ok (.bipush 121, 2) := by decide +kernel
theorem d_M_readSum_137 : decode b_M_readSum 137 = .ok (.if_icmp .eq 27, 3) := by decide +kernel
theorem d_M_readSum_140 : decode b_M_readSum 140 = .ok (.aload_n 0, 1) := by decide +kernel
theorem d_M_readSum_141 : decode b_M_readSum 141 = .ok (.iload 4, 2) := by decide +kernel
