theorem d_F_setPair_22 : decode b_F_setPair 22 = .ok (.iconst 0, 1) := by decide +kernel
theorem d_F_setPair_23 : decode b_F_setPair 23 = .ok (.invokevirtual 7, 3) := by decide +kernel
theorem d_F_setPair_26 : decode b_F_setPair 26 = .ok (.imul, 1) := by decide +kernel
theorem d_F_setPair_27 : decode b_F_setPair 27 = .ok (.isub, 1) := by decide +kernel
theorem d_F_setPair_28 : decode b_F_setPair 28 = .ok (.putfield 13, 3) := by decide +kernel
theorem d_F_setPair_31 : decode b_F_setPair 31 = .ok (.aload_n 0, 1) := by decide +kernel
theorem d_F_setPair_32 : decode b_F_setPair 32 = .ok (.aload_n 1, 1) := by decide +kernel
theorem d_F_setPair_33 : decode b_F_setPair 33 = .ok (.iload_n 2, 1) := by decide +kernel
theorem d_F_setPair_34 : decode b_F_setPair 34 = .ok (.iconst 2, 1) := by decide +kernel
theorem d_F_setPair_35 : decode b_F_setPair 35 = .ok (.invokevirtual 7, 3) := by decide +kernel
theorem d_F_setPair_38 : decode b_F_setPair 38 = .ok (.aload_n 1, 1) := by decide +kernel
theorem d_F_setPair_39 : decode b_F_setPair 39 = .ok (.iload_n 3, 1) := by decide +kernel
theorem d_F_setPair_40 : decode b_F_setPair 40 = .ok (.iconst 1, 1) := by decide +kernel
theorem d_F_setPair_41 : decode b_F_setPair 41 = .ok (.invokevirtual 7, 3) := by decide +kernel
theorem d_F_setPair_44 : decode b_F_setPair 44 = .ok (.imul, 1) := by decide +kernel
theorem d_F_setPair_45 : decode b_F_setPair 45 = .ok (.aload_n 1, 1) := by decide +kernel
theorem d_F_setPair_46 : decode b_F_setPair 46 = .ok (.iload_n 2, 1) := by decide +kernel
theorem d_F_setPair_47 : decode b_F_setPair 47 = .ok (.iconst 3, 1) := by decide +kernel
theorem d_F_setPair_48 : decode b_F_setPair 48 = .ok (.invokevirtual 7, 3) := by decide +kernel
theorem d_F_setPair_51 : decode b_F_setPair 51 = .ok (.aload_n 1, 1) := by decide +kernel
theorem d_F_setPair_52 : decode b_F_setPair 52 = .ok (.iload_n 3, 1) := by decide +kernel
theorem d_F_setPair_53 : decode b_F_setPair 53 = .ok (.iconst 0, 1) := by decide +kernel
theorem d_F_setPair_54 : decode b_F_setPair 54 = .ok (.invokevirtual 7, 3) := by decide +kernel
theorem d_F_setPair_57 : decode b_F_setPair 57 = .ok (.imul, 1) := by decide +kernel
theorem d_F_setPair_58 : decode b_F_setPair 58 = .ok (.iadd, 1) := by decide +kernel
theorem d_F_setPair_59 : decode b_F_setPair 59 = .ok (.aload_n 1, 1) := by decide +kernel
theorem d_F_setPair_60 : decode b_F_setPair 60 = .ok (.iload_n 3, 1) := by decide +kernel
theorem d_F_setPair_61 : decode b_F_setPair 61 = .ok (.iconst 2, 1) := by decide +kernel
theorem d_F_setPair_62 : decode b_F_setPair 62 = .ok (.invokevirtual 7, 3) := by decide +kernel
theorem d_F_setPair_65 : decode b_F_setPair 65 = .ok (.aload_n 1, 1) := by decide +kernel
theorem d_F_setPair_66 : decode b_F_setPair 66 = .ok (.iload_n 2, 1) := by decide +kernel
theorem d_F_setPair_67 : decode b_F_setPair 67 = .ok (.iconst 1, 1) := by decide +kernel
theorem d_F_setPair_68 : decode b_F_setPair 68 = .ok (.invokevirtual 7, 3) := by decide +kernel
theorem d_F_setPair_71 : decode b_F_setPair 71 = .ok (.imul, 1) := by decide +kernel
theorem d_F_setPair_72 : decode b_F_setPair 72 = .ok (.isub, 1) := by decide +kernel
theorem d_F_setPair_73 : decode b_F_setPair 73 = .ok (.aload_n 1, 1) := by decide +kernel
theorem d_F_setPair_74 : decode b_F_setPair 74 = .ok (.iload_n 3, 1) := by decide +kernel
theorem d_F_setPair_75 : decode b_F_setPair 75 = .ok (.iconst 3, 1) := by decide +kernel
theorem d_F_setPair_76 : decode b_F_setPair 76 = .ok (.invokevirtual 7, 3) := by decide +kernel
theorem d_F_setPair_79 : decode b_F_setPair 79 = .ok (.aload_n 1, 1) := by decide +kernel
theorem d_F_setPair_80 : decode b_F_setPair 80 = .ok (.iload_n 2, 1) := by decide +kernel
theorem d_F_setPair_81 : decode b_F_setPair 81 = .ok (.iconst 0, 1) := by decide +kernel
theorem d_F_setPair_82 : decode b_F_setPair 82 = .ok (.invokevirtual 7, 3) := by decide +kernel
theorem d_F_setPair_85 : decode b_F_setPair 85 = .ok (.imul, 1) := by decide +kernel
theorem d_F_setPair_86 : decode b_F_setPair 86 = .ok (.isub, 1) := by decide +kernel
theorem d_F_setPair_87 : decode b_F_setPair 87 = .ok (.putfield 19, 3) := by decide +kernel
theorem d_F_setPair_90 : decode b_F_setPair 90 = .ok (.aload_n 0, 1) := by decide +kernel
theorem d_F_setPair_91 : decode b_F_setPair 91 = .ok (.aload_n 1, 1) := by decide +kernel
theorem d_F_setPair_92 : decode b_F_setPair 92 = .ok (.iload_n 2, 1) := by decide +kernel
theorem d_F_setPair_93 : decode b_F_setPair 93 = .ok (.iconst 3, 1) := by decide +kernel
theorem d_F_setPair_94 : decode b_F_setPair 94 = .ok (.invokevirtual 7, 3) := by decide +kernel
theorem d_F_setPair_97 : decode b_F_setPair 97 = .ok (.aload_n 1, 1) := by decide +kernel
theorem d_F_setPair_98 : decode b_F_setPair 98 = .ok (.iload_n 3, 1) := by decide +kernel
theorem d_F_setPair_99 : decode b_F_setPair 99 = .ok (.iconst 1, 1) := by decide +kernel
theorem d_F_setPair_100 : decode b_F_setPair 100 = .ok (.invokevirtual 7, 3) := by decide +kernel
theorem d_F_setPair_103 : decode b_F_setPair 103 = .ok (.imul, 1) := by decide +kernel
theorem d_F_setPair_104 : decode b_F_setPair 104 = .ok (.aload_n 1, 1) := by decide +kernel
theorem d_F_setPair_105 : decode b_F_setPair 105 = .ok (.iload_n 3, 1) := by decide +kernel
theorem d_F_setPair_106 : decode b_F_setPair 106 = .ok (.iconst 3, 1) := by decide +kernel
theorem d_F_setPair_107 : decode b_F_setPair 107 = .ok (.invokevirtual 7, 3) := by decide +kernel
theorem d_F_setPair_110 : decode b_F_setPair 110 = .ok (.aload_n 1, 1) := by decide +kernel
theorem d_F_setPair_111 : decode b_F_setPair 111 = .ok (.iload_n 2, 1) := by decide +kernel
theorem d_F_setPair_112 : decode b_F_setPair 112 = .ok (.iconst 1, 1) := by decide +kernel
theorem d_F_setPair_113 : decode b_F_setPair 113 = .ok (.invokevirtual 7, 3) := by decide +kernel
theorem d_F_setPair_116 : decode b_F_setPair 116 = .ok (.imul, 1) := by decide +kernel
theorem d_F_setPair_117 : decode b_F_setPair 117 = .ok (.isub, 1) := by decide +kernel
theorem d_F_setPair_118 : decode b_F_setPair 118 = .ok (.putfield 22, 3) := by decide +kernel
theorem d_F_setPair_121 : decode b_F_setPair 121 = .ok (.return_, 1) := by decide +kernel
theorem d_Q_cut_0 : decode b_Q_cut 0 = .ok (.aload_n 0, 1) := by decide +kernel
theorem d_Q_cut_1 : decode b_Q_cut 1 = .ok (.getfield 12, 3) := by decide +kernel
theorem d_Q_cut_4 : decode b_Q_cut 4 = .ok (.invokevirtual 39, 3) := by decide +kernel
theorem d_Q_cut_7 : decode b_Q_cut 7 = .ok (.iconst 0, 1) := by decide +kernel
theorem d_Q_cut_8 : decode b_Q_cut 8 = .ok (.istore_n 1, 1) := by decide +kernel
theorem d_Q_cut_9 : decode b_Q_cut 9 = .ok (.iload_n 1, 1) := by decide +kernel
theorem d_Q_cut_10 : decode b_Q_cut 10 = .ok (.aload_n 0, 1) := by decide +kernel
theorem d_Q_cut_11 : decode b_Q_cut 11 = .ok (.getfield 35, 3) := by decide +kernel
theorem d_Q_cut_14 : decode b_Q_cut 14 = .ok (.getfield 42, 3) := by decide +kernel
theorem d_Q_cut_17 : decode b_Q_cut 17 = .ok (.if_icmp .ge 92, 3) := by decide +kernel
theorem d_Q_cut_20 : decode b_Q_cut 20 = .ok (.aload_n 0, 1) := by decide +kernel
theorem d_Q_cut_21 : decode b_Q_cut 21 = .ok (.getfield 21, 3) := by decide +kernel
theorem d_Q_cut_24 : decode b_Q_cut 24 = .ok (.aload_n 0, 1) := by decide +kernel
theorem d_Q_cut_25 : decode b_Q_cut 25 = .ok (.getfield 35, 3) := by decide +kernel
theorem d_Q_cut_28 : decode b_Q_cut 28 = .ok (.iload_n 1, 1) := by decide +kernel
theorem d_Q_cut_29 : decode b_Q_cut 29 = .ok (.invokevirtual 48, 3) := by decide +kernel
theorem d_Q_cut_32 : decode b_Q_cut 32 = .ok (.aload_n 0, 1) := by decide +kernel
theorem d_Q_cut_33 : decode b_Q_cut 33 = .ok (.getfield 12, 3) := by decide +kernel
theorem d_Q_cut_36 : decode b_Q_cut 36 = .ok (.aload_n 0, 1) := by decide +kernel
theorem d_Q_cut_37 : decode b_Q_cut 37 = .ok (.getfield 21, 3) := by decide +kernel
theorem d_Q_cut_40 : decode b_Q_cut 40 = .ok (.invokevirtual 52, 3) := by decide +kernel
theorem d_Q_cut_43 : decode b_Q_cut 43 = .ok (.aload_n 0, 1) := by decide +kernel
theorem d_Q_cut_44 : decode b_Q_cut 44 = .ok (.getfield 21, 3) := by decide +kernel
theorem d_Q_cut_47 : decode b_Q_cut 47 = .ok (.aload_n 0, 1) := by decide +kernel
theorem d_Q_cut_48 : decode b_Q_cut 48 = .ok (.getfield 35, 3) := by decide +kernel
theorem d_Q_cut_51 : decode b_Q_cut 51 = .ok (.iload_n 1, 1) := by decide +kernel
theorem d_Q_cut_52 : decode b_Q_cut 52 = .ok (.invokevirtual 56, 3) := by decide +kernel
theorem d_Q_cut_55 : decode b_Q_cut 55 = .ok (.aload_n 0, 1) := by decide +kernel
theorem d_Q_cut_56 : decode b_Q_cut 56 = .ok (.getfield 12, 3) := by decide +kernel
theorem d_Q_cut_59 : decode b_Q_cut 59 = .ok (.aload_n 0, 1) := by decide +kernel
theorem d_Q_cut_60 : decode b_Q_cut 60 = .ok (.getfield 21, 3) := by decide +kernel
theorem d_Q_cut_63 : decode b_Q_cut 63 = .ok (.invokevirtual 52, 3) := by decide +kernel
theorem d_Q_cut_66 : decode b_Q_cut 66 = .ok (.iconst 0, 1) := by decide +kernel
theorem d_Q_cut_67 : decode b_Q_cut 67 = .ok (.istore_n 2, 1) := by decide +kernel
theorem d_Q_cut_68 : decode b_Q_cut 68 = .ok (.iload_n 2, 1) := by decide +kernel
theorem d_Q_cut_69 : decode b_Q_cut 69 = .ok (.iload_n 1, 1) := by decide +kernel
theorem d_Q_cut_70 : decode b_Q_cut 70 = .ok (.if_icmp .ge 33, 3) := by decide +kernel
theorem d_Q_cut_73 : decode b_Q_cut 73 = .ok (.aload_n 0, 1) := by decide +kernel
theorem d_Q_cut_74 : decode b_Q_cut 74 = .ok (.getfield 21, 3) := by decide +kernel
theorem d_Q_cut_77 : decode b_Q_cut 77 = .ok (.aload_n 0, 1) := by decide +kernel
theorem d_Q_cut_78 : decode b_Q_cut 78 = .ok (.getfield 35, 3) := by decide +kernel
theorem d_Q_cut_81 : decode b_Q_cut 81 = .ok (.iload_n 1, 1) := by decide +kernel
theorem d_Q_cut_82 : decode b_Q_cut 82 = .ok (.iload_n 2, 1) := by decide +kernel
theorem d_Q_cut_83 : decode b_Q_cut 83 = .ok (.invokevirtual 59, 3) := by decide +kernel
theorem d_Q_cut_86 : decode b_Q_cut 86 = .ok (.aload_n 0, 1) := by decide +kernel
theorem d_Q_cut_87 : decode b_Q_cut 87 = .ok (.getfield 12, 3) := by decide +kernel
theorem d_Q_cut_90 : decode b_Q_cut 90 = .ok (.aload_n 0, 1) := by decide +kernel
theorem d_Q_cut_91 : decode b_Q_cut 91 = .ok (.getfield 21, 3) := by decide +kernel
theorem d_Q_cut_94 : decode b_Q_cut 94 = .ok (.invokevirtual 52, 3) := by decide +kernel
theorem d_Q_cut_97 : decode b_Q_cut 97 = .ok (.iinc 2 1, 3) := by decide +kernel
theorem d_Q_cut_100 : decode b_Q_cut 100 = .ok (.goto (-32), 3) := by decide +kernel
theorem d_Q_cut_103 : decode b_Q_cut 103 = .ok (.iinc 1 1, 3) := by decide +kernel
theorem d_Q_cut_106 : decode b_Q_cut 106 = .ok (.goto (-97), 3) := by decide +kernel
theorem d_Q_cut_109 : decode b_Q_cut 109 = .ok (.return_, 1) := by decide +kernel
theorem d_Q_countColumns_0 : decode b_Q_countColumns 0 = .ok (.iconst 2, 1) := by decide +kernel
theorem d_Q_countColumns_1 : decode b_Q_countColumns 1 = .ok (.aload_n 0, 1) := by decide +kernel
theorem d_Q_countColumns_2 : decode b_Q_countColumns 2 = .ok (.getfield 12, 3) := by decide +kernel
theorem d_Q_countColumns_5 : decode b_Q_countColumns 5 = .ok (.getfield 63, 3) := by decide +kernel
theorem d_Q_countColumns_8 : decode b_Q_countColumns 8 = .ok (.imul, 1) := by decide +kernel
theorem d_Q_countColumns_9 : decode b_Q_countColumns 9 = .ok (.iconst 1, 1) := by decide +kernel
theorem d_Q_countColumns_10 : decode b_Q_countColumns 10 = .ok (.iadd, 1) := by decide +kernel
theorem d_Q_countColumns_11 : decode b_Q_countColumns 11 = .ok (.ireturn, 1) := by decide +kernel
theorem d_Q_addZero_0 : decode b_Q_addZero 0 = .ok (.iconst 1, 1) := by decide +kernel
theorem d_Q_addZero_1 : decode b_Q_addZero 1 = .ok (.istore_n 3, 1) := by decide +kernel
theorem d_Q_addZero_2 : decode b_Q_addZero 2 = .ok (.iconst 0, 1) := by decide +kernel
theorem d_Q_addZero_3 : decode b_Q_addZero 3 = .ok (.istore 4, 2) := by decide +kernel
theorem d_Q_addZero_5 : decode b_Q_addZero 5 = .ok (.iload 4, 2) := by decide +kernel
theorem d_Q_addZero_7 : decode b_Q_addZero 7 = .ok (.iload_n 2, 1) := by decide +kernel
theorem d_Q_addZero_8 : decode b_Q_addZero 8 = .ok (.if_icmp .ge 103, 3) := by decide +kernel
theorem d_Q_addZero_11 : decode b_Q_addZero 11 = .ok (.aload_n 0, 1) := by decide +kernel
theorem d_Q_addZero_12 : decode b_Q_addZero 12 = .ok (.getfield 25, 3) := by decide +kernel
theorem d_Q_addZero_15 : decode b_Q_addZero 15 = .ok (.iload 4, 2) := by decide +kernel
theorem d_Q_addZero_17 : decode b_Q_addZero 17 = .ok (.iaload, 1) := by decide +kernel
theorem d_Q_addZero_18 : decode b_Q_addZero 18 = .ok (.ifCond .ne 6, 3) := by decide +kernel
theorem d_Q_addZero_21 : decode b_Q_addZero 21 = .ok (.goto 84, 3) := by decide +kernel
theorem d_Q_addZero_24 : decode b_Q_addZero 24 = .ok (.aload_n 0, 1) := by decide +kernel
theorem d_Q_addZero_25 : decode b_Q_addZero 25 = .ok (.getfield 21, 3) := by decide +kernel
theorem d_Q_addZero_28 : decode b_Q_addZero 28 = .ok (.aload_n 0, 1) := by decide +kernel
theorem d_Q_addZero_29 : decode b_Q_addZero 29 = .ok (.getfield 35, 3) := by decide +kernel
theorem d_Q_addZero_32 : decode b_Q_addZero 32 = .ok (.iload_n 2, 1) := by decide +kernel
theorem d_Q_addZero_33 : decode b_Q_addZero 33 = .ok (.iload 4, 2) := by decide +kernel
theorem d_Q_addZero_35 : decode b_Q_addZero 35 = .ok (.invokevirtual 59, 3) := by decide +kernel
theorem d_Q_addZero_38 : decode b_Q_addZero 38 = .ok (.aload_n 0, 1) := by decide +kernel
theorem d_Q_addZero_39 : decode b_Q_addZero 39 = .ok (.getfield 12, 3) := by decide +kernel
theorem d_Q_addZero_42 : decode b_Q_addZero 42 = .ok (.iload_n 1, 1) := by decide +kernel
theorem d_Q_addZero_43 : decode b_Q_addZero 43 = .ok (.aload_n 0, 1) := by decide +kernel
theorem d_Q_addZero_44 : decode b_Q_addZero 44 = .ok (.getfield 21, 3) := by decide +kernel
theorem d_Q_addZero_47 : decode b_Q_addZero 47 = .ok (.invokevirtual 69, 3) := by decide +kernel
theorem d_Q_addZero_50 : decode b_Q_addZero 50 = .ok (.aload_n 0, 1) := by decide +kernel
theorem d_Q_addZero_51 : decode b_Q_addZero 51 = .ok (.getfield 25, 3) := by decide +kernel
theorem d_Q_addZero_54 : decode b_Q_addZero 54 = .ok (.iload_n 2, 1) := by decide +kernel
theorem d_Q_addZero_55 : decode b_Q_addZero 55 = .ok (.iaload, 1) := by decide +kernel
theorem d_Q_addZero_56 : decode b_Q_addZero 56 = .ok (.imul, 1) := by decide +kernel
theorem d_Q_addZero_57 : decode b_Q_addZero 57 = .ok (.aload_n 0, 1) := by decide +kernel
theorem d_Q_addZero_58 : decode b_Q_addZero 58 = .ok (.getfield 25, 3) := by decide +kernel
theorem d_Q_addZero_61 : decode b_Q_addZero 61 = .ok (.iload 4, 2) := by decide +kernel
theorem d_Q_addZero_63 : decode b_Q_addZero 63 = .ok (.iaload, 1) := by decide +kernel
theorem d_Q_addZero_64 : decode b_Q_addZero 64 = .ok (.imul, 1) := by decide +kernel
theorem d_Q_addZero_65 : decode b_Q_addZero 65 = .ok (.istore 5, 2) := by decide +kernel
theorem d_Q_addZero_67 : decode b_Q_addZero 67 = .ok (.iload 5, 2) := by decide +kernel
theorem d_Q_addZero_69 : decode b_Q_addZero 69 = .ok (.ifCond .ne 17, 3) := by decide +kernel
theorem d_Q_addZero_72 : decode b_Q_addZero 72 = .ok (.aload_n 0, 1) := by decide +kernel
theorem d_Q_addZero_73 : decode b_Q_addZero 73 = .ok (.getfield 32, 3) := by decide +kernel
theorem d_Q_addZero_76 : decode b_Q_addZero 76 = .ok (.iload_n 2, 1) := by decide +kernel
theorem d_Q_addZero_77 : decode b_Q_addZero 77 = .ok (.aload_n 0, 1) := by decide +kernel
theorem d_Q_addZero_78 : decode b_Q_addZero 78 = .ok (.getfield 32, 3) := by decide +kernel
theorem d_Q_addZero_81 : decode b_Q_addZero 81 = .ok (.iload 4, 2) := by decide +kernel
theorem d_Q_addZero_83 : decode b_Q_addZero 83 = .ok (.iaload, 1) := by decide +kernel
theorem d_Q_addZero_84 : decode b_Q_addZero 84 = .ok (.iastore, 1) := by decide +kernel
theorem d_Q_addZero_85 : decode b_Q_addZero 85 = .ok (.return_, 1) := by decide +kernel
theorem d_Q_addZero_86 : decode b_Q_addZero 86 = .ok (.iload 5, 2) := by decide +kernel
theorem d_Q_addZero_88 : decode b_Q_addZero 88 = .ok (.ifCond .le 17, 3) := by decide +kernel
theorem d_Q_addZero_91 : decode b_Q_addZero 91 = .ok (.iload_n 3, 1) := by decide +kernel
theorem d_Q_addZero_92 : decode b_Q_addZero 92 = .ok (.aload_n 0, 1) := by decide +kernel
theorem d_Q_addZero_93 : decode b_Q_addZero 93 = .ok (.getfield 32, 3) := by decide +kernel
theorem d_Q_addZero_96 : decode b_Q_addZero 96 = .ok (.iload 4, 2) := by decide +kernel
theorem d_Q_addZero_98 : decode b_Q_addZero 98 = .ok (.iaload, 1) := by decide +kernel
theorem d_Q_addZero_99 : decode b_Q_addZero 99 = .ok (.iconst 2, 1) := by decide +kernel
theorem d_Q_addZero_100 : decode b_Q_addZero 100 = .ok (.iadd, 1) := by decide +kernel
theorem d_Q_addZero_101 : decode b_Q_addZero 101 = .ok (.invokestatic 77, 3) := by decide +kernel
theorem d_Q_addZero_104 : decode b_Q_addZero 104 = .ok (.istore_n 3, 1) := by decide +kernel
theorem d_Q_addZero_105 : decode b_Q_addZero 105 = .ok (.iinc 4 1, 3) := by decide +kernel
theorem d_Q_addZero_108 : decode b_Q_addZero 108 = .ok (.goto (-103), 3) := by decide +kernel
theorem d_Q_addZero_111 : decode b_Q_addZero 111 = .ok (.iconst 0, 1) := by decide +kernel
theorem d_Q_addZero_112 : decode b_Q_addZero 112 = .ok (.istore 4, 2) := by decide +kernel
theorem d_Q_addZero_114 : decode b_Q_addZero 114 = .ok (.iload 4, 2) := by decide +kernel
theorem d_Q_addZero_116 : decode b_Q_addZero 116 = .ok (.iload_n 2, 1) := by decide +kernel
theorem d_Q_addZero_117 : decode b_Q_addZero 117 = .ok (.if_icmp .ge 31, 3) := by decide +kernel
theorem d_Q_addZero_120 : decode b_Q_addZero 120 = .ok (.aload_n 0, 1) := by decide +kernel
theorem d_Q_addZero_121 : decode b_Q_addZero 121 = .ok (.getfield 32, 3) := by decide +kernel
theorem d_Q_addZero_124 : decode b_Q_addZero 124 = .ok (.iload 4, 2) := by decide +kernel
theorem d_Q_addZero_126 : decode b_Q_addZero 126 = .ok (.iaload, 1) := by decide +kernel
theorem d_Q_addZero_127 : decode b_Q_addZero 127 = .ok (.iload_n 3, 1) := by decide +kernel
theorem d_Q_addZero_128 : decode b_Q_addZero 128 = .ok (.if_icmp .lt 14, 3) := by decide +kernel
theorem d_Q_addZero_131 : decode b_Q_addZero 131 = .ok (.aload_n 0, 1) := by decide +kernel
theorem d_Q_addZero_132 : decode b_Q_addZero 132 = .ok (.getfield 32, 3) := by decide +kernel
theorem d_Q_addZero_135 : decode b_Q_addZero 135 = .ok (.iload 4, 2) := by decide +kernel
theorem d_Q_addZero_137 : decode b_Q_addZero 137 = .ok (.dup2, 1) := by decide +kernel
theorem d_Q_addZero_138 : decode b_Q_addZero 138 = .ok (.iaload, 1) := by decide +kernel
theorem d_Q_addZero_139 : decode b_Q_addZero 139 = .ok (.iconst 2, 1) := by decide +kernel
theorem d_Q_addZero_140 : decode b_Q_addZero 140 = .ok (.iadd, 1) := by decide +kernel
theorem d_Q_addZero_141 : decode b_Q_addZero 141 = .ok (.iastore, 1) := by decide +kernel
theorem d_Q_addZero_142 : decode b_Q_addZero 142 = .ok (.iinc 4 1, 3) := by decide +kernel
theorem d_Q_addZero_145 : decode b_Q_addZero 145 = .ok (.goto (-31), 3) := by decide +kernel
theorem d_Q_addZero_148 : decode b_Q_addZero 148 = .ok (.aload_n 0, 1) := by decide +kernel
theorem d_Q_addZero_149 : decode b_Q_addZero 149 = .ok (.getfield 32, 3) := by decide +kernel
theorem d_Q_addZero_152 : decode b_Q_addZero 152 = .ok (.iload_n 2, 1) := by decide +kernel
theorem d_Q_addZero_153 : decode b_Q_addZero 153 = .ok (.iload_n 3, 1) := by decide +kernel
theorem d_Q_addZero_154 : decode b_Q_addZero 154 = .ok (.iastore, 1) := by decide +kernel
theorem d_Q_addZero_155 : decode b_Q_addZero 155 = .ok (.aload_n 0, 1) := by decide +kernel
theorem d_Q_addZero_156 : decode b_Q_addZero 156 = .ok (.dup, 1) := by decide +kernel
theorem d_Q_addZero_157 : decode b_Q_addZero 157 = .ok (.getfield 66, 3) := by decide +kernel
theorem d_Q_addZero_160 : decode b_Q_addZero 160 = .ok (.iconst 2, 1) := by decide +kernel
theorem d_Q_addZero_161 : decode b_Q_addZero 161 = .ok (.iadd, 1) := by decide +kernel
theorem d_Q_addZero_162 : decode b_Q_addZero 162 = .ok (.putfield 66, 3) := by decide +kernel
theorem d_Q_addZero_165 : decode b_Q_addZero 165 = .ok (.return_, 1) := by decide +kernel
theorem d_Q_enter_0 : decode b_Q_enter 0 = .ok (.aload_n 0, 1) := by decide +kernel
theorem d_Q_enter_1 : decode b_Q_enter 1 = .ok (.iconst 1, 1) := by decide +kernel
theorem d_Q_enter_2 : decode b_Q_enter 2 = .ok (.putfield 66, 3) := by decide +kernel
theorem d_Q_enter_5 : decode b_Q_enter 5 = .ok (.iconst 0, 1) := by decide +kernel
theorem d_Q_enter_6 : decode b_Q_enter 6 = .ok (.istore_n 2, 1) := by decide +kernel
theorem d_Q_enter_7 : decode b_Q_enter 7 = .ok (.iload_n 2, 1) := by decide +kernel
theorem d_Q_enter_8 : decode b_Q_enter 8 = .ok (.aload_n 0, 1) := by decide +kernel
theorem d_Q_enter_9 : decode b_Q_enter 9 = .ok (.getfield 35, 3) := by decide +kernel
theorem d_Q_enter_12 : decode b_Q_enter 12 = .ok (.getfield 42, 3) := by decide +kernel
theorem d_Q_enter_15 : decode b_Q_enter 15 = .ok (.if_icmp .ge 91, 3) := by decide +kernel
theorem d_Q_enter_18 : decode b_Q_enter 18 = .ok (.aload_n 0, 1) := by decide +kernel
theorem d_Q_enter_19 : decode b_Q_enter 19 = .ok (.getfield 21, 3) := by decide +kernel
theorem d_Q_enter_22 : decode b_Q_enter 22 = .ok (.aload_n 0, 1) := by decide +kernel
theorem d_Q_enter_23 : decode b_Q_enter 23 = .ok (.getfield 35, 3) := by decide +kernel
theorem d_Q_enter_26 : decode b_Q_enter 26 = .ok (.iload_n 2, 1) := by decide +kernel
theorem d_Q_enter_27 : decode b_Q_enter 27 = .ok (.invokevirtual 48, 3) := by decide +kernel
theorem d_Q_enter_30 : decode b_Q_enter 30 = .ok (.aload_n 0, 1) := by decide +kernel
theorem d_Q_enter_31 : decode b_Q_enter 31 = .ok (.getfield 25, 3) := by decide +kernel
theorem d_Q_enter_34 : decode b_Q_enter 34 = .ok (.iload_n 2, 1) := by decide +kernel
theorem d_Q_enter_35 : decode b_Q_enter 35 = .ok (.aload_n 0, 1) := by decide +kernel
theorem d_Q_enter_36 : decode b_Q_enter 36 = .ok (.getfield 12, 3) := by decide +kernel
theorem d_Q_enter_39 : decode b_Q_enter 39 = .ok (.iload_n 1, 1) := by decide +kernel
theorem d_Q_enter_40 : decode b_Q_enter 40 = .ok (.aload_n 0, 1) := by decide +kernel
theorem d_Q_enter_41 : decode b_Q_enter 41 = .ok (.getfield 21, 3) := by decide +kernel
theorem d_Q_enter_44 : decode b_Q_enter 44 = .ok (.invokevirtual 69, 3) := by decide +kernel
theorem d_Q_enter_47 : decode b_Q_enter 47 = .ok (.iastore, 1) := by decide +kernel
theorem d_Q_enter_48 : decode b_Q_enter 48 = .ok (.aload_n 0, 1) := by decide +kernel
theorem d_Q_enter_49 : decode b_Q_enter 49 = .ok (.getfield 21, 3) := by decide +kernel
theorem d_Q_enter_52 : decode b_Q_enter 52 = .ok (.aload_n 0, 1) := by decide +kernel
theorem d_Q_enter_53 : decode b_Q_enter 53 = .ok (.getfield 35, 3) := by decide +kernel
theorem d_Q_enter_56 : decode b_Q_enter 56 = .ok (.iload_n 2, 1) := by decide +kernel
theorem d_Q_enter_57 : decode b_Q_enter 57 = .ok (.invokevirtual 56, 3) := by decide +kernel
theorem d_Q_enter_60 : decode b_Q_enter 60 = .ok (.aload_n 0, 1) := by decide +kernel
theorem d_Q_enter_61 : decode b_Q_enter 61 = .ok (.getfield 29, 3) := by decide +kernel
theorem d_Q_enter_64 : decode b_Q_enter 64 = .ok (.iload_n 2, 1) := by decide +kernel
theorem d_Q_enter_65 : decode b_Q_enter 65 = .ok (.aload_n 0, 1) := by decide +kernel
theorem d_Q_enter_66 : decode b_Q_enter 66 = .ok (.getfield 12, 3) := by decide +kernel
theorem d_Q_enter_69 : decode b_Q_enter 69 = .ok (.iload_n 1, 1) := by decide +kernel
theorem d_Q_enter_70 : decode b_Q_enter 70 = .ok (.aload_n 0, 1) := by decide +kernel
theorem d_Q_enter_71 : decode b_Q_enter 71 = .ok (.getfield 21, 3) := by decide +kernel
theorem d_Q_enter_74 : decode b_Q_enter 74 = .ok (.invokevirtual 69, 3) := by decide +kernel
theorem d_Q_enter_77 : decode b_Q_enter 77 = .ok (.iastore, 1) := by decide +kernel
theorem d_Q_enter_78 : decode b_Q_enter 78 = .ok (.aload_n 0, 1) := by decide +kernel
theorem d_Q_enter_79 : decode b_Q_enter 79 = .ok (.getfield 32, 3) := by decide +kernel
theorem d_Q_enter_82 : decode b_Q_enter 82 = .ok (.iload_n 2, 1) := by decide +kernel
theorem d_Q_enter_83 : decode b_Q_enter 83 = .ok (.iconst 0, 1) := by decide +kernel
theorem d_Q_enter_84 : decode b_Q_enter 84 = .ok (.iastore, 1) := by decide +kernel
theorem d_Q_enter_85 : decode b_Q_enter 85 = .ok (.aload_n 0, 1) := by decide +kernel
theorem d_Q_enter_86 : decode b_Q_enter 86 = .ok (.getfield 25, 3) := by decide +kernel
theorem d_Q_enter_89 : decode b_Q_enter 89 = .ok (.iload_n 2, 1) := by decide +kernel
theorem d_Q_enter_90 : decode b_Q_enter 90 = .ok (.iaload, 1) := by decide +kernel
theorem d_Q_enter_91 : decode b_Q_enter 91 = .ok (.ifCond .eq 9, 3) := by decide +kernel
theorem d_Q_enter_94 : decode b_Q_enter 94 = .ok (.aload_n 0, 1) := by decide +kernel
theorem d_Q_enter_95 : decode b_Q_enter 95 = .ok (.iload_n 1, 1) := by decide +kernel
theorem d_Q_enter_96 : decode b_Q_enter 96 = .ok (.iload_n 2, 1) := by decide +kernel
theorem d_Q_enter_97 : decode b_Q_enter 97 = .ok (.invokevirtual 73, 3) := by decide +kernel
theorem d_Q_enter_100 : decode b_Q_enter 100 = .ok (.iinc 2 1, 3) := by decide +kernel
theorem d_Q_enter_103 : decode b_Q_enter 103 = .ok (.goto (-96), 3) := by decide +kernel
theorem d_Q_enter_106 : decode b_Q_enter 106 = .ok (.return_, 1) := by decide +kernel
theorem d_Q_signIn_0 : decode b_Q_signIn 0 = .ok (.aload_n 0, 1) := by decide +kernel
theorem d_Q_signIn_1 : decode b_Q_signIn 1 = .ok (.getfield 25, 3) := by decide +kernel
theorem d_Q_signIn_4 : decode b_Q_signIn 4 = .ok (.iload_n 2, 1) := by decide +kernel
theorem d_Q_signIn_5 : decode b_Q_signIn 5 = .ok (.iaload, 1) := by decide +kernel
theorem d_Q_signIn_6 : decode b_Q_signIn 6 = .ok (.ifCond .ne 12, 3) := by decide +kernel
theorem d_Q_signIn_9 : decode b_Q_signIn 9 = .ok (.aload_n 0, 1) := by decide +kernel
theorem d_Q_signIn_10 : decode b_Q_signIn 10 = .ok (.getfield 29, 3) := by decide +kernel
theorem d_Q_signIn_13 : decode b_Q_signIn 13 = .ok (.iload_n 2, 1) := by decide +kernel
theorem d_Q_signIn_14 : decode b_Q_signIn 14 = .ok (.iaload, 1) := by decide +kernel
theorem d_Q_signIn_15 : decode b_Q_signIn 15 = .ok (.goto 21, 3) := by decide +kernel
theorem d_Q_signIn_18 : decode b_Q_signIn 18 = .ok (.aload_n 0, 1) := by decide +kernel
theorem d_Q_signIn_19 : decode b_Q_signIn 19 = .ok (.getfield 25, 3) := by decide +kernel
theorem d_Q_signIn_22 : decode b_Q_signIn 22 = .ok (.iload_n 2, 1) := by decide +kernel
theorem d_Q_signIn_23 : decode b_Q_signIn 23 = .ok (.iaload, 1) := by decide +kernel
theorem d_Q_signIn_24 : decode b_Q_signIn 24 = .ok (.iload_n 1, 1) := by decide +kernel
theorem d_Q_signIn_25 : decode b_Q_signIn 25 = .ok (.aload_n 0, 1) := by decide +kernel
theorem d_Q_signIn_26 : decode b_Q_signIn 26 = .ok (.getfield 32, 3) := by decide +kernel
theorem d_Q_signIn_29 : decode b_Q_signIn 29 = .ok (.iload_n 2, 1) := by decide +kernel
theorem d_Q_signIn_30 : decode b_Q_signIn 30 = .ok (.iaload, 1) := by decide +kernel
theorem d_Q_signIn_31 : decode b_Q_signIn 31 = .ok (.isub, 1) := by decide +kernel
theorem d_Q_signIn_32 : decode b_Q_signIn 32 = .ok (.invokestatic 83, 3) := by decide +kernel
theorem d_Q_signIn_35 : decode b_Q_signIn 35 = .ok (.imul, 1) := by decide +kernel
theorem d_Q_signIn_36 : decode b_Q_signIn 36 = .ok (.ireturn, 1) := by decide +kernel
theorem d_S_atomIsTrue_0 : decode b_S_atomIsTrue 0 = .ok (.aload_n 0, 1) := by decide +kernel
theorem d_S_atomIsTrue_1 : decode b_S_atomIsTrue 1 = .ok (.getfield 15, 3) := by decide +kernel
theorem d_S_atomIsTrue_4 : decode b_S_atomIsTrue 4 = .ok (.iload_n 1, 1) := by decide +kernel
theorem d_S_atomIsTrue_5 : decode b_S_atomIsTrue 5 = .ok (.caload, 1) := by decide +kernel
theorem d_S_atomIsTrue_6 : decode b_S_atomIsTrue 6 = .ok (.bipush 61, 2) := by decide +kernel
theorem d_S_atomIsTrue_8 : decode b_S_atomIsTrue 8 = .ok (.if_icmp .ne 13, 3) := by decide +kernel
theorem d_S_atomIsTrue_11 : decode b_S_atomIsTrue 11 = .ok (.iload_n 2, 1) := by decide +kernel
theorem d_S_atomIsTrue_12 : decode b_S_atomIsTrue 12 = .ok (.ifCond .ne 7, 3) := by decide +kernel
theorem d_S_atomIsTrue_15 : decode b_S_atomIsTrue 15 = .ok (.iconst 1, 1) := by decide +kernel
theorem d_S_atomIsTrue_16 : decode b_S_atomIsTrue 16 = .ok (.goto 4, 3) := by decide +kernel
theorem d_S_atomIsTrue_19 : decode b_S_atomIsTrue 19 = .ok (.iconst 0, 1) := by decide +kernel
theorem d_S_atomIsTrue_20 : decode b_S_atomIsTrue 20 = .ok (.ireturn, 1) := by decide +kernel
theorem d_S_atomIsTrue_21 : decode b_S_atomIsTrue 21 = .ok (.iload_n 2, 1) := by decide +kernel
theorem d_S_atomIsTrue_22 : decode b_S_atomIsTrue 22 = .ok (.aload_n 0, 1) := by decide +kernel
theorem d_S_atomIsTrue_23 : decode b_S_atomIsTrue 23 = .ok (.getfield 15, 3) := by decide +kernel
theorem d_S_atomIsTrue_26 : decode b_S_atomIsTrue 26 = .ok (.iload_n 1, 1) := by decide +kernel
theorem d_S_atomIsTrue_27 : decode b_S_atomIsTrue 27 = .ok (.caload, 1) := by decide +kernel
theorem d_S_atomIsTrue_28 : decode b_S_atomIsTrue 28 = .ok (.bipush 60, 2) := by decide +kernel
theorem d_S_atomIsTrue_30 : decode b_S_atomIsTrue 30 = .ok (.if_icmp .ne 7, 3) := by decide +kernel
theorem d_S_atomIsTrue_33 : decode b_S_atomIsTrue 33 = .ok (.iconst (-1), 1) := by decide +kernel
theorem d_S_atomIsTrue_34 : decode b_S_atomIsTrue 34 = .ok (.goto 4, 3) := by decide +kernel
theorem d_S_atomIsTrue_37 : decode b_S_atomIsTrue 37 = .ok (.iconst 1, 1) := by decide +kernel
theorem d_S_atomIsTrue_38 : decode b_S_atomIsTrue 38 = .ok (.if_icmp .ne 7, 3) := by decide +kernel
theorem d_S_atomIsTrue_41 : decode b_S_atomIsTrue 41 = .ok (.iconst 1, 1) := by decide +kernel
theorem d_S_atomIsTrue_42 : decode b_S_atomIsTrue 42 = .ok (.goto 4, 3) := by decide +kernel
theorem d_S_atomIsTrue_45 : decode b_S_atomIsTrue 45 = .ok (.iconst 0, 1) := by decide +kernel
theorem d_S_atomIsTrue_46 : decode b_S_atomIsTrue 46 = .ok (.ireturn, 1) := by decide +kernel
theorem d_Q_trueIn_0 : decode b_Q_trueIn 0 = .ok (.iconst 0, 1) := by decide +kernel
theorem d_Q_trueIn_1 : decode b_Q_trueIn 1 = .ok (.istore_n 2, 1) := by decide +kernel
theorem d_Q_trueIn_2 : decode b_Q_trueIn 2 = .ok (.iconst 0, 1) := by decide +kernel
theorem d_Q_trueIn_3 : decode b_Q_trueIn 3 = .ok (.istore_n 3, 1) := by decide +kernel
theorem d_Q_trueIn_4 : decode b_Q_trueIn 4 = .ok (.iload_n 3, 1) := by decide +kernel
theorem d_Q_trueIn_5 : decode b_Q_trueIn 5 = .ok (.aload_n 0, 1) := by decide +kernel
theorem d_Q_trueIn_6 : decode b_Q_trueIn 6 = .ok (.getfield 35, 3) := by decide +kernel
theorem d_Q_trueIn_9 : decode b_Q_trueIn 9 = .ok (.getfield 89, 3) := by decide +kernel
theorem d_Q_trueIn_12 : decode b_Q_trueIn 12 = .ok (.if_icmp .ge 103, 3) := by decide +kernel
theorem d_Q_trueIn_15 : decode b_Q_trueIn 15 = .ok (.aload_n 0, 1) := by decide +kernel
theorem d_Q_trueIn_16 : decode b_Q_trueIn 16 = .ok (.getfield 35, 3) := by decide +kernel
theorem d_Q_trueIn_19 : decode b_Q_trueIn 19 = .ok (.getfield 92, 3) := by decide +kernel
theorem d_Q_trueIn_22 : decode b_Q_trueIn 22 = .ok (.iload_n 3, 1) := by decide +kernel
theorem d_Q_trueIn_23 : decode b_Q_trueIn 23 = .ok (.iaload, 1) := by decide +kernel
theorem d_Q_trueIn_24 : decode b_Q_trueIn 24 = .ok (.istore 4, 2) := by decide +kernel
theorem d_Q_trueIn_26 : decode b_Q_trueIn 26 = .ok (.iload 4, 2) := by decide +kernel
theorem d_Q_trueIn_28 : decode b_Q_trueIn 28 = .ok (.iconst 4, 1) := by decide +kernel
theorem d_Q_trueIn_29 : decode b_Q_trueIn 29 = .ok (.if_icmp .lt 41, 3) := by decide +kernel
theorem d_Q_trueIn_32 : decode b_Q_trueIn 32 = .ok (.iload 4, 2) := by decide +kernel
theorem d_Q_trueIn_34 : decode b_Q_trueIn 34 = .ok (.iconst 4, 1) := by decide +kernel
theorem d_Q_trueIn_35 : decode b_Q_trueIn 35 = .ok (.isub, 1) := by decide +kernel
theorem d_Q_trueIn_36 : decode b_Q_trueIn 36 = .ok (.istore 5, 2) := by decide +kernel
theorem d_Q_trueIn_38 : decode b_Q_trueIn 38 = .ok (.iload_n 2, 1) := by decide +kernel
theorem d_Q_trueIn_39 : decode b_Q_trueIn 39 = .ok (.iconst 1, 1) := by decide +kernel
theorem d_Q_trueIn_40 : decode b_Q_trueIn 40 = .ok (.ishl, 1) := by decide +kernel
theorem d_Q_trueIn_41 : decode b_Q_trueIn 41 = .ok (.aload_n 0, 1) := by decide +kernel
theorem d_Q_trueIn_42 : decode b_Q_trueIn 42 = .ok (.getfield 35, 3) := by decide +kernel
theorem d_Q_trueIn_45 : decode b_Q_trueIn 45 = .ok (.iload 5, 2) := by decide +kernel
theorem d_Q_trueIn_47 : decode b_Q_trueIn 47 = .ok (.aload_n 0, 1) := by decide +kernel
theorem d_Q_trueIn_48 : decode b_Q_trueIn 48 = .ok (.iload_n 1, 1) := by decide +kernel
theorem d_Q_trueIn_49 : decode b_Q_trueIn 49 = .ok (.iload 5, 2) := by decide +kernel
theorem d_Q_trueIn_51 : decode b_Q_trueIn 51 = .ok (.invokevirtual 95, 3) := by decide +kernel
theorem d_Q_trueIn_54 : decode b_Q_trueIn 54 = .ok (.invokevirtual 98, 3) := by decide +kernel
theorem d_Q_trueIn_57 : decode b_Q_trueIn 57 = .ok (.ifCond .eq 7, 3) := by decide +kernel
theorem d_Q_trueIn_60 : decode b_Q_trueIn 60 = .ok (.iconst 1, 1) := by decide +kernel
theorem d_Q_trueIn_61 : decode b_Q_trueIn 61 = .ok (.goto 4, 3) := by decide +kernel
theorem d_Q_trueIn_64 : decode b_Q_trueIn 64 = .ok (.iconst 0, 1) := by decide +kernel
theorem d_Q_trueIn_65 : decode b_Q_trueIn 65 = .ok (.ior, 1) := by decide +kernel
theorem d_Q_trueIn_66 : decode b_Q_trueIn 66 = .ok (.istore_n 2, 1) := by decide +kernel
theorem d_Q_trueIn_67 : decode b_Q_trueIn 67 = .ok (.goto 42, 3) := by decide +kernel
theorem d_Q_trueIn_70 : decode b_Q_trueIn 70 = .ok (.iload 4, 2) := by decide +kernel
theorem d_Q_trueIn_72 : decode b_Q_trueIn 72 = .ok (.iconst 3, 1) := by decide +kernel
theorem d_Q_trueIn_73 : decode b_Q_trueIn 73 = .ok (.if_icmp .ne 10, 3) := by decide +kernel
theorem d_Q_trueIn_76 : decode b_Q_trueIn 76 = .ok (.iload_n 2, 1) := by decide +kernel
theorem d_Q_trueIn_77 : decode b_Q_trueIn 77 = .ok (.iconst 1, 1) := by decide +kernel
theorem d_Q_trueIn_78 : decode b_Q_trueIn 78 = .ok (.ixor, 1) := by decide +kernel
theorem d_Q_trueIn_79 : decode b_Q_trueIn 79 = .ok (.istore_n 2, 1) := by decide +kernel
theorem d_Q_trueIn_80 : decode b_Q_trueIn 80 = .ok (.goto 29, 3) := by decide +kernel
theorem d_Q_trueIn_83 : decode b_Q_trueIn 83 = .ok (.iload 4, 2) := by decide +kernel
theorem d_Q_trueIn_85 : decode b_Q_trueIn 85 = .ok (.iconst 2, 1) := by decide +kernel
theorem d_Q_trueIn_86 : decode b_Q_trueIn 86 = .ok (.if_icmp .ne 15, 3) := by decide +kernel
theorem d_Q_trueIn_89 : decode b_Q_trueIn 89 = .ok (.iload_n 2, 1) := by decide +kernel
theorem d_Q_trueIn_90 : decode b_Q_trueIn 90 = .ok (.iconst 1, 1) := by decide +kernel
theorem d_Q_trueIn_91 : decode b_Q_trueIn 91 = .ok (.ishr, 1) := by decide +kernel
theorem d_Q_trueIn_92 : decode b_Q_trueIn 92 = .ok (.iload_n 2, 1) := by decide +kernel
theorem d_Q_trueIn_93 : decode b_Q_trueIn 93 = .ok (.bipush (-2), 2) := by decide +kernel
theorem d_Q_trueIn_95 : decode b_Q_trueIn 95 = .ok (.ior, 1) := by decide +kernel
theorem d_Q_trueIn_96 : decode b_Q_trueIn 96 = .ok (.iand, 1) := by decide +kernel
theorem d_Q_trueIn_97 : decode b_Q_trueIn 97 = .ok (.istore_n 2, 1) := by decide +kernel
theorem d_Q_trueIn_98 : decode b_Q_trueIn 98 = .ok (.goto 11, 3) := by decide +kernel
theorem d_Q_trueIn_101 : decode b_Q_trueIn 101 = .ok (.iload_n 2, 1) := by decide +kernel
theorem d_Q_trueIn_102 : decode b_Q_trueIn 102 = .ok (.iconst 1, 1) := by decide +kernel
theorem d_Q_trueIn_103 : decode b_Q_trueIn 103 = .ok (.ishr, 1) := by decide +kernel
theorem d_Q_trueIn_104 : decode b_Q_trueIn 104 = .ok (.iload_n 2, 1) := by decide +kernel
theorem d_Q_trueIn_105 : decode b_Q_trueIn 105 = .ok (.iconst 1, 1) := by decide +kernel
theorem d_Q_trueIn_106 : decode b_Q_trueIn 106 = .ok (.iand, 1) := by decide +kernel
theorem d_Q_trueIn_107 : decode b_Q_trueIn 107 = .ok (.ior, 1) := by decide +kernel
theorem d_Q_trueIn_108 : decode b_Q_trueIn 108 = .ok (.istore_n 2, 1) := by decide +kernel
theorem d_Q_trueIn_109 : decode b_Q_trueIn 109 = .ok (.iinc 3 1, 3) := by decide +kernel
theorem d_Q_trueIn_112 : decode b_Q_trueIn 112 = .ok (.goto (-108), 3) := by decide +kernel
theorem d_Q_trueIn_115 : decode b_Q_trueIn 115 = .ok (.iload_n 2, 1) := by decide +kernel
theorem d_Q_trueIn_116 : decode b_Q_trueIn 116 = .ok (.iconst 1, 1) := by decide +kernel
theorem d_Q_trueIn_117 : decode b_Q_trueIn 117 = .ok (.iand, 1) := by decide +kernel
theorem d_Q_trueIn_118 : decode b_Q_trueIn 118 = .ok (.iconst 1, 1) := by decide +kernel
theorem d_Q_trueIn_119 : decode b_Q_trueIn 119 = .ok (.if_icmp .ne 7, 3) := by decide +kernel
theorem d_Q_trueIn_122 : decode b_Q_trueIn 122 = .ok (.iconst 1, 1) := by decide +kernel
theorem d_Q_trueIn_123 : decode b_Q_trueIn 123 = .ok (.goto 4, 3) := by decide +kernel
theorem d_Q_trueIn_126 : decode b_Q_trueIn 126 = .ok (.iconst 0, 1) := by decide +kernel
theorem d_Q_trueIn_127 : decode b_Q_trueIn 127 = .ok (.ireturn, 1) := by decide +kernel
theorem d_Q_columnHolds_0 : decode b_Q_columnHolds 0 = .ok (.iconst 0, 1) := by decide +kernel
theorem d_Q_columnHolds_1 : decode b_Q_columnHolds 1 = .ok (.istore_n 1, 1) := by decide +kernel
theorem d_Q_columnHolds_2 : decode b_Q_columnHolds 2 = .ok (.iload_n 1, 1) := by decide +kernel
theorem d_Q_columnHolds_3 : decode b_Q_columnHolds 3 = .ok (.aload_n 0, 1) := by decide +kernel
theorem d_Q_columnHolds_4 : decode b_Q_columnHolds 4 = .ok (.getfield 66, 3) := by decide +kernel
theorem d_Q_columnHolds_7 : decode b_Q_columnHolds 7 = .ok (.if_icmp .ge 40, 3) := by decide +kernel
theorem d_Q_columnHolds_10 : decode b_Q_columnHolds 10 = .ok (.aload_n 0, 1) := by decide +kernel
theorem d_Q_columnHolds_11 : decode b_Q_columnHolds 11 = .ok (.iload_n 1, 1) := by decide +kernel
theorem d_Q_columnHolds_12 : decode b_Q_columnHolds 12 = .ok (.invokevirtual 102, 3) := by decide +kernel
theorem d_Q_columnHolds_15 : decode b_Q_columnHolds 15 = .ok (.aload_n 0, 1) := by decide +kernel
theorem d_Q_columnHolds_16 : decode b_Q_columnHolds 16 = .ok (.getfield 35, 3) := by decide +kernel
theorem d_Q_columnHolds_19 : decode b_Q_columnHolds 19 = .ok (.getfield 106, 3) := by decide +kernel
theorem d_Q_columnHolds_22 : decode b_Q_columnHolds 22 = .ok (.if_icmp .eq 19, 3) := by decide +kernel
theorem d_Q_columnHolds_25 : decode b_Q_columnHolds 25 = .ok (.aload_n 0, 1) := by decide +kernel
theorem d_Q_columnHolds_26 : decode b_Q_columnHolds 26 = .ok (.getfield 35, 3) := by decide +kernel
theorem d_Q_columnHolds_29 : decode b_Q_columnHolds 29 = .ok (.getfield 106, 3) := by decide +kernel
theorem d_Q_columnHolds_32 : decode b_Q_columnHolds 32 = .ok (.ifCond .ne 7, 3) := by decide +kernel
theorem d_Q_columnHolds_35 : decode b_Q_columnHolds 35 = .ok (.iconst 1, 1) := by decide +kernel
theorem d_Q_columnHolds_36 : decode b_Q_columnHolds 36 = .ok (.goto 4, 3) := by decide +kernel
theorem d_Q_columnHolds_39 : decode b_Q_columnHolds 39 = .ok (.iconst 0, 1) := by decide +kernel
theorem d_Q_columnHolds_40 : decode b_Q_columnHolds 40 = .ok (.ireturn, 1) := by decide +kernel
theorem d_Q_columnHolds_41 : decode b_Q_columnHolds 41 = .ok (.iinc 1 1, 3) := by decide +kernel
theorem d_Q_columnHolds_44 : decode b_Q_columnHolds 44 = .ok (.goto (-42), 3) := by decide +kernel
theorem d_Q_columnHolds_47 : decode b_Q_columnHolds 47 = .ok (.aload_n 0, 1) := by decide +kernel
theorem d_Q_columnHolds_48 : decode b_Q_columnHolds 48 = .ok (.getfield 35, 3) := by decide +kernel
theorem d_Q_columnHolds_51 : decode b_Q_columnHolds 51 = .ok (.getfield 106, 3) := by decide +kernel
theorem d_Q_columnHolds_54 : decode b_Q_columnHolds 54 = .ok (.ireturn, 1) := by decide +kernel
theorem d_R_clear_0 : decode b_R_clear 0 = .ok (.aload_n 0, 1) := by decide +kernel
theorem d_R_clear_1 : decode b_R_clear 1 = .ok (.iconst 0, 1) := by decide +kernel
theorem d_R_clear_2 : decode b_R_clear 2 = .ok (.putfield 26, 3) := by decide +kernel
theorem d_R_clear_5 : decode b_R_clear 5 = .ok (.aload_n 0, 1) := by decide +kernel
theorem d_R_clear_6 : decode b_R_clear 6 = .ok (.iconst 0, 1) := by decide +kernel
theorem d_R_clear_7 : decode b_R_clear 7 = .ok (.putfield 30, 3) := by decide +kernel
theorem d_R_clear_10 : decode b_R_clear 10 = .ok (.return_, 1) := by decide +kernel
theorem d_R_append_0 : decode b_R_append 0 = .ok (.iload_n 1, 1) := by decide +kernel
theorem d_R_append_1 : decode b_R_append 1 = .ok (.bipush 32, 2) := by decide +kernel
theorem d_R_append_3 : decode b_R_append 3 = .ok (.if_icmp .lt 18, 3) := by decide +kernel
theorem d_R_append_6 : decode b_R_append 6 = .ok (.iload_n 1, 1) := by decide +kernel
