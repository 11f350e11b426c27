theorem d_C_clear_0 : decode b_C_clear 0 = .ok (.aload_n 0, 1) := by decide +kernel
theorem d_C_clear_1 : decode b_C_clear 1 = .ok (.iconst 0, 1) := by decide +kernel
theorem d_C_clear_2 : decode b_C_clear 2 = .ok (.putfield 21, 3) := by decide +kernel
theorem d_C_clear_5 : decode b_C_clear 5 = .ok (.return_, 1) := by decide +kernel
theorem d_C_signWithRoots_0 : decode b_C_signWithRoots 0 = .ok (.lload_n 0, 1) := by decide +kernel
theorem d_C_signWithRoots_1 : decode b_C_signWithRoots 1 = .ok (.invokestatic 58, 3) := by decide +kernel
theorem d_C_signWithRoots_4 : decode b_C_signWithRoots 4 = .ok (.istore 6, 2) := by decide +kernel
theorem d_C_signWithRoots_6 : decode b_C_signWithRoots 6 = .ok (.lload_n 2, 1) := by decide +kernel
theorem d_C_signWithRoots_7 : decode b_C_signWithRoots 7 = .ok (.lload 4, 2) := by decide +kernel
theorem d_C_signWithRoots_9 : decode b_C_signWithRoots 9 = .ok (.ladd, 1) := by decide +kernel
theorem d_C_signWithRoots_10 : decode b_C_signWithRoots 10 = .ok (.invokestatic 58, 3) := by decide +kernel
theorem d_C_signWithRoots_13 : decode b_C_signWithRoots 13 = .ok (.istore 7, 2) := by decide +kernel
theorem d_C_signWithRoots_15 : decode b_C_signWithRoots 15 = .ok (.iload 6, 2) := by decide +kernel
theorem d_C_signWithRoots_17 : decode b_C_signWithRoots 17 = .ok (.iload 7, 2) := by decide +kernel
theorem d_C_signWithRoots_19 : decode b_C_signWithRoots 19 = .ok (.imul, 1) := by decide +kernel
theorem d_C_signWithRoots_20 : decode b_C_signWithRoots 20 = .ok (.ifCond .lt 16, 3) := by decide +kernel
theorem d_C_signWithRoots_23 : decode b_C_signWithRoots 23 = .ok (.iload 6, 2) := by decide +kernel
theorem d_C_signWithRoots_25 : decode b_C_signWithRoots 25 = .ok (.ifCond .eq 8, 3) := by decide +kernel
theorem d_C_signWithRoots_28 : decode b_C_signWithRoots 28 = .ok (.iload 6, 2) := by decide +kernel
theorem d_C_signWithRoots_30 : decode b_C_signWithRoots 30 = .ok (.goto 5, 3) := by decide +kernel
theorem d_C_signWithRoots_33 : decode b_C_signWithRoots 33 = .ok (.iload 7, 2) := by decide +kernel
theorem d_C_signWithRoots_35 : decode b_C_signWithRoots 35 = .ok (.ireturn, 1) := by decide +kernel
theorem d_C_signWithRoots_36 : decode b_C_signWithRoots 36 = .ok (.lload_n 0, 1) := by decide +kernel
theorem d_C_signWithRoots_37 : decode b_C_signWithRoots 37 = .ok (.lload_n 0, 1) := by decide +kernel
theorem d_C_signWithRoots_38 : decode b_C_signWithRoots 38 = .ok (.lmul, 1) := by decide +kernel
theorem d_C_signWithRoots_39 : decode b_C_signWithRoots 39 = .ok (.lload_n 2, 1) := by decide +kernel
theorem d_C_signWithRoots_40 : decode b_C_signWithRoots 40 = .ok (.invokestatic 64, 3) := by decide +kernel
theorem d_C_signWithRoots_43 : decode b_C_signWithRoots 43 = .ok (.lsub, 1) := by decide +kernel
theorem d_C_signWithRoots_44 : decode b_C_signWithRoots 44 = .ok (.lload 4, 2) := by decide +kernel
theorem d_C_signWithRoots_46 : decode b_C_signWithRoots 46 = .ok (.invokestatic 64, 3) := by decide +kernel
theorem d_C_signWithRoots_49 : decode b_C_signWithRoots 49 = .ok (.lsub, 1) := by decide +kernel
theorem d_C_signWithRoots_50 : decode b_C_signWithRoots 50 = .ok (.lstore 8, 2) := by decide +kernel
theorem d_C_signWithRoots_52 : decode b_C_signWithRoots 52 = .ok (.iload 6, 2) := by decide +kernel
theorem d_C_signWithRoots_54 : decode b_C_signWithRoots 54 = .ok (.lload 8, 2) := by decide +kernel
theorem d_C_signWithRoots_56 : decode b_C_signWithRoots 56 = .ok (.lload 8, 2) := by decide +kernel
theorem d_C_signWithRoots_58 : decode b_C_signWithRoots 58 = .ok (.invokestatic 64, 3) := by decide +kernel
theorem d_C_signWithRoots_61 : decode b_C_signWithRoots 61 = .ok (.lmul, 1) := by decide +kernel
theorem d_C_signWithRoots_62 : decode b_C_signWithRoots 62 = .ok (.ldc2_w 67, 3) := by decide +kernel
theorem d_C_signWithRoots_65 : decode b_C_signWithRoots 65 = .ok (.lload_n 2, 1) := by decide +kernel
theorem d_C_signWithRoots_66 : decode b_C_signWithRoots 66 = .ok (.lmul, 1) := by decide +kernel
theorem d_C_signWithRoots_67 : decode b_C_signWithRoots 67 = .ok (.lload 4, 2) := by decide +kernel
theorem d_C_signWithRoots_69 : decode b_C_signWithRoots 69 = .ok (.lmul, 1) := by decide +kernel
theorem d_C_signWithRoots_70 : decode b_C_signWithRoots 70 = .ok (.lsub, 1) := by decide +kernel
theorem d_C_signWithRoots_71 : decode b_C_signWithRoots 71 = .ok (.invokestatic 58, 3) := by decide +kernel
theorem d_C_signWithRoots_74 : decode b_C_signWithRoots 74 = .ok (.imul, 1) := by decide +kernel
theorem d_C_signWithRoots_75 : decode b_C_signWithRoots 75 = .ok (.ireturn, 1) := by decide +kernel
theorem d_C_signOfDifference_0 : decode b_C_signOfDifference 0 = .ok (.aload_n 0, 1) := by decide +kernel
theorem d_C_signOfDifference_1 : decode b_C_signOfDifference 1 = .ok (.getfield 9, 3) := by decide +kernel
theorem d_C_signOfDifference_4 : decode b_C_signOfDifference 4 = .ok (.iload_n 1, 1) := by decide +kernel
theorem d_C_signOfDifference_5 : decode b_C_signOfDifference 5 = .ok (.iaload, 1) := by decide +kernel
theorem d_C_signOfDifference_6 : decode b_C_signOfDifference 6 = .ok (.i2l, 1) := by decide +kernel
theorem d_C_signOfDifference_7 : decode b_C_signOfDifference 7 = .ok (.iload 4, 2) := by decide +kernel
theorem d_C_signOfDifference_9 : decode b_C_signOfDifference 9 = .ok (.i2l, 1) := by decide +kernel
theorem d_C_signOfDifference_10 : decode b_C_signOfDifference 10 = .ok (.lmul, 1) := by decide +kernel
theorem d_C_signOfDifference_11 : decode b_C_signOfDifference 11 = .ok (.iload_n 2, 1) := by decide +kernel
theorem d_C_signOfDifference_12 : decode b_C_signOfDifference 12 = .ok (.i2l, 1) := by decide +kernel
theorem d_C_signOfDifference_13 : decode b_C_signOfDifference 13 = .ok (.aload_n 0, 1) := by decide +kernel
theorem d_C_signOfDifference_14 : decode b_C_signOfDifference 14 = .ok (.getfield 18, 3) := by decide +kernel
theorem d_C_signOfDifference_17 : decode b_C_signOfDifference 17 = .ok (.iload_n 1, 1) := by decide +kernel
theorem d_C_signOfDifference_18 : decode b_C_signOfDifference 18 = .ok (.iaload, 1) := by decide +kernel
theorem d_C_signOfDifference_19 : decode b_C_signOfDifference 19 = .ok (.i2l, 1) := by decide +kernel
theorem d_C_signOfDifference_20 : decode b_C_signOfDifference 20 = .ok (.lmul, 1) := by decide +kernel
theorem d_C_signOfDifference_21 : decode b_C_signOfDifference 21 = .ok (.lsub, 1) := by decide +kernel
theorem d_C_signOfDifference_22 : decode b_C_signOfDifference 22 = .ok (.lstore 5, 2) := by decide +kernel
theorem d_C_signOfDifference_24 : decode b_C_signOfDifference 24 = .ok (.aload_n 0, 1) := by decide +kernel
theorem d_C_signOfDifference_25 : decode b_C_signOfDifference 25 = .ok (.getfield 15, 3) := by decide +kernel
theorem d_C_signOfDifference_28 : decode b_C_signOfDifference 28 = .ok (.iload_n 1, 1) := by decide +kernel
theorem d_C_signOfDifference_29 : decode b_C_signOfDifference 29 = .ok (.iaload, 1) := by decide +kernel
theorem d_C_signOfDifference_30 : decode b_C_signOfDifference 30 = .ok (.i2l, 1) := by decide +kernel
theorem d_C_signOfDifference_31 : decode b_C_signOfDifference 31 = .ok (.iload 4, 2) := by decide +kernel
theorem d_C_signOfDifference_33 : decode b_C_signOfDifference 33 = .ok (.i2l, 1) := by decide +kernel
theorem d_C_signOfDifference_34 : decode b_C_signOfDifference 34 = .ok (.lmul, 1) := by decide +kernel
theorem d_C_signOfDifference_35 : decode b_C_signOfDifference 35 = .ok (.iload 4, 2) := by decide +kernel
theorem d_C_signOfDifference_37 : decode b_C_signOfDifference 37 = .ok (.i2l, 1) := by decide +kernel
theorem d_C_signOfDifference_38 : decode b_C_signOfDifference 38 = .ok (.lmul, 1) := by decide +kernel
theorem d_C_signOfDifference_39 : decode b_C_signOfDifference 39 = .ok (.lstore 7, 2) := by decide +kernel
theorem d_C_signOfDifference_41 : decode b_C_signOfDifference 41 = .ok (.iload_n 3, 1) := by decide +kernel
theorem d_C_signOfDifference_42 : decode b_C_signOfDifference 42 = .ok (.i2l, 1) := by decide +kernel
theorem d_C_signOfDifference_43 : decode b_C_signOfDifference 43 = .ok (.aload_n 0, 1) := by decide +kernel
theorem d_C_signOfDifference_44 : decode b_C_signOfDifference 44 = .ok (.getfield 18, 3) := by decide +kernel
theorem d_C_signOfDifference_47 : decode b_C_signOfDifference 47 = .ok (.iload_n 1, 1) := by decide +kernel
theorem d_C_signOfDifference_48 : decode b_C_signOfDifference 48 = .ok (.iaload, 1) := by decide +kernel
theorem d_C_signOfDifference_49 : decode b_C_signOfDifference 49 = .ok (.i2l, 1) := by decide +kernel
theorem d_C_signOfDifference_50 : decode b_C_signOfDifference 50 = .ok (.lmul, 1) := by decide +kernel
theorem d_C_signOfDifference_51 : decode b_C_signOfDifference 51 = .ok (.aload_n 0, 1) := by decide +kernel
theorem d_C_signOfDifference_52 : decode b_C_signOfDifference 52 = .ok (.getfield 18, 3) := by decide +kernel
theorem d_C_signOfDifference_55 : decode b_C_signOfDifference 55 = .ok (.iload_n 1, 1) := by decide +kernel
theorem d_C_signOfDifference_56 : decode b_C_signOfDifference 56 = .ok (.iaload, 1) := by decide +kernel
theorem d_C_signOfDifference_57 : decode b_C_signOfDifference 57 = .ok (.i2l, 1) := by decide +kernel
theorem d_C_signOfDifference_58 : decode b_C_signOfDifference 58 = .ok (.lmul, 1) := by decide +kernel
theorem d_C_signOfDifference_59 : decode b_C_signOfDifference 59 = .ok (.lstore 9, 2) := by decide +kernel
theorem d_C_signOfDifference_61 : decode b_C_signOfDifference 61 = .ok (.lload 5, 2) := by decide +kernel
theorem d_C_signOfDifference_63 : decode b_C_signOfDifference 63 = .ok (.lload 7, 2) := by decide +kernel
theorem d_C_signOfDifference_65 : decode b_C_signOfDifference 65 = .ok (.lload 9, 2) := by decide +kernel
theorem d_C_signOfDifference_67 : decode b_C_signOfDifference 67 = .ok (.lneg, 1) := by decide +kernel
theorem d_C_signOfDifference_68 : decode b_C_signOfDifference 68 = .ok (.invokestatic 54, 3) := by decide +kernel
theorem d_C_signOfDifference_71 : decode b_C_signOfDifference 71 = .ok (.ireturn, 1) := by decide +kernel
theorem d_C_insert_0 : decode b_C_insert 0 = .ok (.aload_n 0, 1) := by decide +kernel
theorem d_C_insert_1 : decode b_C_insert 1 = .ok (.getfield 21, 3) := by decide +kernel
theorem d_C_insert_4 : decode b_C_insert 4 = .ok (.bipush 72, 2) := by decide +kernel
theorem d_C_insert_6 : decode b_C_insert 6 = .ok (.if_icmp .lt 4, 3) := by decide +kernel
theorem d_C_insert_9 : decode b_C_insert 9 = .ok (.return_, 1) := by decide +kernel
theorem d_C_insert_10 : decode b_C_insert 10 = .ok (.aload_n 0, 1) := by decide +kernel
theorem d_C_insert_11 : decode b_C_insert 11 = .ok (.getfield 21, 3) := by decide +kernel
theorem d_C_insert_14 : decode b_C_insert 14 = .ok (.istore 5, 2) := by decide +kernel
theorem d_C_insert_16 : decode b_C_insert 16 = .ok (.iload 5, 2) := by decide +kernel
theorem d_C_insert_18 : decode b_C_insert 18 = .ok (.iload_n 1, 1) := by decide +kernel
theorem d_C_insert_19 : decode b_C_insert 19 = .ok (.if_icmp .le 57, 3) := by decide +kernel
theorem d_C_insert_22 : decode b_C_insert 22 = .ok (.aload_n 0, 1) := by decide +kernel
theorem d_C_insert_23 : decode b_C_insert 23 = .ok (.getfield 9, 3) := by decide +kernel
theorem d_C_insert_26 : decode b_C_insert 26 = .ok (.iload 5, 2) := by decide +kernel
theorem d_C_insert_28 : decode b_C_insert 28 = .ok (.aload_n 0, 1) := by decide +kernel
theorem d_C_insert_29 : decode b_C_insert 29 = .ok (.getfield 9, 3) := by decide +kernel
theorem d_C_insert_32 : decode b_C_insert 32 = .ok (.iload 5, 2) := by decide +kernel
theorem d_C_insert_34 : decode b_C_insert 34 = .ok (.iconst 1, 1) := by decide +kernel
theorem d_C_insert_35 : decode b_C_insert 35 = .ok (.isub, 1) := by decide +kernel
theorem d_C_insert_36 : decode b_C_insert 36 = .ok (.iaload, 1) := by decide +kernel
theorem d_C_insert_37 : decode b_C_insert 37 = .ok (.iastore, 1) := by decide +kernel
theorem d_C_insert_38 : decode b_C_insert 38 = .ok (.aload_n 0, 1) := by decide +kernel
theorem d_C_insert_39 : decode b_C_insert 39 = .ok (.getfield 15, 3) := by decide +kernel
theorem d_C_insert_42 : decode b_C_insert 42 = .ok (.iload 5, 2) := by decide +kernel
theorem d_C_insert_44 : decode b_C_insert 44 = .ok (.aload_n 0, 1) := by decide +kernel
theorem d_C_insert_45 : decode b_C_insert 45 = .ok (.getfield 15, 3) := by decide +kernel
theorem d_C_insert_48 : decode b_C_insert 48 = .ok (.iload 5, 2) := by decide +kernel
theorem d_C_insert_50 : decode b_C_insert 50 = .ok (.iconst 1, 1) := by decide +kernel
theorem d_C_insert_51 : decode b_C_insert 51 = .ok (.isub, 1) := by decide +kernel
theorem d_C_insert_52 : decode b_C_insert 52 = .ok (.iaload, 1) := by decide +kernel
theorem d_C_insert_53 : decode b_C_insert 53 = .ok (.iastore, 1) := by decide +kernel
theorem d_C_insert_54 : decode b_C_insert 54 = .ok (.aload_n 0, 1) := by decide +kernel
theorem d_C_insert_55 : decode b_C_insert 55 = .ok (.getfield 18, 3) := by decide +kernel
theorem d_C_insert_58 : decode b_C_insert 58 = .ok (.iload 5, 2) := by decide +kernel
theorem d_C_insert_60 : decode b_C_insert 60 = .ok (.aload_n 0, 1) := by decide +kernel
theorem d_C_insert_61 : decode b_C_insert 61 = .ok (.getfield 18, 3) := by decide +kernel
theorem d_C_insert_64 : decode b_C_insert 64 = .ok (.iload 5, 2) := by decide +kernel
theorem d_C_insert_66 : decode b_C_insert 66 = .ok (.iconst 1, 1) := by decide +kernel
theorem d_C_insert_67 : decode b_C_insert 67 = .ok (.isub, 1) := by decide +kernel
theorem d_C_insert_68 : decode b_C_insert 68 = .ok (.iaload, 1) := by decide +kernel
theorem d_C_insert_69 : decode b_C_insert 69 = .ok (.iastore, 1) := by decide +kernel
theorem d_C_insert_70 : decode b_C_insert 70 = .ok (.iinc 5 (-1), 3) := by decide +kernel
theorem d_C_insert_73 : decode b_C_insert 73 = .ok (.goto (-57), 3) := by decide +kernel
theorem d_C_insert_76 : decode b_C_insert 76 = .ok (.aload_n 0, 1) := by decide +kernel
theorem d_C_insert_77 : decode b_C_insert 77 = .ok (.getfield 9, 3) := by decide +kernel
theorem d_C_insert_80 : decode b_C_insert 80 = .ok (.iload_n 1, 1) := by decide +kernel
theorem d_C_insert_81 : decode b_C_insert 81 = .ok (.iload_n 2, 1) := by decide +kernel
theorem d_C_insert_82 : decode b_C_insert 82 = .ok (.iastore, 1) := by decide +kernel
theorem d_C_insert_83 : decode b_C_insert 83 = .ok (.aload_n 0, 1) := by decide +kernel
theorem d_C_insert_84 : decode b_C_insert 84 = .ok (.getfield 15, 3) := by decide +kernel
theorem d_C_insert_87 : decode b_C_insert 87 = .ok (.iload_n 1, 1) := by decide +kernel
theorem d_C_insert_88 : decode b_C_insert 88 = .ok (.iload_n 3, 1) := by decide +kernel
theorem d_C_insert_89 : decode b_C_insert 89 = .ok (.iastore, 1) := by decide +kernel
theorem d_C_insert_90 : decode b_C_insert 90 = .ok (.aload_n 0, 1) := by decide +kernel
theorem d_C_insert_91 : decode b_C_insert 91 = .ok (.getfield 18, 3) := by decide +kernel
theorem d_C_insert_94 : decode b_C_insert 94 = .ok (.iload_n 1, 1) := by decide +kernel
theorem d_C_insert_95 : decode b_C_insert 95 = .ok (.iload 4, 2) := by decide +kernel
theorem d_C_insert_97 : decode b_C_insert 97 = .ok (.iastore, 1) := by decide +kernel
theorem d_C_insert_98 : decode b_C_insert 98 = .ok (.aload_n 0, 1) := by decide +kernel
theorem d_C_insert_99 : decode b_C_insert 99 = .ok (.dup, 1) := by decide +kernel
theorem d_C_insert_100 : decode b_C_insert 100 = .ok (.getfield 21, 3) := by decide +kernel
theorem d_C_insert_103 : decode b_C_insert 103 = .ok (.iconst 1, 1) := by decide +kernel
theorem d_C_insert_104 : decode b_C_insert 104 = .ok (.iadd, 1) := by decide +kernel
theorem d_C_insert_105 : decode b_C_insert 105 = .ok (.putfield 21, 3) := by decide +kernel
theorem d_C_insert_108 : decode b_C_insert 108 = .ok (.return_, 1) := by decide +kernel
theorem d_C_add_0 : decode b_C_add 0 = .ok (.iconst 0, 1) := by decide +kernel
theorem d_C_add_1 : decode b_C_add 1 = .ok (.istore 4, 2) := by decide +kernel
theorem d_C_add_3 : decode b_C_add 3 = .ok (.iload 4, 2) := by decide +kernel
theorem d_C_add_5 : decode b_C_add 5 = .ok (.aload_n 0, 1) := by decide +kernel
theorem d_C_add_6 : decode b_C_add 6 = .ok (.getfield 21, 3) := by decide +kernel
theorem d_C_add_9 : decode b_C_add 9 = .ok (.if_icmp .ge 34, 3) := by decide +kernel
theorem d_C_add_12 : decode b_C_add 12 = .ok (.aload_n 0, 1) := by decide +kernel
theorem d_C_add_13 : decode b_C_add 13 = .ok (.iload 4, 2) := by decide +kernel
theorem d_C_add_15 : decode b_C_add 15 = .ok (.iload_n 1, 1) := by decide +kernel
theorem d_C_add_16 : decode b_C_add 16 = .ok (.iload_n 2, 1) := by decide +kernel
theorem d_C_add_17 : decode b_C_add 17 = .ok (.iload_n 3, 1) := by decide +kernel
theorem d_C_add_18 : decode b_C_add 18 = .ok (.invokevirtual 46, 3) := by decide +kernel
theorem d_C_add_21 : decode b_C_add 21 = .ok (.istore 5, 2) := by decide +kernel
theorem d_C_add_23 : decode b_C_add 23 = .ok (.iload 5, 2) := by decide +kernel
theorem d_C_add_25 : decode b_C_add 25 = .ok (.ifCond .ne 4, 3) := by decide +kernel
theorem d_C_add_28 : decode b_C_add 28 = .ok (.return_, 1) := by decide +kernel
theorem d_C_add_29 : decode b_C_add 29 = .ok (.iload 5, 2) := by decide +kernel
theorem d_C_add_31 : decode b_C_add 31 = .ok (.ifCond .le 6, 3) := by decide +kernel
theorem d_C_add_34 : decode b_C_add 34 = .ok (.goto 9, 3) := by decide +kernel
theorem d_C_add_37 : decode b_C_add 37 = .ok (.iinc 4 1, 3) := by decide +kernel
theorem d_C_add_40 : decode b_C_add 40 = .ok (.goto (-37), 3) := by decide +kernel
theorem d_C_add_43 : decode b_C_add 43 = .ok (.aload_n 0, 1) := by decide +kernel
theorem d_C_add_44 : decode b_C_add 44 = .ok (.iload 4, 2) := by decide +kernel
theorem d_C_add_46 : decode b_C_add 46 = .ok (.iload_n 1, 1) := by decide +kernel
theorem d_C_add_47 : decode b_C_add 47 = .ok (.iload_n 2, 1) := by decide +kernel
theorem d_C_add_48 : decode b_C_add 48 = .ok (.iload_n 3, 1) := by decide +kernel
theorem d_C_add_49 : decode b_C_add 49 = .ok (.invokevirtual 50, 3) := by decide +kernel
theorem d_C_add_52 : decode b_C_add 52 = .ok (.return_, 1) := by decide +kernel
theorem d_C_addZerosOf_0 : decode b_C_addZerosOf 0 = .ok (.aload_n 1, 1) := by decide +kernel
theorem d_C_addZerosOf_1 : decode b_C_addZerosOf 1 = .ok (.getfield 25, 3) := by decide +kernel
theorem d_C_addZerosOf_4 : decode b_C_addZerosOf 4 = .ok (.ifCond .eq 83, 3) := by decide +kernel
theorem d_C_addZerosOf_7 : decode b_C_addZerosOf 7 = .ok (.aload_n 1, 1) := by decide +kernel
theorem d_C_addZerosOf_8 : decode b_C_addZerosOf 8 = .ok (.getfield 30, 3) := by decide +kernel
theorem d_C_addZerosOf_11 : decode b_C_addZerosOf 11 = .ok (.aload_n 1, 1) := by decide +kernel
theorem d_C_addZerosOf_12 : decode b_C_addZerosOf 12 = .ok (.getfield 30, 3) := by decide +kernel
theorem d_C_addZerosOf_15 : decode b_C_addZerosOf 15 = .ok (.imul, 1) := by decide +kernel
theorem d_C_addZerosOf_16 : decode b_C_addZerosOf 16 = .ok (.iconst 4, 1) := by decide +kernel
theorem d_C_addZerosOf_17 : decode b_C_addZerosOf 17 = .ok (.aload_n 1, 1) := by decide +kernel
theorem d_C_addZerosOf_18 : decode b_C_addZerosOf 18 = .ok (.getfield 25, 3) := by decide +kernel
theorem d_C_addZerosOf_21 : decode b_C_addZerosOf 21 = .ok (.imul, 1) := by decide +kernel
theorem d_C_addZerosOf_22 : decode b_C_addZerosOf 22 = .ok (.aload_n 1, 1) := by decide +kernel
theorem d_C_addZerosOf_23 : decode b_C_addZerosOf 23 = .ok (.getfield 33, 3) := by decide +kernel
theorem d_C_addZerosOf_26 : decode b_C_addZerosOf 26 = .ok (.imul, 1) := by decide +kernel
theorem d_C_addZerosOf_27 : decode b_C_addZerosOf 27 = .ok (.isub, 1) := by decide +kernel
theorem d_C_addZerosOf_28 : decode b_C_addZerosOf 28 = .ok (.istore_n 2, 1) := by decide +kernel
theorem d_C_addZerosOf_29 : decode b_C_addZerosOf 29 = .ok (.aload_n 1, 1) := by decide +kernel
theorem d_C_addZerosOf_30 : decode b_C_addZerosOf 30 = .ok (.getfield 25, 3) := by decide +kernel
theorem d_C_addZerosOf_33 : decode b_C_addZerosOf 33 = .ok (.ifCond .le 11, 3) := by decide +kernel
theorem d_C_addZerosOf_36 : decode b_C_addZerosOf 36 = .ok (.aload_n 1, 1) := by decide +kernel
theorem d_C_addZerosOf_37 : decode b_C_addZerosOf 37 = .ok (.getfield 30, 3) := by decide +kernel
theorem d_C_addZerosOf_40 : decode b_C_addZerosOf 40 = .ok (.ineg, 1) := by decide +kernel
theorem d_C_addZerosOf_41 : decode b_C_addZerosOf 41 = .ok (.goto 7, 3) := by decide +kernel
theorem d_C_addZerosOf_44 : decode b_C_addZerosOf 44 = .ok (.aload_n 1, 1) := by decide +kernel
theorem d_C_addZerosOf_45 : decode b_C_addZerosOf 45 = .ok (.getfield 30, 3) := by decide +kernel
theorem d_C_addZerosOf_48 : decode b_C_addZerosOf 48 = .ok (.istore_n 3, 1) := by decide +kernel
theorem d_C_addZerosOf_49 : decode b_C_addZerosOf 49 = .ok (.iload_n 2, 1) := by decide +kernel
theorem d_C_addZerosOf_50 : decode b_C_addZerosOf 50 = .ok (.ifCond .lt 34, 3) := by decide +kernel
theorem d_C_addZerosOf_53 : decode b_C_addZerosOf 53 = .ok (.aload_n 0, 1) := by decide +kernel
theorem d_C_addZerosOf_54 : decode b_C_addZerosOf 54 = .ok (.iload_n 3, 1) := by decide +kernel
theorem d_C_addZerosOf_55 : decode b_C_addZerosOf 55 = .ok (.iload_n 2, 1) := by decide +kernel
theorem d_C_addZerosOf_56 : decode b_C_addZerosOf 56 = .ok (.ineg, 1) := by decide +kernel
theorem d_C_addZerosOf_57 : decode b_C_addZerosOf 57 = .ok (.iconst 2, 1) := by decide +kernel
theorem d_C_addZerosOf_58 : decode b_C_addZerosOf 58 = .ok (.aload_n 1, 1) := by decide +kernel
theorem d_C_addZerosOf_59 : decode b_C_addZerosOf 59 = .ok (.getfield 25, 3) := by decide +kernel
theorem d_C_addZerosOf_62 : decode b_C_addZerosOf 62 = .ok (.invokestatic 36, 3) := by decide +kernel
theorem d_C_addZerosOf_65 : decode b_C_addZerosOf 65 = .ok (.imul, 1) := by decide +kernel
theorem d_C_addZerosOf_66 : decode b_C_addZerosOf 66 = .ok (.invokevirtual 42, 3) := by decide +kernel
theorem d_C_addZerosOf_69 : decode b_C_addZerosOf 69 = .ok (.aload_n 0, 1) := by decide +kernel
theorem d_C_addZerosOf_70 : decode b_C_addZerosOf 70 = .ok (.iload_n 3, 1) := by decide +kernel
theorem d_C_addZerosOf_71 : decode b_C_addZerosOf 71 = .ok (.iload_n 2, 1) := by decide +kernel
theorem d_C_addZerosOf_72 : decode b_C_addZerosOf 72 = .ok (.iconst 2, 1) := by decide +kernel
theorem d_C_addZerosOf_73 : decode b_C_addZerosOf 73 = .ok (.aload_n 1, 1) := by decide +kernel
theorem d_C_addZerosOf_74 : decode b_C_addZerosOf 74 = .ok (.getfield 25, 3) := by decide +kernel
theorem d_C_addZerosOf_77 : decode b_C_addZerosOf 77 = .ok (.invokestatic 36, 3) := by decide +kernel
theorem d_C_addZerosOf_80 : decode b_C_addZerosOf 80 = .ok (.imul, 1) := by decide +kernel
theorem d_C_addZerosOf_81 : decode b_C_addZerosOf 81 = .ok (.invokevirtual 42, 3) := by decide +kernel
theorem d_C_addZerosOf_84 : decode b_C_addZerosOf 84 = .ok (.goto 41, 3) := by decide +kernel
theorem d_C_addZerosOf_87 : decode b_C_addZerosOf 87 = .ok (.aload_n 1, 1) := by decide +kernel
theorem d_C_addZerosOf_88 : decode b_C_addZerosOf 88 = .ok (.getfield 30, 3) := by decide +kernel
theorem d_C_addZerosOf_91 : decode b_C_addZerosOf 91 = .ok (.ifCond .eq 34, 3) := by decide +kernel
theorem d_C_addZerosOf_94 : decode b_C_addZerosOf 94 = .ok (.aload_n 0, 1) := by decide +kernel
theorem d_C_addZerosOf_95 : decode b_C_addZerosOf 95 = .ok (.aload_n 1, 1) := by decide +kernel
theorem d_C_addZerosOf_96 : decode b_C_addZerosOf 96 = .ok (.getfield 30, 3) := by decide +kernel
theorem d_C_addZerosOf_99 : decode b_C_addZerosOf 99 = .ok (.ifCond .le 11, 3) := by decide +kernel
theorem d_C_addZerosOf_102 : decode b_C_addZerosOf 102 = .ok (.aload_n 1, 1) := by decide +kernel
theorem d_C_addZerosOf_103 : decode b_C_addZerosOf 103 = .ok (.getfield 33, 3) := by decide +kernel
theorem d_C_addZerosOf_106 : decode b_C_addZerosOf 106 = .ok (.ineg, 1) := by decide +kernel
theorem d_C_addZerosOf_107 : decode b_C_addZerosOf 107 = .ok (.goto 7, 3) := by decide +kernel
theorem d_C_addZerosOf_110 : decode b_C_addZerosOf 110 = .ok (.aload_n 1, 1) := by decide +kernel
theorem d_C_addZerosOf_111 : decode b_C_addZerosOf 111 = .ok (.getfield 33, 3) := by decide +kernel
theorem d_C_addZerosOf_114 : decode b_C_addZerosOf 114 = .ok (.iconst 0, 1) := by decide +kernel
theorem d_C_addZerosOf_115 : decode b_C_addZerosOf 115 = .ok (.aload_n 1, 1) := by decide +kernel
theorem d_C_addZerosOf_116 : decode b_C_addZerosOf 116 = .ok (.getfield 30, 3) := by decide +kernel
theorem d_C_addZerosOf_119 : decode b_C_addZerosOf 119 = .ok (.invokestatic 36, 3) := by decide +kernel
theorem d_C_addZerosOf_122 : decode b_C_addZerosOf 122 = .ok (.invokevirtual 42, 3) := by decide +kernel
theorem d_C_addZerosOf_125 : decode b_C_addZerosOf 125 = .ok (.return_, 1) := by decide +kernel
theorem d_C_signBelowAll_0 : decode b_C_signBelowAll 0 = .ok (.aload_n 0, 1) := by decide +kernel
theorem d_C_signBelowAll_1 : decode b_C_signBelowAll 1 = .ok (.getfield 25, 3) := by decide +kernel
theorem d_C_signBelowAll_4 : decode b_C_signBelowAll 4 = .ok (.ifCond .eq 11, 3) := by decide +kernel
theorem d_C_signBelowAll_7 : decode b_C_signBelowAll 7 = .ok (.aload_n 0, 1) := by decide +kernel
theorem d_C_signBelowAll_8 : decode b_C_signBelowAll 8 = .ok (.getfield 25, 3) := by decide +kernel
theorem d_C_signBelowAll_11 : decode b_C_signBelowAll 11 = .ok (.invokestatic 77, 3) := by decide +kernel
theorem d_C_signBelowAll_14 : decode b_C_signBelowAll 14 = .ok (.ireturn, 1) := by decide +kernel
theorem d_C_signBelowAll_15 : decode b_C_signBelowAll 15 = .ok (.aload_n 0, 1) := by decide +kernel
theorem d_C_signBelowAll_16 : decode b_C_signBelowAll 16 = .ok (.getfield 30, 3) := by decide +kernel
theorem d_C_signBelowAll_19 : decode b_C_signBelowAll 19 = .ok (.ifCond .eq 14, 3) := by decide +kernel
theorem d_C_signBelowAll_22 : decode b_C_signBelowAll 22 = .ok (.aload_n 0, 1) := by decide +kernel
theorem d_C_signBelowAll_23 : decode b_C_signBelowAll 23 = .ok (.getfield 30, 3) := by decide +kernel
theorem d_C_signBelowAll_26 : decode b_C_signBelowAll 26 = .ok (.invokestatic 77, 3) := by decide +kernel
theorem d_C_signBelowAll_29 : decode b_C_signBelowAll 29 = .ok (.ineg, 1) := by decide +kernel
theorem d_C_signBelowAll_30 : decode b_C_signBelowAll 30 = .ok (.goto 10, 3) := by decide +kernel
theorem d_C_signBelowAll_33 : decode b_C_signBelowAll 33 = .ok (.aload_n 0, 1) := by decide +kernel
theorem d_C_signBelowAll_34 : decode b_C_signBelowAll 34 = .ok (.getfield 33, 3) := by decide +kernel
theorem d_C_signBelowAll_37 : decode b_C_signBelowAll 37 = .ok (.invokestatic 77, 3) := by decide +kernel
theorem d_C_signBelowAll_40 : decode b_C_signBelowAll 40 = .ok (.ireturn, 1) := by decide +kernel
theorem d_C_signAt_0 : decode b_C_signAt 0 = .ok (.aload_n 0, 1) := by decide +kernel
theorem d_C_signAt_1 : decode b_C_signAt 1 = .ok (.getfield 9, 3) := by decide +kernel
theorem d_C_signAt_4 : decode b_C_signAt 4 = .ok (.iload_n 1, 1) := by decide +kernel
theorem d_C_signAt_5 : decode b_C_signAt 5 = .ok (.iaload, 1) := by decide +kernel
theorem d_C_signAt_6 : decode b_C_signAt 6 = .ok (.i2l, 1) := by decide +kernel
theorem d_C_signAt_7 : decode b_C_signAt 7 = .ok (.lstore 8, 2) := by decide +kernel
theorem d_C_signAt_9 : decode b_C_signAt 9 = .ok (.aload_n 0, 1) := by decide +kernel
theorem d_C_signAt_10 : decode b_C_signAt 10 = .ok (.getfield 18, 3) := by decide +kernel
theorem d_C_signAt_13 : decode b_C_signAt 13 = .ok (.iload_n 1, 1) := by decide +kernel
theorem d_C_signAt_14 : decode b_C_signAt 14 = .ok (.iaload, 1) := by decide +kernel
theorem d_C_signAt_15 : decode b_C_signAt 15 = .ok (.i2l, 1) := by decide +kernel
theorem d_C_signAt_16 : decode b_C_signAt 16 = .ok (.lstore 10, 2) := by decide +kernel
theorem d_C_signAt_18 : decode b_C_signAt 18 = .ok (.aload_n 0, 1) := by decide +kernel
theorem d_C_signAt_19 : decode b_C_signAt 19 = .ok (.getfield 15, 3) := by decide +kernel
theorem d_C_signAt_22 : decode b_C_signAt 22 = .ok (.iload_n 1, 1) := by decide +kernel
theorem d_C_signAt_23 : decode b_C_signAt 23 = .ok (.iaload, 1) := by decide +kernel
theorem d_C_signAt_24 : decode b_C_signAt 24 = .ok (.i2l, 1) := by decide +kernel
theorem d_C_signAt_25 : decode b_C_signAt 25 = .ok (.lstore 12, 2) := by decide +kernel
theorem d_C_signAt_27 : decode b_C_signAt 27 = .ok (.lload_n 2, 1) := by decide +kernel
theorem d_C_signAt_28 : decode b_C_signAt 28 = .ok (.lload 10, 2) := by decide +kernel
theorem d_C_signAt_30 : decode b_C_signAt 30 = .ok (.lmul, 1) := by decide +kernel
theorem d_C_signAt_31 : decode b_C_signAt 31 = .ok (.lload 10, 2) := by decide +kernel
theorem d_C_signAt_33 : decode b_C_signAt 33 = .ok (.lmul, 1) := by decide +kernel
theorem d_C_signAt_34 : decode b_C_signAt 34 = .ok (.lload 4, 2) := by decide +kernel
theorem d_C_signAt_36 : decode b_C_signAt 36 = .ok (.lload 8, 2) := by decide +kernel
theorem d_C_signAt_38 : decode b_C_signAt 38 = .ok (.lmul, 1) := by decide +kernel
theorem d_C_signAt_39 : decode b_C_signAt 39 = .ok (.lload 10, 2) := by decide +kernel
theorem d_C_signAt_41 : decode b_C_signAt 41 = .ok (.lmul, 1) := by decide +kernel
theorem d_C_signAt_42 : decode b_C_signAt 42 = .ok (.ladd, 1) := by decide +kernel
theorem d_C_signAt_43 : decode b_C_signAt 43 = .ok (.lload 6, 2) := by decide +kernel
theorem d_C_signAt_45 : decode b_C_signAt 45 = .ok (.lload 8, 2) := by decide +kernel
theorem d_C_signAt_47 : decode b_C_signAt 47 = .ok (.lload 8, 2) := by decide +kernel
theorem d_C_signAt_49 : decode b_C_signAt 49 = .ok (.lmul, 1) := by decide +kernel
theorem d_C_signAt_50 : decode b_C_signAt 50 = .ok (.lload 12, 2) := by decide +kernel
theorem d_C_signAt_52 : decode b_C_signAt 52 = .ok (.invokestatic 64, 3) := by decide +kernel
theorem d_C_signAt_55 : decode b_C_signAt 55 = .ok (.ladd, 1) := by decide +kernel
theorem d_C_signAt_56 : decode b_C_signAt 56 = .ok (.lmul, 1) := by decide +kernel
theorem d_C_signAt_57 : decode b_C_signAt 57 = .ok (.ladd, 1) := by decide +kernel
theorem d_C_signAt_58 : decode b_C_signAt 58 = .ok (.lstore 14, 2) := by decide +kernel
theorem d_C_signAt_60 : decode b_C_signAt 60 = .ok (.lload 4, 2) := by decide +kernel
theorem d_C_signAt_62 : decode b_C_signAt 62 = .ok (.lload 10, 2) := by decide +kernel
theorem d_C_signAt_64 : decode b_C_signAt 64 = .ok (.lmul, 1) := by decide +kernel
theorem d_C_signAt_65 : decode b_C_signAt 65 = .ok (.ldc2_w 81, 3) := by decide +kernel
theorem d_C_signAt_68 : decode b_C_signAt 68 = .ok (.lload 6, 2) := by decide +kernel
theorem d_C_signAt_70 : decode b_C_signAt 70 = .ok (.lmul, 1) := by decide +kernel
theorem d_C_signAt_71 : decode b_C_signAt 71 = .ok (.lload 8, 2) := by decide +kernel
theorem d_C_signAt_73 : decode b_C_signAt 73 = .ok (.lmul, 1) := by decide +kernel
theorem d_C_signAt_74 : decode b_C_signAt 74 = .ok (.ladd, 1) := by decide +kernel
theorem d_C_signAt_75 : decode b_C_signAt 75 = .ok (.lstore 16, 2) := by decide +kernel
theorem d_C_signAt_77 : decode b_C_signAt 77 = .ok (.lload 14, 2) := by decide +kernel
theorem d_C_signAt_79 : decode b_C_signAt 79 = .ok (.lload 14, 2) := by decide +kernel
theorem d_C_signAt_81 : decode b_C_signAt 81 = .ok (.invokestatic 64, 3) := by decide +kernel
theorem d_C_signAt_84 : decode b_C_signAt 84 = .ok (.lmul, 1) := by decide +kernel
theorem d_C_signAt_85 : decode b_C_signAt 85 = .ok (.lload 16, 2) := by decide +kernel
theorem d_C_signAt_87 : decode b_C_signAt 87 = .ok (.lload 16, 2) := by decide +kernel
theorem d_C_signAt_89 : decode b_C_signAt 89 = .ok (.invokestatic 64, 3) := by decide +kernel
theorem d_C_signAt_92 : decode b_C_signAt 92 = .ok (.lmul, 1) := by decide +kernel
theorem d_C_signAt_93 : decode b_C_signAt 93 = .ok (.lload 12, 2) := by decide +kernel
theorem d_C_signAt_95 : decode b_C_signAt 95 = .ok (.lmul, 1) := by decide +kernel
theorem d_C_signAt_96 : decode b_C_signAt 96 = .ok (.ladd, 1) := by decide +kernel
theorem d_C_signAt_97 : decode b_C_signAt 97 = .ok (.invokestatic 58, 3) := by decide +kernel
theorem d_C_signAt_100 : decode b_C_signAt 100 = .ok (.ireturn, 1) := by decide +kernel
theorem d_C_signInColumn_0 : decode b_C_signInColumn 0 = .ok (.iload_n 1, 1) := by decide +kernel
theorem d_C_signInColumn_1 : decode b_C_signInColumn 1 = .ok (.ifCond .ne 8, 3) := by decide +kernel
theorem d_C_signInColumn_4 : decode b_C_signInColumn 4 = .ok (.aload_n 2, 1) := by decide +kernel
theorem d_C_signInColumn_5 : decode b_C_signInColumn 5 = .ok (.invokestatic 69, 3) := by decide +kernel
theorem d_C_signInColumn_8 : decode b_C_signInColumn 8 = .ok (.ireturn, 1) := by decide +kernel
theorem d_C_signInColumn_9 : decode b_C_signInColumn 9 = .ok (.iload_n 1, 1) := by decide +kernel
theorem d_C_signInColumn_10 : decode b_C_signInColumn 10 = .ok (.iconst 1, 1) := by decide +kernel
theorem d_C_signInColumn_11 : decode b_C_signInColumn 11 = .ok (.isub, 1) := by decide +kernel
theorem d_C_signInColumn_12 : decode b_C_signInColumn 12 = .ok (.iconst 1, 1) := by decide +kernel
theorem d_C_signInColumn_13 : decode b_C_signInColumn 13 = .ok (.ishr, 1) := by decide +kernel
theorem d_C_signInColumn_14 : decode b_C_signInColumn 14 = .ok (.istore_n 3, 1) := by decide +kernel
theorem d_C_signInColumn_15 : decode b_C_signInColumn 15 = .ok (.aload_n 0, 1) := by decide +kernel
theorem d_C_signInColumn_16 : decode b_C_signInColumn 16 = .ok (.iload_n 3, 1) := by decide +kernel
theorem d_C_signInColumn_17 : decode b_C_signInColumn 17 = .ok (.aload_n 2, 1) := by decide +kernel
theorem d_C_signInColumn_18 : decode b_C_signInColumn 18 = .ok (.getfield 33, 3) := by decide +kernel
theorem d_C_signInColumn_21 : decode b_C_signInColumn 21 = .ok (.i2l, 1) := by decide +kernel
theorem d_C_signInColumn_22 : decode b_C_signInColumn 22 = .ok (.aload_n 2, 1) := by decide +kernel
theorem d_C_signInColumn_23 : decode b_C_signInColumn 23 = .ok (.getfield 30, 3) := by decide +kernel
theorem d_C_signInColumn_26 : decode b_C_signInColumn 26 = .ok (.i2l, 1) := by decide +kernel
theorem d_C_signInColumn_27 : decode b_C_signInColumn 27 = .ok (.aload_n 2, 1) := by decide +kernel
theorem d_C_signInColumn_28 : decode b_C_signInColumn 28 = .ok (.getfield 25, 3) := by decide +kernel
theorem d_C_signInColumn_31 : decode b_C_signInColumn 31 = .ok (.i2l, 1) := by decide +kernel
theorem d_C_signInColumn_32 : decode b_C_signInColumn 32 = .ok (.invokevirtual 73, 3) := by decide +kernel
theorem d_C_signInColumn_35 : decode b_C_signInColumn 35 = .ok (.istore 4, 2) := by decide +kernel
theorem d_C_signInColumn_37 : decode b_C_signInColumn 37 = .ok (.iload 4, 2) := by decide +kernel
theorem d_C_signInColumn_39 : decode b_C_signInColumn 39 = .ok (.ifCond .ne 10, 3) := by decide +kernel
theorem d_C_signInColumn_42 : decode b_C_signInColumn 42 = .ok (.iload_n 1, 1) := by decide +kernel
theorem d_C_signInColumn_43 : decode b_C_signInColumn 43 = .ok (.iconst 1, 1) := by decide +kernel
theorem d_C_signInColumn_44 : decode b_C_signInColumn 44 = .ok (.iand, 1) := by decide +kernel
theorem d_C_signInColumn_45 : decode b_C_signInColumn 45 = .ok (.iconst 1, 1) := by decide +kernel
theorem d_C_signInColumn_46 : decode b_C_signInColumn 46 = .ok (.if_icmp .ne 6, 3) := by decide +kernel
theorem d_C_signInColumn_49 : decode b_C_signInColumn 49 = .ok (.iload 4, 2) := by decide +kernel
theorem d_C_signInColumn_51 : decode b_C_signInColumn 51 = .ok (.ireturn, 1) := by decide +kernel
theorem d_C_signInColumn_52 : decode b_C_signInColumn 52 = .ok (.aload_n 0, 1) := by decide +kernel
theorem d_C_signInColumn_53 : decode b_C_signInColumn 53 = .ok (.iload_n 3, 1) := by decide +kernel
theorem d_C_signInColumn_54 : decode b_C_signInColumn 54 = .ok (.aload_n 2, 1) := by decide +kernel
theorem d_C_signInColumn_55 : decode b_C_signInColumn 55 = .ok (.getfield 30, 3) := by decide +kernel
theorem d_C_signInColumn_58 : decode b_C_signInColumn 58 = .ok (.i2l, 1) := by decide +kernel
theorem d_C_signInColumn_59 : decode b_C_signInColumn 59 = .ok (.iconst 2, 1) := by decide +kernel
theorem d_C_signInColumn_60 : decode b_C_signInColumn 60 = .ok (.aload_n 2, 1) := by decide +kernel
theorem d_C_signInColumn_61 : decode b_C_signInColumn 61 = .ok (.getfield 25, 3) := by decide +kernel
theorem d_C_signInColumn_64 : decode b_C_signInColumn 64 = .ok (.imul, 1) := by decide +kernel
theorem d_C_signInColumn_65 : decode b_C_signInColumn 65 = .ok (.i2l, 1) := by decide +kernel
theorem d_C_signInColumn_66 : decode b_C_signInColumn 66 = .ok (.lconst 0, 1) := by decide +kernel
theorem d_C_signInColumn_67 : decode b_C_signInColumn 67 = .ok (.invokevirtual 73, 3) := by decide +kernel
theorem d_C_signInColumn_70 : decode b_C_signInColumn 70 = .ok (.istore 5, 2) := by decide +kernel
theorem d_C_signInColumn_72 : decode b_C_signInColumn 72 = .ok (.iload 5, 2) := by decide +kernel
theorem d_C_signInColumn_74 : decode b_C_signInColumn 74 = .ok (.ifCond .eq 8, 3) := by decide +kernel
theorem d_C_signInColumn_77 : decode b_C_signInColumn 77 = .ok (.iload 5, 2) := by decide +kernel
theorem d_C_signInColumn_79 : decode b_C_signInColumn 79 = .ok (.goto 10, 3) := by decide +kernel
theorem d_C_signInColumn_82 : decode b_C_signInColumn 82 = .ok (.aload_n 2, 1) := by decide +kernel
theorem d_C_signInColumn_83 : decode b_C_signInColumn 83 = .ok (.getfield 25, 3) := by decide +kernel
theorem d_C_signInColumn_86 : decode b_C_signInColumn 86 = .ok (.invokestatic 77, 3) := by decide +kernel
theorem d_C_signInColumn_89 : decode b_C_signInColumn 89 = .ok (.ireturn, 1) := by decide +kernel
theorem d_S_number_0 : decode b_S_number 0 = .ok (.aload_n 0, 1) := by decide +kernel
theorem d_S_number_1 : decode b_S_number 1 = .ok (.getfield 9, 3) := by decide +kernel
theorem d_S_number_4 : decode b_S_number 4 = .ok (.iload_n 1, 1) := by decide +kernel
theorem d_S_number_5 : decode b_S_number 5 = .ok (.iconst 4, 1) := by decide +kernel
theorem d_S_number_6 : decode b_S_number 6 = .ok (.imul, 1) := by decide +kernel
theorem d_S_number_7 : decode b_S_number 7 = .ok (.iload_n 2, 1) := by decide +kernel
theorem d_S_number_8 : decode b_S_number 8 = .ok (.iadd, 1) := by decide +kernel
theorem d_S_number_9 : decode b_S_number 9 = .ok (.iaload, 1) := by decide +kernel
theorem d_S_number_10 : decode b_S_number 10 = .ok (.ireturn, 1) := by decide +kernel
theorem d_F_setA_0 : decode b_F_setA 0 = .ok (.aload_n 0, 1) := by decide +kernel
theorem d_F_setA_1 : decode b_F_setA 1 = .ok (.aload_n 1, 1) := by decide +kernel
theorem d_F_setA_2 : decode b_F_setA 2 = .ok (.iload_n 2, 1) := by decide +kernel
theorem d_F_setA_3 : decode b_F_setA 3 = .ok (.iconst 2, 1) := by decide +kernel
theorem d_F_setA_4 : decode b_F_setA 4 = .ok (.invokevirtual 7, 3) := by decide +kernel
theorem d_F_setA_7 : decode b_F_setA 7 = .ok (.putfield 13, 3) := by decide +kernel
theorem d_F_setA_10 : decode b_F_setA 10 = .ok (.aload_n 0, 1) := by decide +kernel
theorem d_F_setA_11 : decode b_F_setA 11 = .ok (.aload_n 1, 1) := by decide +kernel
theorem d_F_setA_12 : decode b_F_setA 12 = .ok (.iload_n 2, 1) := by decide +kernel
theorem d_F_setA_13 : decode b_F_setA 13 = .ok (.iconst 3, 1) := by decide +kernel
theorem d_F_setA_14 : decode b_F_setA 14 = .ok (.invokevirtual 7, 3) := by decide +kernel
theorem d_F_setA_17 : decode b_F_setA 17 = .ok (.putfield 19, 3) := by decide +kernel
theorem d_F_setA_20 : decode b_F_setA 20 = .ok (.aload_n 0, 1) := by decide +kernel
theorem d_F_setA_21 : decode b_F_setA 21 = .ok (.iconst 0, 1) := by decide +kernel
theorem d_F_setA_22 : decode b_F_setA 22 = .ok (.putfield 22, 3) := by decide +kernel
theorem d_F_setA_25 : decode b_F_setA 25 = .ok (.return_, 1) := by decide +kernel
theorem d_F_setB_0 : decode b_F_setB 0 = .ok (.aload_n 0, 1) := by decide +kernel
theorem d_F_setB_1 : decode b_F_setB 1 = .ok (.aload_n 1, 1) := by decide +kernel
theorem d_F_setB_2 : decode b_F_setB 2 = .ok (.iload_n 2, 1) := by decide +kernel
theorem d_F_setB_3 : decode b_F_setB 3 = .ok (.iconst 0, 1) := by decide +kernel
theorem d_F_setB_4 : decode b_F_setB 4 = .ok (.invokevirtual 7, 3) := by decide +kernel
theorem d_F_setB_7 : decode b_F_setB 7 = .ok (.putfield 13, 3) := by decide +kernel
theorem d_F_setB_10 : decode b_F_setB 10 = .ok (.aload_n 0, 1) := by decide +kernel
theorem d_F_setB_11 : decode b_F_setB 11 = .ok (.aload_n 1, 1) := by decide +kernel
theorem d_F_setB_12 : decode b_F_setB 12 = .ok (.iload_n 2, 1) := by decide +kernel
theorem d_F_setB_13 : decode b_F_setB 13 = .ok (.iconst 1, 1) := by decide +kernel
theorem d_F_setB_14 : decode b_F_setB 14 = .ok (.invokevirtual 7, 3) := by decide +kernel
theorem d_F_setB_17 : decode b_F_setB 17 = .ok (.putfield 19, 3) := by decide +kernel
theorem d_F_setB_20 : decode b_F_setB 20 = .ok (.aload_n 0, 1) := by decide +kernel
theorem d_F_setB_21 : decode b_F_setB 21 = .ok (.iconst 0, 1) := by decide +kernel
theorem d_F_setB_22 : decode b_F_setB 22 = .ok (.putfield 22, 3) := by decide +kernel
theorem d_F_setB_25 : decode b_F_setB 25 = .ok (.return_, 1) := by decide +kernel
theorem d_F_setPair_0 : decode b_F_setPair 0 = .ok (.aload_n 0, 1) := by decide +kernel
theorem d_F_setPair_1 : decode b_F_setPair 1 = .ok (.aload_n 1, 1) := by decide +kernel
theorem d_F_setPair_2 : decode b_F_setPair 2 = .ok (.iload_n 2, 1) := by decide +kernel
theorem d_F_setPair_3 : decode b_F_setPair 3 = .ok (.iconst 2, 1) := by decide +kernel
theorem d_F_setPair_4 : decode b_F_setPair 4 = .ok (.invokevirtual 7, 3) := by decide +kernel
theorem d_F_setPair_7 : decode b_F_setPair 7 = .ok (.aload_n 1, 1) := by decide +kernel
theorem d_F_setPair_8 : decode b_F_setPair 8 = .ok (.iload_n 3, 1) := by decide +kernel
theorem d_F_setPair_9 : decode b_F_setPair 9 = .ok (.iconst 0, 1) := by decide +kernel
theorem d_F_setPair_10 : decode b_F_setPair 10 = .ok (.invokevirtual 7, 3) := by decide +kernel
theorem d_F_setPair_13 : decode b_F_setPair 13 = .ok (.imul, 1) := by decide +kernel
theorem d_F_setPair_14 : decode b_F_setPair 14 = .ok (.aload_n 1, 1) := by decide +kernel
theorem d_F_setPair_15 : decode b_F_setPair 15 = .ok (.iload_n 3, 1) := by decide +kernel
theorem d_F_setPair_16 : decode b_F_setPair 16 = .ok (.iconst 2, 1) := by decide +kernel
theorem d_F_setPair_17 : decode b_F_setPair 17 = .ok (.invokevirtual 7, 3) := by decide +kernel
theorem d_F_setPair_20 : decode b_F_setPair 20 = .ok (.aload_n 1, 1) := by decide +kernel
theorem d_F_setPair_21 : decode b_F_setPair 21 = .ok (.iload_n 2, 1) := by decide +kernel
