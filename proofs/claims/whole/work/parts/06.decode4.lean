theorem d_R_release_34 : decode b_R_release 34 = .ok (.iconst 1, 1) := by decide +kernel
theorem d_R_release_35 : decode b_R_release 35 = .ok (.isub, 1) := by decide +kernel
theorem d_R_release_36 : decode b_R_release 36 = .ok (.iaload, 1) := by decide +kernel
theorem d_R_release_37 : decode b_R_release 37 = .ok (.invokevirtual 88, 3) := by decide +kernel
theorem d_R_release_40 : decode b_R_release 40 = .ok (.aload_n 0, 1) := by decide +kernel
theorem d_R_release_41 : decode b_R_release 41 = .ok (.dup, 1) := by decide +kernel
theorem d_R_release_42 : decode b_R_release 42 = .ok (.getfield 36, 3) := by decide +kernel
theorem d_R_release_45 : decode b_R_release 45 = .ok (.iconst 1, 1) := by decide +kernel
theorem d_R_release_46 : decode b_R_release 46 = .ok (.isub, 1) := by decide +kernel
theorem d_R_release_47 : decode b_R_release 47 = .ok (.putfield 36, 3) := by decide +kernel
theorem d_R_release_50 : decode b_R_release 50 = .ok (.goto (-50), 3) := by decide +kernel
theorem d_R_release_53 : decode b_R_release 53 = .ok (.return_, 1) := by decide +kernel
theorem d_R_takeClosings_0 : decode b_R_takeClosings 0 = .ok (.aload_n 0, 1) := by decide +kernel
theorem d_R_takeClosings_1 : decode b_R_takeClosings 1 = .ok (.getfield 39, 3) := by decide +kernel
theorem d_R_takeClosings_4 : decode b_R_takeClosings 4 = .ok (.ifCond .le 50, 3) := by decide +kernel
theorem d_R_takeClosings_7 : decode b_R_takeClosings 7 = .ok (.aload_n 0, 1) := by decide +kernel
theorem d_R_takeClosings_8 : decode b_R_takeClosings 8 = .ok (.invokevirtual 67, 3) := by decide +kernel
theorem d_R_takeClosings_11 : decode b_R_takeClosings 11 = .ok (.bipush 41, 2) := by decide +kernel
theorem d_R_takeClosings_13 : decode b_R_takeClosings 13 = .ok (.if_icmp .ne 41, 3) := by decide +kernel
theorem d_R_takeClosings_16 : decode b_R_takeClosings 16 = .ok (.aload_n 0, 1) := by decide +kernel
theorem d_R_takeClosings_17 : decode b_R_takeClosings 17 = .ok (.iconst 1, 1) := by decide +kernel
theorem d_R_takeClosings_18 : decode b_R_takeClosings 18 = .ok (.invokevirtual 63, 3) := by decide +kernel
theorem d_R_takeClosings_21 : decode b_R_takeClosings 21 = .ok (.aload_n 0, 1) := by decide +kernel
theorem d_R_takeClosings_22 : decode b_R_takeClosings 22 = .ok (.dup, 1) := by decide +kernel
theorem d_R_takeClosings_23 : decode b_R_takeClosings 23 = .ok (.getfield 36, 3) := by decide +kernel
theorem d_R_takeClosings_26 : decode b_R_takeClosings 26 = .ok (.iconst 1, 1) := by decide +kernel
theorem d_R_takeClosings_27 : decode b_R_takeClosings 27 = .ok (.isub, 1) := by decide +kernel
theorem d_R_takeClosings_28 : decode b_R_takeClosings 28 = .ok (.putfield 36, 3) := by decide +kernel
theorem d_R_takeClosings_31 : decode b_R_takeClosings 31 = .ok (.aload_n 0, 1) := by decide +kernel
theorem d_R_takeClosings_32 : decode b_R_takeClosings 32 = .ok (.dup, 1) := by decide +kernel
theorem d_R_takeClosings_33 : decode b_R_takeClosings 33 = .ok (.getfield 39, 3) := by decide +kernel
theorem d_R_takeClosings_36 : decode b_R_takeClosings 36 = .ok (.iconst 1, 1) := by decide +kernel
theorem d_R_takeClosings_37 : decode b_R_takeClosings 37 = .ok (.isub, 1) := by decide +kernel
theorem d_R_takeClosings_38 : decode b_R_takeClosings 38 = .ok (.putfield 39, 3) := by decide +kernel
theorem d_R_takeClosings_41 : decode b_R_takeClosings 41 = .ok (.aload_n 0, 1) := by decide +kernel
theorem d_R_takeClosings_42 : decode b_R_takeClosings 42 = .ok (.dup, 1) := by decide +kernel
theorem d_R_takeClosings_43 : decode b_R_takeClosings 43 = .ok (.getfield 33, 3) := by decide +kernel
theorem d_R_takeClosings_46 : decode b_R_takeClosings 46 = .ok (.iconst 1, 1) := by decide +kernel
theorem d_R_takeClosings_47 : decode b_R_takeClosings 47 = .ok (.iadd, 1) := by decide +kernel
theorem d_R_takeClosings_48 : decode b_R_takeClosings 48 = .ok (.putfield 33, 3) := by decide +kernel
theorem d_R_takeClosings_51 : decode b_R_takeClosings 51 = .ok (.goto (-51), 3) := by decide +kernel
theorem d_R_takeClosings_54 : decode b_R_takeClosings 54 = .ok (.return_, 1) := by decide +kernel
theorem d_R_takeJoint_0 : decode b_R_takeJoint 0 = .ok (.aload_n 0, 1) := by decide +kernel
theorem d_R_takeJoint_1 : decode b_R_takeJoint 1 = .ok (.invokevirtual 67, 3) := by decide +kernel
theorem d_R_takeJoint_4 : decode b_R_takeJoint 4 = .ok (.bipush 38, 2) := by decide +kernel
theorem d_R_takeJoint_6 : decode b_R_takeJoint 6 = .ok (.if_icmp .ne 7, 3) := by decide +kernel
theorem d_R_takeJoint_9 : decode b_R_takeJoint 9 = .ok (.iconst 2, 1) := by decide +kernel
theorem d_R_takeJoint_10 : decode b_R_takeJoint 10 = .ok (.goto 4, 3) := by decide +kernel
theorem d_R_takeJoint_13 : decode b_R_takeJoint 13 = .ok (.iconst 1, 1) := by decide +kernel
theorem d_R_takeJoint_14 : decode b_R_takeJoint 14 = .ok (.istore_n 1, 1) := by decide +kernel
theorem d_R_takeJoint_15 : decode b_R_takeJoint 15 = .ok (.aload_n 0, 1) := by decide +kernel
theorem d_R_takeJoint_16 : decode b_R_takeJoint 16 = .ok (.bipush 38, 2) := by decide +kernel
theorem d_R_takeJoint_18 : decode b_R_takeJoint 18 = .ok (.invokevirtual 78, 3) := by decide +kernel
theorem d_R_takeJoint_21 : decode b_R_takeJoint 21 = .ok (.ifCond .ne 14, 3) := by decide +kernel
theorem d_R_takeJoint_24 : decode b_R_takeJoint 24 = .ok (.aload_n 0, 1) := by decide +kernel
theorem d_R_takeJoint_25 : decode b_R_takeJoint 25 = .ok (.bipush 124, 2) := by decide +kernel
theorem d_R_takeJoint_27 : decode b_R_takeJoint 27 = .ok (.invokevirtual 78, 3) := by decide +kernel
theorem d_R_takeJoint_30 : decode b_R_takeJoint 30 = .ok (.ifCond .ne 5, 3) := by decide +kernel
theorem d_R_takeJoint_33 : decode b_R_takeJoint 33 = .ok (.iconst 0, 1) := by decide +kernel
theorem d_R_takeJoint_34 : decode b_R_takeJoint 34 = .ok (.ireturn, 1) := by decide +kernel
theorem d_R_takeJoint_35 : decode b_R_takeJoint 35 = .ok (.aload_n 0, 1) := by decide +kernel
theorem d_R_takeJoint_36 : decode b_R_takeJoint 36 = .ok (.iload_n 1, 1) := by decide +kernel
theorem d_R_takeJoint_37 : decode b_R_takeJoint 37 = .ok (.invokevirtual 63, 3) := by decide +kernel
theorem d_R_takeJoint_40 : decode b_R_takeJoint 40 = .ok (.aload_n 0, 1) := by decide +kernel
theorem d_R_takeJoint_41 : decode b_R_takeJoint 41 = .ok (.iload_n 1, 1) := by decide +kernel
theorem d_R_takeJoint_42 : decode b_R_takeJoint 42 = .ok (.invokevirtual 85, 3) := by decide +kernel
theorem d_R_takeJoint_45 : decode b_R_takeJoint 45 = .ok (.iconst 1, 1) := by decide +kernel
theorem d_R_takeJoint_46 : decode b_R_takeJoint 46 = .ok (.ireturn, 1) := by decide +kernel
theorem d_R_readSentence_0 : decode b_R_readSentence 0 = .ok (.aload_n 0, 1) := by decide +kernel
theorem d_R_readSentence_1 : decode b_R_readSentence 1 = .ok (.iconst 0, 1) := by decide +kernel
theorem d_R_readSentence_2 : decode b_R_readSentence 2 = .ok (.putfield 33, 3) := by decide +kernel
theorem d_R_readSentence_5 : decode b_R_readSentence 5 = .ok (.aload_n 0, 1) := by decide +kernel
theorem d_R_readSentence_6 : decode b_R_readSentence 6 = .ok (.iconst 0, 1) := by decide +kernel
theorem d_R_readSentence_7 : decode b_R_readSentence 7 = .ok (.putfield 36, 3) := by decide +kernel
theorem d_R_readSentence_10 : decode b_R_readSentence 10 = .ok (.aload_n 0, 1) := by decide +kernel
theorem d_R_readSentence_11 : decode b_R_readSentence 11 = .ok (.iconst 0, 1) := by decide +kernel
theorem d_R_readSentence_12 : decode b_R_readSentence 12 = .ok (.putfield 39, 3) := by decide +kernel
theorem d_R_readSentence_15 : decode b_R_readSentence 15 = .ok (.aload_n 0, 1) := by decide +kernel
theorem d_R_readSentence_16 : decode b_R_readSentence 16 = .ok (.getfield 22, 3) := by decide +kernel
theorem d_R_readSentence_19 : decode b_R_readSentence 19 = .ok (.invokevirtual 42, 3) := by decide +kernel
theorem d_R_readSentence_22 : decode b_R_readSentence 22 = .ok (.aload_n 0, 1) := by decide +kernel
theorem d_R_readSentence_23 : decode b_R_readSentence 23 = .ok (.invokevirtual 47, 3) := by decide +kernel
theorem d_R_readSentence_26 : decode b_R_readSentence 26 = .ok (.ifCond .ne 5, 3) := by decide +kernel
theorem d_R_readSentence_29 : decode b_R_readSentence 29 = .ok (.iconst 0, 1) := by decide +kernel
theorem d_R_readSentence_30 : decode b_R_readSentence 30 = .ok (.ireturn, 1) := by decide +kernel
theorem d_R_readSentence_31 : decode b_R_readSentence 31 = .ok (.iconst 0, 1) := by decide +kernel
theorem d_R_readSentence_32 : decode b_R_readSentence 32 = .ok (.istore_n 1, 1) := by decide +kernel
theorem d_R_readSentence_33 : decode b_R_readSentence 33 = .ok (.iload_n 1, 1) := by decide +kernel
theorem d_R_readSentence_34 : decode b_R_readSentence 34 = .ok (.aload_n 0, 1) := by decide +kernel
theorem d_R_readSentence_35 : decode b_R_readSentence 35 = .ok (.getfield 30, 3) := by decide +kernel
theorem d_R_readSentence_38 : decode b_R_readSentence 38 = .ok (.if_icmp .ge 62, 3) := by decide +kernel
theorem d_R_readSentence_41 : decode b_R_readSentence 41 = .ok (.aload_n 0, 1) := by decide +kernel
theorem d_R_readSentence_42 : decode b_R_readSentence 42 = .ok (.invokevirtual 51, 3) := by decide +kernel
theorem d_R_readSentence_45 : decode b_R_readSentence 45 = .ok (.aload_n 0, 1) := by decide +kernel
theorem d_R_readSentence_46 : decode b_R_readSentence 46 = .ok (.invokevirtual 54, 3) := by decide +kernel
theorem d_R_readSentence_49 : decode b_R_readSentence 49 = .ok (.ifCond .ne 5, 3) := by decide +kernel
theorem d_R_readSentence_52 : decode b_R_readSentence 52 = .ok (.iconst 0, 1) := by decide +kernel
theorem d_R_readSentence_53 : decode b_R_readSentence 53 = .ok (.ireturn, 1) := by decide +kernel
theorem d_R_readSentence_54 : decode b_R_readSentence 54 = .ok (.aload_n 0, 1) := by decide +kernel
theorem d_R_readSentence_55 : decode b_R_readSentence 55 = .ok (.invokevirtual 57, 3) := by decide +kernel
theorem d_R_readSentence_58 : decode b_R_readSentence 58 = .ok (.aload_n 0, 1) := by decide +kernel
theorem d_R_readSentence_59 : decode b_R_readSentence 59 = .ok (.invokevirtual 60, 3) := by decide +kernel
theorem d_R_readSentence_62 : decode b_R_readSentence 62 = .ok (.ifCond .ne 32, 3) := by decide +kernel
theorem d_R_readSentence_65 : decode b_R_readSentence 65 = .ok (.aload_n 0, 1) := by decide +kernel
theorem d_R_readSentence_66 : decode b_R_readSentence 66 = .ok (.iconst 1, 1) := by decide +kernel
theorem d_R_readSentence_67 : decode b_R_readSentence 67 = .ok (.invokevirtual 63, 3) := by decide +kernel
theorem d_R_readSentence_70 : decode b_R_readSentence 70 = .ok (.aload_n 0, 1) := by decide +kernel
theorem d_R_readSentence_71 : decode b_R_readSentence 71 = .ok (.getfield 33, 3) := by decide +kernel
theorem d_R_readSentence_74 : decode b_R_readSentence 74 = .ok (.aload_n 0, 1) := by decide +kernel
theorem d_R_readSentence_75 : decode b_R_readSentence 75 = .ok (.getfield 30, 3) := by decide +kernel
theorem d_R_readSentence_78 : decode b_R_readSentence 78 = .ok (.if_icmp .ne 14, 3) := by decide +kernel
theorem d_R_readSentence_81 : decode b_R_readSentence 81 = .ok (.aload_n 0, 1) := by decide +kernel
theorem d_R_readSentence_82 : decode b_R_readSentence 82 = .ok (.getfield 39, 3) := by decide +kernel
theorem d_R_readSentence_85 : decode b_R_readSentence 85 = .ok (.ifCond .ne 7, 3) := by decide +kernel
theorem d_R_readSentence_88 : decode b_R_readSentence 88 = .ok (.iconst 1, 1) := by decide +kernel
theorem d_R_readSentence_89 : decode b_R_readSentence 89 = .ok (.goto 4, 3) := by decide +kernel
theorem d_R_readSentence_92 : decode b_R_readSentence 92 = .ok (.iconst 0, 1) := by decide +kernel
theorem d_R_readSentence_93 : decode b_R_readSentence 93 = .ok (.ireturn, 1) := by decide +kernel
theorem d_R_readSentence_94 : decode b_R_readSentence 94 = .ok (.iinc 1 1, 3) := by decide +kernel
theorem d_R_readSentence_97 : decode b_R_readSentence 97 = .ok (.goto (-64), 3) := by decide +kernel
theorem d_R_readSentence_100 : decode b_R_readSentence 100 = .ok (.iconst 0, 1) := by decide +kernel
theorem d_R_readSentence_101 : decode b_R_readSentence 101 = .ok (.ireturn, 1) := by decide +kernel
theorem d_S_fits_0 : decode b_S_fits 0 = .ok (.aload_n 0, 1) := by decide +kernel
theorem d_S_fits_1 : decode b_S_fits 1 = .ok (.getfield 26, 3) := by decide +kernel
theorem d_S_fits_4 : decode b_S_fits 4 = .ok (.bipush 8, 2) := by decide +kernel
theorem d_S_fits_6 : decode b_S_fits 6 = .ok (.if_icmp .le 5, 3) := by decide +kernel
theorem d_S_fits_9 : decode b_S_fits 9 = .ok (.iconst 0, 1) := by decide +kernel
theorem d_S_fits_10 : decode b_S_fits 10 = .ok (.ireturn, 1) := by decide +kernel
theorem d_S_fits_11 : decode b_S_fits 11 = .ok (.iconst 0, 1) := by decide +kernel
theorem d_S_fits_12 : decode b_S_fits 12 = .ok (.istore_n 1, 1) := by decide +kernel
theorem d_S_fits_13 : decode b_S_fits 13 = .ok (.iload_n 1, 1) := by decide +kernel
theorem d_S_fits_14 : decode b_S_fits 14 = .ok (.aload_n 0, 1) := by decide +kernel
theorem d_S_fits_15 : decode b_S_fits 15 = .ok (.getfield 26, 3) := by decide +kernel
theorem d_S_fits_18 : decode b_S_fits 18 = .ok (.iconst 4, 1) := by decide +kernel
theorem d_S_fits_19 : decode b_S_fits 19 = .ok (.imul, 1) := by decide +kernel
theorem d_S_fits_20 : decode b_S_fits 20 = .ok (.if_icmp .ge 32, 3) := by decide +kernel
theorem d_S_fits_23 : decode b_S_fits 23 = .ok (.aload_n 0, 1) := by decide +kernel
theorem d_S_fits_24 : decode b_S_fits 24 = .ok (.getfield 9, 3) := by decide +kernel
theorem d_S_fits_27 : decode b_S_fits 27 = .ok (.iload_n 1, 1) := by decide +kernel
theorem d_S_fits_28 : decode b_S_fits 28 = .ok (.iaload, 1) := by decide +kernel
theorem d_S_fits_29 : decode b_S_fits 29 = .ok (.bipush (-5), 2) := by decide +kernel
theorem d_S_fits_31 : decode b_S_fits 31 = .ok (.if_icmp .lt 13, 3) := by decide +kernel
theorem d_S_fits_34 : decode b_S_fits 34 = .ok (.aload_n 0, 1) := by decide +kernel
theorem d_S_fits_35 : decode b_S_fits 35 = .ok (.getfield 9, 3) := by decide +kernel
theorem d_S_fits_38 : decode b_S_fits 38 = .ok (.iload_n 1, 1) := by decide +kernel
theorem d_S_fits_39 : decode b_S_fits 39 = .ok (.iaload, 1) := by decide +kernel
theorem d_S_fits_40 : decode b_S_fits 40 = .ok (.iconst 5, 1) := by decide +kernel
theorem d_S_fits_41 : decode b_S_fits 41 = .ok (.if_icmp .le 5, 3) := by decide +kernel
theorem d_S_fits_44 : decode b_S_fits 44 = .ok (.iconst 0, 1) := by decide +kernel
theorem d_S_fits_45 : decode b_S_fits 45 = .ok (.ireturn, 1) := by decide +kernel
theorem d_S_fits_46 : decode b_S_fits 46 = .ok (.iinc 1 1, 3) := by decide +kernel
theorem d_S_fits_49 : decode b_S_fits 49 = .ok (.goto (-36), 3) := by decide +kernel
theorem d_S_fits_52 : decode b_S_fits 52 = .ok (.iconst 1, 1) := by decide +kernel
theorem d_S_fits_53 : decode b_S_fits 53 = .ok (.ireturn, 1) := by decide +kernel
theorem d_P_write_0 : decode b_P_write 0 = .ok (.aload_n 0, 1) := by decide +kernel
theorem d_P_write_1 : decode b_P_write 1 = .ok (.getfield 21, 3) := by decide +kernel
theorem d_P_write_4 : decode b_P_write 4 = .ok (.iload_n 1, 1) := by decide +kernel
theorem d_P_write_5 : decode b_P_write 5 = .ok (.invokevirtual 42, 3) := by decide +kernel
theorem d_P_write_8 : decode b_P_write 8 = .ok (.ireturn, 1) := by decide +kernel
theorem d_P_readText_0 : decode b_P_readText 0 = .ok (.aload_n 0, 1) := by decide +kernel
theorem d_P_readText_1 : decode b_P_readText 1 = .ok (.iconst (-1), 1) := by decide +kernel
theorem d_P_readText_2 : decode b_P_readText 2 = .ok (.putfield 32, 3) := by decide +kernel
theorem d_P_readText_5 : decode b_P_readText 5 = .ok (.aload_n 0, 1) := by decide +kernel
theorem d_P_readText_6 : decode b_P_readText 6 = .ok (.getfield 21, 3) := by decide +kernel
theorem d_P_readText_9 : decode b_P_readText 9 = .ok (.invokevirtual 72, 3) := by decide +kernel
theorem d_P_readText_12 : decode b_P_readText 12 = .ok (.bipush 8, 2) := by decide +kernel
theorem d_P_readText_14 : decode b_P_readText 14 = .ok (.if_icmp .le 6, 3) := by decide +kernel
theorem d_P_readText_17 : decode b_P_readText 17 = .ok (.bipush (-2), 2) := by decide +kernel
theorem d_P_readText_19 : decode b_P_readText 19 = .ok (.ireturn, 1) := by decide +kernel
theorem d_P_readText_20 : decode b_P_readText 20 = .ok (.aload_n 0, 1) := by decide +kernel
theorem d_P_readText_21 : decode b_P_readText 21 = .ok (.getfield 21, 3) := by decide +kernel
theorem d_P_readText_24 : decode b_P_readText 24 = .ok (.invokevirtual 75, 3) := by decide +kernel
theorem d_P_readText_27 : decode b_P_readText 27 = .ok (.ifCond .ne 16, 3) := by decide +kernel
theorem d_P_readText_30 : decode b_P_readText 30 = .ok (.aload_n 0, 1) := by decide +kernel
theorem d_P_readText_31 : decode b_P_readText 31 = .ok (.aload_n 0, 1) := by decide +kernel
theorem d_P_readText_32 : decode b_P_readText 32 = .ok (.getfield 21, 3) := by decide +kernel
theorem d_P_readText_35 : decode b_P_readText 35 = .ok (.getfield 78, 3) := by decide +kernel
theorem d_P_readText_38 : decode b_P_readText 38 = .ok (.putfield 32, 3) := by decide +kernel
theorem d_P_readText_41 : decode b_P_readText 41 = .ok (.iconst (-1), 1) := by decide +kernel
theorem d_P_readText_42 : decode b_P_readText 42 = .ok (.ireturn, 1) := by decide +kernel
theorem d_P_readText_43 : decode b_P_readText 43 = .ok (.aload_n 0, 1) := by decide +kernel
theorem d_P_readText_44 : decode b_P_readText 44 = .ok (.getfield 12, 3) := by decide +kernel
theorem d_P_readText_47 : decode b_P_readText 47 = .ok (.invokevirtual 81, 3) := by decide +kernel
theorem d_P_readText_50 : decode b_P_readText 50 = .ok (.ifCond .eq 7, 3) := by decide +kernel
theorem d_P_readText_53 : decode b_P_readText 53 = .ok (.iconst 0, 1) := by decide +kernel
theorem d_P_readText_54 : decode b_P_readText 54 = .ok (.goto 5, 3) := by decide +kernel
theorem d_P_readText_57 : decode b_P_readText 57 = .ok (.bipush (-2), 2) := by decide +kernel
theorem d_P_readText_59 : decode b_P_readText 59 = .ok (.ireturn, 1) := by decide +kernel
theorem d_P_decide_0 : decode b_P_decide 0 = .ok (.aload_n 0, 1) := by decide +kernel
theorem d_P_decide_1 : decode b_P_decide 1 = .ok (.invokevirtual 46, 3) := by decide +kernel
theorem d_P_decide_4 : decode b_P_decide 4 = .ok (.istore_n 1, 1) := by decide +kernel
theorem d_P_decide_5 : decode b_P_decide 5 = .ok (.aload_n 0, 1) := by decide +kernel
theorem d_P_decide_6 : decode b_P_decide 6 = .ok (.getfield 21, 3) := by decide +kernel
theorem d_P_decide_9 : decode b_P_decide 9 = .ok (.invokevirtual 50, 3) := by decide +kernel
theorem d_P_decide_12 : decode b_P_decide 12 = .ok (.aload_n 0, 1) := by decide +kernel
theorem d_P_decide_13 : decode b_P_decide 13 = .ok (.iconst 0, 1) := by decide +kernel
theorem d_P_decide_14 : decode b_P_decide 14 = .ok (.putfield 36, 3) := by decide +kernel
theorem d_P_decide_17 : decode b_P_decide 17 = .ok (.aload_n 0, 1) := by decide +kernel
theorem d_P_decide_18 : decode b_P_decide 18 = .ok (.iconst (-1), 1) := by decide +kernel
theorem d_P_decide_19 : decode b_P_decide 19 = .ok (.putfield 39, 3) := by decide +kernel
theorem d_P_decide_22 : decode b_P_decide 22 = .ok (.iload_n 1, 1) := by decide +kernel
theorem d_P_decide_23 : decode b_P_decide 23 = .ok (.ifCond .ge 12, 3) := by decide +kernel
theorem d_P_decide_26 : decode b_P_decide 26 = .ok (.aload_n 0, 1) := by decide +kernel
theorem d_P_decide_27 : decode b_P_decide 27 = .ok (.getfield 12, 3) := by decide +kernel
theorem d_P_decide_30 : decode b_P_decide 30 = .ok (.invokevirtual 53, 3) := by decide +kernel
theorem d_P_decide_33 : decode b_P_decide 33 = .ok (.iload_n 1, 1) := by decide +kernel
theorem d_P_decide_34 : decode b_P_decide 34 = .ok (.ireturn, 1) := by decide +kernel
theorem d_P_decide_35 : decode b_P_decide 35 = .ok (.aload_n 0, 1) := by decide +kernel
theorem d_P_decide_36 : decode b_P_decide 36 = .ok (.getfield 28, 3) := by decide +kernel
theorem d_P_decide_39 : decode b_P_decide 39 = .ok (.invokevirtual 54, 3) := by decide +kernel
theorem d_P_decide_42 : decode b_P_decide 42 = .ok (.aload_n 0, 1) := by decide +kernel
theorem d_P_decide_43 : decode b_P_decide 43 = .ok (.aload_n 0, 1) := by decide +kernel
theorem d_P_decide_44 : decode b_P_decide 44 = .ok (.getfield 28, 3) := by decide +kernel
theorem d_P_decide_47 : decode b_P_decide 47 = .ok (.invokevirtual 57, 3) := by decide +kernel
theorem d_P_decide_50 : decode b_P_decide 50 = .ok (.putfield 36, 3) := by decide +kernel
theorem d_P_decide_53 : decode b_P_decide 53 = .ok (.iconst 0, 1) := by decide +kernel
theorem d_P_decide_54 : decode b_P_decide 54 = .ok (.istore_n 2, 1) := by decide +kernel
theorem d_P_decide_55 : decode b_P_decide 55 = .ok (.iload_n 2, 1) := by decide +kernel
theorem d_P_decide_56 : decode b_P_decide 56 = .ok (.aload_n 0, 1) := by decide +kernel
theorem d_P_decide_57 : decode b_P_decide 57 = .ok (.getfield 36, 3) := by decide +kernel
theorem d_P_decide_60 : decode b_P_decide 60 = .ok (.if_icmp .ge 46, 3) := by decide +kernel
theorem d_P_decide_63 : decode b_P_decide 63 = .ok (.aload_n 0, 1) := by decide +kernel
theorem d_P_decide_64 : decode b_P_decide 64 = .ok (.getfield 39, 3) := by decide +kernel
theorem d_P_decide_67 : decode b_P_decide 67 = .ok (.ifCond .ge 39, 3) := by decide +kernel
theorem d_P_decide_70 : decode b_P_decide 70 = .ok (.aload_n 0, 1) := by decide +kernel
theorem d_P_decide_71 : decode b_P_decide 71 = .ok (.getfield 28, 3) := by decide +kernel
theorem d_P_decide_74 : decode b_P_decide 74 = .ok (.iload_n 2, 1) := by decide +kernel
theorem d_P_decide_75 : decode b_P_decide 75 = .ok (.invokevirtual 60, 3) := by decide +kernel
theorem d_P_decide_78 : decode b_P_decide 78 = .ok (.aload_n 0, 1) := by decide +kernel
theorem d_P_decide_79 : decode b_P_decide 79 = .ok (.getfield 28, 3) := by decide +kernel
theorem d_P_decide_82 : decode b_P_decide 82 = .ok (.invokevirtual 64, 3) := by decide +kernel
theorem d_P_decide_85 : decode b_P_decide 85 = .ok (.aload_n 0, 1) := by decide +kernel
theorem d_P_decide_86 : decode b_P_decide 86 = .ok (.getfield 12, 3) := by decide +kernel
theorem d_P_decide_89 : decode b_P_decide 89 = .ok (.getfield 68, 3) := by decide +kernel
theorem d_P_decide_92 : decode b_P_decide 92 = .ok (.if_icmp .eq 8, 3) := by decide +kernel
theorem d_P_decide_95 : decode b_P_decide 95 = .ok (.aload_n 0, 1) := by decide +kernel
theorem d_P_decide_96 : decode b_P_decide 96 = .ok (.iload_n 2, 1) := by decide +kernel
theorem d_P_decide_97 : decode b_P_decide 97 = .ok (.putfield 39, 3) := by decide +kernel
theorem d_P_decide_100 : decode b_P_decide 100 = .ok (.iinc 2 1, 3) := by decide +kernel
theorem d_P_decide_103 : decode b_P_decide 103 = .ok (.goto (-48), 3) := by decide +kernel
theorem d_P_decide_106 : decode b_P_decide 106 = .ok (.aload_n 0, 1) := by decide +kernel
theorem d_P_decide_107 : decode b_P_decide 107 = .ok (.getfield 12, 3) := by decide +kernel
theorem d_P_decide_110 : decode b_P_decide 110 = .ok (.getfield 68, 3) := by decide +kernel
theorem d_P_decide_113 : decode b_P_decide 113 = .ok (.aload_n 0, 1) := by decide +kernel
theorem d_P_decide_114 : decode b_P_decide 114 = .ok (.getfield 39, 3) := by decide +kernel
theorem d_P_decide_117 : decode b_P_decide 117 = .ok (.ifCond .ge 7, 3) := by decide +kernel
theorem d_P_decide_120 : decode b_P_decide 120 = .ok (.iconst 1, 1) := by decide +kernel
theorem d_P_decide_121 : decode b_P_decide 121 = .ok (.goto 4, 3) := by decide +kernel
theorem d_P_decide_124 : decode b_P_decide 124 = .ok (.iconst 0, 1) := by decide +kernel
theorem d_P_decide_125 : decode b_P_decide 125 = .ok (.if_icmp .ne 7, 3) := by decide +kernel
theorem d_P_decide_128 : decode b_P_decide 128 = .ok (.iconst 1, 1) := by decide +kernel
theorem d_P_decide_129 : decode b_P_decide 129 = .ok (.goto 4, 3) := by decide +kernel
theorem d_P_decide_132 : decode b_P_decide 132 = .ok (.iconst 0, 1) := by decide +kernel
theorem d_P_decide_133 : decode b_P_decide 133 = .ok (.ireturn, 1) := by decide +kernel
theorem d_P_place_0 : decode b_P_place 0 = .ok (.aload_n 0, 1) := by decide +kernel
theorem d_P_place_1 : decode b_P_place 1 = .ok (.getfield 32, 3) := by decide +kernel
theorem d_P_place_4 : decode b_P_place 4 = .ok (.ireturn, 1) := by decide +kernel
theorem d_P_polynomials_0 : decode b_P_polynomials 0 = .ok (.aload_n 0, 1) := by decide +kernel
theorem d_P_polynomials_1 : decode b_P_polynomials 1 = .ok (.getfield 12, 3) := by decide +kernel
theorem d_P_polynomials_4 : decode b_P_polynomials 4 = .ok (.getfield 84, 3) := by decide +kernel
theorem d_P_polynomials_7 : decode b_P_polynomials 7 = .ok (.ireturn, 1) := by decide +kernel
theorem d_P_hasPolynomial_0 : decode b_P_hasPolynomial 0 = .ok (.iload_n 1, 1) := by decide +kernel
theorem d_P_hasPolynomial_1 : decode b_P_hasPolynomial 1 = .ok (.ifCond .lt 18, 3) := by decide +kernel
theorem d_P_hasPolynomial_4 : decode b_P_hasPolynomial 4 = .ok (.iload_n 1, 1) := by decide +kernel
theorem d_P_hasPolynomial_5 : decode b_P_hasPolynomial 5 = .ok (.aload_n 0, 1) := by decide +kernel
theorem d_P_hasPolynomial_6 : decode b_P_hasPolynomial 6 = .ok (.getfield 12, 3) := by decide +kernel
theorem d_P_hasPolynomial_9 : decode b_P_hasPolynomial 9 = .ok (.getfield 84, 3) := by decide +kernel
theorem d_P_hasPolynomial_12 : decode b_P_hasPolynomial 12 = .ok (.if_icmp .ge 7, 3) := by decide +kernel
theorem d_P_hasPolynomial_15 : decode b_P_hasPolynomial 15 = .ok (.iconst 1, 1) := by decide +kernel
theorem d_P_hasPolynomial_16 : decode b_P_hasPolynomial 16 = .ok (.goto 4, 3) := by decide +kernel
theorem d_P_hasPolynomial_19 : decode b_P_hasPolynomial 19 = .ok (.iconst 0, 1) := by decide +kernel
theorem d_P_hasPolynomial_20 : decode b_P_hasPolynomial 20 = .ok (.ireturn, 1) := by decide +kernel
theorem d_P_coefficient_0 : decode b_P_coefficient 0 = .ok (.aload_n 0, 1) := by decide +kernel
theorem d_P_coefficient_1 : decode b_P_coefficient 1 = .ok (.iload_n 1, 1) := by decide +kernel
theorem d_P_coefficient_2 : decode b_P_coefficient 2 = .ok (.invokevirtual 87, 3) := by decide +kernel
theorem d_P_coefficient_5 : decode b_P_coefficient 5 = .ok (.ifCond .eq 12, 3) := by decide +kernel
theorem d_P_coefficient_8 : decode b_P_coefficient 8 = .ok (.iload_n 2, 1) := by decide +kernel
theorem d_P_coefficient_9 : decode b_P_coefficient 9 = .ok (.ifCond .lt 8, 3) := by decide +kernel
theorem d_P_coefficient_12 : decode b_P_coefficient 12 = .ok (.iload_n 2, 1) := by decide +kernel
theorem d_P_coefficient_13 : decode b_P_coefficient 13 = .ok (.iconst 4, 1) := by decide +kernel
theorem d_P_coefficient_14 : decode b_P_coefficient 14 = .ok (.if_icmp .lt 6, 3) := by decide +kernel
theorem d_P_coefficient_17 : decode b_P_coefficient 17 = .ok (.bipush 9, 2) := by decide +kernel
theorem d_P_coefficient_19 : decode b_P_coefficient 19 = .ok (.ireturn, 1) := by decide +kernel
theorem d_P_coefficient_20 : decode b_P_coefficient 20 = .ok (.aload_n 0, 1) := by decide +kernel
theorem d_P_coefficient_21 : decode b_P_coefficient 21 = .ok (.getfield 12, 3) := by decide +kernel
theorem d_P_coefficient_24 : decode b_P_coefficient 24 = .ok (.iload_n 1, 1) := by decide +kernel
theorem d_P_coefficient_25 : decode b_P_coefficient 25 = .ok (.iload_n 2, 1) := by decide +kernel
theorem d_P_coefficient_26 : decode b_P_coefficient 26 = .ok (.invokevirtual 91, 3) := by decide +kernel
theorem d_P_coefficient_29 : decode b_P_coefficient 29 = .ok (.ireturn, 1) := by decide +kernel
theorem d_P_columns_0 : decode b_P_columns 0 = .ok (.aload_n 0, 1) := by decide +kernel
theorem d_P_columns_1 : decode b_P_columns 1 = .ok (.getfield 36, 3) := by decide +kernel
theorem d_P_columns_4 : decode b_P_columns 4 = .ok (.ireturn, 1) := by decide +kernel
theorem d_P_hasColumn_0 : decode b_P_hasColumn 0 = .ok (.iload_n 1, 1) := by decide +kernel
theorem d_P_hasColumn_1 : decode b_P_hasColumn 1 = .ok (.ifCond .lt 15, 3) := by decide +kernel
theorem d_P_hasColumn_4 : decode b_P_hasColumn 4 = .ok (.iload_n 1, 1) := by decide +kernel
theorem d_P_hasColumn_5 : decode b_P_hasColumn 5 = .ok (.aload_n 0, 1) := by decide +kernel
theorem d_P_hasColumn_6 : decode b_P_hasColumn 6 = .ok (.getfield 36, 3) := by decide +kernel
theorem d_P_hasColumn_9 : decode b_P_hasColumn 9 = .ok (.if_icmp .ge 7, 3) := by decide +kernel
theorem d_P_hasColumn_12 : decode b_P_hasColumn 12 = .ok (.iconst 1, 1) := by decide +kernel
theorem d_P_hasColumn_13 : decode b_P_hasColumn 13 = .ok (.goto 4, 3) := by decide +kernel
theorem d_P_hasColumn_16 : decode b_P_hasColumn 16 = .ok (.iconst 0, 1) := by decide +kernel
theorem d_P_hasColumn_17 : decode b_P_hasColumn 17 = .ok (.ireturn, 1) := by decide +kernel
theorem d_P_enterColumn_0 : decode b_P_enterColumn 0 = .ok (.aload_n 0, 1) := by decide +kernel
theorem d_P_enterColumn_1 : decode b_P_enterColumn 1 = .ok (.iload_n 1, 1) := by decide +kernel
theorem d_P_enterColumn_2 : decode b_P_enterColumn 2 = .ok (.invokevirtual 110, 3) := by decide +kernel
theorem d_P_enterColumn_5 : decode b_P_enterColumn 5 = .ok (.ifCond .ne 5, 3) := by decide +kernel
theorem d_P_enterColumn_8 : decode b_P_enterColumn 8 = .ok (.iconst 0, 1) := by decide +kernel
theorem d_P_enterColumn_9 : decode b_P_enterColumn 9 = .ok (.ireturn, 1) := by decide +kernel
theorem d_P_enterColumn_10 : decode b_P_enterColumn 10 = .ok (.aload_n 0, 1) := by decide +kernel
theorem d_P_enterColumn_11 : decode b_P_enterColumn 11 = .ok (.getfield 28, 3) := by decide +kernel
theorem d_P_enterColumn_14 : decode b_P_enterColumn 14 = .ok (.iload_n 1, 1) := by decide +kernel
theorem d_P_enterColumn_15 : decode b_P_enterColumn 15 = .ok (.invokevirtual 60, 3) := by decide +kernel
theorem d_P_enterColumn_18 : decode b_P_enterColumn 18 = .ok (.iconst 1, 1) := by decide +kernel
theorem d_P_enterColumn_19 : decode b_P_enterColumn 19 = .ok (.ireturn, 1) := by decide +kernel
theorem d_P_cells_0 : decode b_P_cells 0 = .ok (.aload_n 0, 1) := by decide +kernel
theorem d_P_cells_1 : decode b_P_cells 1 = .ok (.iload_n 1, 1) := by decide +kernel
theorem d_P_cells_2 : decode b_P_cells 2 = .ok (.invokevirtual 95, 3) := by decide +kernel
theorem d_P_cells_5 : decode b_P_cells 5 = .ok (.ifCond .eq 13, 3) := by decide +kernel
theorem d_P_cells_8 : decode b_P_cells 8 = .ok (.aload_n 0, 1) := by decide +kernel
theorem d_P_cells_9 : decode b_P_cells 9 = .ok (.getfield 28, 3) := by decide +kernel
theorem d_P_cells_12 : decode b_P_cells 12 = .ok (.getfield 98, 3) := by decide +kernel
theorem d_P_cells_15 : decode b_P_cells 15 = .ok (.goto 4, 3) := by decide +kernel
theorem d_P_cells_18 : decode b_P_cells 18 = .ok (.iconst 0, 1) := by decide +kernel
theorem d_P_cells_19 : decode b_P_cells 19 = .ok (.ireturn, 1) := by decide +kernel
theorem d_P_hasCell_0 : decode b_P_hasCell 0 = .ok (.iload_n 1, 1) := by decide +kernel
theorem d_P_hasCell_1 : decode b_P_hasCell 1 = .ok (.ifCond .lt 18, 3) := by decide +kernel
theorem d_P_hasCell_4 : decode b_P_hasCell 4 = .ok (.iload_n 1, 1) := by decide +kernel
theorem d_P_hasCell_5 : decode b_P_hasCell 5 = .ok (.aload_n 0, 1) := by decide +kernel
theorem d_P_hasCell_6 : decode b_P_hasCell 6 = .ok (.getfield 28, 3) := by decide +kernel
theorem d_P_hasCell_9 : decode b_P_hasCell 9 = .ok (.getfield 98, 3) := by decide +kernel
theorem d_P_hasCell_12 : decode b_P_hasCell 12 = .ok (.if_icmp .ge 7, 3) := by decide +kernel
theorem d_P_hasCell_15 : decode b_P_hasCell 15 = .ok (.iconst 1, 1) := by decide +kernel
theorem d_P_hasCell_16 : decode b_P_hasCell 16 = .ok (.goto 4, 3) := by decide +kernel
theorem d_P_hasCell_19 : decode b_P_hasCell 19 = .ok (.iconst 0, 1) := by decide +kernel
theorem d_P_hasCell_20 : decode b_P_hasCell 20 = .ok (.ireturn, 1) := by decide +kernel
theorem d_P_sign_0 : decode b_P_sign 0 = .ok (.aload_n 0, 1) := by decide +kernel
theorem d_P_sign_1 : decode b_P_sign 1 = .ok (.iload_n 3, 1) := by decide +kernel
theorem d_P_sign_2 : decode b_P_sign 2 = .ok (.invokevirtual 87, 3) := by decide +kernel
theorem d_P_sign_5 : decode b_P_sign 5 = .ok (.ifCond .eq 19, 3) := by decide +kernel
theorem d_P_sign_8 : decode b_P_sign 8 = .ok (.aload_n 0, 1) := by decide +kernel
theorem d_P_sign_9 : decode b_P_sign 9 = .ok (.iload_n 1, 1) := by decide +kernel
theorem d_P_sign_10 : decode b_P_sign 10 = .ok (.invokevirtual 95, 3) := by decide +kernel
theorem d_P_sign_13 : decode b_P_sign 13 = .ok (.ifCond .eq 11, 3) := by decide +kernel
theorem d_P_sign_16 : decode b_P_sign 16 = .ok (.aload_n 0, 1) := by decide +kernel
theorem d_P_sign_17 : decode b_P_sign 17 = .ok (.iload_n 2, 1) := by decide +kernel
theorem d_P_sign_18 : decode b_P_sign 18 = .ok (.invokevirtual 101, 3) := by decide +kernel
theorem d_P_sign_21 : decode b_P_sign 21 = .ok (.ifCond .ne 6, 3) := by decide +kernel
theorem d_P_sign_24 : decode b_P_sign 24 = .ok (.bipush 9, 2) := by decide +kernel
theorem d_P_sign_26 : decode b_P_sign 26 = .ok (.ireturn, 1) := by decide +kernel
theorem d_P_sign_27 : decode b_P_sign 27 = .ok (.aload_n 0, 1) := by decide +kernel
theorem d_P_sign_28 : decode b_P_sign 28 = .ok (.getfield 28, 3) := by decide +kernel
theorem d_P_sign_31 : decode b_P_sign 31 = .ok (.iload_n 2, 1) := by decide +kernel
theorem d_P_sign_32 : decode b_P_sign 32 = .ok (.iload_n 3, 1) := by decide +kernel
theorem d_P_sign_33 : decode b_P_sign 33 = .ok (.invokevirtual 104, 3) := by decide +kernel
theorem d_P_sign_36 : decode b_P_sign 36 = .ok (.ireturn, 1) := by decide +kernel
theorem d_P_truth_0 : decode b_P_truth 0 = .ok (.aload_n 0, 1) := by decide +kernel
theorem d_P_truth_1 : decode b_P_truth 1 = .ok (.iload_n 1, 1) := by decide +kernel
theorem d_P_truth_2 : decode b_P_truth 2 = .ok (.invokevirtual 95, 3) := by decide +kernel
theorem d_P_truth_5 : decode b_P_truth 5 = .ok (.ifCond .eq 11, 3) := by decide +kernel
theorem d_P_truth_8 : decode b_P_truth 8 = .ok (.aload_n 0, 1) := by decide +kernel
theorem d_P_truth_9 : decode b_P_truth 9 = .ok (.iload_n 2, 1) := by decide +kernel
theorem d_P_truth_10 : decode b_P_truth 10 = .ok (.invokevirtual 101, 3) := by decide +kernel
theorem d_P_truth_13 : decode b_P_truth 13 = .ok (.ifCond .ne 6, 3) := by decide +kernel
theorem d_P_truth_16 : decode b_P_truth 16 = .ok (.bipush 9, 2) := by decide +kernel
theorem d_P_truth_18 : decode b_P_truth 18 = .ok (.ireturn, 1) := by decide +kernel
theorem d_P_truth_19 : decode b_P_truth 19 = .ok (.aload_n 0, 1) := by decide +kernel
theorem d_P_truth_20 : decode b_P_truth 20 = .ok (.getfield 28, 3) := by decide +kernel
theorem d_P_truth_23 : decode b_P_truth 23 = .ok (.iload_n 2, 1) := by decide +kernel
theorem d_P_truth_24 : decode b_P_truth 24 = .ok (.invokevirtual 107, 3) := by decide +kernel
theorem d_P_truth_27 : decode b_P_truth 27 = .ok (.ifCond .eq 7, 3) := by decide +kernel
theorem d_P_truth_30 : decode b_P_truth 30 = .ok (.iconst 1, 1) := by decide +kernel
theorem d_P_truth_31 : decode b_P_truth 31 = .ok (.goto 4, 3) := by decide +kernel
theorem d_P_truth_34 : decode b_P_truth 34 = .ok (.iconst 0, 1) := by decide +kernel
theorem d_P_truth_35 : decode b_P_truth 35 = .ok (.ireturn, 1) := by decide +kernel
theorem d_P_holds_0 : decode b_P_holds 0 = .ok (.aload_n 0, 1) := by decide +kernel
theorem d_P_holds_1 : decode b_P_holds 1 = .ok (.iload_n 1, 1) := by decide +kernel
theorem d_P_holds_2 : decode b_P_holds 2 = .ok (.invokevirtual 95, 3) := by decide +kernel
theorem d_P_holds_5 : decode b_P_holds 5 = .ok (.ifCond .ne 6, 3) := by decide +kernel
theorem d_P_holds_8 : decode b_P_holds 8 = .ok (.bipush 9, 2) := by decide +kernel
theorem d_P_holds_10 : decode b_P_holds 10 = .ok (.ireturn, 1) := by decide +kernel
theorem d_P_holds_11 : decode b_P_holds 11 = .ok (.aload_n 0, 1) := by decide +kernel
theorem d_P_holds_12 : decode b_P_holds 12 = .ok (.getfield 28, 3) := by decide +kernel
theorem d_P_holds_15 : decode b_P_holds 15 = .ok (.invokevirtual 64, 3) := by decide +kernel
theorem d_P_holds_18 : decode b_P_holds 18 = .ok (.ifCond .eq 7, 3) := by decide +kernel
theorem d_P_holds_21 : decode b_P_holds 21 = .ok (.iconst 1, 1) := by decide +kernel
theorem d_P_holds_22 : decode b_P_holds 22 = .ok (.goto 4, 3) := by decide +kernel
theorem d_P_holds_25 : decode b_P_holds 25 = .ok (.iconst 0, 1) := by decide +kernel
theorem d_P_holds_26 : decode b_P_holds 26 = .ok (.ireturn, 1) := by decide +kernel
theorem d_P_witness_0 : decode b_P_witness 0 = .ok (.aload_n 0, 1) := by decide +kernel
theorem d_P_witness_1 : decode b_P_witness 1 = .ok (.getfield 39, 3) := by decide +kernel
theorem d_P_witness_4 : decode b_P_witness 4 = .ok (.ireturn, 1) := by decide +kernel
theorem d_P_compare_0 : decode b_P_compare 0 = .ok (.iload_n 2, 1) := by decide +kernel
theorem d_P_compare_1 : decode b_P_compare 1 = .ok (.sipush (-1000), 3) := by decide +kernel
theorem d_P_compare_4 : decode b_P_compare 4 = .ok (.if_icmp .lt 25, 3) := by decide +kernel
theorem d_P_compare_7 : decode b_P_compare 7 = .ok (.iload_n 2, 1) := by decide +kernel
theorem d_P_compare_8 : decode b_P_compare 8 = .ok (.sipush 1000, 3) := by decide +kernel
theorem d_P_compare_11 : decode b_P_compare 11 = .ok (.if_icmp .gt 18, 3) := by decide +kernel
theorem d_P_compare_14 : decode b_P_compare 14 = .ok (.iload_n 3, 1) := by decide +kernel
theorem d_P_compare_15 : decode b_P_compare 15 = .ok (.iconst 1, 1) := by decide +kernel
theorem d_P_compare_16 : decode b_P_compare 16 = .ok (.if_icmp .lt 13, 3) := by decide +kernel
theorem d_P_compare_19 : decode b_P_compare 19 = .ok (.iload_n 3, 1) := by decide +kernel
theorem d_P_compare_20 : decode b_P_compare 20 = .ok (.bipush 100, 2) := by decide +kernel
theorem d_P_compare_22 : decode b_P_compare 22 = .ok (.if_icmp .gt 7, 3) := by decide +kernel
theorem d_P_compare_25 : decode b_P_compare 25 = .ok (.iconst 1, 1) := by decide +kernel
theorem d_P_compare_26 : decode b_P_compare 26 = .ok (.goto 4, 3) := by decide +kernel
theorem d_P_compare_29 : decode b_P_compare 29 = .ok (.iconst 0, 1) := by decide +kernel
theorem d_P_compare_30 : decode b_P_compare 30 = .ok (.istore 4, 2) := by decide +kernel
theorem d_P_compare_32 : decode b_P_compare 32 = .ok (.iload 4, 2) := by decide +kernel
theorem d_P_compare_34 : decode b_P_compare 34 = .ok (.ifCond .eq 17, 3) := by decide +kernel
theorem d_P_compare_37 : decode b_P_compare 37 = .ok (.aload_n 0, 1) := by decide +kernel
theorem d_P_compare_38 : decode b_P_compare 38 = .ok (.iload_n 1, 1) := by decide +kernel
theorem d_P_compare_39 : decode b_P_compare 39 = .ok (.invokevirtual 110, 3) := by decide +kernel
theorem d_P_compare_42 : decode b_P_compare 42 = .ok (.ifCond .eq 9, 3) := by decide +kernel
theorem d_P_compare_45 : decode b_P_compare 45 = .ok (.iload_n 1, 1) := by decide +kernel
theorem d_P_compare_46 : decode b_P_compare 46 = .ok (.iconst 1, 1) := by decide +kernel
theorem d_P_compare_47 : decode b_P_compare 47 = .ok (.iand, 1) := by decide +kernel
theorem d_P_compare_48 : decode b_P_compare 48 = .ok (.ifCond .ne 6, 3) := by decide +kernel
theorem d_P_compare_51 : decode b_P_compare 51 = .ok (.bipush 9, 2) := by decide +kernel
theorem d_P_compare_53 : decode b_P_compare 53 = .ok (.ireturn, 1) := by decide +kernel
theorem d_P_compare_54 : decode b_P_compare 54 = .ok (.aload_n 0, 1) := by decide +kernel
theorem d_P_compare_55 : decode b_P_compare 55 = .ok (.getfield 28, 3) := by decide +kernel
theorem d_P_compare_58 : decode b_P_compare 58 = .ok (.getfield 113, 3) := by decide +kernel
theorem d_P_compare_61 : decode b_P_compare 61 = .ok (.iload_n 1, 1) := by decide +kernel
theorem d_P_compare_62 : decode b_P_compare 62 = .ok (.iconst 1, 1) := by decide +kernel
theorem d_P_compare_63 : decode b_P_compare 63 = .ok (.ishr, 1) := by decide +kernel
theorem d_P_compare_64 : decode b_P_compare 64 = .ok (.iload_n 2, 1) := by decide +kernel
theorem d_P_compare_65 : decode b_P_compare 65 = .ok (.ineg, 1) := by decide +kernel
theorem d_P_compare_66 : decode b_P_compare 66 = .ok (.i2l, 1) := by decide +kernel
theorem d_P_compare_67 : decode b_P_compare 67 = .ok (.iload_n 3, 1) := by decide +kernel
theorem d_P_compare_68 : decode b_P_compare 68 = .ok (.i2l, 1) := by decide +kernel
theorem d_P_compare_69 : decode b_P_compare 69 = .ok (.lconst 0, 1) := by decide +kernel
theorem d_P_compare_70 : decode b_P_compare 70 = .ok (.invokevirtual 117, 3) := by decide +kernel
theorem d_P_compare_73 : decode b_P_compare 73 = .ok (.ireturn, 1) := by decide +kernel
