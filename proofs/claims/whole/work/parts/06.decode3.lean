theorem d_R_append_7 : decode b_R_append 7 = .ok (.bipush 126, 2) := by decide +kernel
theorem d_R_append_9 : decode b_R_append 9 = .ok (.if_icmp .gt 12, 3) := by decide +kernel
theorem d_R_append_12 : decode b_R_append 12 = .ok (.aload_n 0, 1) := by decide +kernel
theorem d_R_append_13 : decode b_R_append 13 = .ok (.getfield 26, 3) := by decide +kernel
theorem d_R_append_16 : decode b_R_append 16 = .ok (.bipush 80, 2) := by decide +kernel
theorem d_R_append_18 : decode b_R_append 18 = .ok (.if_icmp .lt 5, 3) := by decide +kernel
theorem d_R_append_21 : decode b_R_append 21 = .ok (.iconst 0, 1) := by decide +kernel
theorem d_R_append_22 : decode b_R_append 22 = .ok (.ireturn, 1) := by decide +kernel
theorem d_R_append_23 : decode b_R_append 23 = .ok (.aload_n 0, 1) := by decide +kernel
theorem d_R_append_24 : decode b_R_append 24 = .ok (.dup, 1) := by decide +kernel
theorem d_R_append_25 : decode b_R_append 25 = .ok (.getfield 26, 3) := by decide +kernel
theorem d_R_append_28 : decode b_R_append 28 = .ok (.iconst 1, 1) := by decide +kernel
theorem d_R_append_29 : decode b_R_append 29 = .ok (.iadd, 1) := by decide +kernel
theorem d_R_append_30 : decode b_R_append 30 = .ok (.putfield 26, 3) := by decide +kernel
theorem d_R_append_33 : decode b_R_append 33 = .ok (.iload_n 1, 1) := by decide +kernel
theorem d_R_append_34 : decode b_R_append 34 = .ok (.bipush 32, 2) := by decide +kernel
theorem d_R_append_36 : decode b_R_append 36 = .ok (.if_icmp .eq 23, 3) := by decide +kernel
theorem d_R_append_39 : decode b_R_append 39 = .ok (.aload_n 0, 1) := by decide +kernel
theorem d_R_append_40 : decode b_R_append 40 = .ok (.getfield 9, 3) := by decide +kernel
theorem d_R_append_43 : decode b_R_append 43 = .ok (.aload_n 0, 1) := by decide +kernel
theorem d_R_append_44 : decode b_R_append 44 = .ok (.getfield 30, 3) := by decide +kernel
theorem d_R_append_47 : decode b_R_append 47 = .ok (.iload_n 1, 1) := by decide +kernel
theorem d_R_append_48 : decode b_R_append 48 = .ok (.castore, 1) := by decide +kernel
theorem d_R_append_49 : decode b_R_append 49 = .ok (.aload_n 0, 1) := by decide +kernel
theorem d_R_append_50 : decode b_R_append 50 = .ok (.dup, 1) := by decide +kernel
theorem d_R_append_51 : decode b_R_append 51 = .ok (.getfield 30, 3) := by decide +kernel
theorem d_R_append_54 : decode b_R_append 54 = .ok (.iconst 1, 1) := by decide +kernel
theorem d_R_append_55 : decode b_R_append 55 = .ok (.iadd, 1) := by decide +kernel
theorem d_R_append_56 : decode b_R_append 56 = .ok (.putfield 30, 3) := by decide +kernel
theorem d_R_append_59 : decode b_R_append 59 = .ok (.iconst 1, 1) := by decide +kernel
theorem d_R_append_60 : decode b_R_append 60 = .ok (.ireturn, 1) := by decide +kernel
theorem d_R_countOpenings_0 : decode b_R_countOpenings 0 = .ok (.iconst 0, 1) := by decide +kernel
theorem d_R_countOpenings_1 : decode b_R_countOpenings 1 = .ok (.istore_n 1, 1) := by decide +kernel
theorem d_R_countOpenings_2 : decode b_R_countOpenings 2 = .ok (.iconst 0, 1) := by decide +kernel
theorem d_R_countOpenings_3 : decode b_R_countOpenings 3 = .ok (.istore_n 2, 1) := by decide +kernel
theorem d_R_countOpenings_4 : decode b_R_countOpenings 4 = .ok (.iload_n 2, 1) := by decide +kernel
theorem d_R_countOpenings_5 : decode b_R_countOpenings 5 = .ok (.aload_n 0, 1) := by decide +kernel
theorem d_R_countOpenings_6 : decode b_R_countOpenings 6 = .ok (.getfield 30, 3) := by decide +kernel
theorem d_R_countOpenings_9 : decode b_R_countOpenings 9 = .ok (.if_icmp .ge 23, 3) := by decide +kernel
theorem d_R_countOpenings_12 : decode b_R_countOpenings 12 = .ok (.aload_n 0, 1) := by decide +kernel
theorem d_R_countOpenings_13 : decode b_R_countOpenings 13 = .ok (.getfield 9, 3) := by decide +kernel
theorem d_R_countOpenings_16 : decode b_R_countOpenings 16 = .ok (.iload_n 2, 1) := by decide +kernel
theorem d_R_countOpenings_17 : decode b_R_countOpenings 17 = .ok (.caload, 1) := by decide +kernel
theorem d_R_countOpenings_18 : decode b_R_countOpenings 18 = .ok (.bipush 40, 2) := by decide +kernel
theorem d_R_countOpenings_20 : decode b_R_countOpenings 20 = .ok (.if_icmp .ne 6, 3) := by decide +kernel
theorem d_R_countOpenings_23 : decode b_R_countOpenings 23 = .ok (.iinc 1 1, 3) := by decide +kernel
theorem d_R_countOpenings_26 : decode b_R_countOpenings 26 = .ok (.iinc 2 1, 3) := by decide +kernel
theorem d_R_countOpenings_29 : decode b_R_countOpenings 29 = .ok (.goto (-25), 3) := by decide +kernel
theorem d_R_countOpenings_32 : decode b_R_countOpenings 32 = .ok (.iload_n 1, 1) := by decide +kernel
theorem d_R_countOpenings_33 : decode b_R_countOpenings 33 = .ok (.ireturn, 1) := by decide +kernel
theorem d_S_clear_0 : decode b_S_clear 0 = .ok (.aload_n 0, 1) := by decide +kernel
theorem d_S_clear_1 : decode b_S_clear 1 = .ok (.iconst 0, 1) := by decide +kernel
theorem d_S_clear_2 : decode b_S_clear 2 = .ok (.putfield 22, 3) := by decide +kernel
theorem d_S_clear_5 : decode b_S_clear 5 = .ok (.aload_n 0, 1) := by decide +kernel
theorem d_S_clear_6 : decode b_S_clear 6 = .ok (.iconst 0, 1) := by decide +kernel
theorem d_S_clear_7 : decode b_S_clear 7 = .ok (.putfield 26, 3) := by decide +kernel
theorem d_S_clear_10 : decode b_S_clear 10 = .ok (.return_, 1) := by decide +kernel
theorem d_R_peek_0 : decode b_R_peek 0 = .ok (.aload_n 0, 1) := by decide +kernel
theorem d_R_peek_1 : decode b_R_peek 1 = .ok (.getfield 33, 3) := by decide +kernel
theorem d_R_peek_4 : decode b_R_peek 4 = .ok (.aload_n 0, 1) := by decide +kernel
theorem d_R_peek_5 : decode b_R_peek 5 = .ok (.getfield 30, 3) := by decide +kernel
theorem d_R_peek_8 : decode b_R_peek 8 = .ok (.if_icmp .ge 15, 3) := by decide +kernel
theorem d_R_peek_11 : decode b_R_peek 11 = .ok (.aload_n 0, 1) := by decide +kernel
theorem d_R_peek_12 : decode b_R_peek 12 = .ok (.getfield 9, 3) := by decide +kernel
theorem d_R_peek_15 : decode b_R_peek 15 = .ok (.aload_n 0, 1) := by decide +kernel
theorem d_R_peek_16 : decode b_R_peek 16 = .ok (.getfield 33, 3) := by decide +kernel
theorem d_R_peek_19 : decode b_R_peek 19 = .ok (.caload, 1) := by decide +kernel
theorem d_R_peek_20 : decode b_R_peek 20 = .ok (.goto 4, 3) := by decide +kernel
theorem d_R_peek_23 : decode b_R_peek 23 = .ok (.iconst 0, 1) := by decide +kernel
theorem d_R_peek_24 : decode b_R_peek 24 = .ok (.ireturn, 1) := by decide +kernel
theorem d_R_take_0 : decode b_R_take 0 = .ok (.aload_n 0, 1) := by decide +kernel
theorem d_R_take_1 : decode b_R_take 1 = .ok (.invokevirtual 67, 3) := by decide +kernel
theorem d_R_take_4 : decode b_R_take 4 = .ok (.iload_n 1, 1) := by decide +kernel
theorem d_R_take_5 : decode b_R_take 5 = .ok (.if_icmp .eq 5, 3) := by decide +kernel
theorem d_R_take_8 : decode b_R_take 8 = .ok (.iconst 0, 1) := by decide +kernel
theorem d_R_take_9 : decode b_R_take 9 = .ok (.ireturn, 1) := by decide +kernel
theorem d_R_take_10 : decode b_R_take 10 = .ok (.aload_n 0, 1) := by decide +kernel
theorem d_R_take_11 : decode b_R_take 11 = .ok (.dup, 1) := by decide +kernel
theorem d_R_take_12 : decode b_R_take 12 = .ok (.getfield 33, 3) := by decide +kernel
theorem d_R_take_15 : decode b_R_take 15 = .ok (.iconst 1, 1) := by decide +kernel
theorem d_R_take_16 : decode b_R_take 16 = .ok (.iadd, 1) := by decide +kernel
theorem d_R_take_17 : decode b_R_take 17 = .ok (.putfield 33, 3) := by decide +kernel
theorem d_R_take_20 : decode b_R_take 20 = .ok (.iconst 1, 1) := by decide +kernel
theorem d_R_take_21 : decode b_R_take 21 = .ok (.ireturn, 1) := by decide +kernel
theorem d_R_takeQuantifier_0 : decode b_R_takeQuantifier 0 = .ok (.aload_n 0, 1) := by decide +kernel
theorem d_R_takeQuantifier_1 : decode b_R_takeQuantifier 1 = .ok (.bipush 65, 2) := by decide +kernel
theorem d_R_takeQuantifier_3 : decode b_R_takeQuantifier 3 = .ok (.invokevirtual 78, 3) := by decide +kernel
theorem d_R_takeQuantifier_6 : decode b_R_takeQuantifier 6 = .ok (.ifCond .ne 12, 3) := by decide +kernel
theorem d_R_takeQuantifier_9 : decode b_R_takeQuantifier 9 = .ok (.aload_n 0, 1) := by decide +kernel
theorem d_R_takeQuantifier_10 : decode b_R_takeQuantifier 10 = .ok (.bipush 69, 2) := by decide +kernel
theorem d_R_takeQuantifier_12 : decode b_R_takeQuantifier 12 = .ok (.invokevirtual 78, 3) := by decide +kernel
theorem d_R_takeQuantifier_15 : decode b_R_takeQuantifier 15 = .ok (.ifCond .eq 7, 3) := by decide +kernel
theorem d_R_takeQuantifier_18 : decode b_R_takeQuantifier 18 = .ok (.iconst 1, 1) := by decide +kernel
theorem d_R_takeQuantifier_19 : decode b_R_takeQuantifier 19 = .ok (.goto 4, 3) := by decide +kernel
theorem d_R_takeQuantifier_22 : decode b_R_takeQuantifier 22 = .ok (.iconst 0, 1) := by decide +kernel
theorem d_R_takeQuantifier_23 : decode b_R_takeQuantifier 23 = .ok (.ireturn, 1) := by decide +kernel
theorem d_R_takeHead_0 : decode b_R_takeHead 0 = .ok (.aload_n 0, 1) := by decide +kernel
theorem d_R_takeHead_1 : decode b_R_takeHead 1 = .ok (.getfield 22, 3) := by decide +kernel
theorem d_R_takeHead_4 : decode b_R_takeHead 4 = .ok (.aload_n 0, 1) := by decide +kernel
theorem d_R_takeHead_5 : decode b_R_takeHead 5 = .ok (.invokevirtual 67, 3) := by decide +kernel
theorem d_R_takeHead_8 : decode b_R_takeHead 8 = .ok (.bipush 65, 2) := by decide +kernel
theorem d_R_takeHead_10 : decode b_R_takeHead 10 = .ok (.if_icmp .ne 7, 3) := by decide +kernel
theorem d_R_takeHead_13 : decode b_R_takeHead 13 = .ok (.iconst 1, 1) := by decide +kernel
theorem d_R_takeHead_14 : decode b_R_takeHead 14 = .ok (.goto 4, 3) := by decide +kernel
theorem d_R_takeHead_17 : decode b_R_takeHead 17 = .ok (.iconst 0, 1) := by decide +kernel
theorem d_R_takeHead_18 : decode b_R_takeHead 18 = .ok (.putfield 71, 3) := by decide +kernel
theorem d_R_takeHead_21 : decode b_R_takeHead 21 = .ok (.aload_n 0, 1) := by decide +kernel
theorem d_R_takeHead_22 : decode b_R_takeHead 22 = .ok (.invokevirtual 75, 3) := by decide +kernel
theorem d_R_takeHead_25 : decode b_R_takeHead 25 = .ok (.ifCond .eq 12, 3) := by decide +kernel
theorem d_R_takeHead_28 : decode b_R_takeHead 28 = .ok (.aload_n 0, 1) := by decide +kernel
theorem d_R_takeHead_29 : decode b_R_takeHead 29 = .ok (.bipush 120, 2) := by decide +kernel
theorem d_R_takeHead_31 : decode b_R_takeHead 31 = .ok (.invokevirtual 78, 3) := by decide +kernel
theorem d_R_takeHead_34 : decode b_R_takeHead 34 = .ok (.ifCond .ne 5, 3) := by decide +kernel
theorem d_R_takeHead_37 : decode b_R_takeHead 37 = .ok (.iconst 0, 1) := by decide +kernel
theorem d_R_takeHead_38 : decode b_R_takeHead 38 = .ok (.ireturn, 1) := by decide +kernel
theorem d_R_takeHead_39 : decode b_R_takeHead 39 = .ok (.aload_n 0, 1) := by decide +kernel
theorem d_R_takeHead_40 : decode b_R_takeHead 40 = .ok (.getfield 22, 3) := by decide +kernel
theorem d_R_takeHead_43 : decode b_R_takeHead 43 = .ok (.aload_n 0, 1) := by decide +kernel
theorem d_R_takeHead_44 : decode b_R_takeHead 44 = .ok (.invokevirtual 67, 3) := by decide +kernel
theorem d_R_takeHead_47 : decode b_R_takeHead 47 = .ok (.bipush 65, 2) := by decide +kernel
theorem d_R_takeHead_49 : decode b_R_takeHead 49 = .ok (.if_icmp .ne 7, 3) := by decide +kernel
theorem d_R_takeHead_52 : decode b_R_takeHead 52 = .ok (.iconst 1, 1) := by decide +kernel
theorem d_R_takeHead_53 : decode b_R_takeHead 53 = .ok (.goto 4, 3) := by decide +kernel
theorem d_R_takeHead_56 : decode b_R_takeHead 56 = .ok (.iconst 0, 1) := by decide +kernel
theorem d_R_takeHead_57 : decode b_R_takeHead 57 = .ok (.putfield 82, 3) := by decide +kernel
theorem d_R_takeHead_60 : decode b_R_takeHead 60 = .ok (.aload_n 0, 1) := by decide +kernel
theorem d_R_takeHead_61 : decode b_R_takeHead 61 = .ok (.invokevirtual 75, 3) := by decide +kernel
theorem d_R_takeHead_64 : decode b_R_takeHead 64 = .ok (.ifCond .eq 25, 3) := by decide +kernel
theorem d_R_takeHead_67 : decode b_R_takeHead 67 = .ok (.aload_n 0, 1) := by decide +kernel
theorem d_R_takeHead_68 : decode b_R_takeHead 68 = .ok (.bipush 121, 2) := by decide +kernel
theorem d_R_takeHead_70 : decode b_R_takeHead 70 = .ok (.invokevirtual 78, 3) := by decide +kernel
theorem d_R_takeHead_73 : decode b_R_takeHead 73 = .ok (.ifCond .eq 16, 3) := by decide +kernel
theorem d_R_takeHead_76 : decode b_R_takeHead 76 = .ok (.aload_n 0, 1) := by decide +kernel
theorem d_R_takeHead_77 : decode b_R_takeHead 77 = .ok (.bipush 58, 2) := by decide +kernel
theorem d_R_takeHead_79 : decode b_R_takeHead 79 = .ok (.invokevirtual 78, 3) := by decide +kernel
theorem d_R_takeHead_82 : decode b_R_takeHead 82 = .ok (.ifCond .eq 7, 3) := by decide +kernel
theorem d_R_takeHead_85 : decode b_R_takeHead 85 = .ok (.iconst 1, 1) := by decide +kernel
theorem d_R_takeHead_86 : decode b_R_takeHead 86 = .ok (.goto 4, 3) := by decide +kernel
theorem d_R_takeHead_89 : decode b_R_takeHead 89 = .ok (.iconst 0, 1) := by decide +kernel
theorem d_R_takeHead_90 : decode b_R_takeHead 90 = .ok (.ireturn, 1) := by decide +kernel
theorem d_R_hold_0 : decode b_R_hold 0 = .ok (.aload_n 0, 1) := by decide +kernel
theorem d_R_hold_1 : decode b_R_hold 1 = .ok (.getfield 36, 3) := by decide +kernel
theorem d_R_hold_4 : decode b_R_hold 4 = .ok (.bipush 80, 2) := by decide +kernel
theorem d_R_hold_6 : decode b_R_hold 6 = .ok (.if_icmp .ge 23, 3) := by decide +kernel
theorem d_R_hold_9 : decode b_R_hold 9 = .ok (.aload_n 0, 1) := by decide +kernel
theorem d_R_hold_10 : decode b_R_hold 10 = .ok (.getfield 15, 3) := by decide +kernel
theorem d_R_hold_13 : decode b_R_hold 13 = .ok (.aload_n 0, 1) := by decide +kernel
theorem d_R_hold_14 : decode b_R_hold 14 = .ok (.getfield 36, 3) := by decide +kernel
theorem d_R_hold_17 : decode b_R_hold 17 = .ok (.iload_n 1, 1) := by decide +kernel
theorem d_R_hold_18 : decode b_R_hold 18 = .ok (.iastore, 1) := by decide +kernel
theorem d_R_hold_19 : decode b_R_hold 19 = .ok (.aload_n 0, 1) := by decide +kernel
theorem d_R_hold_20 : decode b_R_hold 20 = .ok (.dup, 1) := by decide +kernel
theorem d_R_hold_21 : decode b_R_hold 21 = .ok (.getfield 36, 3) := by decide +kernel
theorem d_R_hold_24 : decode b_R_hold 24 = .ok (.iconst 1, 1) := by decide +kernel
theorem d_R_hold_25 : decode b_R_hold 25 = .ok (.iadd, 1) := by decide +kernel
theorem d_R_hold_26 : decode b_R_hold 26 = .ok (.putfield 36, 3) := by decide +kernel
theorem d_R_hold_29 : decode b_R_hold 29 = .ok (.return_, 1) := by decide +kernel
theorem d_R_takeOpenings_0 : decode b_R_takeOpenings 0 = .ok (.aload_n 0, 1) := by decide +kernel
theorem d_R_takeOpenings_1 : decode b_R_takeOpenings 1 = .ok (.getfield 33, 3) := by decide +kernel
theorem d_R_takeOpenings_4 : decode b_R_takeOpenings 4 = .ok (.aload_n 0, 1) := by decide +kernel
theorem d_R_takeOpenings_5 : decode b_R_takeOpenings 5 = .ok (.getfield 30, 3) := by decide +kernel
theorem d_R_takeOpenings_8 : decode b_R_takeOpenings 8 = .ok (.if_icmp .ge 81, 3) := by decide +kernel
theorem d_R_takeOpenings_11 : decode b_R_takeOpenings 11 = .ok (.aload_n 0, 1) := by decide +kernel
theorem d_R_takeOpenings_12 : decode b_R_takeOpenings 12 = .ok (.getfield 9, 3) := by decide +kernel
theorem d_R_takeOpenings_15 : decode b_R_takeOpenings 15 = .ok (.aload_n 0, 1) := by decide +kernel
theorem d_R_takeOpenings_16 : decode b_R_takeOpenings 16 = .ok (.getfield 33, 3) := by decide +kernel
theorem d_R_takeOpenings_19 : decode b_R_takeOpenings 19 = .ok (.caload, 1) := by decide +kernel
theorem d_R_takeOpenings_20 : decode b_R_takeOpenings 20 = .ok (.bipush 126, 2) := by decide +kernel
theorem d_R_takeOpenings_22 : decode b_R_takeOpenings 22 = .ok (.if_icmp .eq 17, 3) := by decide +kernel
theorem d_R_takeOpenings_25 : decode b_R_takeOpenings 25 = .ok (.aload_n 0, 1) := by decide +kernel
theorem d_R_takeOpenings_26 : decode b_R_takeOpenings 26 = .ok (.getfield 9, 3) := by decide +kernel
theorem d_R_takeOpenings_29 : decode b_R_takeOpenings 29 = .ok (.aload_n 0, 1) := by decide +kernel
theorem d_R_takeOpenings_30 : decode b_R_takeOpenings 30 = .ok (.getfield 33, 3) := by decide +kernel
theorem d_R_takeOpenings_33 : decode b_R_takeOpenings 33 = .ok (.caload, 1) := by decide +kernel
theorem d_R_takeOpenings_34 : decode b_R_takeOpenings 34 = .ok (.bipush 40, 2) := by decide +kernel
theorem d_R_takeOpenings_36 : decode b_R_takeOpenings 36 = .ok (.if_icmp .ne 53, 3) := by decide +kernel
theorem d_R_takeOpenings_39 : decode b_R_takeOpenings 39 = .ok (.aload_n 0, 1) := by decide +kernel
theorem d_R_takeOpenings_40 : decode b_R_takeOpenings 40 = .ok (.getfield 9, 3) := by decide +kernel
theorem d_R_takeOpenings_43 : decode b_R_takeOpenings 43 = .ok (.aload_n 0, 1) := by decide +kernel
theorem d_R_takeOpenings_44 : decode b_R_takeOpenings 44 = .ok (.getfield 33, 3) := by decide +kernel
theorem d_R_takeOpenings_47 : decode b_R_takeOpenings 47 = .ok (.caload, 1) := by decide +kernel
theorem d_R_takeOpenings_48 : decode b_R_takeOpenings 48 = .ok (.bipush 40, 2) := by decide +kernel
theorem d_R_takeOpenings_50 : decode b_R_takeOpenings 50 = .ok (.if_icmp .ne 21, 3) := by decide +kernel
theorem d_R_takeOpenings_53 : decode b_R_takeOpenings 53 = .ok (.aload_n 0, 1) := by decide +kernel
theorem d_R_takeOpenings_54 : decode b_R_takeOpenings 54 = .ok (.dup, 1) := by decide +kernel
theorem d_R_takeOpenings_55 : decode b_R_takeOpenings 55 = .ok (.getfield 39, 3) := by decide +kernel
theorem d_R_takeOpenings_58 : decode b_R_takeOpenings 58 = .ok (.iconst 1, 1) := by decide +kernel
theorem d_R_takeOpenings_59 : decode b_R_takeOpenings 59 = .ok (.iadd, 1) := by decide +kernel
theorem d_R_takeOpenings_60 : decode b_R_takeOpenings 60 = .ok (.putfield 39, 3) := by decide +kernel
theorem d_R_takeOpenings_63 : decode b_R_takeOpenings 63 = .ok (.aload_n 0, 1) := by decide +kernel
theorem d_R_takeOpenings_64 : decode b_R_takeOpenings 64 = .ok (.iconst 0, 1) := by decide +kernel
theorem d_R_takeOpenings_65 : decode b_R_takeOpenings 65 = .ok (.invokevirtual 85, 3) := by decide +kernel
theorem d_R_takeOpenings_68 : decode b_R_takeOpenings 68 = .ok (.goto 8, 3) := by decide +kernel
theorem d_R_takeOpenings_71 : decode b_R_takeOpenings 71 = .ok (.aload_n 0, 1) := by decide +kernel
theorem d_R_takeOpenings_72 : decode b_R_takeOpenings 72 = .ok (.iconst 3, 1) := by decide +kernel
theorem d_R_takeOpenings_73 : decode b_R_takeOpenings 73 = .ok (.invokevirtual 85, 3) := by decide +kernel
theorem d_R_takeOpenings_76 : decode b_R_takeOpenings 76 = .ok (.aload_n 0, 1) := by decide +kernel
theorem d_R_takeOpenings_77 : decode b_R_takeOpenings 77 = .ok (.dup, 1) := by decide +kernel
theorem d_R_takeOpenings_78 : decode b_R_takeOpenings 78 = .ok (.getfield 33, 3) := by decide +kernel
theorem d_R_takeOpenings_81 : decode b_R_takeOpenings 81 = .ok (.iconst 1, 1) := by decide +kernel
theorem d_R_takeOpenings_82 : decode b_R_takeOpenings 82 = .ok (.iadd, 1) := by decide +kernel
theorem d_R_takeOpenings_83 : decode b_R_takeOpenings 83 = .ok (.putfield 33, 3) := by decide +kernel
theorem d_R_takeOpenings_86 : decode b_R_takeOpenings 86 = .ok (.goto (-86), 3) := by decide +kernel
theorem d_R_takeOpenings_89 : decode b_R_takeOpenings 89 = .ok (.return_, 1) := by decide +kernel
theorem d_R_numberOfLetter_0 : decode b_R_numberOfLetter 0 = .ok (.iload_n 0, 1) := by decide +kernel
theorem d_R_numberOfLetter_1 : decode b_R_numberOfLetter 1 = .ok (.bipush 120, 2) := by decide +kernel
theorem d_R_numberOfLetter_3 : decode b_R_numberOfLetter 3 = .ok (.if_icmp .ne 7, 3) := by decide +kernel
theorem d_R_numberOfLetter_6 : decode b_R_numberOfLetter 6 = .ok (.iconst 1, 1) := by decide +kernel
theorem d_R_numberOfLetter_7 : decode b_R_numberOfLetter 7 = .ok (.goto 14, 3) := by decide +kernel
theorem d_R_numberOfLetter_10 : decode b_R_numberOfLetter 10 = .ok (.iload_n 0, 1) := by decide +kernel
theorem d_R_numberOfLetter_11 : decode b_R_numberOfLetter 11 = .ok (.bipush 121, 2) := by decide +kernel
theorem d_R_numberOfLetter_13 : decode b_R_numberOfLetter 13 = .ok (.if_icmp .ne 7, 3) := by decide +kernel
theorem d_R_numberOfLetter_16 : decode b_R_numberOfLetter 16 = .ok (.iconst 2, 1) := by decide +kernel
theorem d_R_numberOfLetter_17 : decode b_R_numberOfLetter 17 = .ok (.goto 4, 3) := by decide +kernel
theorem d_R_numberOfLetter_20 : decode b_R_numberOfLetter 20 = .ok (.iconst 0, 1) := by decide +kernel
theorem d_R_numberOfLetter_21 : decode b_R_numberOfLetter 21 = .ok (.ireturn, 1) := by decide +kernel
theorem d_R_takeTerm_0 : decode b_R_takeTerm 0 = .ok (.aload_n 0, 1) := by decide +kernel
theorem d_R_takeTerm_1 : decode b_R_takeTerm 1 = .ok (.getfield 33, 3) := by decide +kernel
theorem d_R_takeTerm_4 : decode b_R_takeTerm 4 = .ok (.istore_n 2, 1) := by decide +kernel
theorem d_R_takeTerm_5 : decode b_R_takeTerm 5 = .ok (.iload_n 1, 1) := by decide +kernel
theorem d_R_takeTerm_6 : decode b_R_takeTerm 6 = .ok (.istore_n 3, 1) := by decide +kernel
theorem d_R_takeTerm_7 : decode b_R_takeTerm 7 = .ok (.aload_n 0, 1) := by decide +kernel
theorem d_R_takeTerm_8 : decode b_R_takeTerm 8 = .ok (.invokevirtual 67, 3) := by decide +kernel
theorem d_R_takeTerm_11 : decode b_R_takeTerm 11 = .ok (.istore 4, 2) := by decide +kernel
theorem d_R_takeTerm_13 : decode b_R_takeTerm 13 = .ok (.iload 4, 2) := by decide +kernel
theorem d_R_takeTerm_15 : decode b_R_takeTerm 15 = .ok (.bipush 48, 2) := by decide +kernel
theorem d_R_takeTerm_17 : decode b_R_takeTerm 17 = .ok (.if_icmp .lt 28, 3) := by decide +kernel
theorem d_R_takeTerm_20 : decode b_R_takeTerm 20 = .ok (.iload 4, 2) := by decide +kernel
theorem d_R_takeTerm_22 : decode b_R_takeTerm 22 = .ok (.bipush 57, 2) := by decide +kernel
theorem d_R_takeTerm_24 : decode b_R_takeTerm 24 = .ok (.if_icmp .gt 21, 3) := by decide +kernel
theorem d_R_takeTerm_27 : decode b_R_takeTerm 27 = .ok (.iload_n 1, 1) := by decide +kernel
theorem d_R_takeTerm_28 : decode b_R_takeTerm 28 = .ok (.iload 4, 2) := by decide +kernel
theorem d_R_takeTerm_30 : decode b_R_takeTerm 30 = .ok (.bipush 48, 2) := by decide +kernel
theorem d_R_takeTerm_32 : decode b_R_takeTerm 32 = .ok (.isub, 1) := by decide +kernel
theorem d_R_takeTerm_33 : decode b_R_takeTerm 33 = .ok (.imul, 1) := by decide +kernel
theorem d_R_takeTerm_34 : decode b_R_takeTerm 34 = .ok (.istore_n 3, 1) := by decide +kernel
theorem d_R_takeTerm_35 : decode b_R_takeTerm 35 = .ok (.aload_n 0, 1) := by decide +kernel
theorem d_R_takeTerm_36 : decode b_R_takeTerm 36 = .ok (.dup, 1) := by decide +kernel
theorem d_R_takeTerm_37 : decode b_R_takeTerm 37 = .ok (.getfield 33, 3) := by decide +kernel
theorem d_R_takeTerm_40 : decode b_R_takeTerm 40 = .ok (.iconst 1, 1) := by decide +kernel
theorem d_R_takeTerm_41 : decode b_R_takeTerm 41 = .ok (.iadd, 1) := by decide +kernel
theorem d_R_takeTerm_42 : decode b_R_takeTerm 42 = .ok (.putfield 33, 3) := by decide +kernel
theorem d_R_takeTerm_45 : decode b_R_takeTerm 45 = .ok (.iconst 0, 1) := by decide +kernel
theorem d_R_takeTerm_46 : decode b_R_takeTerm 46 = .ok (.istore 5, 2) := by decide +kernel
theorem d_R_takeTerm_48 : decode b_R_takeTerm 48 = .ok (.iconst 0, 1) := by decide +kernel
theorem d_R_takeTerm_49 : decode b_R_takeTerm 49 = .ok (.istore 6, 2) := by decide +kernel
theorem d_R_takeTerm_51 : decode b_R_takeTerm 51 = .ok (.iload 6, 2) := by decide +kernel
theorem d_R_takeTerm_53 : decode b_R_takeTerm 53 = .ok (.iconst 2, 1) := by decide +kernel
theorem d_R_takeTerm_54 : decode b_R_takeTerm 54 = .ok (.if_icmp .ge 48, 3) := by decide +kernel
theorem d_R_takeTerm_57 : decode b_R_takeTerm 57 = .ok (.aload_n 0, 1) := by decide +kernel
theorem d_R_takeTerm_58 : decode b_R_takeTerm 58 = .ok (.invokevirtual 67, 3) := by decide +kernel
theorem d_R_takeTerm_61 : decode b_R_takeTerm 61 = .ok (.invokestatic 102, 3) := by decide +kernel
theorem d_R_takeTerm_64 : decode b_R_takeTerm 64 = .ok (.istore 7, 2) := by decide +kernel
theorem d_R_takeTerm_66 : decode b_R_takeTerm 66 = .ok (.iload 5, 2) := by decide +kernel
theorem d_R_takeTerm_68 : decode b_R_takeTerm 68 = .ok (.iload 7, 2) := by decide +kernel
theorem d_R_takeTerm_70 : decode b_R_takeTerm 70 = .ok (.iand, 1) := by decide +kernel
theorem d_R_takeTerm_71 : decode b_R_takeTerm 71 = .ok (.iload 7, 2) := by decide +kernel
theorem d_R_takeTerm_73 : decode b_R_takeTerm 73 = .ok (.if_icmp .ne 6, 3) := by decide +kernel
theorem d_R_takeTerm_76 : decode b_R_takeTerm 76 = .ok (.goto 26, 3) := by decide +kernel
theorem d_R_takeTerm_79 : decode b_R_takeTerm 79 = .ok (.iload 5, 2) := by decide +kernel
theorem d_R_takeTerm_81 : decode b_R_takeTerm 81 = .ok (.iload 7, 2) := by decide +kernel
theorem d_R_takeTerm_83 : decode b_R_takeTerm 83 = .ok (.iadd, 1) := by decide +kernel
theorem d_R_takeTerm_84 : decode b_R_takeTerm 84 = .ok (.istore 5, 2) := by decide +kernel
theorem d_R_takeTerm_86 : decode b_R_takeTerm 86 = .ok (.aload_n 0, 1) := by decide +kernel
theorem d_R_takeTerm_87 : decode b_R_takeTerm 87 = .ok (.dup, 1) := by decide +kernel
theorem d_R_takeTerm_88 : decode b_R_takeTerm 88 = .ok (.getfield 33, 3) := by decide +kernel
theorem d_R_takeTerm_91 : decode b_R_takeTerm 91 = .ok (.iconst 1, 1) := by decide +kernel
theorem d_R_takeTerm_92 : decode b_R_takeTerm 92 = .ok (.iadd, 1) := by decide +kernel
theorem d_R_takeTerm_93 : decode b_R_takeTerm 93 = .ok (.putfield 33, 3) := by decide +kernel
theorem d_R_takeTerm_96 : decode b_R_takeTerm 96 = .ok (.iinc 6 1, 3) := by decide +kernel
theorem d_R_takeTerm_99 : decode b_R_takeTerm 99 = .ok (.goto (-48), 3) := by decide +kernel
theorem d_R_takeTerm_102 : decode b_R_takeTerm 102 = .ok (.aload_n 0, 1) := by decide +kernel
theorem d_R_takeTerm_103 : decode b_R_takeTerm 103 = .ok (.getfield 33, 3) := by decide +kernel
theorem d_R_takeTerm_106 : decode b_R_takeTerm 106 = .ok (.iload_n 2, 1) := by decide +kernel
theorem d_R_takeTerm_107 : decode b_R_takeTerm 107 = .ok (.if_icmp .ne 5, 3) := by decide +kernel
theorem d_R_takeTerm_110 : decode b_R_takeTerm 110 = .ok (.iconst 0, 1) := by decide +kernel
theorem d_R_takeTerm_111 : decode b_R_takeTerm 111 = .ok (.ireturn, 1) := by decide +kernel
theorem d_R_takeTerm_112 : decode b_R_takeTerm 112 = .ok (.aload_n 0, 1) := by decide +kernel
theorem d_R_takeTerm_113 : decode b_R_takeTerm 113 = .ok (.getfield 19, 3) := by decide +kernel
theorem d_R_takeTerm_116 : decode b_R_takeTerm 116 = .ok (.iload 5, 2) := by decide +kernel
theorem d_R_takeTerm_118 : decode b_R_takeTerm 118 = .ok (.dup2, 1) := by decide +kernel
theorem d_R_takeTerm_119 : decode b_R_takeTerm 119 = .ok (.iaload, 1) := by decide +kernel
theorem d_R_takeTerm_120 : decode b_R_takeTerm 120 = .ok (.iload_n 3, 1) := by decide +kernel
theorem d_R_takeTerm_121 : decode b_R_takeTerm 121 = .ok (.iadd, 1) := by decide +kernel
theorem d_R_takeTerm_122 : decode b_R_takeTerm 122 = .ok (.iastore, 1) := by decide +kernel
theorem d_R_takeTerm_123 : decode b_R_takeTerm 123 = .ok (.iconst 1, 1) := by decide +kernel
theorem d_R_takeTerm_124 : decode b_R_takeTerm 124 = .ok (.ireturn, 1) := by decide +kernel
theorem d_R_takeSum_0 : decode b_R_takeSum 0 = .ok (.aload_n 0, 1) := by decide +kernel
theorem d_R_takeSum_1 : decode b_R_takeSum 1 = .ok (.bipush 45, 2) := by decide +kernel
theorem d_R_takeSum_3 : decode b_R_takeSum 3 = .ok (.invokevirtual 78, 3) := by decide +kernel
theorem d_R_takeSum_6 : decode b_R_takeSum 6 = .ok (.ifCond .eq 8, 3) := by decide +kernel
theorem d_R_takeSum_9 : decode b_R_takeSum 9 = .ok (.iload_n 1, 1) := by decide +kernel
theorem d_R_takeSum_10 : decode b_R_takeSum 10 = .ok (.ineg, 1) := by decide +kernel
theorem d_R_takeSum_11 : decode b_R_takeSum 11 = .ok (.goto 4, 3) := by decide +kernel
theorem d_R_takeSum_14 : decode b_R_takeSum 14 = .ok (.iload_n 1, 1) := by decide +kernel
theorem d_R_takeSum_15 : decode b_R_takeSum 15 = .ok (.istore_n 2, 1) := by decide +kernel
theorem d_R_takeSum_16 : decode b_R_takeSum 16 = .ok (.iconst 0, 1) := by decide +kernel
theorem d_R_takeSum_17 : decode b_R_takeSum 17 = .ok (.istore_n 3, 1) := by decide +kernel
theorem d_R_takeSum_18 : decode b_R_takeSum 18 = .ok (.iload_n 3, 1) := by decide +kernel
theorem d_R_takeSum_19 : decode b_R_takeSum 19 = .ok (.aload_n 0, 1) := by decide +kernel
theorem d_R_takeSum_20 : decode b_R_takeSum 20 = .ok (.getfield 30, 3) := by decide +kernel
theorem d_R_takeSum_23 : decode b_R_takeSum 23 = .ok (.if_icmp .ge 50, 3) := by decide +kernel
theorem d_R_takeSum_26 : decode b_R_takeSum 26 = .ok (.aload_n 0, 1) := by decide +kernel
theorem d_R_takeSum_27 : decode b_R_takeSum 27 = .ok (.iload_n 2, 1) := by decide +kernel
theorem d_R_takeSum_28 : decode b_R_takeSum 28 = .ok (.invokevirtual 99, 3) := by decide +kernel
theorem d_R_takeSum_31 : decode b_R_takeSum 31 = .ok (.ifCond .ne 5, 3) := by decide +kernel
theorem d_R_takeSum_34 : decode b_R_takeSum 34 = .ok (.iconst 0, 1) := by decide +kernel
theorem d_R_takeSum_35 : decode b_R_takeSum 35 = .ok (.ireturn, 1) := by decide +kernel
theorem d_R_takeSum_36 : decode b_R_takeSum 36 = .ok (.aload_n 0, 1) := by decide +kernel
theorem d_R_takeSum_37 : decode b_R_takeSum 37 = .ok (.bipush 45, 2) := by decide +kernel
theorem d_R_takeSum_39 : decode b_R_takeSum 39 = .ok (.invokevirtual 78, 3) := by decide +kernel
theorem d_R_takeSum_42 : decode b_R_takeSum 42 = .ok (.ifCond .eq 9, 3) := by decide +kernel
theorem d_R_takeSum_45 : decode b_R_takeSum 45 = .ok (.iload_n 1, 1) := by decide +kernel
theorem d_R_takeSum_46 : decode b_R_takeSum 46 = .ok (.ineg, 1) := by decide +kernel
theorem d_R_takeSum_47 : decode b_R_takeSum 47 = .ok (.istore_n 2, 1) := by decide +kernel
theorem d_R_takeSum_48 : decode b_R_takeSum 48 = .ok (.goto 19, 3) := by decide +kernel
theorem d_R_takeSum_51 : decode b_R_takeSum 51 = .ok (.aload_n 0, 1) := by decide +kernel
theorem d_R_takeSum_52 : decode b_R_takeSum 52 = .ok (.bipush 43, 2) := by decide +kernel
theorem d_R_takeSum_54 : decode b_R_takeSum 54 = .ok (.invokevirtual 78, 3) := by decide +kernel
theorem d_R_takeSum_57 : decode b_R_takeSum 57 = .ok (.ifCond .eq 8, 3) := by decide +kernel
theorem d_R_takeSum_60 : decode b_R_takeSum 60 = .ok (.iload_n 1, 1) := by decide +kernel
theorem d_R_takeSum_61 : decode b_R_takeSum 61 = .ok (.istore_n 2, 1) := by decide +kernel
theorem d_R_takeSum_62 : decode b_R_takeSum 62 = .ok (.goto 5, 3) := by decide +kernel
theorem d_R_takeSum_65 : decode b_R_takeSum 65 = .ok (.iconst 1, 1) := by decide +kernel
theorem d_R_takeSum_66 : decode b_R_takeSum 66 = .ok (.ireturn, 1) := by decide +kernel
theorem d_R_takeSum_67 : decode b_R_takeSum 67 = .ok (.iinc 3 1, 3) := by decide +kernel
theorem d_R_takeSum_70 : decode b_R_takeSum 70 = .ok (.goto (-52), 3) := by decide +kernel
theorem d_R_takeSum_73 : decode b_R_takeSum 73 = .ok (.iconst 0, 1) := by decide +kernel
theorem d_R_takeSum_74 : decode b_R_takeSum 74 = .ok (.ireturn, 1) := by decide +kernel
theorem d_S_addStep_0 : decode b_S_addStep 0 = .ok (.aload_n 0, 1) := by decide +kernel
theorem d_S_addStep_1 : decode b_S_addStep 1 = .ok (.getfield 22, 3) := by decide +kernel
theorem d_S_addStep_4 : decode b_S_addStep 4 = .ok (.bipush 80, 2) := by decide +kernel
theorem d_S_addStep_6 : decode b_S_addStep 6 = .ok (.if_icmp .ge 23, 3) := by decide +kernel
theorem d_S_addStep_9 : decode b_S_addStep 9 = .ok (.aload_n 0, 1) := by decide +kernel
theorem d_S_addStep_10 : decode b_S_addStep 10 = .ok (.getfield 19, 3) := by decide +kernel
theorem d_S_addStep_13 : decode b_S_addStep 13 = .ok (.aload_n 0, 1) := by decide +kernel
theorem d_S_addStep_14 : decode b_S_addStep 14 = .ok (.getfield 22, 3) := by decide +kernel
theorem d_S_addStep_17 : decode b_S_addStep 17 = .ok (.iload_n 1, 1) := by decide +kernel
theorem d_S_addStep_18 : decode b_S_addStep 18 = .ok (.iastore, 1) := by decide +kernel
theorem d_S_addStep_19 : decode b_S_addStep 19 = .ok (.aload_n 0, 1) := by decide +kernel
theorem d_S_addStep_20 : decode b_S_addStep 20 = .ok (.dup, 1) := by decide +kernel
theorem d_S_addStep_21 : decode b_S_addStep 21 = .ok (.getfield 22, 3) := by decide +kernel
theorem d_S_addStep_24 : decode b_S_addStep 24 = .ok (.iconst 1, 1) := by decide +kernel
theorem d_S_addStep_25 : decode b_S_addStep 25 = .ok (.iadd, 1) := by decide +kernel
theorem d_S_addStep_26 : decode b_S_addStep 26 = .ok (.putfield 22, 3) := by decide +kernel
theorem d_S_addStep_29 : decode b_S_addStep 29 = .ok (.return_, 1) := by decide +kernel
theorem d_S_addAtom_0 : decode b_S_addAtom 0 = .ok (.aload_n 0, 1) := by decide +kernel
theorem d_S_addAtom_1 : decode b_S_addAtom 1 = .ok (.getfield 26, 3) := by decide +kernel
theorem d_S_addAtom_4 : decode b_S_addAtom 4 = .ok (.bipush 8, 2) := by decide +kernel
theorem d_S_addAtom_6 : decode b_S_addAtom 6 = .ok (.if_icmp .ge 29, 3) := by decide +kernel
theorem d_S_addAtom_9 : decode b_S_addAtom 9 = .ok (.aload_n 1, 1) := by decide +kernel
theorem d_S_addAtom_10 : decode b_S_addAtom 10 = .ok (.iconst 0, 1) := by decide +kernel
theorem d_S_addAtom_11 : decode b_S_addAtom 11 = .ok (.aload_n 0, 1) := by decide +kernel
theorem d_S_addAtom_12 : decode b_S_addAtom 12 = .ok (.getfield 9, 3) := by decide +kernel
theorem d_S_addAtom_15 : decode b_S_addAtom 15 = .ok (.aload_n 0, 1) := by decide +kernel
theorem d_S_addAtom_16 : decode b_S_addAtom 16 = .ok (.getfield 26, 3) := by decide +kernel
theorem d_S_addAtom_19 : decode b_S_addAtom 19 = .ok (.iconst 4, 1) := by decide +kernel
theorem d_S_addAtom_20 : decode b_S_addAtom 20 = .ok (.imul, 1) := by decide +kernel
theorem d_S_addAtom_21 : decode b_S_addAtom 21 = .ok (.iconst 4, 1) := by decide +kernel
theorem d_S_addAtom_22 : decode b_S_addAtom 22 = .ok (.invokestatic 29, 3) := by decide +kernel
theorem d_S_addAtom_25 : decode b_S_addAtom 25 = .ok (.aload_n 0, 1) := by decide +kernel
theorem d_S_addAtom_26 : decode b_S_addAtom 26 = .ok (.getfield 15, 3) := by decide +kernel
theorem d_S_addAtom_29 : decode b_S_addAtom 29 = .ok (.aload_n 0, 1) := by decide +kernel
theorem d_S_addAtom_30 : decode b_S_addAtom 30 = .ok (.getfield 26, 3) := by decide +kernel
theorem d_S_addAtom_33 : decode b_S_addAtom 33 = .ok (.iload_n 2, 1) := by decide +kernel
theorem d_S_addAtom_34 : decode b_S_addAtom 34 = .ok (.castore, 1) := by decide +kernel
theorem d_S_addAtom_35 : decode b_S_addAtom 35 = .ok (.aload_n 0, 1) := by decide +kernel
theorem d_S_addAtom_36 : decode b_S_addAtom 36 = .ok (.iconst 4, 1) := by decide +kernel
theorem d_S_addAtom_37 : decode b_S_addAtom 37 = .ok (.aload_n 0, 1) := by decide +kernel
theorem d_S_addAtom_38 : decode b_S_addAtom 38 = .ok (.getfield 26, 3) := by decide +kernel
theorem d_S_addAtom_41 : decode b_S_addAtom 41 = .ok (.iadd, 1) := by decide +kernel
theorem d_S_addAtom_42 : decode b_S_addAtom 42 = .ok (.invokevirtual 35, 3) := by decide +kernel
theorem d_S_addAtom_45 : decode b_S_addAtom 45 = .ok (.aload_n 0, 1) := by decide +kernel
theorem d_S_addAtom_46 : decode b_S_addAtom 46 = .ok (.dup, 1) := by decide +kernel
theorem d_S_addAtom_47 : decode b_S_addAtom 47 = .ok (.getfield 26, 3) := by decide +kernel
theorem d_S_addAtom_50 : decode b_S_addAtom 50 = .ok (.iconst 1, 1) := by decide +kernel
theorem d_S_addAtom_51 : decode b_S_addAtom 51 = .ok (.iadd, 1) := by decide +kernel
theorem d_S_addAtom_52 : decode b_S_addAtom 52 = .ok (.putfield 26, 3) := by decide +kernel
theorem d_S_addAtom_55 : decode b_S_addAtom 55 = .ok (.return_, 1) := by decide +kernel
theorem d_R_takeAtom_0 : decode b_R_takeAtom 0 = .ok (.iconst 0, 1) := by decide +kernel
theorem d_R_takeAtom_1 : decode b_R_takeAtom 1 = .ok (.istore_n 1, 1) := by decide +kernel
theorem d_R_takeAtom_2 : decode b_R_takeAtom 2 = .ok (.iload_n 1, 1) := by decide +kernel
theorem d_R_takeAtom_3 : decode b_R_takeAtom 3 = .ok (.iconst 4, 1) := by decide +kernel
theorem d_R_takeAtom_4 : decode b_R_takeAtom 4 = .ok (.if_icmp .ge 16, 3) := by decide +kernel
theorem d_R_takeAtom_7 : decode b_R_takeAtom 7 = .ok (.aload_n 0, 1) := by decide +kernel
theorem d_R_takeAtom_8 : decode b_R_takeAtom 8 = .ok (.getfield 19, 3) := by decide +kernel
theorem d_R_takeAtom_11 : decode b_R_takeAtom 11 = .ok (.iload_n 1, 1) := by decide +kernel
theorem d_R_takeAtom_12 : decode b_R_takeAtom 12 = .ok (.iconst 0, 1) := by decide +kernel
theorem d_R_takeAtom_13 : decode b_R_takeAtom 13 = .ok (.iastore, 1) := by decide +kernel
theorem d_R_takeAtom_14 : decode b_R_takeAtom 14 = .ok (.iinc 1 1, 3) := by decide +kernel
theorem d_R_takeAtom_17 : decode b_R_takeAtom 17 = .ok (.goto (-15), 3) := by decide +kernel
theorem d_R_takeAtom_20 : decode b_R_takeAtom 20 = .ok (.aload_n 0, 1) := by decide +kernel
theorem d_R_takeAtom_21 : decode b_R_takeAtom 21 = .ok (.iconst 1, 1) := by decide +kernel
theorem d_R_takeAtom_22 : decode b_R_takeAtom 22 = .ok (.invokevirtual 91, 3) := by decide +kernel
theorem d_R_takeAtom_25 : decode b_R_takeAtom 25 = .ok (.ifCond .ne 5, 3) := by decide +kernel
theorem d_R_takeAtom_28 : decode b_R_takeAtom 28 = .ok (.iconst 0, 1) := by decide +kernel
theorem d_R_takeAtom_29 : decode b_R_takeAtom 29 = .ok (.ireturn, 1) := by decide +kernel
theorem d_R_takeAtom_30 : decode b_R_takeAtom 30 = .ok (.aload_n 0, 1) := by decide +kernel
theorem d_R_takeAtom_31 : decode b_R_takeAtom 31 = .ok (.invokevirtual 67, 3) := by decide +kernel
theorem d_R_takeAtom_34 : decode b_R_takeAtom 34 = .ok (.istore_n 1, 1) := by decide +kernel
theorem d_R_takeAtom_35 : decode b_R_takeAtom 35 = .ok (.aload_n 0, 1) := by decide +kernel
theorem d_R_takeAtom_36 : decode b_R_takeAtom 36 = .ok (.bipush 60, 2) := by decide +kernel
theorem d_R_takeAtom_38 : decode b_R_takeAtom 38 = .ok (.invokevirtual 78, 3) := by decide +kernel
theorem d_R_takeAtom_41 : decode b_R_takeAtom 41 = .ok (.ifCond .ne 21, 3) := by decide +kernel
theorem d_R_takeAtom_44 : decode b_R_takeAtom 44 = .ok (.aload_n 0, 1) := by decide +kernel
theorem d_R_takeAtom_45 : decode b_R_takeAtom 45 = .ok (.bipush 61, 2) := by decide +kernel
theorem d_R_takeAtom_47 : decode b_R_takeAtom 47 = .ok (.invokevirtual 78, 3) := by decide +kernel
theorem d_R_takeAtom_50 : decode b_R_takeAtom 50 = .ok (.ifCond .ne 12, 3) := by decide +kernel
theorem d_R_takeAtom_53 : decode b_R_takeAtom 53 = .ok (.aload_n 0, 1) := by decide +kernel
theorem d_R_takeAtom_54 : decode b_R_takeAtom 54 = .ok (.bipush 62, 2) := by decide +kernel
theorem d_R_takeAtom_56 : decode b_R_takeAtom 56 = .ok (.invokevirtual 78, 3) := by decide +kernel
theorem d_R_takeAtom_59 : decode b_R_takeAtom 59 = .ok (.ifCond .eq 7, 3) := by decide +kernel
theorem d_R_takeAtom_62 : decode b_R_takeAtom 62 = .ok (.iconst 1, 1) := by decide +kernel
theorem d_R_takeAtom_63 : decode b_R_takeAtom 63 = .ok (.goto 4, 3) := by decide +kernel
theorem d_R_takeAtom_66 : decode b_R_takeAtom 66 = .ok (.iconst 0, 1) := by decide +kernel
theorem d_R_takeAtom_67 : decode b_R_takeAtom 67 = .ok (.istore_n 2, 1) := by decide +kernel
theorem d_R_takeAtom_68 : decode b_R_takeAtom 68 = .ok (.iload_n 2, 1) := by decide +kernel
theorem d_R_takeAtom_69 : decode b_R_takeAtom 69 = .ok (.ifCond .eq 11, 3) := by decide +kernel
theorem d_R_takeAtom_72 : decode b_R_takeAtom 72 = .ok (.aload_n 0, 1) := by decide +kernel
theorem d_R_takeAtom_73 : decode b_R_takeAtom 73 = .ok (.iconst (-1), 1) := by decide +kernel
theorem d_R_takeAtom_74 : decode b_R_takeAtom 74 = .ok (.invokevirtual 91, 3) := by decide +kernel
theorem d_R_takeAtom_77 : decode b_R_takeAtom 77 = .ok (.ifCond .ne 5, 3) := by decide +kernel
theorem d_R_takeAtom_80 : decode b_R_takeAtom 80 = .ok (.iconst 0, 1) := by decide +kernel
theorem d_R_takeAtom_81 : decode b_R_takeAtom 81 = .ok (.ireturn, 1) := by decide +kernel
theorem d_R_takeAtom_82 : decode b_R_takeAtom 82 = .ok (.aload_n 0, 1) := by decide +kernel
theorem d_R_takeAtom_83 : decode b_R_takeAtom 83 = .ok (.getfield 22, 3) := by decide +kernel
theorem d_R_takeAtom_86 : decode b_R_takeAtom 86 = .ok (.aload_n 0, 1) := by decide +kernel
theorem d_R_takeAtom_87 : decode b_R_takeAtom 87 = .ok (.getfield 19, 3) := by decide +kernel
theorem d_R_takeAtom_90 : decode b_R_takeAtom 90 = .ok (.iload_n 1, 1) := by decide +kernel
theorem d_R_takeAtom_91 : decode b_R_takeAtom 91 = .ok (.invokevirtual 95, 3) := by decide +kernel
theorem d_R_takeAtom_94 : decode b_R_takeAtom 94 = .ok (.iconst 1, 1) := by decide +kernel
theorem d_R_takeAtom_95 : decode b_R_takeAtom 95 = .ok (.ireturn, 1) := by decide +kernel
theorem d_R_release_0 : decode b_R_release 0 = .ok (.aload_n 0, 1) := by decide +kernel
theorem d_R_release_1 : decode b_R_release 1 = .ok (.getfield 36, 3) := by decide +kernel
theorem d_R_release_4 : decode b_R_release 4 = .ok (.ifCond .le 49, 3) := by decide +kernel
theorem d_R_release_7 : decode b_R_release 7 = .ok (.aload_n 0, 1) := by decide +kernel
theorem d_R_release_8 : decode b_R_release 8 = .ok (.getfield 15, 3) := by decide +kernel
theorem d_R_release_11 : decode b_R_release 11 = .ok (.aload_n 0, 1) := by decide +kernel
theorem d_R_release_12 : decode b_R_release 12 = .ok (.getfield 36, 3) := by decide +kernel
theorem d_R_release_15 : decode b_R_release 15 = .ok (.iconst 1, 1) := by decide +kernel
theorem d_R_release_16 : decode b_R_release 16 = .ok (.isub, 1) := by decide +kernel
theorem d_R_release_17 : decode b_R_release 17 = .ok (.iaload, 1) := by decide +kernel
theorem d_R_release_18 : decode b_R_release 18 = .ok (.iload_n 1, 1) := by decide +kernel
theorem d_R_release_19 : decode b_R_release 19 = .ok (.if_icmp .lt 34, 3) := by decide +kernel
theorem d_R_release_22 : decode b_R_release 22 = .ok (.aload_n 0, 1) := by decide +kernel
theorem d_R_release_23 : decode b_R_release 23 = .ok (.getfield 22, 3) := by decide +kernel
theorem d_R_release_26 : decode b_R_release 26 = .ok (.aload_n 0, 1) := by decide +kernel
theorem d_R_release_27 : decode b_R_release 27 = .ok (.getfield 15, 3) := by decide +kernel
theorem d_R_release_30 : decode b_R_release 30 = .ok (.aload_n 0, 1) := by decide +kernel
theorem d_R_release_31 : decode b_R_release 31 = .ok (.getfield 36, 3) := by decide +kernel
