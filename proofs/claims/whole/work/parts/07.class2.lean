def f_F_setA (S : jx_S) (a2 : Int32) : Option (jx_S) :=
  (f_S_number S a2 2).bind fun q4_1 =>
    (f_S_number (jx_f S 14 q4_1) a2 3).bind fun q14_2 =>
      some (jx_f (jx_f (jx_f S 14 q4_1) 15 q14_2) 16 0)
set_option maxHeartbeats 4000000 in
set_option maxRecDepth 100000 in
theorem c_F_setA (l : Launch) (G : jx_G) (S : jx_S) (a2 : Int32) (fin : jx_S) (h : f_F_setA S a2 = some fin) : jx_M l y_F_setA b_F_setA 3 none 1 G [.ref (jx_ad G 5), .ref (jx_ad G 1), .int a2] (jx_w G S) (none, jx_w G fin) := by
  refine jx_met (own := "PlaneCells$Form") (by decide) rfl (Nat.le_of_ble_eq_true rfl) (fun X hX hl => ?_)
  subst hl
  refine jx_L (L2 := [(0, .ref (jx_ad G 5)), (1, .ref (jx_ad G 1)), (2, .int a2)]) rfl ?_
  unfold f_F_setA at h
  refine jx_aload_n hX d_F_setA_0 0 rfl rfl ?_
  refine jx_aload_n hX d_F_setA_1 1 rfl rfl ?_
  refine jx_iload_n hX d_F_setA_2 2 rfl rfl ?_
  refine jx_iconst (v := 2) hX d_F_setA_3 (by decide) ?_
  obtain ⟨q4_1, hq4_1, h⟩ := jx_bd h
  refine cs_F_7 hX (c_S_number (jx_l X) G S a2 2 q4_1 hq4_1) d_F_setA_4 (by decide) (Nat.le_of_ble_eq_true rfl) ?_
  refine pf_F_13 hX d_F_setA_7 ?_
  refine jx_aload_n hX d_F_setA_10 0 rfl rfl ?_
  refine jx_aload_n hX d_F_setA_11 1 rfl rfl ?_
  refine jx_iload_n hX d_F_setA_12 2 rfl rfl ?_
  refine jx_iconst (v := 3) hX d_F_setA_13 (by decide) ?_
  obtain ⟨q14_2, hq14_2, h⟩ := jx_bd h
  refine cs_F_7 hX (c_S_number (jx_l X) G (jx_f S 14 q4_1) a2 3 q14_2 hq14_2) d_F_setA_14 (by decide) (Nat.le_of_ble_eq_true rfl) ?_
  refine pf_F_19 hX d_F_setA_17 ?_
  refine jx_aload_n hX d_F_setA_20 0 rfl rfl ?_
  refine jx_iconst (v := 0) hX d_F_setA_21 (by decide) ?_
  refine pf_F_22 hX d_F_setA_22 ?_
  obtain rfl := Option.some.inj h
  exact jx_vret hX d_F_setA_25

def f_F_setB (S : jx_S) (a2 : Int32) : Option (jx_S) :=
  (f_S_number S a2 0).bind fun q4_1 =>
    (f_S_number (jx_f S 14 q4_1) a2 1).bind fun q14_2 =>
      some (jx_f (jx_f (jx_f S 14 q4_1) 15 q14_2) 16 0)
set_option maxHeartbeats 4000000 in
set_option maxRecDepth 100000 in
theorem c_F_setB (l : Launch) (G : jx_G) (S : jx_S) (a2 : Int32) (fin : jx_S) (h : f_F_setB S a2 = some fin) : jx_M l y_F_setB b_F_setB 3 none 1 G [.ref (jx_ad G 5), .ref (jx_ad G 1), .int a2] (jx_w G S) (none, jx_w G fin) := by
  refine jx_met (own := "PlaneCells$Form") (by decide) rfl (Nat.le_of_ble_eq_true rfl) (fun X hX hl => ?_)
  subst hl
  refine jx_L (L2 := [(0, .ref (jx_ad G 5)), (1, .ref (jx_ad G 1)), (2, .int a2)]) rfl ?_
  unfold f_F_setB at h
  refine jx_aload_n hX d_F_setB_0 0 rfl rfl ?_
  refine jx_aload_n hX d_F_setB_1 1 rfl rfl ?_
  refine jx_iload_n hX d_F_setB_2 2 rfl rfl ?_
  refine jx_iconst (v := 0) hX d_F_setB_3 (by decide) ?_
  obtain ⟨q4_1, hq4_1, h⟩ := jx_bd h
  refine cs_F_7 hX (c_S_number (jx_l X) G S a2 0 q4_1 hq4_1) d_F_setB_4 (by decide) (Nat.le_of_ble_eq_true rfl) ?_
  refine pf_F_13 hX d_F_setB_7 ?_
  refine jx_aload_n hX d_F_setB_10 0 rfl rfl ?_
  refine jx_aload_n hX d_F_setB_11 1 rfl rfl ?_
  refine jx_iload_n hX d_F_setB_12 2 rfl rfl ?_
  refine jx_iconst (v := 1) hX d_F_setB_13 (by decide) ?_
  obtain ⟨q14_2, hq14_2, h⟩ := jx_bd h
  refine cs_F_7 hX (c_S_number (jx_l X) G (jx_f S 14 q4_1) a2 1 q14_2 hq14_2) d_F_setB_14 (by decide) (Nat.le_of_ble_eq_true rfl) ?_
  refine pf_F_19 hX d_F_setB_17 ?_
  refine jx_aload_n hX d_F_setB_20 0 rfl rfl ?_
  refine jx_iconst (v := 0) hX d_F_setB_21 (by decide) ?_
  refine pf_F_22 hX d_F_setB_22 ?_
  obtain rfl := Option.some.inj h
  exact jx_vret hX d_F_setB_25

def f_F_setPair (S : jx_S) (a2 : Int32) (a3 : Int32) : Option (jx_S) :=
  (f_S_number S a2 2).bind fun q4_1 =>
    (f_S_number S a3 0).bind fun q10_2 =>
      (f_S_number S a3 2).bind fun q17_3 =>
        (f_S_number S a2 0).bind fun q23_4 =>
          (f_S_number (jx_f S 14 ((q4_1 * q10_2) - (q17_3 * q23_4))) a2 2).bind fun q35_5 =>
            (f_S_number (jx_f S 14 ((q4_1 * q10_2) - (q17_3 * q23_4))) a3 1).bind fun q41_6 =>
              (f_S_number (jx_f S 14 ((q4_1 * q10_2) - (q17_3 * q23_4))) a2 3).bind fun q48_7 =>
                (f_S_number (jx_f S 14 ((q4_1 * q10_2) - (q17_3 * q23_4))) a3 0).bind fun q54_8 =>
                  (f_S_number (jx_f S 14 ((q4_1 * q10_2) - (q17_3 * q23_4))) a3 2).bind fun q62_9 =>
                    (f_S_number (jx_f S 14 ((q4_1 * q10_2) - (q17_3 * q23_4))) a2 1).bind fun q68_10 =>
                      (f_S_number (jx_f S 14 ((q4_1 * q10_2) - (q17_3 * q23_4))) a3 3).bind fun q76_11 =>
                        (f_S_number (jx_f S 14 ((q4_1 * q10_2) - (q17_3 * q23_4))) a2 0).bind fun q82_12 =>
                          (f_S_number (jx_f (jx_f S 14 ((q4_1 * q10_2) - (q17_3 * q23_4))) 15 ((((q35_5 * q41_6) + (q48_7 * q54_8)) - (q62_9 * q68_10)) - (q76_11 * q82_12))) a2 3).bind fun q94_13 =>
                            (f_S_number (jx_f (jx_f S 14 ((q4_1 * q10_2) - (q17_3 * q23_4))) 15 ((((q35_5 * q41_6) + (q48_7 * q54_8)) - (q62_9 * q68_10)) - (q76_11 * q82_12))) a3 1).bind fun q100_14 =>
                              (f_S_number (jx_f (jx_f S 14 ((q4_1 * q10_2) - (q17_3 * q23_4))) 15 ((((q35_5 * q41_6) + (q48_7 * q54_8)) - (q62_9 * q68_10)) - (q76_11 * q82_12))) a3 3).bind fun q107_15 =>
                                (f_S_number (jx_f (jx_f S 14 ((q4_1 * q10_2) - (q17_3 * q23_4))) 15 ((((q35_5 * q41_6) + (q48_7 * q54_8)) - (q62_9 * q68_10)) - (q76_11 * q82_12))) a2 1).bind fun q113_16 =>
                                  some (jx_f (jx_f (jx_f S 14 ((q4_1 * q10_2) - (q17_3 * q23_4))) 15 ((((q35_5 * q41_6) + (q48_7 * q54_8)) - (q62_9 * q68_10)) - (q76_11 * q82_12))) 16 ((q94_13 * q100_14) - (q107_15 * q113_16)))
set_option maxHeartbeats 4000000 in
set_option maxRecDepth 100000 in
theorem c_F_setPair (l : Launch) (G : jx_G) (S : jx_S) (a2 : Int32) (a3 : Int32) (fin : jx_S) (h : f_F_setPair S a2 a3 = some fin) : jx_M l y_F_setPair b_F_setPair 4 none 1 G [.ref (jx_ad G 5), .ref (jx_ad G 1), .int a2, .int a3] (jx_w G S) (none, jx_w G fin) := by
  refine jx_met (own := "PlaneCells$Form") (by decide) rfl (Nat.le_of_ble_eq_true rfl) (fun X hX hl => ?_)
  subst hl
  refine jx_L (L2 := [(0, .ref (jx_ad G 5)), (1, .ref (jx_ad G 1)), (2, .int a2), (3, .int a3)]) rfl ?_
  unfold f_F_setPair at h
  refine jx_aload_n hX d_F_setPair_0 0 rfl rfl ?_
  refine jx_aload_n hX d_F_setPair_1 1 rfl rfl ?_
  refine jx_iload_n hX d_F_setPair_2 2 rfl rfl ?_
  refine jx_iconst (v := 2) hX d_F_setPair_3 (by decide) ?_
  obtain ⟨q4_1, hq4_1, h⟩ := jx_bd h
  refine cs_F_7 hX (c_S_number (jx_l X) G S a2 2 q4_1 hq4_1) d_F_setPair_4 (by decide) (Nat.le_of_ble_eq_true rfl) ?_
  refine jx_aload_n hX d_F_setPair_7 1 rfl rfl ?_
  refine jx_iload_n hX d_F_setPair_8 3 rfl rfl ?_
  refine jx_iconst (v := 0) hX d_F_setPair_9 (by decide) ?_
  obtain ⟨q10_2, hq10_2, h⟩ := jx_bd h
  refine cs_F_7 hX (c_S_number (jx_l X) G S a3 0 q10_2 hq10_2) d_F_setPair_10 (by decide) (Nat.le_of_ble_eq_true rfl) ?_
  refine jx_imul hX d_F_setPair_13 ?_
  refine jx_aload_n hX d_F_setPair_14 1 rfl rfl ?_
  refine jx_iload_n hX d_F_setPair_15 3 rfl rfl ?_
  refine jx_iconst (v := 2) hX d_F_setPair_16 (by decide) ?_
  obtain ⟨q17_3, hq17_3, h⟩ := jx_bd h
  refine cs_F_7 hX (c_S_number (jx_l X) G S a3 2 q17_3 hq17_3) d_F_setPair_17 (by decide) (Nat.le_of_ble_eq_true rfl) ?_
  refine jx_aload_n hX d_F_setPair_20 1 rfl rfl ?_
  refine jx_iload_n hX d_F_setPair_21 2 rfl rfl ?_
  refine jx_iconst (v := 0) hX d_F_setPair_22 (by decide) ?_
  obtain ⟨q23_4, hq23_4, h⟩ := jx_bd h
  refine cs_F_7 hX (c_S_number (jx_l X) G S a2 0 q23_4 hq23_4) d_F_setPair_23 (by decide) (Nat.le_of_ble_eq_true rfl) ?_
  refine jx_imul hX d_F_setPair_26 ?_
  refine jx_isub hX d_F_setPair_27 ?_
  refine pf_F_13 hX d_F_setPair_28 ?_
  refine jx_aload_n hX d_F_setPair_31 0 rfl rfl ?_
  refine jx_aload_n hX d_F_setPair_32 1 rfl rfl ?_
  refine jx_iload_n hX d_F_setPair_33 2 rfl rfl ?_
  refine jx_iconst (v := 2) hX d_F_setPair_34 (by decide) ?_
  obtain ⟨q35_5, hq35_5, h⟩ := jx_bd h
  refine cs_F_7 hX (c_S_number (jx_l X) G (jx_f S 14 ((q4_1 * q10_2) - (q17_3 * q23_4))) a2 2 q35_5 hq35_5) d_F_setPair_35 (by decide) (Nat.le_of_ble_eq_true rfl) ?_
  refine jx_aload_n hX d_F_setPair_38 1 rfl rfl ?_
  refine jx_iload_n hX d_F_setPair_39 3 rfl rfl ?_
  refine jx_iconst (v := 1) hX d_F_setPair_40 (by decide) ?_
  obtain ⟨q41_6, hq41_6, h⟩ := jx_bd h
  refine cs_F_7 hX (c_S_number (jx_l X) G (jx_f S 14 ((q4_1 * q10_2) - (q17_3 * q23_4))) a3 1 q41_6 hq41_6) d_F_setPair_41 (by decide) (Nat.le_of_ble_eq_true rfl) ?_
  refine jx_imul hX d_F_setPair_44 ?_
  refine jx_aload_n hX d_F_setPair_45 1 rfl rfl ?_
  refine jx_iload_n hX d_F_setPair_46 2 rfl rfl ?_
  refine jx_iconst (v := 3) hX d_F_setPair_47 (by decide) ?_
  obtain ⟨q48_7, hq48_7, h⟩ := jx_bd h
  refine cs_F_7 hX (c_S_number (jx_l X) G (jx_f S 14 ((q4_1 * q10_2) - (q17_3 * q23_4))) a2 3 q48_7 hq48_7) d_F_setPair_48 (by decide) (Nat.le_of_ble_eq_true rfl) ?_
  refine jx_aload_n hX d_F_setPair_51 1 rfl rfl ?_
  refine jx_iload_n hX d_F_setPair_52 3 rfl rfl ?_
  refine jx_iconst (v := 0) hX d_F_setPair_53 (by decide) ?_
  obtain ⟨q54_8, hq54_8, h⟩ := jx_bd h
  refine cs_F_7 hX (c_S_number (jx_l X) G (jx_f S 14 ((q4_1 * q10_2) - (q17_3 * q23_4))) a3 0 q54_8 hq54_8) d_F_setPair_54 (by decide) (Nat.le_of_ble_eq_true rfl) ?_
  refine jx_imul hX d_F_setPair_57 ?_
  refine jx_iadd hX d_F_setPair_58 ?_
  refine jx_aload_n hX d_F_setPair_59 1 rfl rfl ?_
  refine jx_iload_n hX d_F_setPair_60 3 rfl rfl ?_
  refine jx_iconst (v := 2) hX d_F_setPair_61 (by decide) ?_
  obtain ⟨q62_9, hq62_9, h⟩ := jx_bd h
  refine cs_F_7 hX (c_S_number (jx_l X) G (jx_f S 14 ((q4_1 * q10_2) - (q17_3 * q23_4))) a3 2 q62_9 hq62_9) d_F_setPair_62 (by decide) (Nat.le_of_ble_eq_true rfl) ?_
  refine jx_aload_n hX d_F_setPair_65 1 rfl rfl ?_
  refine jx_iload_n hX d_F_setPair_66 2 rfl rfl ?_
  refine jx_iconst (v := 1) hX d_F_setPair_67 (by decide) ?_
  obtain ⟨q68_10, hq68_10, h⟩ := jx_bd h
  refine cs_F_7 hX (c_S_number (jx_l X) G (jx_f S 14 ((q4_1 * q10_2) - (q17_3 * q23_4))) a2 1 q68_10 hq68_10) d_F_setPair_68 (by decide) (Nat.le_of_ble_eq_true rfl) ?_
  refine jx_imul hX d_F_setPair_71 ?_
  refine jx_isub hX d_F_setPair_72 ?_
  refine jx_aload_n hX d_F_setPair_73 1 rfl rfl ?_
  refine jx_iload_n hX d_F_setPair_74 3 rfl rfl ?_
  refine jx_iconst (v := 3) hX d_F_setPair_75 (by decide) ?_
  obtain ⟨q76_11, hq76_11, h⟩ := jx_bd h
  refine cs_F_7 hX (c_S_number (jx_l X) G (jx_f S 14 ((q4_1 * q10_2) - (q17_3 * q23_4))) a3 3 q76_11 hq76_11) d_F_setPair_76 (by decide) (Nat.le_of_ble_eq_true rfl) ?_
  refine jx_aload_n hX d_F_setPair_79 1 rfl rfl ?_
  refine jx_iload_n hX d_F_setPair_80 2 rfl rfl ?_
  refine jx_iconst (v := 0) hX d_F_setPair_81 (by decide) ?_
  obtain ⟨q82_12, hq82_12, h⟩ := jx_bd h
  refine cs_F_7 hX (c_S_number (jx_l X) G (jx_f S 14 ((q4_1 * q10_2) - (q17_3 * q23_4))) a2 0 q82_12 hq82_12) d_F_setPair_82 (by decide) (Nat.le_of_ble_eq_true rfl) ?_
  refine jx_imul hX d_F_setPair_85 ?_
  refine jx_isub hX d_F_setPair_86 ?_
  refine pf_F_19 hX d_F_setPair_87 ?_
  refine jx_aload_n hX d_F_setPair_90 0 rfl rfl ?_
  refine jx_aload_n hX d_F_setPair_91 1 rfl rfl ?_
  refine jx_iload_n hX d_F_setPair_92 2 rfl rfl ?_
  refine jx_iconst (v := 3) hX d_F_setPair_93 (by decide) ?_
  obtain ⟨q94_13, hq94_13, h⟩ := jx_bd h
  refine cs_F_7 hX (c_S_number (jx_l X) G (jx_f (jx_f S 14 ((q4_1 * q10_2) - (q17_3 * q23_4))) 15 ((((q35_5 * q41_6) + (q48_7 * q54_8)) - (q62_9 * q68_10)) - (q76_11 * q82_12))) a2 3 q94_13 hq94_13) d_F_setPair_94 (by decide) (Nat.le_of_ble_eq_true rfl) ?_
  refine jx_aload_n hX d_F_setPair_97 1 rfl rfl ?_
  refine jx_iload_n hX d_F_setPair_98 3 rfl rfl ?_
  refine jx_iconst (v := 1) hX d_F_setPair_99 (by decide) ?_
  obtain ⟨q100_14, hq100_14, h⟩ := jx_bd h
  refine cs_F_7 hX (c_S_number (jx_l X) G (jx_f (jx_f S 14 ((q4_1 * q10_2) - (q17_3 * q23_4))) 15 ((((q35_5 * q41_6) + (q48_7 * q54_8)) - (q62_9 * q68_10)) - (q76_11 * q82_12))) a3 1 q100_14 hq100_14) d_F_setPair_100 (by decide) (Nat.le_of_ble_eq_true rfl) ?_
  refine jx_imul hX d_F_setPair_103 ?_
  refine jx_aload_n hX d_F_setPair_104 1 rfl rfl ?_
  refine jx_iload_n hX d_F_setPair_105 3 rfl rfl ?_
  refine jx_iconst (v := 3) hX d_F_setPair_106 (by decide) ?_
  obtain ⟨q107_15, hq107_15, h⟩ := jx_bd h
  refine cs_F_7 hX (c_S_number (jx_l X) G (jx_f (jx_f S 14 ((q4_1 * q10_2) - (q17_3 * q23_4))) 15 ((((q35_5 * q41_6) + (q48_7 * q54_8)) - (q62_9 * q68_10)) - (q76_11 * q82_12))) a3 3 q107_15 hq107_15) d_F_setPair_107 (by decide) (Nat.le_of_ble_eq_true rfl) ?_
  refine jx_aload_n hX d_F_setPair_110 1 rfl rfl ?_
  refine jx_iload_n hX d_F_setPair_111 2 rfl rfl ?_
  refine jx_iconst (v := 1) hX d_F_setPair_112 (by decide) ?_
  obtain ⟨q113_16, hq113_16, h⟩ := jx_bd h
  refine cs_F_7 hX (c_S_number (jx_l X) G (jx_f (jx_f S 14 ((q4_1 * q10_2) - (q17_3 * q23_4))) 15 ((((q35_5 * q41_6) + (q48_7 * q54_8)) - (q62_9 * q68_10)) - (q76_11 * q82_12))) a2 1 q113_16 hq113_16) d_F_setPair_113 (by decide) (Nat.le_of_ble_eq_true rfl) ?_
  refine jx_imul hX d_F_setPair_116 ?_
  refine jx_isub hX d_F_setPair_117 ?_
  refine pf_F_22 hX d_F_setPair_118 ?_
  obtain rfl := Option.some.inj h
  exact jx_vret hX d_F_setPair_121

def b_Q_cut_68 (x1 : Int32) (z : jx_S × Int32) : Option ((jx_S × Int32) ⊕ (jx_S)) :=
  if x1 ≤ z.2 then
    some (.inr z.1)
  else
    (f_F_setPair z.1 x1 z.2).bind fun q83_6 =>
      (f_C_addZerosOf q83_6).bind fun q94_7 =>
        some (.inl (q94_7, (z.2 + 1)))

def b_Q_cut_9  (z : jx_S × Int32) : Option ((jx_S × Int32) ⊕ (jx_S)) :=
  if (z.1.1 4) ≤ z.2 then
    some (.inr z.1)
  else
    (f_F_setA z.1 z.2).bind fun q29_2 =>
      (f_C_addZerosOf q29_2).bind fun q40_3 =>
        (f_F_setB q40_3 z.2).bind fun q52_4 =>
          (f_C_addZerosOf q52_4).bind fun q63_5 =>
            (jx_lp (b_Q_cut_68 z.2) jx_N (q63_5, 0)).bind fun z68_8 =>
              some (.inl (z68_8, (z.2 + 1)))

def f_Q_cut (S : jx_S)  : Option (jx_S) :=
  (f_C_clear S).bind fun q4_1 =>
    (jx_lp (b_Q_cut_9 ) jx_N (q4_1, 0)).bind fun z9_9 =>
      some z9_9
set_option maxHeartbeats 4000000 in
set_option maxRecDepth 100000 in
theorem lt_Q_cut_68 {G : jx_G} {X : jx_C} (hX : jx_Ok G X b_Q_cut "PlaneCells$Plane" none 3 5) (fin : jx_S) (x1 : Int32) {n : Nat} {z : jx_S × Int32} {r : jx_S} (hz : jx_lp (b_Q_cut_68 x1) n z = some r) (hk : jx_At G X (none, jx_w G fin) (jx_w G r) 103 [(0, .ref (jx_ad G 3)), (1, .int x1)] []) : jx_At G X (none, jx_w G fin) (jx_w G z.1) 68 [(0, .ref (jx_ad G 3)), (1, .int x1), (2, .int z.2)] [] := by
  refine jx_loop1 (b_Q_cut_68 x1) (fun z => jx_At G X (none, jx_w G fin) (jx_w G z.1) 68 [(0, .ref (jx_ad G 3)), (1, .int x1), (2, .int z.2)] []) (fun z => jx_At G X (none, jx_w G fin) (jx_w G z) 103 [(0, .ref (jx_ad G 3)), (1, .int x1)] []) ?_ n z r hz hk
  intro z o h hi hx
  unfold b_Q_cut_68 at h
  refine jx_iload_n hX d_Q_cut_68 2 rfl rfl ?_
  refine jx_iload_n hX d_Q_cut_69 1 rfl rfl ?_
  refine jx_icmp_ge hX d_Q_cut_70 rfl (fun hc => ?_) (fun hc => ?_)
  · have h := jx_ip hc h
    refine jx_sub (L2 := [(0, .ref (jx_ad G 3)), (1, .int x1)]) [0, 1] rfl ?_
    obtain rfl := Option.some.inj h
    exact hx _ rfl
  · have h := jx_in_ hc h
    refine jx_aload_n hX d_Q_cut_73 0 rfl rfl ?_
    refine gf_Q_21 hX d_Q_cut_74 ?_
    refine jx_aload_n hX d_Q_cut_77 0 rfl rfl ?_
    refine gf_Q_35 hX d_Q_cut_78 ?_
    refine jx_iload_n hX d_Q_cut_81 1 rfl rfl ?_
    refine jx_iload_n hX d_Q_cut_82 2 rfl rfl ?_
    obtain ⟨q83_6, hq83_6, h⟩ := jx_bd h
    refine cs_Q_59 hX (c_F_setPair (jx_l X) G z.1 x1 z.2 q83_6 hq83_6) d_Q_cut_83 (by decide) (Nat.le_of_ble_eq_true rfl) ?_
    refine jx_aload_n hX d_Q_cut_86 0 rfl rfl ?_
    refine gf_Q_12 hX d_Q_cut_87 ?_
    refine jx_aload_n hX d_Q_cut_90 0 rfl rfl ?_
    refine gf_Q_21 hX d_Q_cut_91 ?_
    obtain ⟨q94_7, hq94_7, h⟩ := jx_bd h
    refine cs_Q_52 hX (c_C_addZerosOf (jx_l X) G q83_6 q94_7 hq94_7) d_Q_cut_94 (by decide) (Nat.le_of_ble_eq_true rfl) ?_
    refine jx_iinc (v := (z.2 + 1)) hX d_Q_cut_97 2 rfl (by first | rfl | decide) (by decide) (L2 := [(2, .int (z.2 + 1)), (0, .ref (jx_ad G 3)), (1, .int x1)]) rfl ?_
    refine jx_goto hX d_Q_cut_100 rfl ?_
    refine jx_sub (L2 := [(0, .ref (jx_ad G 3)), (1, .int x1), (2, .int (z.2 + 1))]) [1, 2, 0] rfl ?_
    obtain rfl := Option.some.inj h
    exact hi _ rfl

set_option maxHeartbeats 4000000 in
set_option maxRecDepth 100000 in
theorem lt_Q_cut_9 {G : jx_G} {X : jx_C} (hX : jx_Ok G X b_Q_cut "PlaneCells$Plane" none 3 5) (fin : jx_S)  {n : Nat} {z : jx_S × Int32} {r : jx_S} (hz : jx_lp (b_Q_cut_9 ) n z = some r) (hk : jx_At G X (none, jx_w G fin) (jx_w G r) 109 [(0, .ref (jx_ad G 3))] []) : jx_At G X (none, jx_w G fin) (jx_w G z.1) 9 [(0, .ref (jx_ad G 3)), (1, .int z.2)] [] := by
  refine jx_loop1 (b_Q_cut_9 ) (fun z => jx_At G X (none, jx_w G fin) (jx_w G z.1) 9 [(0, .ref (jx_ad G 3)), (1, .int z.2)] []) (fun z => jx_At G X (none, jx_w G fin) (jx_w G z) 109 [(0, .ref (jx_ad G 3))] []) ?_ n z r hz hk
  intro z o h hi hx
  unfold b_Q_cut_9 at h
  refine jx_iload_n hX d_Q_cut_9 1 rfl rfl ?_
  refine jx_aload_n hX d_Q_cut_10 0 rfl rfl ?_
  refine gf_Q_35 hX d_Q_cut_11 ?_
  refine gf_Q_42 hX d_Q_cut_14 rfl ?_
  refine jx_icmp_ge hX d_Q_cut_17 rfl (fun hc => ?_) (fun hc => ?_)
  · have h := jx_ip hc h
    refine jx_sub (L2 := [(0, .ref (jx_ad G 3))]) [0] rfl ?_
    obtain rfl := Option.some.inj h
    exact hx _ rfl
  · have h := jx_in_ hc h
    refine jx_aload_n hX d_Q_cut_20 0 rfl rfl ?_
    refine gf_Q_21 hX d_Q_cut_21 ?_
    refine jx_aload_n hX d_Q_cut_24 0 rfl rfl ?_
    refine gf_Q_35 hX d_Q_cut_25 ?_
    refine jx_iload_n hX d_Q_cut_28 1 rfl rfl ?_
    obtain ⟨q29_2, hq29_2, h⟩ := jx_bd h
    refine cs_Q_48 hX (c_F_setA (jx_l X) G z.1 z.2 q29_2 hq29_2) d_Q_cut_29 (by decide) (Nat.le_of_ble_eq_true rfl) ?_
    refine jx_aload_n hX d_Q_cut_32 0 rfl rfl ?_
    refine gf_Q_12 hX d_Q_cut_33 ?_
    refine jx_aload_n hX d_Q_cut_36 0 rfl rfl ?_
    refine gf_Q_21 hX d_Q_cut_37 ?_
    obtain ⟨q40_3, hq40_3, h⟩ := jx_bd h
    refine cs_Q_52 hX (c_C_addZerosOf (jx_l X) G q29_2 q40_3 hq40_3) d_Q_cut_40 (by decide) (Nat.le_of_ble_eq_true rfl) ?_
    refine jx_aload_n hX d_Q_cut_43 0 rfl rfl ?_
    refine gf_Q_21 hX d_Q_cut_44 ?_
    refine jx_aload_n hX d_Q_cut_47 0 rfl rfl ?_
    refine gf_Q_35 hX d_Q_cut_48 ?_
    refine jx_iload_n hX d_Q_cut_51 1 rfl rfl ?_
    obtain ⟨q52_4, hq52_4, h⟩ := jx_bd h
    refine cs_Q_56 hX (c_F_setB (jx_l X) G q40_3 z.2 q52_4 hq52_4) d_Q_cut_52 (by decide) (Nat.le_of_ble_eq_true rfl) ?_
    refine jx_aload_n hX d_Q_cut_55 0 rfl rfl ?_
    refine gf_Q_12 hX d_Q_cut_56 ?_
    refine jx_aload_n hX d_Q_cut_59 0 rfl rfl ?_
    refine gf_Q_21 hX d_Q_cut_60 ?_
    obtain ⟨q63_5, hq63_5, h⟩ := jx_bd h
    refine cs_Q_52 hX (c_C_addZerosOf (jx_l X) G q52_4 q63_5 hq63_5) d_Q_cut_63 (by decide) (Nat.le_of_ble_eq_true rfl) ?_
    refine jx_iconst (v := 0) hX d_Q_cut_66 (by decide) ?_
    refine jx_istore_n hX d_Q_cut_67 rfl (by decide) (L2 := [(2, .int 0), (0, .ref (jx_ad G 3)), (1, .int z.2)]) rfl ?_
    refine jx_sub (L2 := [(0, .ref (jx_ad G 3)), (1, .int z.2), (2, .int 0)]) [1, 2, 0] rfl ?_
    obtain ⟨z68_8, hz, h⟩ := jx_bd h
    refine lt_Q_cut_68 hX fin z.2 hz ?_
    refine jx_iinc (v := (z.2 + 1)) hX d_Q_cut_103 1 rfl (by first | rfl | decide) (by decide) (L2 := [(1, .int (z.2 + 1)), (0, .ref (jx_ad G 3))]) rfl ?_
    refine jx_goto hX d_Q_cut_106 rfl ?_
    refine jx_sub (L2 := [(0, .ref (jx_ad G 3)), (1, .int (z.2 + 1))]) [1, 0] rfl ?_
    obtain rfl := Option.some.inj h
    exact hi _ rfl

set_option maxHeartbeats 4000000 in
set_option maxRecDepth 100000 in
theorem c_Q_cut (l : Launch) (G : jx_G) (S : jx_S)  (fin : jx_S) (h : f_Q_cut S = some fin) : jx_M l y_Q_cut b_Q_cut 3 none 5 G [.ref (jx_ad G 3)] (jx_w G S) (none, jx_w G fin) := by
  refine jx_met (own := "PlaneCells$Plane") (by decide) rfl (Nat.le_of_ble_eq_true rfl) (fun X hX hl => ?_)
  subst hl
  refine jx_L (L2 := [(0, .ref (jx_ad G 3))]) rfl ?_
  unfold f_Q_cut at h
  refine jx_aload_n hX d_Q_cut_0 0 rfl rfl ?_
  refine gf_Q_12 hX d_Q_cut_1 ?_
  obtain ⟨q4_1, hq4_1, h⟩ := jx_bd h
  refine cs_Q_39 hX (c_C_clear (jx_l X) G S q4_1 hq4_1) d_Q_cut_4 (by decide) (Nat.le_of_ble_eq_true rfl) ?_
  refine jx_iconst (v := 0) hX d_Q_cut_7 (by decide) ?_
  refine jx_istore_n hX d_Q_cut_8 rfl (by decide) (L2 := [(1, .int 0), (0, .ref (jx_ad G 3))]) rfl ?_
  refine jx_sub (L2 := [(0, .ref (jx_ad G 3)), (1, .int 0)]) [1, 0] rfl ?_
  obtain ⟨z9_9, hz, h⟩ := jx_bd h
  refine lt_Q_cut_9 hX fin  hz ?_
  obtain rfl := Option.some.inj h
  exact jx_vret hX d_Q_cut_109

def f_Q_countColumns (S : jx_S)  : Option (Int32) :=
  some ((2 * (S.1 13)) + 1)
set_option maxHeartbeats 4000000 in
set_option maxRecDepth 100000 in
theorem c_Q_countColumns (l : Launch) (G : jx_G) (S : jx_S)  (fin : Int32) (h : f_Q_countColumns S = some fin) : jx_M l y_Q_countColumns b_Q_countColumns 1 (some .int) 0 G [.ref (jx_ad G 3)] (jx_w G S) (some (.int fin), jx_w G S) := by
  refine jx_met (own := "PlaneCells$Plane") (by decide) rfl (Nat.le_of_ble_eq_true rfl) (fun X hX hl => ?_)
  subst hl
  refine jx_L (L2 := [(0, .ref (jx_ad G 3))]) rfl ?_
  unfold f_Q_countColumns at h
  refine jx_iconst (v := 2) hX d_Q_countColumns_0 (by decide) ?_
  refine jx_aload_n hX d_Q_countColumns_1 0 rfl rfl ?_
  refine gf_Q_12 hX d_Q_countColumns_2 ?_
  refine gf_Q_63 hX d_Q_countColumns_5 rfl ?_
  refine jx_imul hX d_Q_countColumns_8 ?_
  refine jx_iconst (v := 1) hX d_Q_countColumns_9 (by decide) ?_
  refine jx_iadd hX d_Q_countColumns_10 ?_
  obtain rfl := Option.some.inj h
  exact jx_iret hX d_Q_countColumns_11

def b_Q_addZero_5 (x1 : Int32) (x2 : Int32) (z : jx_S × Int32 × Int32) : Option ((jx_S × Int32 × Int32) ⊕ ((jx_S × Int32) ⊕ jx_S)) :=
  if x2 ≤ z.2.2 then
    some (.inr (.inl (z.1, z.2.1)))
  else
    if jx_in z.2.2 8 = true then
      if ((z.1.2.1 9) (z.2.2).toNatClampNeg) = 0 then
        some (.inl (z.1, z.2.1, (z.2.2 + 1)))
      else
        (f_F_setPair z.1 x2 z.2.2).bind fun q35_2 =>
          (f_C_signInColumn q35_2 x1).bind fun q47_3 =>
            if jx_in x2 8 = true then
              if ((q47_3 * ((q35_2.2.1 9) (x2).toNatClampNeg)) * ((q35_2.2.1 9) (z.2.2).toNatClampNeg)) = 0 then
                some (.inr (.inr (jx_g q35_2 11 (upd (q35_2.2.1 11) (x2).toNatClampNeg ((q35_2.2.1 11) (z.2.2).toNatClampNeg)))))
              else
                if ((q47_3 * ((q35_2.2.1 9) (x2).toNatClampNeg)) * ((q35_2.2.1 9) (z.2.2).toNatClampNeg)) ≤ 0 then
                  some (.inl (q35_2, z.2.1, (z.2.2 + 1)))
                else
                  some (.inl (q35_2, (jx_mx z.2.1 (((q35_2.2.1 11) (z.2.2).toNatClampNeg) + 2)), (z.2.2 + 1)))
            else none
    else none

def b_Q_addZero_114 (x1 : Int32) (x2 : Int32) (x3 : Int32) (z : jx_S × Int32) : Option ((jx_S × Int32) ⊕ (jx_S)) :=
  if x2 ≤ z.2 then
    some (.inr z.1)
  else
    if jx_in z.2 8 = true then
      if ((z.1.2.1 11) (z.2).toNatClampNeg) < x3 then
        some (.inl (z.1, (z.2 + 1)))
      else
        some (.inl ((jx_g z.1 11 (upd (z.1.2.1 11) (z.2).toNatClampNeg (((z.1.2.1 11) (z.2).toNatClampNeg) + 2))), (z.2 + 1)))
    else none

def f_Q_addZero (S : jx_S) (a1 : Int32) (a2 : Int32) : Option (jx_S) :=
  (jx_lp (b_Q_addZero_5 a1 a2) jx_N (S, 1, 0)).bind (Sum.elim (fun z5_5 =>
    (jx_lp (b_Q_addZero_114 a1 a2 z5_5.2) jx_N (z5_5.1, 0)).bind fun z114_7 =>
      if jx_in a2 8 = true then
        some (jx_f (jx_g z114_7 11 (upd (z114_7.2.1 11) (a2).toNatClampNeg z5_5.2)) 12 ((z114_7.1 12) + 2))
      else none)
    (fun y => some y))
set_option maxHeartbeats 4000000 in
set_option maxRecDepth 100000 in
theorem lt_Q_addZero_5 {G : jx_G} {X : jx_C} (hX : jx_Ok G X b_Q_addZero "PlaneCells$Plane" none 6 3) (fin : jx_S) (x1 : Int32) (x2 : Int32) {n : Nat} {z : jx_S × Int32 × Int32} {r : (jx_S × Int32) ⊕ jx_S} (hz : jx_lp (b_Q_addZero_5 x1 x2) n z = some r) (hk : ∀ u, r = .inl u → jx_At G X (none, jx_w G fin) (jx_w G u.1) 111 [(0, .ref (jx_ad G 3)), (1, .int x1), (2, .int x2), (3, .int u.2)] []) (hy : ∀ y, r = .inr y → y = fin) : jx_At G X (none, jx_w G fin) (jx_w G z.1) 5 [(0, .ref (jx_ad G 3)), (1, .int x1), (2, .int x2), (3, .int z.2.1), (4, .int z.2.2)] [] := by
  refine jx_loop2 (b_Q_addZero_5 x1 x2) (fun z => jx_At G X (none, jx_w G fin) (jx_w G z.1) 5 [(0, .ref (jx_ad G 3)), (1, .int x1), (2, .int x2), (3, .int z.2.1), (4, .int z.2.2)] []) (fun z => jx_At G X (none, jx_w G fin) (jx_w G z.1) 111 [(0, .ref (jx_ad G 3)), (1, .int x1), (2, .int x2), (3, .int z.2)] []) fin ?_ n z r hz hk hy
  intro z o h hi hx hr
  unfold b_Q_addZero_5 at h
  refine jx_iload hX d_Q_addZero_5 4 rfl ?_
  refine jx_iload_n hX d_Q_addZero_7 2 rfl rfl ?_
  refine jx_icmp_ge hX d_Q_addZero_8 rfl (fun hc => ?_) (fun hc => ?_)
  · have h := jx_ip hc h
    refine jx_sub (L2 := [(0, .ref (jx_ad G 3)), (1, .int x1), (2, .int x2), (3, .int z.2.1)]) [0, 1, 2, 3] rfl ?_
    obtain rfl := Option.some.inj h
    exact hx _ rfl
  · have h := jx_in_ hc h
    refine jx_aload_n hX d_Q_addZero_11 0 rfl rfl ?_
    refine gf_Q_25 hX d_Q_addZero_12 ?_
    refine jx_iload hX d_Q_addZero_15 4 rfl ?_
    obtain ⟨hg1, h⟩ := jx_gd h
    refine al_9 hX d_Q_addZero_17 rfl hg1 ?_
    refine jx_if_ne hX d_Q_addZero_18 rfl (fun hc => ?_) (fun hc => ?_)
    · have h := jx_in_ hc h
      refine jx_aload_n hX d_Q_addZero_24 0 rfl rfl ?_
      refine gf_Q_21 hX d_Q_addZero_25 ?_
      refine jx_aload_n hX d_Q_addZero_28 0 rfl rfl ?_
      refine gf_Q_35 hX d_Q_addZero_29 ?_
      refine jx_iload_n hX d_Q_addZero_32 2 rfl rfl ?_
      refine jx_iload hX d_Q_addZero_33 4 rfl ?_
      obtain ⟨q35_2, hq35_2, h⟩ := jx_bd h
      refine cs_Q_59 hX (c_F_setPair (jx_l X) G z.1 x2 z.2.2 q35_2 hq35_2) d_Q_addZero_35 (by decide) (Nat.le_of_ble_eq_true rfl) ?_
      refine jx_aload_n hX d_Q_addZero_38 0 rfl rfl ?_
      refine gf_Q_12 hX d_Q_addZero_39 ?_
      refine jx_iload_n hX d_Q_addZero_42 1 rfl rfl ?_
      refine jx_aload_n hX d_Q_addZero_43 0 rfl rfl ?_
      refine gf_Q_21 hX d_Q_addZero_44 ?_
      obtain ⟨q47_3, hq47_3, h⟩ := jx_bd h
      refine cs_Q_69 hX (c_C_signInColumn (jx_l X) G q35_2 x1 q47_3 hq47_3) d_Q_addZero_47 (by decide) (Nat.le_of_ble_eq_true rfl) ?_
      refine jx_aload_n hX d_Q_addZero_50 0 rfl rfl ?_
      refine gf_Q_25 hX d_Q_addZero_51 ?_
      refine jx_iload_n hX d_Q_addZero_54 2 rfl rfl ?_
      obtain ⟨hg4, h⟩ := jx_gd h
      refine al_9 hX d_Q_addZero_55 rfl hg4 ?_
      refine jx_imul hX d_Q_addZero_56 ?_
      refine jx_aload_n hX d_Q_addZero_57 0 rfl rfl ?_
      refine gf_Q_25 hX d_Q_addZero_58 ?_
      refine jx_iload hX d_Q_addZero_61 4 rfl ?_
      refine al_9 hX d_Q_addZero_63 rfl hg1 ?_
      refine jx_imul hX d_Q_addZero_64 ?_
      refine jx_istore hX d_Q_addZero_65 (by decide) (L2 := [(5, .int ((q47_3 * ((q35_2.2.1 9) (x2).toNatClampNeg)) * ((q35_2.2.1 9) (z.2.2).toNatClampNeg))), (0, .ref (jx_ad G 3)), (1, .int x1), (2, .int x2), (3, .int z.2.1), (4, .int z.2.2)]) rfl ?_
      refine jx_iload hX d_Q_addZero_67 0 rfl ?_
      refine jx_if_ne hX d_Q_addZero_69 rfl (fun hc => ?_) (fun hc => ?_)
      · have h := jx_in_ hc h
        refine jx_iload hX d_Q_addZero_86 0 rfl ?_
        refine jx_if_le hX d_Q_addZero_88 rfl (fun hc => ?_) (fun hc => ?_)
        · have h := jx_ip hc h
          refine jx_iinc (v := (z.2.2 + 1)) hX d_Q_addZero_105 5 rfl (by first | rfl | decide) (by decide) (L2 := [(4, .int (z.2.2 + 1)), (5, .int ((q47_3 * ((q35_2.2.1 9) (x2).toNatClampNeg)) * ((q35_2.2.1 9) (z.2.2).toNatClampNeg))), (0, .ref (jx_ad G 3)), (1, .int x1), (2, .int x2), (3, .int z.2.1)]) rfl ?_
          refine jx_goto hX d_Q_addZero_108 rfl ?_
          refine jx_sub (L2 := [(0, .ref (jx_ad G 3)), (1, .int x1), (2, .int x2), (3, .int z.2.1), (4, .int (z.2.2 + 1))]) [2, 3, 4, 5, 0] rfl ?_
          obtain rfl := Option.some.inj h
          exact hi _ rfl
        · have h := jx_in_ hc h
          refine jx_iload_n hX d_Q_addZero_91 4 rfl rfl ?_
          refine jx_aload_n hX d_Q_addZero_92 1 rfl rfl ?_
          refine gf_Q_32 hX d_Q_addZero_93 ?_
          refine jx_iload hX d_Q_addZero_96 5 rfl ?_
          refine al_11 hX d_Q_addZero_98 rfl hg1 ?_
          refine jx_iconst (v := 2) hX d_Q_addZero_99 (by decide) ?_
          refine jx_iadd hX d_Q_addZero_100 ?_
          refine jx_mx_r hX wm_359 d_Q_addZero_101 (Nat.le_of_ble_eq_true rfl) (by decide) ?_
          refine jx_istore_n hX d_Q_addZero_104 rfl (by decide) (L2 := [(3, .int (jx_mx z.2.1 (((q35_2.2.1 11) (z.2.2).toNatClampNeg) + 2))), (5, .int ((q47_3 * ((q35_2.2.1 9) (x2).toNatClampNeg)) * ((q35_2.2.1 9) (z.2.2).toNatClampNeg))), (0, .ref (jx_ad G 3)), (1, .int x1), (2, .int x2), (4, .int z.2.2)]) rfl ?_
          refine jx_iinc (v := (z.2.2 + 1)) hX d_Q_addZero_105 5 rfl (by first | rfl | decide) (by decide) (L2 := [(4, .int (z.2.2 + 1)), (3, .int (jx_mx z.2.1 (((q35_2.2.1 11) (z.2.2).toNatClampNeg) + 2))), (5, .int ((q47_3 * ((q35_2.2.1 9) (x2).toNatClampNeg)) * ((q35_2.2.1 9) (z.2.2).toNatClampNeg))), (0, .ref (jx_ad G 3)), (1, .int x1), (2, .int x2)]) rfl ?_
          refine jx_goto hX d_Q_addZero_108 rfl ?_
          refine jx_sub (L2 := [(0, .ref (jx_ad G 3)), (1, .int x1), (2, .int x2), (3, .int (jx_mx z.2.1 (((q35_2.2.1 11) (z.2.2).toNatClampNeg) + 2))), (4, .int (z.2.2 + 1))]) [3, 4, 5, 1, 0] rfl ?_
          obtain rfl := Option.some.inj h
          exact hi _ rfl
      · have h := jx_ip hc h
        refine jx_aload_n hX d_Q_addZero_72 1 rfl rfl ?_
        refine gf_Q_32 hX d_Q_addZero_73 ?_
        refine jx_iload_n hX d_Q_addZero_76 3 rfl rfl ?_
        refine jx_aload_n hX d_Q_addZero_77 1 rfl rfl ?_
        refine gf_Q_32 hX d_Q_addZero_78 ?_
        refine jx_iload hX d_Q_addZero_81 5 rfl ?_
        refine al_11 hX d_Q_addZero_83 rfl hg1 ?_
        refine as_11 hX d_Q_addZero_84 rfl hg4 ?_
        obtain rfl := Option.some.inj h
        obtain rfl := hr _ rfl
        exact jx_vret hX d_Q_addZero_85
    · have h := jx_ip hc h
      refine jx_goto hX d_Q_addZero_21 rfl ?_
      refine jx_iinc (v := (z.2.2 + 1)) hX d_Q_addZero_105 4 rfl (by first | rfl | decide) (by decide) (L2 := [(4, .int (z.2.2 + 1)), (0, .ref (jx_ad G 3)), (1, .int x1), (2, .int x2), (3, .int z.2.1)]) rfl ?_
      refine jx_goto hX d_Q_addZero_108 rfl ?_
      refine jx_sub (L2 := [(0, .ref (jx_ad G 3)), (1, .int x1), (2, .int x2), (3, .int z.2.1), (4, .int (z.2.2 + 1))]) [1, 2, 3, 4, 0] rfl ?_
      obtain rfl := Option.some.inj h
      exact hi _ rfl

set_option maxHeartbeats 4000000 in
set_option maxRecDepth 100000 in
theorem lt_Q_addZero_114 {G : jx_G} {X : jx_C} (hX : jx_Ok G X b_Q_addZero "PlaneCells$Plane" none 6 3) (fin : jx_S) (x1 : Int32) (x2 : Int32) (x3 : Int32) {n : Nat} {z : jx_S × Int32} {r : jx_S} (hz : jx_lp (b_Q_addZero_114 x1 x2 x3) n z = some r) (hk : jx_At G X (none, jx_w G fin) (jx_w G r) 148 [(0, .ref (jx_ad G 3)), (1, .int x1), (2, .int x2), (3, .int x3)] []) : jx_At G X (none, jx_w G fin) (jx_w G z.1) 114 [(0, .ref (jx_ad G 3)), (1, .int x1), (2, .int x2), (3, .int x3), (4, .int z.2)] [] := by
  refine jx_loop1 (b_Q_addZero_114 x1 x2 x3) (fun z => jx_At G X (none, jx_w G fin) (jx_w G z.1) 114 [(0, .ref (jx_ad G 3)), (1, .int x1), (2, .int x2), (3, .int x3), (4, .int z.2)] []) (fun z => jx_At G X (none, jx_w G fin) (jx_w G z) 148 [(0, .ref (jx_ad G 3)), (1, .int x1), (2, .int x2), (3, .int x3)] []) ?_ n z r hz hk
  intro z o h hi hx
  unfold b_Q_addZero_114 at h
  refine jx_iload hX d_Q_addZero_114 4 rfl ?_
  refine jx_iload_n hX d_Q_addZero_116 2 rfl rfl ?_
  refine jx_icmp_ge hX d_Q_addZero_117 rfl (fun hc => ?_) (fun hc => ?_)
  · have h := jx_ip hc h
    refine jx_sub (L2 := [(0, .ref (jx_ad G 3)), (1, .int x1), (2, .int x2), (3, .int x3)]) [0, 1, 2, 3] rfl ?_
    obtain rfl := Option.some.inj h
    exact hx _ rfl
  · have h := jx_in_ hc h
    refine jx_aload_n hX d_Q_addZero_120 0 rfl rfl ?_
    refine gf_Q_32 hX d_Q_addZero_121 ?_
    refine jx_iload hX d_Q_addZero_124 4 rfl ?_
    obtain ⟨hg6, h⟩ := jx_gd h
    refine al_11 hX d_Q_addZero_126 rfl hg6 ?_
    refine jx_iload_n hX d_Q_addZero_127 3 rfl rfl ?_
    refine jx_icmp_lt hX d_Q_addZero_128 rfl (fun hc => ?_) (fun hc => ?_)
    · have h := jx_ip hc h
      refine jx_iinc (v := (z.2 + 1)) hX d_Q_addZero_142 4 rfl (by first | rfl | decide) (by decide) (L2 := [(4, .int (z.2 + 1)), (0, .ref (jx_ad G 3)), (1, .int x1), (2, .int x2), (3, .int x3)]) rfl ?_
      refine jx_goto hX d_Q_addZero_145 rfl ?_
      refine jx_sub (L2 := [(0, .ref (jx_ad G 3)), (1, .int x1), (2, .int x2), (3, .int x3), (4, .int (z.2 + 1))]) [1, 2, 3, 4, 0] rfl ?_
      obtain rfl := Option.some.inj h
      exact hi _ rfl
    · have h := jx_in_ hc h
      refine jx_aload_n hX d_Q_addZero_131 0 rfl rfl ?_
      refine gf_Q_32 hX d_Q_addZero_132 ?_
      refine jx_iload hX d_Q_addZero_135 4 rfl ?_
      refine jx_dup2 hX d_Q_addZero_137 rfl rfl ?_
      refine al_11 hX d_Q_addZero_138 rfl hg6 ?_
      refine jx_iconst (v := 2) hX d_Q_addZero_139 (by decide) ?_
      refine jx_iadd hX d_Q_addZero_140 ?_
      refine as_11 hX d_Q_addZero_141 rfl hg6 ?_
      refine jx_iinc (v := (z.2 + 1)) hX d_Q_addZero_142 4 rfl (by first | rfl | decide) (by decide) (L2 := [(4, .int (z.2 + 1)), (0, .ref (jx_ad G 3)), (1, .int x1), (2, .int x2), (3, .int x3)]) rfl ?_
      refine jx_goto hX d_Q_addZero_145 rfl ?_
      refine jx_sub (L2 := [(0, .ref (jx_ad G 3)), (1, .int x1), (2, .int x2), (3, .int x3), (4, .int (z.2 + 1))]) [1, 2, 3, 4, 0] rfl ?_
      obtain rfl := Option.some.inj h
      exact hi _ rfl

set_option maxHeartbeats 4000000 in
set_option maxRecDepth 100000 in
theorem c_Q_addZero (l : Launch) (G : jx_G) (S : jx_S) (a1 : Int32) (a2 : Int32) (fin : jx_S) (h : f_Q_addZero S a1 a2 = some fin) : jx_M l y_Q_addZero b_Q_addZero 6 none 3 G [.ref (jx_ad G 3), .int a1, .int a2] (jx_w G S) (none, jx_w G fin) := by
  refine jx_met (own := "PlaneCells$Plane") (by decide) rfl (Nat.le_of_ble_eq_true rfl) (fun X hX hl => ?_)
  subst hl
  refine jx_L (L2 := [(0, .ref (jx_ad G 3)), (1, .int a1), (2, .int a2)]) rfl ?_
  unfold f_Q_addZero at h
  refine jx_iconst (v := 1) hX d_Q_addZero_0 (by decide) ?_
  refine jx_istore_n hX d_Q_addZero_1 rfl (by decide) (L2 := [(3, .int 1), (0, .ref (jx_ad G 3)), (1, .int a1), (2, .int a2)]) rfl ?_
  refine jx_iconst (v := 0) hX d_Q_addZero_2 (by decide) ?_
  refine jx_istore hX d_Q_addZero_3 (by decide) (L2 := [(4, .int 0), (3, .int 1), (0, .ref (jx_ad G 3)), (1, .int a1), (2, .int a2)]) rfl ?_
  refine jx_sub (L2 := [(0, .ref (jx_ad G 3)), (1, .int a1), (2, .int a2), (3, .int 1), (4, .int 0)]) [2, 3, 4, 1, 0] rfl ?_
  obtain ⟨r, hz, h⟩ := jx_bd h
  refine lt_Q_addZero_5 hX fin a1 a2 hz (fun z5_5 e => ?_) (fun y e => ?_)
  · subst e
    have h := jx_el h
    refine jx_iconst (v := 0) hX d_Q_addZero_111 (by decide) ?_
    refine jx_istore hX d_Q_addZero_112 (by decide) (L2 := [(4, .int 0), (0, .ref (jx_ad G 3)), (1, .int a1), (2, .int a2), (3, .int z5_5.2)]) rfl ?_
    refine jx_sub (L2 := [(0, .ref (jx_ad G 3)), (1, .int a1), (2, .int a2), (3, .int z5_5.2), (4, .int 0)]) [1, 2, 3, 4, 0] rfl ?_
    obtain ⟨z114_7, hz, h⟩ := jx_bd h
    refine lt_Q_addZero_114 hX fin a1 a2 z5_5.2 hz ?_
    refine jx_aload_n hX d_Q_addZero_148 0 rfl rfl ?_
    refine gf_Q_32 hX d_Q_addZero_149 ?_
    refine jx_iload_n hX d_Q_addZero_152 2 rfl rfl ?_
    refine jx_iload_n hX d_Q_addZero_153 3 rfl rfl ?_
    obtain ⟨hg8, h⟩ := jx_gd h
    refine as_11 hX d_Q_addZero_154 rfl hg8 ?_
    refine jx_aload_n hX d_Q_addZero_155 0 rfl rfl ?_
    refine jx_dup hX d_Q_addZero_156 rfl ?_
    refine gf_Q_66 hX d_Q_addZero_157 (x := (z114_7.1 12)) rfl ?_
    refine jx_iconst (v := 2) hX d_Q_addZero_160 (by decide) ?_
    refine jx_iadd hX d_Q_addZero_161 ?_
    refine pf_Q_66 hX d_Q_addZero_162 ?_
    obtain rfl := Option.some.inj h
    exact jx_vret hX d_Q_addZero_165
  · subst e
    have h := jx_er h
    exact Option.some.inj h

def b_Q_enter_7 (x1 : Int32) (z : jx_S × Int32) : Option ((jx_S × Int32) ⊕ (jx_S)) :=
  if (z.1.1 4) ≤ z.2 then
    some (.inr z.1)
  else
    (f_F_setA z.1 z.2).bind fun q27_1 =>
      (f_C_signInColumn q27_1 x1).bind fun q44_2 =>
        if jx_in z.2 8 = true then
          (f_F_setB (jx_g q27_1 9 (upd (q27_1.2.1 9) (z.2).toNatClampNeg q44_2)) z.2).bind fun q57_4 =>
            (f_C_signInColumn q57_4 x1).bind fun q74_5 =>
              if ((q57_4.2.1 9) (z.2).toNatClampNeg) = 0 then
                some (.inl ((jx_g (jx_g q57_4 10 (upd (q57_4.2.1 10) (z.2).toNatClampNeg q74_5)) 11 (upd (q57_4.2.1 11) (z.2).toNatClampNeg 0)), (z.2 + 1)))
              else
                (f_Q_addZero (jx_g (jx_g q57_4 10 (upd (q57_4.2.1 10) (z.2).toNatClampNeg q74_5)) 11 (upd (q57_4.2.1 11) (z.2).toNatClampNeg 0)) x1 z.2).bind fun q97_6 =>
                  some (.inl (q97_6, (z.2 + 1)))
        else none

def f_Q_enter (S : jx_S) (a1 : Int32) : Option (jx_S) :=
  (jx_lp (b_Q_enter_7 a1) jx_N ((jx_f S 12 1), 0)).bind fun z7_7 =>
    some z7_7
set_option maxHeartbeats 4000000 in
set_option maxRecDepth 100000 in
theorem lt_Q_enter_7 {G : jx_G} {X : jx_C} (hX : jx_Ok G X b_Q_enter "PlaneCells$Plane" none 3 4) (fin : jx_S) (x1 : Int32) {n : Nat} {z : jx_S × Int32} {r : jx_S} (hz : jx_lp (b_Q_enter_7 x1) n z = some r) (hk : jx_At G X (none, jx_w G fin) (jx_w G r) 106 [(0, .ref (jx_ad G 3)), (1, .int x1)] []) : jx_At G X (none, jx_w G fin) (jx_w G z.1) 7 [(0, .ref (jx_ad G 3)), (1, .int x1), (2, .int z.2)] [] := by
  refine jx_loop1 (b_Q_enter_7 x1) (fun z => jx_At G X (none, jx_w G fin) (jx_w G z.1) 7 [(0, .ref (jx_ad G 3)), (1, .int x1), (2, .int z.2)] []) (fun z => jx_At G X (none, jx_w G fin) (jx_w G z) 106 [(0, .ref (jx_ad G 3)), (1, .int x1)] []) ?_ n z r hz hk
  intro z o h hi hx
  unfold b_Q_enter_7 at h
  refine jx_iload_n hX d_Q_enter_7 2 rfl rfl ?_
  refine jx_aload_n hX d_Q_enter_8 0 rfl rfl ?_
  refine gf_Q_35 hX d_Q_enter_9 ?_
  refine gf_Q_42 hX d_Q_enter_12 rfl ?_
  refine jx_icmp_ge hX d_Q_enter_15 rfl (fun hc => ?_) (fun hc => ?_)
  · have h := jx_ip hc h
    refine jx_sub (L2 := [(0, .ref (jx_ad G 3)), (1, .int x1)]) [0, 1] rfl ?_
    obtain rfl := Option.some.inj h
    exact hx _ rfl
  · have h := jx_in_ hc h
    refine jx_aload_n hX d_Q_enter_18 0 rfl rfl ?_
    refine gf_Q_21 hX d_Q_enter_19 ?_
    refine jx_aload_n hX d_Q_enter_22 0 rfl rfl ?_
    refine gf_Q_35 hX d_Q_enter_23 ?_
    refine jx_iload_n hX d_Q_enter_26 2 rfl rfl ?_
    obtain ⟨q27_1, hq27_1, h⟩ := jx_bd h
    refine cs_Q_48 hX (c_F_setA (jx_l X) G z.1 z.2 q27_1 hq27_1) d_Q_enter_27 (by decide) (Nat.le_of_ble_eq_true rfl) ?_
    refine jx_aload_n hX d_Q_enter_30 0 rfl rfl ?_
    refine gf_Q_25 hX d_Q_enter_31 ?_
    refine jx_iload_n hX d_Q_enter_34 2 rfl rfl ?_
    refine jx_aload_n hX d_Q_enter_35 0 rfl rfl ?_
    refine gf_Q_12 hX d_Q_enter_36 ?_
    refine jx_iload_n hX d_Q_enter_39 1 rfl rfl ?_
    refine jx_aload_n hX d_Q_enter_40 0 rfl rfl ?_
    refine gf_Q_21 hX d_Q_enter_41 ?_
    obtain ⟨q44_2, hq44_2, h⟩ := jx_bd h
    refine cs_Q_69 hX (c_C_signInColumn (jx_l X) G q27_1 x1 q44_2 hq44_2) d_Q_enter_44 (by decide) (Nat.le_of_ble_eq_true rfl) ?_
    obtain ⟨hg3, h⟩ := jx_gd h
    refine as_9 hX d_Q_enter_47 rfl hg3 ?_
    refine jx_aload_n hX d_Q_enter_48 0 rfl rfl ?_
    refine gf_Q_21 hX d_Q_enter_49 ?_
    refine jx_aload_n hX d_Q_enter_52 0 rfl rfl ?_
    refine gf_Q_35 hX d_Q_enter_53 ?_
    refine jx_iload_n hX d_Q_enter_56 2 rfl rfl ?_
    obtain ⟨q57_4, hq57_4, h⟩ := jx_bd h
    refine cs_Q_56 hX (c_F_setB (jx_l X) G (jx_g q27_1 9 (upd (q27_1.2.1 9) (z.2).toNatClampNeg q44_2)) z.2 q57_4 hq57_4) d_Q_enter_57 (by decide) (Nat.le_of_ble_eq_true rfl) ?_
    refine jx_aload_n hX d_Q_enter_60 0 rfl rfl ?_
    refine gf_Q_29 hX d_Q_enter_61 ?_
    refine jx_iload_n hX d_Q_enter_64 2 rfl rfl ?_
    refine jx_aload_n hX d_Q_enter_65 0 rfl rfl ?_
    refine gf_Q_12 hX d_Q_enter_66 ?_
    refine jx_iload_n hX d_Q_enter_69 1 rfl rfl ?_
    refine jx_aload_n hX d_Q_enter_70 0 rfl rfl ?_
    refine gf_Q_21 hX d_Q_enter_71 ?_
    obtain ⟨q74_5, hq74_5, h⟩ := jx_bd h
    refine cs_Q_69 hX (c_C_signInColumn (jx_l X) G q57_4 x1 q74_5 hq74_5) d_Q_enter_74 (by decide) (Nat.le_of_ble_eq_true rfl) ?_
    refine as_10 hX d_Q_enter_77 rfl hg3 ?_
    refine jx_aload_n hX d_Q_enter_78 0 rfl rfl ?_
    refine gf_Q_32 hX d_Q_enter_79 ?_
    refine jx_iload_n hX d_Q_enter_82 2 rfl rfl ?_
    refine jx_iconst (v := 0) hX d_Q_enter_83 (by decide) ?_
    refine as_11 hX d_Q_enter_84 (f := (q57_4.2.1 11)) rfl hg3 ?_
    refine jx_aload_n hX d_Q_enter_85 0 rfl rfl ?_
    refine gf_Q_25 hX d_Q_enter_86 ?_
    refine jx_iload_n hX d_Q_enter_89 2 rfl rfl ?_
    refine al_9 hX d_Q_enter_90 (f := (q57_4.2.1 9)) rfl hg3 ?_
    refine jx_if_eq hX d_Q_enter_91 rfl (fun hc => ?_) (fun hc => ?_)
    · have h := jx_ip hc h
      refine jx_iinc (v := (z.2 + 1)) hX d_Q_enter_100 2 rfl (by first | rfl | decide) (by decide) (L2 := [(2, .int (z.2 + 1)), (0, .ref (jx_ad G 3)), (1, .int x1)]) rfl ?_
      refine jx_goto hX d_Q_enter_103 rfl ?_
      refine jx_sub (L2 := [(0, .ref (jx_ad G 3)), (1, .int x1), (2, .int (z.2 + 1))]) [1, 2, 0] rfl ?_
      obtain rfl := Option.some.inj h
      exact hi _ rfl
    · have h := jx_in_ hc h
      refine jx_aload_n hX d_Q_enter_94 0 rfl rfl ?_
      refine jx_iload_n hX d_Q_enter_95 1 rfl rfl ?_
      refine jx_iload_n hX d_Q_enter_96 2 rfl rfl ?_
      obtain ⟨q97_6, hq97_6, h⟩ := jx_bd h
      refine cs_Q_73 hX (c_Q_addZero (jx_l X) G (jx_g (jx_g q57_4 10 (upd (q57_4.2.1 10) (z.2).toNatClampNeg q74_5)) 11 (upd (q57_4.2.1 11) (z.2).toNatClampNeg 0)) x1 z.2 q97_6 hq97_6) d_Q_enter_97 (by decide) (Nat.le_of_ble_eq_true rfl) ?_
      refine jx_iinc (v := (z.2 + 1)) hX d_Q_enter_100 2 rfl (by first | rfl | decide) (by decide) (L2 := [(2, .int (z.2 + 1)), (0, .ref (jx_ad G 3)), (1, .int x1)]) rfl ?_
      refine jx_goto hX d_Q_enter_103 rfl ?_
      refine jx_sub (L2 := [(0, .ref (jx_ad G 3)), (1, .int x1), (2, .int (z.2 + 1))]) [1, 2, 0] rfl ?_
      obtain rfl := Option.some.inj h
      exact hi _ rfl

set_option maxHeartbeats 4000000 in
set_option maxRecDepth 100000 in
theorem c_Q_enter (l : Launch) (G : jx_G) (S : jx_S) (a1 : Int32) (fin : jx_S) (h : f_Q_enter S a1 = some fin) : jx_M l y_Q_enter b_Q_enter 3 none 4 G [.ref (jx_ad G 3), .int a1] (jx_w G S) (none, jx_w G fin) := by
  refine jx_met (own := "PlaneCells$Plane") (by decide) rfl (Nat.le_of_ble_eq_true rfl) (fun X hX hl => ?_)
  subst hl
  refine jx_L (L2 := [(0, .ref (jx_ad G 3)), (1, .int a1)]) rfl ?_
  unfold f_Q_enter at h
  refine jx_aload_n hX d_Q_enter_0 0 rfl rfl ?_
  refine jx_iconst (v := 1) hX d_Q_enter_1 (by decide) ?_
  refine pf_Q_66 hX d_Q_enter_2 ?_
  refine jx_iconst (v := 0) hX d_Q_enter_5 (by decide) ?_
  refine jx_istore_n hX d_Q_enter_6 rfl (by decide) (L2 := [(2, .int 0), (0, .ref (jx_ad G 3)), (1, .int a1)]) rfl ?_
  refine jx_sub (L2 := [(0, .ref (jx_ad G 3)), (1, .int a1), (2, .int 0)]) [1, 2, 0] rfl ?_
  obtain ⟨z7_7, hz, h⟩ := jx_bd h
  refine lt_Q_enter_7 hX fin a1 hz ?_
  obtain rfl := Option.some.inj h
  exact jx_vret hX d_Q_enter_106

def f_Q_signIn (S : jx_S) (a1 : Int32) (a2 : Int32) : Option (Int32) :=
  if jx_in a2 8 = true then
    if ((S.2.1 9) (a2).toNatClampNeg) = 0 then
      some ((S.2.1 10) (a2).toNatClampNeg)
    else
      some (((S.2.1 9) (a2).toNatClampNeg) * (jx_si (a1 - ((S.2.1 11) (a2).toNatClampNeg))))
  else none
set_option maxHeartbeats 4000000 in
set_option maxRecDepth 100000 in
theorem c_Q_signIn (l : Launch) (G : jx_G) (S : jx_S) (a1 : Int32) (a2 : Int32) (fin : Int32) (h : f_Q_signIn S a1 a2 = some fin) : jx_M l y_Q_signIn b_Q_signIn 3 (some .int) 1 G [.ref (jx_ad G 3), .int a1, .int a2] (jx_w G S) (some (.int fin), jx_w G S) := by
  refine jx_met (own := "PlaneCells$Plane") (by decide) rfl (Nat.le_of_ble_eq_true rfl) (fun X hX hl => ?_)
  subst hl
  refine jx_L (L2 := [(0, .ref (jx_ad G 3)), (1, .int a1), (2, .int a2)]) rfl ?_
  unfold f_Q_signIn at h
  refine jx_aload_n hX d_Q_signIn_0 0 rfl rfl ?_
  refine gf_Q_25 hX d_Q_signIn_1 ?_
  refine jx_iload_n hX d_Q_signIn_4 2 rfl rfl ?_
  obtain ⟨hg1, h⟩ := jx_gd h
  refine al_9 hX d_Q_signIn_5 rfl hg1 ?_
  refine jx_if_ne hX d_Q_signIn_6 rfl (fun hc => ?_) (fun hc => ?_)
  · have h := jx_in_ hc h
    refine jx_aload_n hX d_Q_signIn_18 0 rfl rfl ?_
    refine gf_Q_25 hX d_Q_signIn_19 ?_
    refine jx_iload_n hX d_Q_signIn_22 2 rfl rfl ?_
    refine al_9 hX d_Q_signIn_23 rfl hg1 ?_
    refine jx_iload_n hX d_Q_signIn_24 1 rfl rfl ?_
    refine jx_aload_n hX d_Q_signIn_25 0 rfl rfl ?_
    refine gf_Q_32 hX d_Q_signIn_26 ?_
    refine jx_iload_n hX d_Q_signIn_29 2 rfl rfl ?_
    refine al_11 hX d_Q_signIn_30 rfl hg1 ?_
    refine jx_isub hX d_Q_signIn_31 ?_
    refine jx_si_r hX wm_374 d_Q_signIn_32 (Nat.le_of_ble_eq_true rfl) (by decide) ?_
    refine jx_imul hX d_Q_signIn_35 ?_
    obtain rfl := Option.some.inj h
    exact jx_iret hX d_Q_signIn_36
  · have h := jx_ip hc h
    refine jx_aload_n hX d_Q_signIn_9 0 rfl rfl ?_
    refine gf_Q_29 hX d_Q_signIn_10 ?_
    refine jx_iload_n hX d_Q_signIn_13 2 rfl rfl ?_
    refine al_10 hX d_Q_signIn_14 rfl hg1 ?_
    refine jx_goto hX d_Q_signIn_15 rfl ?_
    obtain rfl := Option.some.inj h
    exact jx_iret hX d_Q_signIn_36

def f_S_atomIsTrue (S : jx_S) (a1 : Int32) (a2 : Int32) : Option (Int32) :=
  if jx_in a1 8 = true then
    if ((S.2.1 1) (a1).toNatClampNeg) = 61 then
      some (if a2 = 0 then 1 else 0 : Int32)
    else
      some (if a2 = (if ((S.2.1 1) (a1).toNatClampNeg) = 60 then (-1) else 1 : Int32) then 1 else 0 : Int32)
  else none
set_option maxHeartbeats 4000000 in
set_option maxRecDepth 100000 in
theorem c_S_atomIsTrue (l : Launch) (G : jx_G) (S : jx_S) (a1 : Int32) (a2 : Int32) (fin : Int32) (h : f_S_atomIsTrue S a1 a2 = some fin) : jx_M l y_S_atomIsTrue b_S_atomIsTrue 3 (some .boolean) 0 G [.ref (jx_ad G 1), .int a1, .int a2] (jx_w G S) (some (.int fin), jx_w G S) := by
  refine jx_met (own := "PlaneCells$Sentence") (by decide) rfl (Nat.le_of_ble_eq_true rfl) (fun X hX hl => ?_)
  subst hl
  refine jx_L (L2 := [(0, .ref (jx_ad G 1)), (1, .int a1), (2, .int a2)]) rfl ?_
  unfold f_S_atomIsTrue at h
  refine jx_aload_n hX d_S_atomIsTrue_0 0 rfl rfl ?_
  refine gf_S_15 hX d_S_atomIsTrue_1 ?_
  refine jx_iload_n hX d_S_atomIsTrue_4 1 rfl rfl ?_
  obtain ⟨hg1, h⟩ := jx_gd h
  refine al_1 hX d_S_atomIsTrue_5 rfl hg1 ?_
  refine jx_bipush (v := 61) hX d_S_atomIsTrue_6 (by decide) ?_
  refine jx_icmp_ne hX d_S_atomIsTrue_8 rfl (fun hc => ?_) (fun hc => ?_)
  · have h := jx_in_ hc h
    refine jx_iload_n hX d_S_atomIsTrue_21 2 rfl rfl ?_
    refine jx_aload_n hX d_S_atomIsTrue_22 0 rfl rfl ?_
    refine gf_S_15 hX d_S_atomIsTrue_23 ?_
    refine jx_iload_n hX d_S_atomIsTrue_26 1 rfl rfl ?_
    refine al_1 hX d_S_atomIsTrue_27 rfl hg1 ?_
    refine jx_bipush (v := 60) hX d_S_atomIsTrue_28 (by decide) ?_
    have hj : ∀ v : Int32, v = (if ((S.2.1 1) (a1).toNatClampNeg) = 60 then (-1) else 1 : Int32) → jx_At G X (some (.int fin), jx_w G S) (jx_w G S) 38 [(0, .ref (jx_ad G 1)), (1, .int a1), (2, .int a2)] [.int v, .int a2] := by
      intro v hv
      subst hv
      have hj : ∀ v : Int32, v = (if a2 = (if ((S.2.1 1) (a1).toNatClampNeg) = 60 then (-1) else 1 : Int32) then 1 else 0 : Int32) → jx_At G X (some (.int fin), jx_w G S) (jx_w G S) 46 [(0, .ref (jx_ad G 1)), (1, .int a1), (2, .int a2)] [.int v] := by
        intro v hv
        subst hv
        obtain rfl := Option.some.inj h
        exact jx_zret hX d_S_atomIsTrue_46 (jx_01n (jx_zi jx_z1 jx_z0))
      refine jx_icmp_ne hX d_S_atomIsTrue_38 rfl (fun hc2 => ?_) (fun hc2 => ?_)
      · refine jx_iconst (v := 0) hX d_S_atomIsTrue_45 (by decide) ?_
        exact hj _ (if_neg hc2).symm
      · refine jx_iconst (v := 1) hX d_S_atomIsTrue_41 (by decide) ?_
        refine jx_goto hX d_S_atomIsTrue_42 rfl ?_
        exact hj _ (if_pos hc2).symm
    refine jx_icmp_ne hX d_S_atomIsTrue_30 rfl (fun hc3 => ?_) (fun hc3 => ?_)
    · refine jx_iconst (v := 1) hX d_S_atomIsTrue_37 (by decide) ?_
      exact hj _ (if_neg hc3).symm
    · refine jx_iconst (v := (-1)) hX d_S_atomIsTrue_33 (by decide) ?_
      refine jx_goto hX d_S_atomIsTrue_34 rfl ?_
      exact hj _ (if_pos hc3).symm
  · have h := jx_ip hc h
    refine jx_iload_n hX d_S_atomIsTrue_11 2 rfl rfl ?_
    have hj : ∀ v : Int32, v = (if a2 = 0 then 1 else 0 : Int32) → jx_At G X (some (.int fin), jx_w G S) (jx_w G S) 20 [(0, .ref (jx_ad G 1)), (1, .int a1), (2, .int a2)] [.int v] := by
      intro v hv
      subst hv
      obtain rfl := Option.some.inj h
      exact jx_zret hX d_S_atomIsTrue_20 (jx_01n (jx_zi jx_z1 jx_z0))
    refine jx_if_ne hX d_S_atomIsTrue_12 rfl (fun hc4 => ?_) (fun hc4 => ?_)
    · refine jx_iconst (v := 0) hX d_S_atomIsTrue_19 (by decide) ?_
      exact hj _ (if_neg hc4).symm
    · refine jx_iconst (v := 1) hX d_S_atomIsTrue_15 (by decide) ?_
      refine jx_goto hX d_S_atomIsTrue_16 rfl ?_
      exact hj _ (if_pos hc4).symm

