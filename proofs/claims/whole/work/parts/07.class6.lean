def f_P_sign (S : jx_S) (a1 : Int32) (a2 : Int32) (a3 : Int32) : Option (Int32 × jx_S) :=
  (f_P_hasPolynomial S a3).bind fun q2_1 =>
    if q2_1 = 0 then
      some (9, S)
    else
      (f_P_enterColumn S a1).bind fun q10_2 =>
        if q10_2.1 = 0 then
          some (9, q10_2.2)
        else
          (f_P_hasCell q10_2.2 a2).bind fun q18_3 =>
            if q18_3 = 0 then
              some (9, q10_2.2)
            else
              (f_Q_signIn q10_2.2 a2 a3).bind fun q33_4 =>
                some (q33_4, q10_2.2)
set_option maxHeartbeats 4000000 in
set_option maxRecDepth 100000 in
theorem c_P_sign (l : Launch) (G : jx_G) (S : jx_S) (a1 : Int32) (a2 : Int32) (a3 : Int32) (fin : Int32 × jx_S) (h : f_P_sign S a1 a2 a3 = some fin) : jx_M l y_P_sign b_P_sign 4 (some .int) 6 G [.ref (jx_ad G 0), .int a1, .int a2, .int a3] (jx_w G S) (some (.int fin.1), jx_w G fin.2) := by
  refine jx_met (own := "PlaneCells") (by decide) rfl (Nat.le_of_ble_eq_true rfl) (fun X hX hl => ?_)
  subst hl
  refine jx_L (L2 := [(0, .ref (jx_ad G 0)), (1, .int a1), (2, .int a2), (3, .int a3)]) rfl ?_
  unfold f_P_sign at h
  refine jx_aload_n hX d_P_sign_0 0 rfl rfl ?_
  refine jx_iload_n hX d_P_sign_1 3 rfl rfl ?_
  obtain ⟨q2_1, hq2_1, h⟩ := jx_bd h
  refine cs_P_87 hX (c_P_hasPolynomial (jx_l X) G S a3 q2_1 hq2_1) d_P_sign_2 (by decide) (Nat.le_of_ble_eq_true rfl) ?_
  refine jx_if_eq hX d_P_sign_5 rfl (fun hc => ?_) (fun hc => ?_)
  · have h := jx_ip hc h
    refine jx_bipush (v := 9) hX d_P_sign_24 (by decide) ?_
    obtain rfl := Option.some.inj h
    exact jx_iret hX d_P_sign_26
  · have h := jx_in_ hc h
    refine jx_aload_n hX d_P_sign_8 0 rfl rfl ?_
    refine jx_iload_n hX d_P_sign_9 1 rfl rfl ?_
    obtain ⟨q10_2, hq10_2, h⟩ := jx_bd h
    refine cs_P_95 hX (c_P_enterColumn (jx_l X) G S a1 q10_2 hq10_2) d_P_sign_10 (by decide) (Nat.le_of_ble_eq_true rfl) ?_
    refine jx_if_eq hX d_P_sign_13 rfl (fun hc => ?_) (fun hc => ?_)
    · have h := jx_ip hc h
      refine jx_bipush (v := 9) hX d_P_sign_24 (by decide) ?_
      obtain rfl := Option.some.inj h
      exact jx_iret hX d_P_sign_26
    · have h := jx_in_ hc h
      refine jx_aload_n hX d_P_sign_16 0 rfl rfl ?_
      refine jx_iload_n hX d_P_sign_17 2 rfl rfl ?_
      obtain ⟨q18_3, hq18_3, h⟩ := jx_bd h
      refine cs_P_101 hX (c_P_hasCell (jx_l X) G q10_2.2 a2 q18_3 hq18_3) d_P_sign_18 (by decide) (Nat.le_of_ble_eq_true rfl) ?_
      refine jx_if_ne hX d_P_sign_21 rfl (fun hc => ?_) (fun hc => ?_)
      · have h := jx_in_ hc h
        refine jx_aload_n hX d_P_sign_27 0 rfl rfl ?_
        refine gf_P_28 hX d_P_sign_28 ?_
        refine jx_iload_n hX d_P_sign_31 2 rfl rfl ?_
        refine jx_iload_n hX d_P_sign_32 3 rfl rfl ?_
        obtain ⟨q33_4, hq33_4, h⟩ := jx_bd h
        refine cs_P_104 hX (c_Q_signIn (jx_l X) G q10_2.2 a2 a3 q33_4 hq33_4) d_P_sign_33 (by decide) (Nat.le_of_ble_eq_true rfl) ?_
        obtain rfl := Option.some.inj h
        exact jx_iret hX d_P_sign_36
      · have h := jx_ip hc h
        refine jx_bipush (v := 9) hX d_P_sign_24 (by decide) ?_
        obtain rfl := Option.some.inj h
        exact jx_iret hX d_P_sign_26

def f_P_truth (S : jx_S) (a1 : Int32) (a2 : Int32) : Option (Int32 × jx_S) :=
  (f_P_enterColumn S a1).bind fun q2_1 =>
    if q2_1.1 = 0 then
      some (9, q2_1.2)
    else
      (f_P_hasCell q2_1.2 a2).bind fun q10_2 =>
        if q10_2 = 0 then
          some (9, q2_1.2)
        else
          (f_Q_trueIn q2_1.2 a2).bind fun q24_3 =>
            some ((if q24_3 = 0 then 0 else 1 : Int32), q2_1.2)
set_option maxHeartbeats 4000000 in
set_option maxRecDepth 100000 in
theorem c_P_truth (l : Launch) (G : jx_G) (S : jx_S) (a1 : Int32) (a2 : Int32) (fin : Int32 × jx_S) (h : f_P_truth S a1 a2 = some fin) : jx_M l y_P_truth b_P_truth 3 (some .int) 6 G [.ref (jx_ad G 0), .int a1, .int a2] (jx_w G S) (some (.int fin.1), jx_w G fin.2) := by
  refine jx_met (own := "PlaneCells") (by decide) rfl (Nat.le_of_ble_eq_true rfl) (fun X hX hl => ?_)
  subst hl
  refine jx_L (L2 := [(0, .ref (jx_ad G 0)), (1, .int a1), (2, .int a2)]) rfl ?_
  unfold f_P_truth at h
  refine jx_aload_n hX d_P_truth_0 0 rfl rfl ?_
  refine jx_iload_n hX d_P_truth_1 1 rfl rfl ?_
  obtain ⟨q2_1, hq2_1, h⟩ := jx_bd h
  refine cs_P_95 hX (c_P_enterColumn (jx_l X) G S a1 q2_1 hq2_1) d_P_truth_2 (by decide) (Nat.le_of_ble_eq_true rfl) ?_
  refine jx_if_eq hX d_P_truth_5 rfl (fun hc => ?_) (fun hc => ?_)
  · have h := jx_ip hc h
    refine jx_bipush (v := 9) hX d_P_truth_16 (by decide) ?_
    obtain rfl := Option.some.inj h
    exact jx_iret hX d_P_truth_18
  · have h := jx_in_ hc h
    refine jx_aload_n hX d_P_truth_8 0 rfl rfl ?_
    refine jx_iload_n hX d_P_truth_9 2 rfl rfl ?_
    obtain ⟨q10_2, hq10_2, h⟩ := jx_bd h
    refine cs_P_101 hX (c_P_hasCell (jx_l X) G q2_1.2 a2 q10_2 hq10_2) d_P_truth_10 (by decide) (Nat.le_of_ble_eq_true rfl) ?_
    refine jx_if_ne hX d_P_truth_13 rfl (fun hc => ?_) (fun hc => ?_)
    · have h := jx_in_ hc h
      refine jx_aload_n hX d_P_truth_19 0 rfl rfl ?_
      refine gf_P_28 hX d_P_truth_20 ?_
      refine jx_iload_n hX d_P_truth_23 2 rfl rfl ?_
      obtain ⟨q24_3, hq24_3, h⟩ := jx_bd h
      refine cs_P_107 hX (c_Q_trueIn (jx_l X) G q2_1.2 a2 q24_3 hq24_3) d_P_truth_24 (by decide) (Nat.le_of_ble_eq_true rfl) ?_
      have hj : ∀ v : Int32, v = (if q24_3 = 0 then 0 else 1 : Int32) → jx_At G X (some (.int fin.1), jx_w G fin.2) (jx_w G q2_1.2) 35 [(0, .ref (jx_ad G 0)), (1, .int a1), (2, .int a2)] [.int v] := by
        intro v hv
        subst hv
        obtain rfl := Option.some.inj h
        exact jx_iret hX d_P_truth_35
      refine jx_if_eq hX d_P_truth_27 rfl (fun hc4 => ?_) (fun hc4 => ?_)
      · refine jx_iconst (v := 0) hX d_P_truth_34 (by decide) ?_
        exact hj _ (if_pos hc4).symm
      · refine jx_iconst (v := 1) hX d_P_truth_30 (by decide) ?_
        refine jx_goto hX d_P_truth_31 rfl ?_
        exact hj _ (if_neg hc4).symm
    · have h := jx_ip hc h
      refine jx_bipush (v := 9) hX d_P_truth_16 (by decide) ?_
      obtain rfl := Option.some.inj h
      exact jx_iret hX d_P_truth_18

def f_P_holds (S : jx_S) (a1 : Int32) : Option (Int32 × jx_S) :=
  (f_P_enterColumn S a1).bind fun q2_1 =>
    if q2_1.1 = 0 then
      some (9, q2_1.2)
    else
      (f_Q_columnHolds q2_1.2).bind fun q15_2 =>
        some ((if q15_2 = 0 then 0 else 1 : Int32), q2_1.2)
set_option maxHeartbeats 4000000 in
set_option maxRecDepth 100000 in
theorem c_P_holds (l : Launch) (G : jx_G) (S : jx_S) (a1 : Int32) (fin : Int32 × jx_S) (h : f_P_holds S a1 = some fin) : jx_M l y_P_holds b_P_holds 2 (some .int) 6 G [.ref (jx_ad G 0), .int a1] (jx_w G S) (some (.int fin.1), jx_w G fin.2) := by
  refine jx_met (own := "PlaneCells") (by decide) rfl (Nat.le_of_ble_eq_true rfl) (fun X hX hl => ?_)
  subst hl
  refine jx_L (L2 := [(0, .ref (jx_ad G 0)), (1, .int a1)]) rfl ?_
  unfold f_P_holds at h
  refine jx_aload_n hX d_P_holds_0 0 rfl rfl ?_
  refine jx_iload_n hX d_P_holds_1 1 rfl rfl ?_
  obtain ⟨q2_1, hq2_1, h⟩ := jx_bd h
  refine cs_P_95 hX (c_P_enterColumn (jx_l X) G S a1 q2_1 hq2_1) d_P_holds_2 (by decide) (Nat.le_of_ble_eq_true rfl) ?_
  refine jx_if_ne hX d_P_holds_5 rfl (fun hc => ?_) (fun hc => ?_)
  · have h := jx_in_ hc h
    refine jx_aload_n hX d_P_holds_11 0 rfl rfl ?_
    refine gf_P_28 hX d_P_holds_12 ?_
    obtain ⟨q15_2, hq15_2, h⟩ := jx_bd h
    refine cs_P_64 hX (c_Q_columnHolds (jx_l X) G q2_1.2 q15_2 hq15_2) d_P_holds_15 (by decide) (Nat.le_of_ble_eq_true rfl) ?_
    have hj : ∀ v : Int32, v = (if q15_2 = 0 then 0 else 1 : Int32) → jx_At G X (some (.int fin.1), jx_w G fin.2) (jx_w G q2_1.2) 26 [(0, .ref (jx_ad G 0)), (1, .int a1)] [.int v] := by
      intro v hv
      subst hv
      obtain rfl := Option.some.inj h
      exact jx_iret hX d_P_holds_26
    refine jx_if_eq hX d_P_holds_18 rfl (fun hc3 => ?_) (fun hc3 => ?_)
    · refine jx_iconst (v := 0) hX d_P_holds_25 (by decide) ?_
      exact hj _ (if_pos hc3).symm
    · refine jx_iconst (v := 1) hX d_P_holds_21 (by decide) ?_
      refine jx_goto hX d_P_holds_22 rfl ?_
      exact hj _ (if_neg hc3).symm
  · have h := jx_ip hc h
    refine jx_bipush (v := 9) hX d_P_holds_8 (by decide) ?_
    obtain rfl := Option.some.inj h
    exact jx_iret hX d_P_holds_10

def f_P_witness (S : jx_S)  : Option (Int32) :=
  some (S.1 2)
set_option maxHeartbeats 4000000 in
set_option maxRecDepth 100000 in
theorem c_P_witness (l : Launch) (G : jx_G) (S : jx_S)  (fin : Int32) (h : f_P_witness S = some fin) : jx_M l y_P_witness b_P_witness 1 (some .int) 0 G [.ref (jx_ad G 0)] (jx_w G S) (some (.int fin), jx_w G S) := by
  refine jx_met (own := "PlaneCells") (by decide) rfl (Nat.le_of_ble_eq_true rfl) (fun X hX hl => ?_)
  subst hl
  refine jx_L (L2 := [(0, .ref (jx_ad G 0))]) rfl ?_
  unfold f_P_witness at h
  refine jx_aload_n hX d_P_witness_0 0 rfl rfl ?_
  refine gf_P_39 hX d_P_witness_1 rfl ?_
  obtain rfl := Option.some.inj h
  exact jx_iret hX d_P_witness_4

def k_P_compare_30 (S : jx_S) (x1 : Int32) (x2 : Int32) (x3 : Int32) (y0 : Int32) : Option (Int32) :=
  if y0 = 0 then
    some 9
  else
    (f_P_hasColumn S x1).bind fun q39_1 =>
      if q39_1 = 0 then
        some 9
      else
        if (x1 &&& 1) = 0 then
          some 9
        else
          (f_C_signAt S (x1 >>> (1 &&& 31)) (((-x2)).toInt64) ((x3).toInt64) 0).bind fun q70_2 =>
            some q70_2

def f_P_compare (S : jx_S) (a1 : Int32) (a2 : Int32) (a3 : Int32) : Option (Int32) :=
  k_P_compare_30 S a1 a2 a3 (if a2 < (-1000) then 0 else (if 1000 < a2 then 0 else (if a3 < 1 then 0 else (if 100 < a3 then 0 else 1 : Int32) : Int32) : Int32) : Int32)
set_option maxHeartbeats 4000000 in
set_option maxRecDepth 100000 in
theorem kt_P_compare_30 {G : jx_G} {X : jx_C} (hX : jx_Ok G X b_P_compare "PlaneCells" (some .int) 5 2) (fin : Int32) (S : jx_S) (x1 : Int32) (x2 : Int32) (x3 : Int32) (y0 : Int32) (h : k_P_compare_30 S x1 x2 x3 y0 = some fin) : jx_At G X (some (.int fin), jx_w G S) (jx_w G S) 30 [(0, .ref (jx_ad G 0)), (1, .int x1), (2, .int x2), (3, .int x3)] [.int y0] := by
  unfold k_P_compare_30 at h
  refine jx_istore hX d_P_compare_30 (by decide) (L2 := [(4, .int y0), (0, .ref (jx_ad G 0)), (1, .int x1), (2, .int x2), (3, .int x3)]) rfl ?_
  refine jx_iload hX d_P_compare_32 0 rfl ?_
  refine jx_if_eq hX d_P_compare_34 rfl (fun hc => ?_) (fun hc => ?_)
  · have h := jx_ip hc h
    refine jx_bipush (v := 9) hX d_P_compare_51 (by decide) ?_
    obtain rfl := Option.some.inj h
    exact jx_iret hX d_P_compare_53
  · have h := jx_in_ hc h
    refine jx_aload_n hX d_P_compare_37 1 rfl rfl ?_
    refine jx_iload_n hX d_P_compare_38 2 rfl rfl ?_
    obtain ⟨q39_1, hq39_1, h⟩ := jx_bd h
    refine cs_P_110 hX (c_P_hasColumn (jx_l X) G S x1 q39_1 hq39_1) d_P_compare_39 (by decide) (Nat.le_of_ble_eq_true rfl) ?_
    refine jx_if_eq hX d_P_compare_42 rfl (fun hc => ?_) (fun hc => ?_)
    · have h := jx_ip hc h
      refine jx_bipush (v := 9) hX d_P_compare_51 (by decide) ?_
      obtain rfl := Option.some.inj h
      exact jx_iret hX d_P_compare_53
    · have h := jx_in_ hc h
      refine jx_iload_n hX d_P_compare_45 2 rfl rfl ?_
      refine jx_iconst (v := 1) hX d_P_compare_46 (by decide) ?_
      refine jx_iand hX d_P_compare_47 ?_
      refine jx_if_ne hX d_P_compare_48 rfl (fun hc => ?_) (fun hc => ?_)
      · have h := jx_in_ hc h
        refine jx_aload_n hX d_P_compare_54 1 rfl rfl ?_
        refine gf_P_28 hX d_P_compare_55 ?_
        refine gf_P_113 hX d_P_compare_58 ?_
        refine jx_iload_n hX d_P_compare_61 2 rfl rfl ?_
        refine jx_iconst (v := 1) hX d_P_compare_62 (by decide) ?_
        refine jx_ishr hX d_P_compare_63 ?_
        refine jx_iload_n hX d_P_compare_64 3 rfl rfl ?_
        refine jx_ineg hX d_P_compare_65 ?_
        refine jx_i2l hX d_P_compare_66 rfl ?_
        refine jx_iload_n hX d_P_compare_67 4 rfl rfl ?_
        refine jx_i2l hX d_P_compare_68 rfl ?_
        refine jx_lconst (v := 0) hX d_P_compare_69 (by decide) ?_
        obtain ⟨q70_2, hq70_2, h⟩ := jx_bd h
        refine cs_P_117 hX (c_C_signAt (jx_l X) G S (x1 >>> (1 &&& 31)) (((-x2)).toInt64) ((x3).toInt64) 0 q70_2 hq70_2) d_P_compare_70 (by decide) (Nat.le_of_ble_eq_true rfl) ?_
        obtain rfl := Option.some.inj h
        exact jx_iret hX d_P_compare_73
      · have h := jx_ip hc h
        refine jx_bipush (v := 9) hX d_P_compare_51 (by decide) ?_
        obtain rfl := Option.some.inj h
        exact jx_iret hX d_P_compare_53

set_option maxHeartbeats 4000000 in
set_option maxRecDepth 100000 in
theorem c_P_compare (l : Launch) (G : jx_G) (S : jx_S) (a1 : Int32) (a2 : Int32) (a3 : Int32) (fin : Int32) (h : f_P_compare S a1 a2 a3 = some fin) : jx_M l y_P_compare b_P_compare 5 (some .int) 2 G [.ref (jx_ad G 0), .int a1, .int a2, .int a3] (jx_w G S) (some (.int fin), jx_w G S) := by
  refine jx_met (own := "PlaneCells") (by decide) rfl (Nat.le_of_ble_eq_true rfl) (fun X hX hl => ?_)
  subst hl
  refine jx_L (L2 := [(0, .ref (jx_ad G 0)), (1, .int a1), (2, .int a2), (3, .int a3)]) rfl ?_
  unfold f_P_compare at h
  refine jx_iload_n hX d_P_compare_0 2 rfl rfl ?_
  refine jx_sipush (v := (-1000)) hX d_P_compare_1 (by decide) ?_
  have hj : ∀ v : Int32, v = (if a2 < (-1000) then 0 else (if 1000 < a2 then 0 else (if a3 < 1 then 0 else (if 100 < a3 then 0 else 1 : Int32) : Int32) : Int32) : Int32) → jx_At G X (some (.int fin), jx_w G S) (jx_w G S) 30 [(0, .ref (jx_ad G 0)), (1, .int a1), (2, .int a2), (3, .int a3)] [.int v] := by
    intro v hv
    subst hv
    exact kt_P_compare_30 hX fin S a1 a2 a3 (if a2 < (-1000) then 0 else (if 1000 < a2 then 0 else (if a3 < 1 then 0 else (if 100 < a3 then 0 else 1 : Int32) : Int32) : Int32) : Int32) h
  refine jx_icmp_lt hX d_P_compare_4 rfl (fun hc3 => ?_) (fun hc3 => ?_)
  · refine jx_iconst (v := 0) hX d_P_compare_29 (by decide) ?_
    exact hj _ (if_pos hc3).symm
  · refine jx_iload_n hX d_P_compare_7 2 rfl rfl ?_
    refine jx_sipush (v := 1000) hX d_P_compare_8 (by decide) ?_
    refine jx_icmp_gt hX d_P_compare_11 rfl (fun hc4 => ?_) (fun hc4 => ?_)
    · refine jx_iconst (v := 0) hX d_P_compare_29 (by decide) ?_
      exact hj _ ((if_neg hc3).trans (if_pos hc4)).symm
    · refine jx_iload_n hX d_P_compare_14 3 rfl rfl ?_
      refine jx_iconst (v := 1) hX d_P_compare_15 (by decide) ?_
      refine jx_icmp_lt hX d_P_compare_16 rfl (fun hc5 => ?_) (fun hc5 => ?_)
      · refine jx_iconst (v := 0) hX d_P_compare_29 (by decide) ?_
        exact hj _ ((if_neg hc3).trans ((if_neg hc4).trans (if_pos hc5))).symm
      · refine jx_iload_n hX d_P_compare_19 3 rfl rfl ?_
        refine jx_bipush (v := 100) hX d_P_compare_20 (by decide) ?_
        refine jx_icmp_gt hX d_P_compare_22 rfl (fun hc6 => ?_) (fun hc6 => ?_)
        · refine jx_iconst (v := 0) hX d_P_compare_29 (by decide) ?_
          exact hj _ ((if_neg hc3).trans ((if_neg hc4).trans ((if_neg hc5).trans (if_pos hc6)))).symm
        · refine jx_iconst (v := 1) hX d_P_compare_25 (by decide) ?_
          refine jx_goto hX d_P_compare_26 rfl ?_
          exact hj _ ((if_neg hc3).trans ((if_neg hc4).trans ((if_neg hc5).trans (if_neg hc6)))).symm

