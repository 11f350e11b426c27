def f_M_sign (S : jx_S) (a1 : Int32) (a2 : Int32) (a3 : Int32) : Option (Int32 × jx_S) :=
  if a3 < 0 then
    some (9, S)
  else
    if (S.1 5) ≤ a3 then
      some (9, S)
    else
      (f_M_isCell S a1 a2).bind fun q15_1 =>
        if q15_1.1 = 0 then
          some (9, q15_1.2)
        else
          (f_M_signOfCell q15_1.2 a1 a2 a3).bind fun q30_2 =>
            some (q30_2.1, q30_2.2)
set_option maxHeartbeats 4000000 in
set_option maxRecDepth 100000 in
theorem c_M_sign (l : Launch) (G : jx_G) (S : jx_S) (a1 : Int32) (a2 : Int32) (a3 : Int32) (fin : Int32 × jx_S) (h : f_M_sign S a1 a2 a3 = some fin) : jx_M l y_M_sign b_M_sign 4 (some .int) 9 G [.ref (jx_ad G 18), .int a1, .int a2, .int a3] (jr_w G S) (some (.int fin.1), jr_w G fin.2) := by
  refine jx_met (own := "PlaneCellsModel") (by decide) rfl (Nat.le_of_ble_eq_true rfl) (fun X hX hl => ?_)
  subst hl
  refine jx_L (L2 := [(0, .ref (jx_ad G 18)), (1, .int a1), (2, .int a2), (3, .int a3)]) rfl ?_
  unfold f_M_sign at h
  refine jx_iload_n hX d_M_sign_0 3 rfl rfl ?_
  refine jx_if_lt hX d_M_sign_1 rfl (fun hc => ?_) (fun hc => ?_)
  · have h := jx_ip hc h
    refine jx_bipush (v := 9) hX d_M_sign_21 (by decide) ?_
    refine jx_goto hX d_M_sign_23 rfl ?_
    obtain rfl := Option.some.inj h
    exact jx_iret hX d_M_sign_33
  · have h := jx_in_ hc h
    refine jx_iload_n hX d_M_sign_4 3 rfl rfl ?_
    refine jx_aload_n hX d_M_sign_5 0 rfl rfl ?_
    refine gf_M_103 hX d_M_sign_6 rfl ?_
    refine jx_icmp_ge hX d_M_sign_9 rfl (fun hc => ?_) (fun hc => ?_)
    · have h := jx_ip hc h
      refine jx_bipush (v := 9) hX d_M_sign_21 (by decide) ?_
      refine jx_goto hX d_M_sign_23 rfl ?_
      obtain rfl := Option.some.inj h
      exact jx_iret hX d_M_sign_33
    · have h := jx_in_ hc h
      refine jx_aload_n hX d_M_sign_12 0 rfl rfl ?_
      refine jx_iload_n hX d_M_sign_13 1 rfl rfl ?_
      refine jx_iload_n hX d_M_sign_14 2 rfl rfl ?_
      obtain ⟨q15_1, hq15_1, h⟩ := jx_bd h
      refine cs_M_213 hX (c_M_isCell (jx_l X) G S a1 a2 q15_1 hq15_1) d_M_sign_15 (by decide) (Nat.le_of_ble_eq_true rfl) ?_
      refine jx_if_ne hX d_M_sign_18 rfl (fun hc => ?_) (fun hc => ?_)
      · have h := jx_in_ hc h
        refine jx_aload_n hX d_M_sign_26 0 rfl rfl ?_
        refine jx_iload_n hX d_M_sign_27 1 rfl rfl ?_
        refine jx_iload_n hX d_M_sign_28 2 rfl rfl ?_
        refine jx_iload_n hX d_M_sign_29 3 rfl rfl ?_
        obtain ⟨q30_2, hq30_2, h⟩ := jx_bd h
        refine cs_M_172 hX (c_M_signOfCell (jx_l X) G q15_1.2 a1 a2 a3 q30_2 hq30_2) d_M_sign_30 (by decide) (Nat.le_of_ble_eq_true rfl) ?_
        obtain rfl := Option.some.inj h
        exact jx_iret hX d_M_sign_33
      · have h := jx_ip hc h
        refine jx_bipush (v := 9) hX d_M_sign_21 (by decide) ?_
        refine jx_goto hX d_M_sign_23 rfl ?_
        obtain rfl := Option.some.inj h
        exact jx_iret hX d_M_sign_33

def f_M_truth (S : jx_S) (a1 : Int32) (a2 : Int32) : Option (Int32 × jx_S) :=
  (f_M_isCell S a1 a2).bind fun q3_1 =>
    if q3_1.1 = 0 then
      some (9, q3_1.2)
    else
      (f_M_formulaIn q3_1.2 a1 a2).bind fun q17_2 =>
        some ((if q17_2.1 = 0 then 0 else 1 : Int32), q17_2.2)
set_option maxHeartbeats 4000000 in
set_option maxRecDepth 100000 in
theorem c_M_truth (l : Launch) (G : jx_G) (S : jx_S) (a1 : Int32) (a2 : Int32) (fin : Int32 × jx_S) (h : f_M_truth S a1 a2 = some fin) : jx_M l y_M_truth b_M_truth 3 (some .int) 10 G [.ref (jx_ad G 18), .int a1, .int a2] (jr_w G S) (some (.int fin.1), jr_w G fin.2) := by
  refine jx_met (own := "PlaneCellsModel") (by decide) rfl (Nat.le_of_ble_eq_true rfl) (fun X hX hl => ?_)
  subst hl
  refine jx_L (L2 := [(0, .ref (jx_ad G 18)), (1, .int a1), (2, .int a2)]) rfl ?_
  unfold f_M_truth at h
  refine jx_aload_n hX d_M_truth_0 0 rfl rfl ?_
  refine jx_iload_n hX d_M_truth_1 1 rfl rfl ?_
  refine jx_iload_n hX d_M_truth_2 2 rfl rfl ?_
  obtain ⟨q3_1, hq3_1, h⟩ := jx_bd h
  refine cs_M_213 hX (c_M_isCell (jx_l X) G S a1 a2 q3_1 hq3_1) d_M_truth_3 (by decide) (Nat.le_of_ble_eq_true rfl) ?_
  refine jx_if_ne hX d_M_truth_6 rfl (fun hc => ?_) (fun hc => ?_)
  · have h := jx_in_ hc h
    refine jx_aload_n hX d_M_truth_14 0 rfl rfl ?_
    refine jx_iload_n hX d_M_truth_15 1 rfl rfl ?_
    refine jx_iload_n hX d_M_truth_16 2 rfl rfl ?_
    obtain ⟨q17_2, hq17_2, h⟩ := jx_bd h
    refine cs_M_175 hX (c_M_formulaIn (jx_l X) G q3_1.2 a1 a2 q17_2 hq17_2) d_M_truth_17 (by decide) (Nat.le_of_ble_eq_true rfl) ?_
    have hj : ∀ v : Int32, v = (if q17_2.1 = 0 then 0 else 1 : Int32) → jx_At G X (some (.int fin.1), jr_w G fin.2) (jr_w G q17_2.2) 28 [(0, .ref (jx_ad G 18)), (1, .int a1), (2, .int a2)] [.int v] := by
      intro v hv
      subst hv
      obtain rfl := Option.some.inj h
      exact jx_iret hX d_M_truth_28
    refine jx_if_eq hX d_M_truth_20 rfl (fun hc3 => ?_) (fun hc3 => ?_)
    · refine jx_iconst (v := 0) hX d_M_truth_27 (by decide) ?_
      exact hj _ (if_pos hc3).symm
    · refine jx_iconst (v := 1) hX d_M_truth_23 (by decide) ?_
      refine jx_goto hX d_M_truth_24 rfl ?_
      exact hj _ (if_neg hc3).symm
  · have h := jx_ip hc h
    refine jx_bipush (v := 9) hX d_M_truth_9 (by decide) ?_
    refine jx_goto hX d_M_truth_11 rfl ?_
    obtain rfl := Option.some.inj h
    exact jx_iret hX d_M_truth_28

def f_M_holds (S : jx_S) (a1 : Int32) : Option (Int32 × jx_S) :=
  (f_M_isColumn S a1).bind fun q2_1 =>
    if q2_1 = 0 then
      some (9, S)
    else
      (f_M_columnHolds S a1).bind fun q15_2 =>
        some ((if q15_2.1 = 0 then 0 else 1 : Int32), q15_2.2)
set_option maxHeartbeats 4000000 in
set_option maxRecDepth 100000 in
theorem c_M_holds (l : Launch) (G : jx_G) (S : jx_S) (a1 : Int32) (fin : Int32 × jx_S) (h : f_M_holds S a1 = some fin) : jx_M l y_M_holds b_M_holds 2 (some .int) 11 G [.ref (jx_ad G 18), .int a1] (jr_w G S) (some (.int fin.1), jr_w G fin.2) := by
  refine jx_met (own := "PlaneCellsModel") (by decide) rfl (Nat.le_of_ble_eq_true rfl) (fun X hX hl => ?_)
  subst hl
  refine jx_L (L2 := [(0, .ref (jx_ad G 18)), (1, .int a1)]) rfl ?_
  unfold f_M_holds at h
  refine jx_aload_n hX d_M_holds_0 0 rfl rfl ?_
  refine jx_iload_n hX d_M_holds_1 1 rfl rfl ?_
  obtain ⟨q2_1, hq2_1, h⟩ := jx_bd h
  refine cs_M_210 hX (c_M_isColumn (jx_l X) G S a1 q2_1 hq2_1) d_M_holds_2 (by decide) (Nat.le_of_ble_eq_true rfl) ?_
  refine jx_if_ne hX d_M_holds_5 rfl (fun hc => ?_) (fun hc => ?_)
  · have h := jx_in_ hc h
    refine jx_aload_n hX d_M_holds_13 0 rfl rfl ?_
    refine jx_iload_n hX d_M_holds_14 1 rfl rfl ?_
    obtain ⟨q15_2, hq15_2, h⟩ := jx_bd h
    refine cs_M_207 hX (c_M_columnHolds (jx_l X) G S a1 q15_2 hq15_2) d_M_holds_15 (by decide) (Nat.le_of_ble_eq_true rfl) ?_
    have hj : ∀ v : Int32, v = (if q15_2.1 = 0 then 0 else 1 : Int32) → jx_At G X (some (.int fin.1), jr_w G fin.2) (jr_w G q15_2.2) 26 [(0, .ref (jx_ad G 18)), (1, .int a1)] [.int v] := by
      intro v hv
      subst hv
      obtain rfl := Option.some.inj h
      exact jx_iret hX d_M_holds_26
    refine jx_if_eq hX d_M_holds_18 rfl (fun hc3 => ?_) (fun hc3 => ?_)
    · refine jx_iconst (v := 0) hX d_M_holds_25 (by decide) ?_
      exact hj _ (if_pos hc3).symm
    · refine jx_iconst (v := 1) hX d_M_holds_21 (by decide) ?_
      refine jx_goto hX d_M_holds_22 rfl ?_
      exact hj _ (if_neg hc3).symm
  · have h := jx_ip hc h
    refine jx_bipush (v := 9) hX d_M_holds_8 (by decide) ?_
    refine jx_goto hX d_M_holds_10 rfl ?_
    obtain rfl := Option.some.inj h
    exact jx_iret hX d_M_holds_26

def b_M_witness_2  (z : jx_S × Int32) : Option ((jx_S × Int32) ⊕ ((jx_S) ⊕ (Int32 × jx_S))) :=
  if (z.1.1 11) ≤ z.2 then
    some (.inr (.inl z.1))
  else
    (f_M_columnHolds z.1 z.2).bind fun q12_1 =>
      if q12_1.1 = (q12_1.2.1 3) then
        some (.inl (q12_1.2, (z.2 + 1)))
      else
        some (.inr (.inr (z.2, q12_1.2)))

def f_M_witness (S : jx_S)  : Option (Int32 × jx_S) :=
  (jx_lp (b_M_witness_2 ) jx_N (S, 0)).bind (Sum.elim (fun z2_2 =>
    some ((-1), z2_2))
    (fun y => some y))
set_option maxHeartbeats 4000000 in
set_option maxRecDepth 100000 in
theorem lt_M_witness_2 {G : jx_G} {X : jx_C} (hX : jx_Ok G X b_M_witness "PlaneCellsModel" (some .int) 2 11) (fin : Int32 × jx_S)  {n : Nat} {z : jx_S × Int32} {r : (jx_S) ⊕ (Int32 × jx_S)} (hz : jx_lp (b_M_witness_2 ) n z = some r) (hk : ∀ u, r = .inl u → jx_At G X (some (.int fin.1), jr_w G fin.2) (jr_w G u) 30 [(0, .ref (jx_ad G 18))] []) (hy : ∀ y, r = .inr y → y = fin) : jx_At G X (some (.int fin.1), jr_w G fin.2) (jr_w G z.1) 2 [(0, .ref (jx_ad G 18)), (1, .int z.2)] [] := by
  refine jx_loop2 (b_M_witness_2 ) (fun z => jx_At G X (some (.int fin.1), jr_w G fin.2) (jr_w G z.1) 2 [(0, .ref (jx_ad G 18)), (1, .int z.2)] []) (fun z => jx_At G X (some (.int fin.1), jr_w G fin.2) (jr_w G z) 30 [(0, .ref (jx_ad G 18))] []) fin ?_ n z r hz hk hy
  intro z o h hi hx hr
  unfold b_M_witness_2 at h
  refine jx_iload_n hX d_M_witness_2 1 rfl rfl ?_
  refine jx_aload_n hX d_M_witness_3 0 rfl rfl ?_
  refine gf_M_182 hX d_M_witness_4 rfl ?_
  refine jx_icmp_ge hX d_M_witness_7 rfl (fun hc => ?_) (fun hc => ?_)
  · have h := jx_ip hc h
    refine jx_sub (L2 := [(0, .ref (jx_ad G 18))]) [0] rfl ?_
    obtain rfl := Option.some.inj h
    exact hx _ rfl
  · have h := jx_in_ hc h
    refine jx_aload_n hX d_M_witness_10 0 rfl rfl ?_
    refine jx_iload_n hX d_M_witness_11 1 rfl rfl ?_
    obtain ⟨q12_1, hq12_1, h⟩ := jx_bd h
    refine cs_M_207 hX (c_M_columnHolds (jx_l X) G z.1 z.2 q12_1 hq12_1) d_M_witness_12 (by decide) (Nat.le_of_ble_eq_true rfl) ?_
    refine jx_aload_n hX d_M_witness_15 0 rfl rfl ?_
    refine gf_M_198 hX d_M_witness_16 rfl ?_
    refine jx_icmp_eq hX d_M_witness_19 rfl (fun hc => ?_) (fun hc => ?_)
    · have h := jx_ip hc h
      refine jx_iinc (v := (z.2 + 1)) hX d_M_witness_24 1 rfl (by first | rfl | decide) (by decide) (L2 := [(1, .int (z.2 + 1)), (0, .ref (jx_ad G 18))]) rfl ?_
      refine jx_goto hX d_M_witness_27 rfl ?_
      refine jx_sub (L2 := [(0, .ref (jx_ad G 18)), (1, .int (z.2 + 1))]) [1, 0] rfl ?_
      obtain rfl := Option.some.inj h
      exact hi _ rfl
    · have h := jx_in_ hc h
      refine jx_iload_n hX d_M_witness_22 1 rfl rfl ?_
      obtain rfl := Option.some.inj h
      obtain rfl := hr _ rfl
      exact jx_iret hX d_M_witness_23

set_option maxHeartbeats 4000000 in
set_option maxRecDepth 100000 in
theorem c_M_witness (l : Launch) (G : jx_G) (S : jx_S)  (fin : Int32 × jx_S) (h : f_M_witness S = some fin) : jx_M l y_M_witness b_M_witness 2 (some .int) 11 G [.ref (jx_ad G 18)] (jr_w G S) (some (.int fin.1), jr_w G fin.2) := by
  refine jx_met (own := "PlaneCellsModel") (by decide) rfl (Nat.le_of_ble_eq_true rfl) (fun X hX hl => ?_)
  subst hl
  refine jx_L (L2 := [(0, .ref (jx_ad G 18))]) rfl ?_
  unfold f_M_witness at h
  refine jx_iconst (v := 0) hX d_M_witness_0 (by decide) ?_
  refine jx_istore_n hX d_M_witness_1 rfl (by decide) (L2 := [(1, .int 0), (0, .ref (jx_ad G 18))]) rfl ?_
  refine jx_sub (L2 := [(0, .ref (jx_ad G 18)), (1, .int 0)]) [1, 0] rfl ?_
  obtain ⟨r, hz, h⟩ := jx_bd h
  refine lt_M_witness_2 hX fin  hz (fun z2_2 e => ?_) (fun y e => ?_)
  · subst e
    have h := jx_el h
    refine jx_iconst (v := (-1)) hX d_M_witness_30 (by decide) ?_
    obtain rfl := Option.some.inj h
    exact jx_iret hX d_M_witness_31
  · subst e
    have h := jx_er h
    exact Option.some.inj h

def f_M_compare (S : jx_S) (a1 : Int32) (a2 : Int32) (a3 : Int32) : Option (Int32) :=
  (f_M_isColumn S a1).bind fun q2_1 =>
    if q2_1 = 0 then
      some 9
    else
      if (a1 - a1 / 2 * 2) = 0 then
        some 9
      else
        if a2 < (-1000) then
          some 9
        else
          if 1000 < a2 then
            some 9
          else
            if a3 < 1 then
              some 9
            else
              if a3 ≤ 100 then
                (f_M_signAt S (a1 / 2) 0 ((a3).toInt64) (((-a2)).toInt64)).bind fun q52_2 =>
                  some q52_2
              else
                some 9
set_option maxHeartbeats 4000000 in
set_option maxRecDepth 100000 in
theorem c_M_compare (l : Launch) (G : jx_G) (S : jx_S) (a1 : Int32) (a2 : Int32) (a3 : Int32) (fin : Int32) (h : f_M_compare S a1 a2 a3 = some fin) : jx_M l y_M_compare b_M_compare 4 (some .int) 3 G [.ref (jx_ad G 18), .int a1, .int a2, .int a3] (jr_w G S) (some (.int fin), jr_w G S) := by
  refine jx_met (own := "PlaneCellsModel") (by decide) rfl (Nat.le_of_ble_eq_true rfl) (fun X hX hl => ?_)
  subst hl
  refine jx_L (L2 := [(0, .ref (jx_ad G 18)), (1, .int a1), (2, .int a2), (3, .int a3)]) rfl ?_
  unfold f_M_compare at h
  refine jx_aload_n hX d_M_compare_0 0 rfl rfl ?_
  refine jx_iload_n hX d_M_compare_1 1 rfl rfl ?_
  obtain ⟨q2_1, hq2_1, h⟩ := jx_bd h
  refine cs_M_210 hX (c_M_isColumn (jx_l X) G S a1 q2_1 hq2_1) d_M_compare_2 (by decide) (Nat.le_of_ble_eq_true rfl) ?_
  refine jx_if_eq hX d_M_compare_5 rfl (fun hc => ?_) (fun hc => ?_)
  · have h := jx_ip hc h
    refine jx_bipush (v := 9) hX d_M_compare_39 (by decide) ?_
    obtain rfl := Option.some.inj h
    exact jx_iret hX d_M_compare_41
  · have h := jx_in_ hc h
    refine jx_iload_n hX d_M_compare_8 1 rfl rfl ?_
    refine jx_iconst (v := 2) hX d_M_compare_9 (by decide) ?_
    refine jx_irem hX d_M_compare_10 (by decide) ?_
    refine jx_if_eq hX d_M_compare_11 rfl (fun hc => ?_) (fun hc => ?_)
    · have h := jx_ip hc h
      refine jx_bipush (v := 9) hX d_M_compare_39 (by decide) ?_
      obtain rfl := Option.some.inj h
      exact jx_iret hX d_M_compare_41
    · have h := jx_in_ hc h
      refine jx_iload_n hX d_M_compare_14 2 rfl rfl ?_
      refine jx_sipush (v := (-1000)) hX d_M_compare_15 (by decide) ?_
      refine jx_icmp_lt hX d_M_compare_18 rfl (fun hc => ?_) (fun hc => ?_)
      · have h := jx_ip hc h
        refine jx_bipush (v := 9) hX d_M_compare_39 (by decide) ?_
        obtain rfl := Option.some.inj h
        exact jx_iret hX d_M_compare_41
      · have h := jx_in_ hc h
        refine jx_iload_n hX d_M_compare_21 2 rfl rfl ?_
        refine jx_sipush (v := 1000) hX d_M_compare_22 (by decide) ?_
        refine jx_icmp_gt hX d_M_compare_25 rfl (fun hc => ?_) (fun hc => ?_)
        · have h := jx_ip hc h
          refine jx_bipush (v := 9) hX d_M_compare_39 (by decide) ?_
          obtain rfl := Option.some.inj h
          exact jx_iret hX d_M_compare_41
        · have h := jx_in_ hc h
          refine jx_iload_n hX d_M_compare_28 3 rfl rfl ?_
          refine jx_iconst (v := 1) hX d_M_compare_29 (by decide) ?_
          refine jx_icmp_lt hX d_M_compare_30 rfl (fun hc => ?_) (fun hc => ?_)
          · have h := jx_ip hc h
            refine jx_bipush (v := 9) hX d_M_compare_39 (by decide) ?_
            obtain rfl := Option.some.inj h
            exact jx_iret hX d_M_compare_41
          · have h := jx_in_ hc h
            refine jx_iload_n hX d_M_compare_33 3 rfl rfl ?_
            refine jx_bipush (v := 100) hX d_M_compare_34 (by decide) ?_
            refine jx_icmp_le hX d_M_compare_36 rfl (fun hc => ?_) (fun hc => ?_)
            · have h := jx_ip hc h
              refine jx_aload_n hX d_M_compare_42 0 rfl rfl ?_
              refine jx_iload_n hX d_M_compare_43 1 rfl rfl ?_
              refine jx_iconst (v := 2) hX d_M_compare_44 (by decide) ?_
              refine jx_idiv hX d_M_compare_45 (by decide) ?_
              refine jx_lconst (v := 0) hX d_M_compare_46 (by decide) ?_
              refine jx_iload_n hX d_M_compare_47 3 rfl rfl ?_
              refine jx_i2l hX d_M_compare_48 rfl ?_
              refine jx_iload_n hX d_M_compare_49 2 rfl rfl ?_
              refine jx_ineg hX d_M_compare_50 ?_
              refine jx_i2l hX d_M_compare_51 rfl ?_
              obtain ⟨q52_2, hq52_2, h⟩ := jx_bd h
              refine cs_M_127 hX (c_M_signAt (jx_l X) G S (a1 / 2) 0 ((a3).toInt64) (((-a2)).toInt64) q52_2 hq52_2) d_M_compare_52 (by decide) (Nat.le_of_ble_eq_true rfl) ?_
              obtain rfl := Option.some.inj h
              exact jx_iret hX d_M_compare_55
            · have h := jx_in_ hc h
              refine jx_bipush (v := 9) hX d_M_compare_39 (by decide) ?_
              obtain rfl := Option.some.inj h
              exact jx_iret hX d_M_compare_41

