def f_C_clear (S : jx_S)  : Option (jx_S) :=
  some (jx_f S 13 0)
set_option maxHeartbeats 4000000 in
set_option maxRecDepth 100000 in
theorem c_C_clear (l : Launch) (G : jx_G) (S : jx_S)  (fin : jx_S) (h : f_C_clear S = some fin) : jx_M l y_C_clear b_C_clear 1 none 0 G [.ref (jx_ad G 4)] (jx_w G S) (none, jx_w G fin) := by
  refine jx_met (own := "PlaneCells$CriticalNumbers") (by decide) rfl (Nat.le_of_ble_eq_true rfl) (fun X hX hl => ?_)
  subst hl
  refine jx_L (L2 := [(0, .ref (jx_ad G 4))]) rfl ?_
  unfold f_C_clear at h
  refine jx_aload_n hX d_C_clear_0 0 rfl rfl ?_
  refine jx_iconst (v := 0) hX d_C_clear_1 (by decide) ?_
  refine pf_C_21 hX d_C_clear_2 ?_
  obtain rfl := Option.some.inj h
  exact jx_vret hX d_C_clear_5

def f_C_signWithRoots (a1 : Int64) (a2 : Int64) (a3 : Int64) : Option (Int32) :=
  if ((jx_sl a1) * (jx_sl (a2 + a3))) < 0 then
    some ((jx_sl a1) * (jx_sl (((((a1 * a1) - (jx_al a2)) - (jx_al a3)) * (jx_al (((a1 * a1) - (jx_al a2)) - (jx_al a3)))) - ((4 * a2) * a3))))
  else
    some (if (jx_sl a1) = 0 then (jx_sl (a2 + a3)) else (jx_sl a1) : Int32)
set_option maxHeartbeats 4000000 in
set_option maxRecDepth 100000 in
theorem c_C_signWithRoots (l : Launch) (G : jx_G) (S : jx_S) (a1 : Int64) (a2 : Int64) (a3 : Int64) (fin : Int32) (h : f_C_signWithRoots a1 a2 a3 = some fin) : jx_M l y_C_signWithRoots b_C_signWithRoots 10 (some .int) 1 G [.long a1, .long a2, .long a3] (jx_w G S) (some (.int fin), jx_w G S) := by
  refine jx_met (own := "PlaneCells$CriticalNumbers") (by decide) rfl (Nat.le_of_ble_eq_true rfl) (fun X hX hl => ?_)
  subst hl
  refine jx_L (L2 := [(0, .long a1), (2, .long a2), (4, .long a3)]) rfl ?_
  unfold f_C_signWithRoots at h
  refine jx_lload_n hX d_C_signWithRoots_0 0 rfl rfl ?_
  refine jx_sl_r hX wm_313 d_C_signWithRoots_1 (Nat.le_of_ble_eq_true rfl) (by decide) ?_
  refine jx_istore hX d_C_signWithRoots_4 (by decide) (L2 := [(6, .int (jx_sl a1)), (0, .long a1), (2, .long a2), (4, .long a3)]) rfl ?_
  refine jx_lload_n hX d_C_signWithRoots_6 2 rfl rfl ?_
  refine jx_lload hX d_C_signWithRoots_7 3 rfl ?_
  refine jx_ladd hX d_C_signWithRoots_9 ?_
  refine jx_sl_r hX wm_313 d_C_signWithRoots_10 (Nat.le_of_ble_eq_true rfl) (by decide) ?_
  refine jx_istore hX d_C_signWithRoots_13 (by decide) (L2 := [(7, .int (jx_sl (a2 + a3))), (6, .int (jx_sl a1)), (0, .long a1), (2, .long a2), (4, .long a3)]) rfl ?_
  refine jx_iload hX d_C_signWithRoots_15 1 rfl ?_
  refine jx_iload hX d_C_signWithRoots_17 0 rfl ?_
  refine jx_imul hX d_C_signWithRoots_19 ?_
  refine jx_if_lt hX d_C_signWithRoots_20 rfl (fun hc => ?_) (fun hc => ?_)
  · have h := jx_ip hc h
    refine jx_lload_n hX d_C_signWithRoots_36 2 rfl rfl ?_
    refine jx_lload_n hX d_C_signWithRoots_37 2 rfl rfl ?_
    refine jx_lmul hX d_C_signWithRoots_38 ?_
    refine jx_lload_n hX d_C_signWithRoots_39 3 rfl rfl ?_
    refine jx_al_r hX wm_316 d_C_signWithRoots_40 (Nat.le_of_ble_eq_true rfl) (by decide) ?_
    refine jx_lsub hX d_C_signWithRoots_43 ?_
    refine jx_lload hX d_C_signWithRoots_44 4 rfl ?_
    refine jx_al_r hX wm_316 d_C_signWithRoots_46 (Nat.le_of_ble_eq_true rfl) (by decide) ?_
    refine jx_lsub hX d_C_signWithRoots_49 ?_
    refine jx_lstore hX d_C_signWithRoots_50 (by decide) (L2 := [(8, .long (((a1 * a1) - (jx_al a2)) - (jx_al a3))), (7, .int (jx_sl (a2 + a3))), (6, .int (jx_sl a1)), (0, .long a1), (2, .long a2), (4, .long a3)]) rfl ?_
    refine jx_iload hX d_C_signWithRoots_52 2 rfl ?_
    refine jx_lload hX d_C_signWithRoots_54 0 rfl ?_
    refine jx_lload hX d_C_signWithRoots_56 0 rfl ?_
    refine jx_al_r hX wm_316 d_C_signWithRoots_58 (Nat.le_of_ble_eq_true rfl) (by decide) ?_
    refine jx_lmul hX d_C_signWithRoots_61 ?_
    refine jx_ldc2 (v := 4) hX (wm_319) d_C_signWithRoots_62 ?_
    refine jx_lload_n hX d_C_signWithRoots_65 4 rfl rfl ?_
    refine jx_lmul hX d_C_signWithRoots_66 ?_
    refine jx_lload hX d_C_signWithRoots_67 5 rfl ?_
    refine jx_lmul hX d_C_signWithRoots_69 ?_
    refine jx_lsub hX d_C_signWithRoots_70 ?_
    refine jx_sl_r hX wm_313 d_C_signWithRoots_71 (Nat.le_of_ble_eq_true rfl) (by decide) ?_
    refine jx_imul hX d_C_signWithRoots_74 ?_
    obtain rfl := Option.some.inj h
    exact jx_iret hX d_C_signWithRoots_75
  · have h := jx_in_ hc h
    refine jx_iload hX d_C_signWithRoots_23 1 rfl ?_
    have hj : ∀ v : Int32, v = (if (jx_sl a1) = 0 then (jx_sl (a2 + a3)) else (jx_sl a1) : Int32) → jx_At G X (some (.int fin), jx_w G S) (jx_w G S) 35 [(7, .int (jx_sl (a2 + a3))), (6, .int (jx_sl a1)), (0, .long a1), (2, .long a2), (4, .long a3)] [.int v] := by
      intro v hv
      subst hv
      obtain rfl := Option.some.inj h
      exact jx_iret hX d_C_signWithRoots_35
    refine jx_if_eq hX d_C_signWithRoots_25 rfl (fun hc1 => ?_) (fun hc1 => ?_)
    · refine jx_iload hX d_C_signWithRoots_33 0 rfl ?_
      exact hj _ (if_pos hc1).symm
    · refine jx_iload hX d_C_signWithRoots_28 1 rfl ?_
      refine jx_goto hX d_C_signWithRoots_30 rfl ?_
      exact hj _ (if_neg hc1).symm

def f_C_signOfDifference (S : jx_S) (a1 : Int32) (a2 : Int32) (a3 : Int32) (a4 : Int32) : Option (Int32) :=
  if jx_in a1 72 = true then
    (f_C_signWithRoots (((((S.2.1 6) (a1).toNatClampNeg)).toInt64 * (a4).toInt64) - ((a2).toInt64 * (((S.2.1 8) (a1).toNatClampNeg)).toInt64)) (((((S.2.1 7) (a1).toNatClampNeg)).toInt64 * (a4).toInt64) * (a4).toInt64) (-(((a3).toInt64 * (((S.2.1 8) (a1).toNatClampNeg)).toInt64) * (((S.2.1 8) (a1).toNatClampNeg)).toInt64))).bind fun q68_2 =>
      some q68_2
  else none
set_option maxHeartbeats 4000000 in
set_option maxRecDepth 100000 in
theorem c_C_signOfDifference (l : Launch) (G : jx_G) (S : jx_S) (a1 : Int32) (a2 : Int32) (a3 : Int32) (a4 : Int32) (fin : Int32) (h : f_C_signOfDifference S a1 a2 a3 a4 = some fin) : jx_M l y_C_signOfDifference b_C_signOfDifference 11 (some .int) 2 G [.ref (jx_ad G 4), .int a1, .int a2, .int a3, .int a4] (jx_w G S) (some (.int fin), jx_w G S) := by
  refine jx_met (own := "PlaneCells$CriticalNumbers") (by decide) rfl (Nat.le_of_ble_eq_true rfl) (fun X hX hl => ?_)
  subst hl
  refine jx_L (L2 := [(0, .ref (jx_ad G 4)), (1, .int a1), (2, .int a2), (3, .int a3), (4, .int a4)]) rfl ?_
  unfold f_C_signOfDifference at h
  refine jx_aload_n hX d_C_signOfDifference_0 0 rfl rfl ?_
  refine gf_C_9 hX d_C_signOfDifference_1 ?_
  refine jx_iload_n hX d_C_signOfDifference_4 1 rfl rfl ?_
  obtain ⟨hg1, h⟩ := jx_gd h
  refine al_6 hX d_C_signOfDifference_5 rfl hg1 ?_
  refine jx_i2l hX d_C_signOfDifference_6 rfl ?_
  refine jx_iload hX d_C_signOfDifference_7 4 rfl ?_
  refine jx_i2l hX d_C_signOfDifference_9 rfl ?_
  refine jx_lmul hX d_C_signOfDifference_10 ?_
  refine jx_iload_n hX d_C_signOfDifference_11 2 rfl rfl ?_
  refine jx_i2l hX d_C_signOfDifference_12 rfl ?_
  refine jx_aload_n hX d_C_signOfDifference_13 0 rfl rfl ?_
  refine gf_C_18 hX d_C_signOfDifference_14 ?_
  refine jx_iload_n hX d_C_signOfDifference_17 1 rfl rfl ?_
  refine al_8 hX d_C_signOfDifference_18 rfl hg1 ?_
  refine jx_i2l hX d_C_signOfDifference_19 rfl ?_
  refine jx_lmul hX d_C_signOfDifference_20 ?_
  refine jx_lsub hX d_C_signOfDifference_21 ?_
  refine jx_lstore hX d_C_signOfDifference_22 (by decide) (L2 := [(5, .long (((((S.2.1 6) (a1).toNatClampNeg)).toInt64 * (a4).toInt64) - ((a2).toInt64 * (((S.2.1 8) (a1).toNatClampNeg)).toInt64))), (0, .ref (jx_ad G 4)), (1, .int a1), (2, .int a2), (3, .int a3), (4, .int a4)]) rfl ?_
  refine jx_aload_n hX d_C_signOfDifference_24 1 rfl rfl ?_
  refine gf_C_15 hX d_C_signOfDifference_25 ?_
  refine jx_iload_n hX d_C_signOfDifference_28 2 rfl rfl ?_
  refine al_7 hX d_C_signOfDifference_29 rfl hg1 ?_
  refine jx_i2l hX d_C_signOfDifference_30 rfl ?_
  refine jx_iload hX d_C_signOfDifference_31 5 rfl ?_
  refine jx_i2l hX d_C_signOfDifference_33 rfl ?_
  refine jx_lmul hX d_C_signOfDifference_34 ?_
  refine jx_iload hX d_C_signOfDifference_35 5 rfl ?_
  refine jx_i2l hX d_C_signOfDifference_37 rfl ?_
  refine jx_lmul hX d_C_signOfDifference_38 ?_
  refine jx_lstore hX d_C_signOfDifference_39 (by decide) (L2 := [(7, .long (((((S.2.1 7) (a1).toNatClampNeg)).toInt64 * (a4).toInt64) * (a4).toInt64)), (5, .long (((((S.2.1 6) (a1).toNatClampNeg)).toInt64 * (a4).toInt64) - ((a2).toInt64 * (((S.2.1 8) (a1).toNatClampNeg)).toInt64))), (0, .ref (jx_ad G 4)), (1, .int a1), (2, .int a2), (3, .int a3), (4, .int a4)]) rfl ?_
  refine jx_iload_n hX d_C_signOfDifference_41 5 rfl rfl ?_
  refine jx_i2l hX d_C_signOfDifference_42 rfl ?_
  refine jx_aload_n hX d_C_signOfDifference_43 2 rfl rfl ?_
  refine gf_C_18 hX d_C_signOfDifference_44 ?_
  refine jx_iload_n hX d_C_signOfDifference_47 3 rfl rfl ?_
  refine al_8 hX d_C_signOfDifference_48 rfl hg1 ?_
  refine jx_i2l hX d_C_signOfDifference_49 rfl ?_
  refine jx_lmul hX d_C_signOfDifference_50 ?_
  refine jx_aload_n hX d_C_signOfDifference_51 2 rfl rfl ?_
  refine gf_C_18 hX d_C_signOfDifference_52 ?_
  refine jx_iload_n hX d_C_signOfDifference_55 3 rfl rfl ?_
  refine al_8 hX d_C_signOfDifference_56 rfl hg1 ?_
  refine jx_i2l hX d_C_signOfDifference_57 rfl ?_
  refine jx_lmul hX d_C_signOfDifference_58 ?_
  refine jx_lstore hX d_C_signOfDifference_59 (by decide) (L2 := [(9, .long (((a3).toInt64 * (((S.2.1 8) (a1).toNatClampNeg)).toInt64) * (((S.2.1 8) (a1).toNatClampNeg)).toInt64)), (7, .long (((((S.2.1 7) (a1).toNatClampNeg)).toInt64 * (a4).toInt64) * (a4).toInt64)), (5, .long (((((S.2.1 6) (a1).toNatClampNeg)).toInt64 * (a4).toInt64) - ((a2).toInt64 * (((S.2.1 8) (a1).toNatClampNeg)).toInt64))), (0, .ref (jx_ad G 4)), (1, .int a1), (2, .int a2), (3, .int a3), (4, .int a4)]) rfl ?_
  refine jx_lload hX d_C_signOfDifference_61 2 rfl ?_
  refine jx_lload hX d_C_signOfDifference_63 1 rfl ?_
  refine jx_lload hX d_C_signOfDifference_65 0 rfl ?_
  refine jx_lneg hX d_C_signOfDifference_67 ?_
  obtain ⟨q68_2, hq68_2, h⟩ := jx_bd h
  refine cs_C_54 hX (c_C_signWithRoots (jx_l X) G S (((((S.2.1 6) (a1).toNatClampNeg)).toInt64 * (a4).toInt64) - ((a2).toInt64 * (((S.2.1 8) (a1).toNatClampNeg)).toInt64)) (((((S.2.1 7) (a1).toNatClampNeg)).toInt64 * (a4).toInt64) * (a4).toInt64) (-(((a3).toInt64 * (((S.2.1 8) (a1).toNatClampNeg)).toInt64) * (((S.2.1 8) (a1).toNatClampNeg)).toInt64)) q68_2 hq68_2) d_C_signOfDifference_68 (by decide) (Nat.le_of_ble_eq_true rfl) ?_
  obtain rfl := Option.some.inj h
  exact jx_iret hX d_C_signOfDifference_71

def b_C_insert_16 (x1 : Int32) (x2 : Int32) (x3 : Int32) (x4 : Int32) (z : jx_S × Int32) : Option ((jx_S × Int32) ⊕ (jx_S)) :=
  if z.2 ≤ x1 then
    some (.inr z.1)
  else
    if jx_in (z.2 - 1) 72 = true then
      if jx_in z.2 72 = true then
        some (.inl ((jx_g (jx_g (jx_g z.1 6 (upd (z.1.2.1 6) (z.2).toNatClampNeg ((z.1.2.1 6) ((z.2 - 1)).toNatClampNeg))) 7 (upd (z.1.2.1 7) (z.2).toNatClampNeg ((z.1.2.1 7) ((z.2 - 1)).toNatClampNeg))) 8 (upd (z.1.2.1 8) (z.2).toNatClampNeg ((z.1.2.1 8) ((z.2 - 1)).toNatClampNeg))), (z.2 + (-1))))
      else none
    else none

def f_C_insert (S : jx_S) (a1 : Int32) (a2 : Int32) (a3 : Int32) (a4 : Int32) : Option (jx_S) :=
  if (S.1 13) < 72 then
    (jx_lp (b_C_insert_16 a1 a2 a3 a4) jx_N (S, (S.1 13))).bind fun z16_3 =>
      if jx_in a1 72 = true then
        some (jx_f (jx_g (jx_g (jx_g z16_3 6 (upd (z16_3.2.1 6) (a1).toNatClampNeg a2)) 7 (upd (z16_3.2.1 7) (a1).toNatClampNeg a3)) 8 (upd (z16_3.2.1 8) (a1).toNatClampNeg a4)) 13 ((z16_3.1 13) + 1))
      else none
  else
    some S
set_option maxHeartbeats 4000000 in
set_option maxRecDepth 100000 in
theorem lt_C_insert_16 {G : jx_G} {X : jx_C} (hX : jx_Ok G X b_C_insert "PlaneCells$CriticalNumbers" none 6 0) (fin : jx_S) (x1 : Int32) (x2 : Int32) (x3 : Int32) (x4 : Int32) {n : Nat} {z : jx_S × Int32} {r : jx_S} (hz : jx_lp (b_C_insert_16 x1 x2 x3 x4) n z = some r) (hk : jx_At G X (none, jx_w G fin) (jx_w G r) 76 [(0, .ref (jx_ad G 4)), (1, .int x1), (2, .int x2), (3, .int x3), (4, .int x4)] []) : jx_At G X (none, jx_w G fin) (jx_w G z.1) 16 [(0, .ref (jx_ad G 4)), (1, .int x1), (2, .int x2), (3, .int x3), (4, .int x4), (5, .int z.2)] [] := by
  refine jx_loop1 (b_C_insert_16 x1 x2 x3 x4) (fun z => jx_At G X (none, jx_w G fin) (jx_w G z.1) 16 [(0, .ref (jx_ad G 4)), (1, .int x1), (2, .int x2), (3, .int x3), (4, .int x4), (5, .int z.2)] []) (fun z => jx_At G X (none, jx_w G fin) (jx_w G z) 76 [(0, .ref (jx_ad G 4)), (1, .int x1), (2, .int x2), (3, .int x3), (4, .int x4)] []) ?_ n z r hz hk
  intro z o h hi hx
  unfold b_C_insert_16 at h
  refine jx_iload hX d_C_insert_16 5 rfl ?_
  refine jx_iload_n hX d_C_insert_18 1 rfl rfl ?_
  refine jx_icmp_le hX d_C_insert_19 rfl (fun hc => ?_) (fun hc => ?_)
  · have h := jx_ip hc h
    refine jx_sub (L2 := [(0, .ref (jx_ad G 4)), (1, .int x1), (2, .int x2), (3, .int x3), (4, .int x4)]) [0, 1, 2, 3, 4] rfl ?_
    obtain rfl := Option.some.inj h
    exact hx _ rfl
  · have h := jx_in_ hc h
    refine jx_aload_n hX d_C_insert_22 0 rfl rfl ?_
    refine gf_C_9 hX d_C_insert_23 ?_
    refine jx_iload hX d_C_insert_26 5 rfl ?_
    refine jx_aload_n hX d_C_insert_28 0 rfl rfl ?_
    refine gf_C_9 hX d_C_insert_29 ?_
    refine jx_iload hX d_C_insert_32 5 rfl ?_
    refine jx_iconst (v := 1) hX d_C_insert_34 (by decide) ?_
    refine jx_isub hX d_C_insert_35 ?_
    obtain ⟨hg1, h⟩ := jx_gd h
    refine al_6 hX d_C_insert_36 rfl hg1 ?_
    obtain ⟨hg2, h⟩ := jx_gd h
    refine as_6 hX d_C_insert_37 rfl hg2 ?_
    refine jx_aload_n hX d_C_insert_38 0 rfl rfl ?_
    refine gf_C_15 hX d_C_insert_39 ?_
    refine jx_iload hX d_C_insert_42 5 rfl ?_
    refine jx_aload_n hX d_C_insert_44 0 rfl rfl ?_
    refine gf_C_15 hX d_C_insert_45 ?_
    refine jx_iload hX d_C_insert_48 5 rfl ?_
    refine jx_iconst (v := 1) hX d_C_insert_50 (by decide) ?_
    refine jx_isub hX d_C_insert_51 ?_
    refine al_7 hX d_C_insert_52 (f := (z.1.2.1 7)) rfl hg1 ?_
    refine as_7 hX d_C_insert_53 (f := (z.1.2.1 7)) rfl hg2 ?_
    refine jx_aload_n hX d_C_insert_54 0 rfl rfl ?_
    refine gf_C_18 hX d_C_insert_55 ?_
    refine jx_iload hX d_C_insert_58 5 rfl ?_
    refine jx_aload_n hX d_C_insert_60 0 rfl rfl ?_
    refine gf_C_18 hX d_C_insert_61 ?_
    refine jx_iload hX d_C_insert_64 5 rfl ?_
    refine jx_iconst (v := 1) hX d_C_insert_66 (by decide) ?_
    refine jx_isub hX d_C_insert_67 ?_
    refine al_8 hX d_C_insert_68 (f := (z.1.2.1 8)) rfl hg1 ?_
    refine as_8 hX d_C_insert_69 (f := (z.1.2.1 8)) rfl hg2 ?_
    refine jx_iinc (v := (z.2 + (-1))) hX d_C_insert_70 5 rfl (by first | rfl | decide) (by decide) (L2 := [(5, .int (z.2 + (-1))), (0, .ref (jx_ad G 4)), (1, .int x1), (2, .int x2), (3, .int x3), (4, .int x4)]) rfl ?_
    refine jx_goto hX d_C_insert_73 rfl ?_
    refine jx_sub (L2 := [(0, .ref (jx_ad G 4)), (1, .int x1), (2, .int x2), (3, .int x3), (4, .int x4), (5, .int (z.2 + (-1)))]) [1, 2, 3, 4, 5, 0] rfl ?_
    obtain rfl := Option.some.inj h
    exact hi _ rfl

set_option maxHeartbeats 4000000 in
set_option maxRecDepth 100000 in
theorem c_C_insert (l : Launch) (G : jx_G) (S : jx_S) (a1 : Int32) (a2 : Int32) (a3 : Int32) (a4 : Int32) (fin : jx_S) (h : f_C_insert S a1 a2 a3 a4 = some fin) : jx_M l y_C_insert b_C_insert 6 none 0 G [.ref (jx_ad G 4), .int a1, .int a2, .int a3, .int a4] (jx_w G S) (none, jx_w G fin) := by
  refine jx_met (own := "PlaneCells$CriticalNumbers") (by decide) rfl (Nat.le_of_ble_eq_true rfl) (fun X hX hl => ?_)
  subst hl
  refine jx_L (L2 := [(0, .ref (jx_ad G 4)), (1, .int a1), (2, .int a2), (3, .int a3), (4, .int a4)]) rfl ?_
  unfold f_C_insert at h
  refine jx_aload_n hX d_C_insert_0 0 rfl rfl ?_
  refine gf_C_21 hX d_C_insert_1 rfl ?_
  refine jx_bipush (v := 72) hX d_C_insert_4 (by decide) ?_
  refine jx_icmp_lt hX d_C_insert_6 rfl (fun hc => ?_) (fun hc => ?_)
  · have h := jx_ip hc h
    refine jx_aload_n hX d_C_insert_10 0 rfl rfl ?_
    refine gf_C_21 hX d_C_insert_11 rfl ?_
    refine jx_istore hX d_C_insert_14 (by decide) (L2 := [(5, .int (S.1 13)), (0, .ref (jx_ad G 4)), (1, .int a1), (2, .int a2), (3, .int a3), (4, .int a4)]) rfl ?_
    refine jx_sub (L2 := [(0, .ref (jx_ad G 4)), (1, .int a1), (2, .int a2), (3, .int a3), (4, .int a4), (5, .int (S.1 13))]) [1, 2, 3, 4, 5, 0] rfl ?_
    obtain ⟨z16_3, hz, h⟩ := jx_bd h
    refine lt_C_insert_16 hX fin a1 a2 a3 a4 hz ?_
    refine jx_aload_n hX d_C_insert_76 0 rfl rfl ?_
    refine gf_C_9 hX d_C_insert_77 ?_
    refine jx_iload_n hX d_C_insert_80 1 rfl rfl ?_
    refine jx_iload_n hX d_C_insert_81 2 rfl rfl ?_
    obtain ⟨hg4, h⟩ := jx_gd h
    refine as_6 hX d_C_insert_82 rfl hg4 ?_
    refine jx_aload_n hX d_C_insert_83 0 rfl rfl ?_
    refine gf_C_15 hX d_C_insert_84 ?_
    refine jx_iload_n hX d_C_insert_87 1 rfl rfl ?_
    refine jx_iload_n hX d_C_insert_88 3 rfl rfl ?_
    refine as_7 hX d_C_insert_89 (f := (z16_3.2.1 7)) rfl hg4 ?_
    refine jx_aload_n hX d_C_insert_90 0 rfl rfl ?_
    refine gf_C_18 hX d_C_insert_91 ?_
    refine jx_iload_n hX d_C_insert_94 1 rfl rfl ?_
    refine jx_iload hX d_C_insert_95 4 rfl ?_
    refine as_8 hX d_C_insert_97 (f := (z16_3.2.1 8)) rfl hg4 ?_
    refine jx_aload_n hX d_C_insert_98 0 rfl rfl ?_
    refine jx_dup hX d_C_insert_99 rfl ?_
    refine gf_C_21 hX d_C_insert_100 (x := (z16_3.1 13)) rfl ?_
    refine jx_iconst (v := 1) hX d_C_insert_103 (by decide) ?_
    refine jx_iadd hX d_C_insert_104 ?_
    refine pf_C_21 hX d_C_insert_105 ?_
    obtain rfl := Option.some.inj h
    exact jx_vret hX d_C_insert_108
  · have h := jx_in_ hc h
    obtain rfl := Option.some.inj h
    exact jx_vret hX d_C_insert_9

def b_C_add_3 (S : jx_S) (x1 : Int32) (x2 : Int32) (x3 : Int32) (z : Int32) : Option ((Int32) ⊕ ((Int32) ⊕ jx_S)) :=
  if (S.1 13) ≤ z then
    some (.inr (.inl z))
  else
    (f_C_signOfDifference S z x1 x2 x3).bind fun q18_1 =>
      if q18_1 = 0 then
        some (.inr (.inr S))
      else
        if q18_1 ≤ 0 then
          some (.inl (z + 1))
        else
          some (.inr (.inl z))

def f_C_add (S : jx_S) (a1 : Int32) (a2 : Int32) (a3 : Int32) : Option (jx_S) :=
  (jx_lp (b_C_add_3 S a1 a2 a3) jx_N 0).bind (Sum.elim (fun z3_2 =>
    (f_C_insert S z3_2 a1 a2 a3).bind fun q49_3 =>
      some q49_3)
    (fun y => some y))
set_option maxHeartbeats 4000000 in
set_option maxRecDepth 100000 in
theorem lt_C_add_3 {G : jx_G} {X : jx_C} (hX : jx_Ok G X b_C_add "PlaneCells$CriticalNumbers" none 6 3) (fin : jx_S) (S : jx_S) (x1 : Int32) (x2 : Int32) (x3 : Int32) {n : Nat} {z : Int32} {r : (Int32) ⊕ jx_S} (hz : jx_lp (b_C_add_3 S x1 x2 x3) n z = some r) (hk : ∀ u, r = .inl u → jx_At G X (none, jx_w G fin) (jx_w G S) 43 [(0, .ref (jx_ad G 4)), (1, .int x1), (2, .int x2), (3, .int x3), (4, .int u)] []) (hy : ∀ y, r = .inr y → y = fin) : jx_At G X (none, jx_w G fin) (jx_w G S) 3 [(0, .ref (jx_ad G 4)), (1, .int x1), (2, .int x2), (3, .int x3), (4, .int z)] [] := by
  refine jx_loop2 (b_C_add_3 S x1 x2 x3) (fun z => jx_At G X (none, jx_w G fin) (jx_w G S) 3 [(0, .ref (jx_ad G 4)), (1, .int x1), (2, .int x2), (3, .int x3), (4, .int z)] []) (fun z => jx_At G X (none, jx_w G fin) (jx_w G S) 43 [(0, .ref (jx_ad G 4)), (1, .int x1), (2, .int x2), (3, .int x3), (4, .int z)] []) fin ?_ n z r hz hk hy
  intro z o h hi hx hr
  unfold b_C_add_3 at h
  refine jx_iload hX d_C_add_3 4 rfl ?_
  refine jx_aload_n hX d_C_add_5 0 rfl rfl ?_
  refine gf_C_21 hX d_C_add_6 rfl ?_
  refine jx_icmp_ge hX d_C_add_9 rfl (fun hc => ?_) (fun hc => ?_)
  · have h := jx_ip hc h
    obtain rfl := Option.some.inj h
    exact hx _ rfl
  · have h := jx_in_ hc h
    refine jx_aload_n hX d_C_add_12 0 rfl rfl ?_
    refine jx_iload hX d_C_add_13 4 rfl ?_
    refine jx_iload_n hX d_C_add_15 1 rfl rfl ?_
    refine jx_iload_n hX d_C_add_16 2 rfl rfl ?_
    refine jx_iload_n hX d_C_add_17 3 rfl rfl ?_
    obtain ⟨q18_1, hq18_1, h⟩ := jx_bd h
    refine cs_C_46 hX (c_C_signOfDifference (jx_l X) G S z x1 x2 x3 q18_1 hq18_1) d_C_add_18 (by decide) (Nat.le_of_ble_eq_true rfl) ?_
    refine jx_istore hX d_C_add_21 (by decide) (L2 := [(5, .int q18_1), (0, .ref (jx_ad G 4)), (1, .int x1), (2, .int x2), (3, .int x3), (4, .int z)]) rfl ?_
    refine jx_iload hX d_C_add_23 0 rfl ?_
    refine jx_if_ne hX d_C_add_25 rfl (fun hc => ?_) (fun hc => ?_)
    · have h := jx_in_ hc h
      refine jx_iload hX d_C_add_29 0 rfl ?_
      refine jx_if_le hX d_C_add_31 rfl (fun hc => ?_) (fun hc => ?_)
      · have h := jx_ip hc h
        refine jx_iinc (v := (z + 1)) hX d_C_add_37 5 rfl (by first | rfl | decide) (by decide) (L2 := [(4, .int (z + 1)), (5, .int q18_1), (0, .ref (jx_ad G 4)), (1, .int x1), (2, .int x2), (3, .int x3)]) rfl ?_
        refine jx_goto hX d_C_add_40 rfl ?_
        refine jx_sub (L2 := [(0, .ref (jx_ad G 4)), (1, .int x1), (2, .int x2), (3, .int x3), (4, .int (z + 1))]) [2, 3, 4, 5, 0] rfl ?_
        obtain rfl := Option.some.inj h
        exact hi _ rfl
      · have h := jx_in_ hc h
        refine jx_goto hX d_C_add_34 rfl ?_
        refine jx_sub (L2 := [(0, .ref (jx_ad G 4)), (1, .int x1), (2, .int x2), (3, .int x3), (4, .int z)]) [1, 2, 3, 4, 5] rfl ?_
        obtain rfl := Option.some.inj h
        exact hx _ rfl
    · have h := jx_ip hc h
      obtain rfl := Option.some.inj h
      obtain rfl := hr _ rfl
      exact jx_vret hX d_C_add_28

set_option maxHeartbeats 4000000 in
set_option maxRecDepth 100000 in
theorem c_C_add (l : Launch) (G : jx_G) (S : jx_S) (a1 : Int32) (a2 : Int32) (a3 : Int32) (fin : jx_S) (h : f_C_add S a1 a2 a3 = some fin) : jx_M l y_C_add b_C_add 6 none 3 G [.ref (jx_ad G 4), .int a1, .int a2, .int a3] (jx_w G S) (none, jx_w G fin) := by
  refine jx_met (own := "PlaneCells$CriticalNumbers") (by decide) rfl (Nat.le_of_ble_eq_true rfl) (fun X hX hl => ?_)
  subst hl
  refine jx_L (L2 := [(0, .ref (jx_ad G 4)), (1, .int a1), (2, .int a2), (3, .int a3)]) rfl ?_
  unfold f_C_add at h
  refine jx_iconst (v := 0) hX d_C_add_0 (by decide) ?_
  refine jx_istore hX d_C_add_1 (by decide) (L2 := [(4, .int 0), (0, .ref (jx_ad G 4)), (1, .int a1), (2, .int a2), (3, .int a3)]) rfl ?_
  refine jx_sub (L2 := [(0, .ref (jx_ad G 4)), (1, .int a1), (2, .int a2), (3, .int a3), (4, .int 0)]) [1, 2, 3, 4, 0] rfl ?_
  obtain ⟨r, hz, h⟩ := jx_bd h
  refine lt_C_add_3 hX fin S a1 a2 a3 hz (fun z3_2 e => ?_) (fun y e => ?_)
  · subst e
    have h := jx_el h
    refine jx_aload_n hX d_C_add_43 0 rfl rfl ?_
    refine jx_iload hX d_C_add_44 4 rfl ?_
    refine jx_iload_n hX d_C_add_46 1 rfl rfl ?_
    refine jx_iload_n hX d_C_add_47 2 rfl rfl ?_
    refine jx_iload_n hX d_C_add_48 3 rfl rfl ?_
    obtain ⟨q49_3, hq49_3, h⟩ := jx_bd h
    refine cs_C_50 hX (c_C_insert (jx_l X) G S z3_2 a1 a2 a3 q49_3 hq49_3) d_C_add_49 (by decide) (Nat.le_of_ble_eq_true rfl) ?_
    obtain rfl := Option.some.inj h
    exact jx_vret hX d_C_add_52
  · subst e
    have h := jx_er h
    exact Option.some.inj h

def f_C_addZerosOf (S : jx_S)  : Option (jx_S) :=
  if (S.1 16) = 0 then
    if (S.1 15) = 0 then
      some S
    else
      (f_C_add S (if (S.1 15) ≤ 0 then (S.1 14) else (-(S.1 14)) : Int32) 0 (jx_ai (S.1 15))).bind fun q122_1 =>
        some q122_1
  else
    if (((S.1 15) * (S.1 15)) - ((4 * (S.1 16)) * (S.1 14))) < 0 then
      some S
    else
      (f_C_add S (if (S.1 16) ≤ 0 then (S.1 15) else (-(S.1 15)) : Int32) (-(((S.1 15) * (S.1 15)) - ((4 * (S.1 16)) * (S.1 14)))) (2 * (jx_ai (S.1 16)))).bind fun q66_3 =>
        (f_C_add q66_3 (if (S.1 16) ≤ 0 then (S.1 15) else (-(S.1 15)) : Int32) (((S.1 15) * (S.1 15)) - ((4 * (S.1 16)) * (S.1 14))) (2 * (jx_ai (q66_3.1 16)))).bind fun q81_4 =>
          some q81_4
set_option maxHeartbeats 4000000 in
set_option maxRecDepth 100000 in
theorem c_C_addZerosOf (l : Launch) (G : jx_G) (S : jx_S)  (fin : jx_S) (h : f_C_addZerosOf S = some fin) : jx_M l y_C_addZerosOf b_C_addZerosOf 4 none 4 G [.ref (jx_ad G 4), .ref (jx_ad G 5)] (jx_w G S) (none, jx_w G fin) := by
  refine jx_met (own := "PlaneCells$CriticalNumbers") (by decide) rfl (Nat.le_of_ble_eq_true rfl) (fun X hX hl => ?_)
  subst hl
  refine jx_L (L2 := [(0, .ref (jx_ad G 4)), (1, .ref (jx_ad G 5))]) rfl ?_
  unfold f_C_addZerosOf at h
  refine jx_aload_n hX d_C_addZerosOf_0 1 rfl rfl ?_
  refine gf_C_25 hX d_C_addZerosOf_1 rfl ?_
  refine jx_if_eq hX d_C_addZerosOf_4 rfl (fun hc => ?_) (fun hc => ?_)
  · have h := jx_ip hc h
    refine jx_aload_n hX d_C_addZerosOf_87 1 rfl rfl ?_
    refine gf_C_30 hX d_C_addZerosOf_88 rfl ?_
    refine jx_if_eq hX d_C_addZerosOf_91 rfl (fun hc => ?_) (fun hc => ?_)
    · have h := jx_ip hc h
      obtain rfl := Option.some.inj h
      exact jx_vret hX d_C_addZerosOf_125
    · have h := jx_in_ hc h
      refine jx_aload_n hX d_C_addZerosOf_94 0 rfl rfl ?_
      refine jx_aload_n hX d_C_addZerosOf_95 1 rfl rfl ?_
      refine gf_C_30 hX d_C_addZerosOf_96 rfl ?_
      have hj : ∀ v : Int32, v = (if (S.1 15) ≤ 0 then (S.1 14) else (-(S.1 14)) : Int32) → jx_At G X (none, jx_w G fin) (jx_w G S) 114 [(0, .ref (jx_ad G 4)), (1, .ref (jx_ad G 5))] [.int v, .ref (jx_ad G 4)] := by
        intro v hv
        subst hv
        refine jx_iconst (v := 0) hX d_C_addZerosOf_114 (by decide) ?_
        refine jx_aload_n hX d_C_addZerosOf_115 1 rfl rfl ?_
        refine gf_C_30 hX d_C_addZerosOf_116 rfl ?_
        refine jx_ai_r hX wm_299 d_C_addZerosOf_119 (Nat.le_of_ble_eq_true rfl) (by decide) ?_
        obtain ⟨q122_1, hq122_1, h⟩ := jx_bd h
        refine cs_C_42 hX (c_C_add (jx_l X) G S (if (S.1 15) ≤ 0 then (S.1 14) else (-(S.1 14)) : Int32) 0 (jx_ai (S.1 15)) q122_1 hq122_1) d_C_addZerosOf_122 (by decide) (Nat.le_of_ble_eq_true rfl) ?_
        obtain rfl := Option.some.inj h
        exact jx_vret hX d_C_addZerosOf_125
      refine jx_if_le hX d_C_addZerosOf_99 rfl (fun hc2 => ?_) (fun hc2 => ?_)
      · refine jx_aload_n hX d_C_addZerosOf_110 1 rfl rfl ?_
        refine gf_C_33 hX d_C_addZerosOf_111 rfl ?_
        exact hj _ (if_pos hc2).symm
      · refine jx_aload_n hX d_C_addZerosOf_102 1 rfl rfl ?_
        refine gf_C_33 hX d_C_addZerosOf_103 rfl ?_
        refine jx_ineg hX d_C_addZerosOf_106 ?_
        refine jx_goto hX d_C_addZerosOf_107 rfl ?_
        exact hj _ (if_neg hc2).symm
  · have h := jx_in_ hc h
    refine jx_aload_n hX d_C_addZerosOf_7 1 rfl rfl ?_
    refine gf_C_30 hX d_C_addZerosOf_8 rfl ?_
    refine jx_aload_n hX d_C_addZerosOf_11 1 rfl rfl ?_
    refine gf_C_30 hX d_C_addZerosOf_12 rfl ?_
    refine jx_imul hX d_C_addZerosOf_15 ?_
    refine jx_iconst (v := 4) hX d_C_addZerosOf_16 (by decide) ?_
    refine jx_aload_n hX d_C_addZerosOf_17 1 rfl rfl ?_
    refine gf_C_25 hX d_C_addZerosOf_18 rfl ?_
    refine jx_imul hX d_C_addZerosOf_21 ?_
    refine jx_aload_n hX d_C_addZerosOf_22 1 rfl rfl ?_
    refine gf_C_33 hX d_C_addZerosOf_23 rfl ?_
    refine jx_imul hX d_C_addZerosOf_26 ?_
    refine jx_isub hX d_C_addZerosOf_27 ?_
    refine jx_istore_n hX d_C_addZerosOf_28 rfl (by decide) (L2 := [(2, .int (((S.1 15) * (S.1 15)) - ((4 * (S.1 16)) * (S.1 14)))), (0, .ref (jx_ad G 4)), (1, .ref (jx_ad G 5))]) rfl ?_
    refine jx_aload_n hX d_C_addZerosOf_29 2 rfl rfl ?_
    refine gf_C_25 hX d_C_addZerosOf_30 rfl ?_
    have hj : ∀ v : Int32, v = (if (S.1 16) ≤ 0 then (S.1 15) else (-(S.1 15)) : Int32) → jx_At G X (none, jx_w G fin) (jx_w G S) 48 [(2, .int (((S.1 15) * (S.1 15)) - ((4 * (S.1 16)) * (S.1 14)))), (0, .ref (jx_ad G 4)), (1, .ref (jx_ad G 5))] [.int v] := by
      intro v hv
      subst hv
      refine jx_istore_n hX d_C_addZerosOf_48 rfl (by decide) (L2 := [(3, .int (if (S.1 16) ≤ 0 then (S.1 15) else (-(S.1 15)) : Int32)), (2, .int (((S.1 15) * (S.1 15)) - ((4 * (S.1 16)) * (S.1 14)))), (0, .ref (jx_ad G 4)), (1, .ref (jx_ad G 5))]) rfl ?_
      refine jx_iload_n hX d_C_addZerosOf_49 1 rfl rfl ?_
      refine jx_if_lt hX d_C_addZerosOf_50 rfl (fun hc => ?_) (fun hc => ?_)
      · have h := jx_ip hc h
        refine jx_goto hX d_C_addZerosOf_84 rfl ?_
        obtain rfl := Option.some.inj h
        exact jx_vret hX d_C_addZerosOf_125
      · have h := jx_in_ hc h
        refine jx_aload_n hX d_C_addZerosOf_53 2 rfl rfl ?_
        refine jx_iload_n hX d_C_addZerosOf_54 0 rfl rfl ?_
        refine jx_iload_n hX d_C_addZerosOf_55 1 rfl rfl ?_
        refine jx_ineg hX d_C_addZerosOf_56 ?_
        refine jx_iconst (v := 2) hX d_C_addZerosOf_57 (by decide) ?_
        refine jx_aload_n hX d_C_addZerosOf_58 3 rfl rfl ?_
        refine gf_C_25 hX d_C_addZerosOf_59 rfl ?_
        refine jx_ai_r hX wm_299 d_C_addZerosOf_62 (Nat.le_of_ble_eq_true rfl) (by decide) ?_
        refine jx_imul hX d_C_addZerosOf_65 ?_
        obtain ⟨q66_3, hq66_3, h⟩ := jx_bd h
        refine cs_C_42 hX (c_C_add (jx_l X) G S (if (S.1 16) ≤ 0 then (S.1 15) else (-(S.1 15)) : Int32) (-(((S.1 15) * (S.1 15)) - ((4 * (S.1 16)) * (S.1 14)))) (2 * (jx_ai (S.1 16))) q66_3 hq66_3) d_C_addZerosOf_66 (by decide) (Nat.le_of_ble_eq_true rfl) ?_
        refine jx_aload_n hX d_C_addZerosOf_69 2 rfl rfl ?_
        refine jx_iload_n hX d_C_addZerosOf_70 0 rfl rfl ?_
        refine jx_iload_n hX d_C_addZerosOf_71 1 rfl rfl ?_
        refine jx_iconst (v := 2) hX d_C_addZerosOf_72 (by decide) ?_
        refine jx_aload_n hX d_C_addZerosOf_73 3 rfl rfl ?_
        refine gf_C_25 hX d_C_addZerosOf_74 rfl ?_
        refine jx_ai_r hX wm_299 d_C_addZerosOf_77 (Nat.le_of_ble_eq_true rfl) (by decide) ?_
        refine jx_imul hX d_C_addZerosOf_80 ?_
        obtain ⟨q81_4, hq81_4, h⟩ := jx_bd h
        refine cs_C_42 hX (c_C_add (jx_l X) G q66_3 (if (S.1 16) ≤ 0 then (S.1 15) else (-(S.1 15)) : Int32) (((S.1 15) * (S.1 15)) - ((4 * (S.1 16)) * (S.1 14))) (2 * (jx_ai (q66_3.1 16))) q81_4 hq81_4) d_C_addZerosOf_81 (by decide) (Nat.le_of_ble_eq_true rfl) ?_
        refine jx_goto hX d_C_addZerosOf_84 rfl ?_
        obtain rfl := Option.some.inj h
        exact jx_vret hX d_C_addZerosOf_125
    refine jx_if_le hX d_C_addZerosOf_33 rfl (fun hc5 => ?_) (fun hc5 => ?_)
    · refine jx_aload_n hX d_C_addZerosOf_44 2 rfl rfl ?_
      refine gf_C_30 hX d_C_addZerosOf_45 rfl ?_
      exact hj _ (if_pos hc5).symm
    · refine jx_aload_n hX d_C_addZerosOf_36 2 rfl rfl ?_
      refine gf_C_30 hX d_C_addZerosOf_37 rfl ?_
      refine jx_ineg hX d_C_addZerosOf_40 ?_
      refine jx_goto hX d_C_addZerosOf_41 rfl ?_
      exact hj _ (if_neg hc5).symm

def f_C_signBelowAll (S : jx_S)  : Option (Int32) :=
  if (S.1 16) = 0 then
    if (S.1 15) = 0 then
      some (jx_si (S.1 14))
    else
      some (-(jx_si (S.1 15)))
  else
    some (jx_si (S.1 16))
set_option maxHeartbeats 4000000 in
set_option maxRecDepth 100000 in
theorem c_C_signBelowAll (l : Launch) (G : jx_G) (S : jx_S)  (fin : Int32) (h : f_C_signBelowAll S = some fin) : jx_M l y_C_signBelowAll b_C_signBelowAll 1 (some .int) 1 G [.ref (jx_ad G 5)] (jx_w G S) (some (.int fin), jx_w G S) := by
  refine jx_met (own := "PlaneCells$CriticalNumbers") (by decide) rfl (Nat.le_of_ble_eq_true rfl) (fun X hX hl => ?_)
  subst hl
  refine jx_L (L2 := [(0, .ref (jx_ad G 5))]) rfl ?_
  unfold f_C_signBelowAll at h
  refine jx_aload_n hX d_C_signBelowAll_0 0 rfl rfl ?_
  refine gf_C_25 hX d_C_signBelowAll_1 rfl ?_
  refine jx_if_eq hX d_C_signBelowAll_4 rfl (fun hc => ?_) (fun hc => ?_)
  · have h := jx_ip hc h
    refine jx_aload_n hX d_C_signBelowAll_15 0 rfl rfl ?_
    refine gf_C_30 hX d_C_signBelowAll_16 rfl ?_
    refine jx_if_eq hX d_C_signBelowAll_19 rfl (fun hc => ?_) (fun hc => ?_)
    · have h := jx_ip hc h
      refine jx_aload_n hX d_C_signBelowAll_33 0 rfl rfl ?_
      refine gf_C_33 hX d_C_signBelowAll_34 rfl ?_
      refine jx_si_r hX wm_347 d_C_signBelowAll_37 (Nat.le_of_ble_eq_true rfl) (by decide) ?_
      obtain rfl := Option.some.inj h
      exact jx_iret hX d_C_signBelowAll_40
    · have h := jx_in_ hc h
      refine jx_aload_n hX d_C_signBelowAll_22 0 rfl rfl ?_
      refine gf_C_30 hX d_C_signBelowAll_23 rfl ?_
      refine jx_si_r hX wm_347 d_C_signBelowAll_26 (Nat.le_of_ble_eq_true rfl) (by decide) ?_
      refine jx_ineg hX d_C_signBelowAll_29 ?_
      refine jx_goto hX d_C_signBelowAll_30 rfl ?_
      obtain rfl := Option.some.inj h
      exact jx_iret hX d_C_signBelowAll_40
  · have h := jx_in_ hc h
    refine jx_aload_n hX d_C_signBelowAll_7 0 rfl rfl ?_
    refine gf_C_25 hX d_C_signBelowAll_8 rfl ?_
    refine jx_si_r hX wm_347 d_C_signBelowAll_11 (Nat.le_of_ble_eq_true rfl) (by decide) ?_
    obtain rfl := Option.some.inj h
    exact jx_iret hX d_C_signBelowAll_14

def f_C_signAt (S : jx_S) (a1 : Int32) (a2 : Int64) (a3 : Int64) (a4 : Int64) : Option (Int32) :=
  if jx_in a1 72 = true then
    some (jx_sl ((((((a2 * (((S.2.1 8) (a1).toNatClampNeg)).toInt64) * (((S.2.1 8) (a1).toNatClampNeg)).toInt64) + ((a3 * (((S.2.1 6) (a1).toNatClampNeg)).toInt64) * (((S.2.1 8) (a1).toNatClampNeg)).toInt64)) + (a4 * (((((S.2.1 6) (a1).toNatClampNeg)).toInt64 * (((S.2.1 6) (a1).toNatClampNeg)).toInt64) + (jx_al ((((S.2.1 7) (a1).toNatClampNeg)).toInt64))))) * (jx_al ((((a2 * (((S.2.1 8) (a1).toNatClampNeg)).toInt64) * (((S.2.1 8) (a1).toNatClampNeg)).toInt64) + ((a3 * (((S.2.1 6) (a1).toNatClampNeg)).toInt64) * (((S.2.1 8) (a1).toNatClampNeg)).toInt64)) + (a4 * (((((S.2.1 6) (a1).toNatClampNeg)).toInt64 * (((S.2.1 6) (a1).toNatClampNeg)).toInt64) + (jx_al ((((S.2.1 7) (a1).toNatClampNeg)).toInt64))))))) + ((((a3 * (((S.2.1 8) (a1).toNatClampNeg)).toInt64) + ((2 * a4) * (((S.2.1 6) (a1).toNatClampNeg)).toInt64)) * (jx_al ((a3 * (((S.2.1 8) (a1).toNatClampNeg)).toInt64) + ((2 * a4) * (((S.2.1 6) (a1).toNatClampNeg)).toInt64)))) * (((S.2.1 7) (a1).toNatClampNeg)).toInt64)))
  else none
set_option maxHeartbeats 4000000 in
set_option maxRecDepth 100000 in
theorem c_C_signAt (l : Launch) (G : jx_G) (S : jx_S) (a1 : Int32) (a2 : Int64) (a3 : Int64) (a4 : Int64) (fin : Int32) (h : f_C_signAt S a1 a2 a3 a4 = some fin) : jx_M l y_C_signAt b_C_signAt 18 (some .int) 1 G [.ref (jx_ad G 4), .int a1, .long a2, .long a3, .long a4] (jx_w G S) (some (.int fin), jx_w G S) := by
  refine jx_met (own := "PlaneCells$CriticalNumbers") (by decide) rfl (Nat.le_of_ble_eq_true rfl) (fun X hX hl => ?_)
  subst hl
  refine jx_L (L2 := [(0, .ref (jx_ad G 4)), (1, .int a1), (2, .long a2), (4, .long a3), (6, .long a4)]) rfl ?_
  unfold f_C_signAt at h
  refine jx_aload_n hX d_C_signAt_0 0 rfl rfl ?_
  refine gf_C_9 hX d_C_signAt_1 ?_
  refine jx_iload_n hX d_C_signAt_4 1 rfl rfl ?_
  obtain ⟨hg1, h⟩ := jx_gd h
  refine al_6 hX d_C_signAt_5 rfl hg1 ?_
  refine jx_i2l hX d_C_signAt_6 rfl ?_
  refine jx_lstore hX d_C_signAt_7 (by decide) (L2 := [(8, .long ((((S.2.1 6) (a1).toNatClampNeg)).toInt64)), (0, .ref (jx_ad G 4)), (1, .int a1), (2, .long a2), (4, .long a3), (6, .long a4)]) rfl ?_
  refine jx_aload_n hX d_C_signAt_9 1 rfl rfl ?_
  refine gf_C_18 hX d_C_signAt_10 ?_
  refine jx_iload_n hX d_C_signAt_13 2 rfl rfl ?_
  refine al_8 hX d_C_signAt_14 rfl hg1 ?_
  refine jx_i2l hX d_C_signAt_15 rfl ?_
  refine jx_lstore hX d_C_signAt_16 (by decide) (L2 := [(10, .long ((((S.2.1 8) (a1).toNatClampNeg)).toInt64)), (8, .long ((((S.2.1 6) (a1).toNatClampNeg)).toInt64)), (0, .ref (jx_ad G 4)), (1, .int a1), (2, .long a2), (4, .long a3), (6, .long a4)]) rfl ?_
  refine jx_aload_n hX d_C_signAt_18 2 rfl rfl ?_
  refine gf_C_15 hX d_C_signAt_19 ?_
  refine jx_iload_n hX d_C_signAt_22 3 rfl rfl ?_
  refine al_7 hX d_C_signAt_23 rfl hg1 ?_
  refine jx_i2l hX d_C_signAt_24 rfl ?_
  refine jx_lstore hX d_C_signAt_25 (by decide) (L2 := [(12, .long ((((S.2.1 7) (a1).toNatClampNeg)).toInt64)), (10, .long ((((S.2.1 8) (a1).toNatClampNeg)).toInt64)), (8, .long ((((S.2.1 6) (a1).toNatClampNeg)).toInt64)), (0, .ref (jx_ad G 4)), (1, .int a1), (2, .long a2), (4, .long a3), (6, .long a4)]) rfl ?_
  refine jx_lload_n hX d_C_signAt_27 5 rfl rfl ?_
  refine jx_lload hX d_C_signAt_28 1 rfl ?_
  refine jx_lmul hX d_C_signAt_30 ?_
  refine jx_lload hX d_C_signAt_31 1 rfl ?_
  refine jx_lmul hX d_C_signAt_33 ?_
  refine jx_lload hX d_C_signAt_34 6 rfl ?_
  refine jx_lload hX d_C_signAt_36 2 rfl ?_
  refine jx_lmul hX d_C_signAt_38 ?_
  refine jx_lload hX d_C_signAt_39 1 rfl ?_
  refine jx_lmul hX d_C_signAt_41 ?_
  refine jx_ladd hX d_C_signAt_42 ?_
  refine jx_lload hX d_C_signAt_43 7 rfl ?_
  refine jx_lload hX d_C_signAt_45 2 rfl ?_
  refine jx_lload hX d_C_signAt_47 2 rfl ?_
  refine jx_lmul hX d_C_signAt_49 ?_
  refine jx_lload hX d_C_signAt_50 0 rfl ?_
  refine jx_al_r hX wm_316 d_C_signAt_52 (Nat.le_of_ble_eq_true rfl) (by decide) ?_
  refine jx_ladd hX d_C_signAt_55 ?_
  refine jx_lmul hX d_C_signAt_56 ?_
  refine jx_ladd hX d_C_signAt_57 ?_
  refine jx_lstore hX d_C_signAt_58 (by decide) (L2 := [(14, .long ((((a2 * (((S.2.1 8) (a1).toNatClampNeg)).toInt64) * (((S.2.1 8) (a1).toNatClampNeg)).toInt64) + ((a3 * (((S.2.1 6) (a1).toNatClampNeg)).toInt64) * (((S.2.1 8) (a1).toNatClampNeg)).toInt64)) + (a4 * (((((S.2.1 6) (a1).toNatClampNeg)).toInt64 * (((S.2.1 6) (a1).toNatClampNeg)).toInt64) + (jx_al ((((S.2.1 7) (a1).toNatClampNeg)).toInt64)))))), (12, .long ((((S.2.1 7) (a1).toNatClampNeg)).toInt64)), (10, .long ((((S.2.1 8) (a1).toNatClampNeg)).toInt64)), (8, .long ((((S.2.1 6) (a1).toNatClampNeg)).toInt64)), (0, .ref (jx_ad G 4)), (1, .int a1), (2, .long a2), (4, .long a3), (6, .long a4)]) rfl ?_
  refine jx_lload hX d_C_signAt_60 7 rfl ?_
  refine jx_lload hX d_C_signAt_62 2 rfl ?_
  refine jx_lmul hX d_C_signAt_64 ?_
  refine jx_ldc2 (v := 2) hX (wm_354) d_C_signAt_65 ?_
  refine jx_lload hX d_C_signAt_68 8 rfl ?_
  refine jx_lmul hX d_C_signAt_70 ?_
  refine jx_lload hX d_C_signAt_71 3 rfl ?_
  refine jx_lmul hX d_C_signAt_73 ?_
  refine jx_ladd hX d_C_signAt_74 ?_
  refine jx_lstore hX d_C_signAt_75 (by decide) (L2 := [(16, .long ((a3 * (((S.2.1 8) (a1).toNatClampNeg)).toInt64) + ((2 * a4) * (((S.2.1 6) (a1).toNatClampNeg)).toInt64))), (14, .long ((((a2 * (((S.2.1 8) (a1).toNatClampNeg)).toInt64) * (((S.2.1 8) (a1).toNatClampNeg)).toInt64) + ((a3 * (((S.2.1 6) (a1).toNatClampNeg)).toInt64) * (((S.2.1 8) (a1).toNatClampNeg)).toInt64)) + (a4 * (((((S.2.1 6) (a1).toNatClampNeg)).toInt64 * (((S.2.1 6) (a1).toNatClampNeg)).toInt64) + (jx_al ((((S.2.1 7) (a1).toNatClampNeg)).toInt64)))))), (12, .long ((((S.2.1 7) (a1).toNatClampNeg)).toInt64)), (10, .long ((((S.2.1 8) (a1).toNatClampNeg)).toInt64)), (8, .long ((((S.2.1 6) (a1).toNatClampNeg)).toInt64)), (0, .ref (jx_ad G 4)), (1, .int a1), (2, .long a2), (4, .long a3), (6, .long a4)]) rfl ?_
  refine jx_lload hX d_C_signAt_77 1 rfl ?_
  refine jx_lload hX d_C_signAt_79 1 rfl ?_
  refine jx_al_r hX wm_316 d_C_signAt_81 (Nat.le_of_ble_eq_true rfl) (by decide) ?_
  refine jx_lmul hX d_C_signAt_84 ?_
  refine jx_lload hX d_C_signAt_85 0 rfl ?_
  refine jx_lload hX d_C_signAt_87 0 rfl ?_
  refine jx_al_r hX wm_316 d_C_signAt_89 (Nat.le_of_ble_eq_true rfl) (by decide) ?_
  refine jx_lmul hX d_C_signAt_92 ?_
  refine jx_lload hX d_C_signAt_93 2 rfl ?_
  refine jx_lmul hX d_C_signAt_95 ?_
  refine jx_ladd hX d_C_signAt_96 ?_
  refine jx_sl_r hX wm_313 d_C_signAt_97 (Nat.le_of_ble_eq_true rfl) (by decide) ?_
  obtain rfl := Option.some.inj h
  exact jx_iret hX d_C_signAt_100

def f_C_signInColumn (S : jx_S) (a1 : Int32) : Option (Int32) :=
  if a1 = 0 then
    (f_C_signBelowAll S).bind fun q5_3 =>
      some q5_3
  else
    (f_C_signAt S ((a1 - 1) >>> (1 &&& 31)) (((S.1 14)).toInt64) (((S.1 15)).toInt64) (((S.1 16)).toInt64)).bind fun q32_1 =>
      if q32_1 = 0 then
        if (a1 &&& 1) = 1 then
          some q32_1
        else
          (f_C_signAt S ((a1 - 1) >>> (1 &&& 31)) (((S.1 15)).toInt64) (((2 * (S.1 16))).toInt64) 0).bind fun q67_2 =>
            if q67_2 = 0 then
              some (jx_si (S.1 16))
            else
              some q67_2
      else
        some q32_1
set_option maxHeartbeats 4000000 in
set_option maxRecDepth 100000 in
theorem c_C_signInColumn (l : Launch) (G : jx_G) (S : jx_S) (a1 : Int32) (fin : Int32) (h : f_C_signInColumn S a1 = some fin) : jx_M l y_C_signInColumn b_C_signInColumn 6 (some .int) 2 G [.ref (jx_ad G 4), .int a1, .ref (jx_ad G 5)] (jx_w G S) (some (.int fin), jx_w G S) := by
  refine jx_met (own := "PlaneCells$CriticalNumbers") (by decide) rfl (Nat.le_of_ble_eq_true rfl) (fun X hX hl => ?_)
  subst hl
  refine jx_L (L2 := [(0, .ref (jx_ad G 4)), (1, .int a1), (2, .ref (jx_ad G 5))]) rfl ?_
  unfold f_C_signInColumn at h
  refine jx_iload_n hX d_C_signInColumn_0 1 rfl rfl ?_
  refine jx_if_ne hX d_C_signInColumn_1 rfl (fun hc => ?_) (fun hc => ?_)
  · have h := jx_in_ hc h
    refine jx_iload_n hX d_C_signInColumn_9 1 rfl rfl ?_
    refine jx_iconst (v := 1) hX d_C_signInColumn_10 (by decide) ?_
    refine jx_isub hX d_C_signInColumn_11 ?_
    refine jx_iconst (v := 1) hX d_C_signInColumn_12 (by decide) ?_
    refine jx_ishr hX d_C_signInColumn_13 ?_
    refine jx_istore_n hX d_C_signInColumn_14 rfl (by decide) (L2 := [(3, .int ((a1 - 1) >>> (1 &&& 31))), (0, .ref (jx_ad G 4)), (1, .int a1), (2, .ref (jx_ad G 5))]) rfl ?_
    refine jx_aload_n hX d_C_signInColumn_15 1 rfl rfl ?_
    refine jx_iload_n hX d_C_signInColumn_16 0 rfl rfl ?_
    refine jx_aload_n hX d_C_signInColumn_17 3 rfl rfl ?_
    refine gf_C_33 hX d_C_signInColumn_18 rfl ?_
    refine jx_i2l hX d_C_signInColumn_21 rfl ?_
    refine jx_aload_n hX d_C_signInColumn_22 3 rfl rfl ?_
    refine gf_C_30 hX d_C_signInColumn_23 rfl ?_
    refine jx_i2l hX d_C_signInColumn_26 rfl ?_
    refine jx_aload_n hX d_C_signInColumn_27 3 rfl rfl ?_
    refine gf_C_25 hX d_C_signInColumn_28 rfl ?_
    refine jx_i2l hX d_C_signInColumn_31 rfl ?_
    obtain ⟨q32_1, hq32_1, h⟩ := jx_bd h
    refine cs_C_73 hX (c_C_signAt (jx_l X) G S ((a1 - 1) >>> (1 &&& 31)) (((S.1 14)).toInt64) (((S.1 15)).toInt64) (((S.1 16)).toInt64) q32_1 hq32_1) d_C_signInColumn_32 (by decide) (Nat.le_of_ble_eq_true rfl) ?_
    refine jx_istore hX d_C_signInColumn_35 (by decide) (L2 := [(4, .int q32_1), (3, .int ((a1 - 1) >>> (1 &&& 31))), (0, .ref (jx_ad G 4)), (1, .int a1), (2, .ref (jx_ad G 5))]) rfl ?_
    refine jx_iload hX d_C_signInColumn_37 0 rfl ?_
    refine jx_if_ne hX d_C_signInColumn_39 rfl (fun hc => ?_) (fun hc => ?_)
    · have h := jx_in_ hc h
      refine jx_iload hX d_C_signInColumn_49 0 rfl ?_
      obtain rfl := Option.some.inj h
      exact jx_iret hX d_C_signInColumn_51
    · have h := jx_ip hc h
      refine jx_iload_n hX d_C_signInColumn_42 3 rfl rfl ?_
      refine jx_iconst (v := 1) hX d_C_signInColumn_43 (by decide) ?_
      refine jx_iand hX d_C_signInColumn_44 ?_
      refine jx_iconst (v := 1) hX d_C_signInColumn_45 (by decide) ?_
      refine jx_icmp_ne hX d_C_signInColumn_46 rfl (fun hc => ?_) (fun hc => ?_)
      · have h := jx_in_ hc h
        refine jx_aload_n hX d_C_signInColumn_52 2 rfl rfl ?_
        refine jx_iload_n hX d_C_signInColumn_53 1 rfl rfl ?_
        refine jx_aload_n hX d_C_signInColumn_54 4 rfl rfl ?_
        refine gf_C_30 hX d_C_signInColumn_55 rfl ?_
        refine jx_i2l hX d_C_signInColumn_58 rfl ?_
        refine jx_iconst (v := 2) hX d_C_signInColumn_59 (by decide) ?_
        refine jx_aload_n hX d_C_signInColumn_60 4 rfl rfl ?_
        refine gf_C_25 hX d_C_signInColumn_61 rfl ?_
        refine jx_imul hX d_C_signInColumn_64 ?_
        refine jx_i2l hX d_C_signInColumn_65 rfl ?_
        refine jx_lconst (v := 0) hX d_C_signInColumn_66 (by decide) ?_
        obtain ⟨q67_2, hq67_2, h⟩ := jx_bd h
        refine cs_C_73 hX (c_C_signAt (jx_l X) G S ((a1 - 1) >>> (1 &&& 31)) (((S.1 15)).toInt64) (((2 * (S.1 16))).toInt64) 0 q67_2 hq67_2) d_C_signInColumn_67 (by decide) (Nat.le_of_ble_eq_true rfl) ?_
        refine jx_istore hX d_C_signInColumn_70 (by decide) (L2 := [(5, .int q67_2), (4, .int q32_1), (3, .int ((a1 - 1) >>> (1 &&& 31))), (0, .ref (jx_ad G 4)), (1, .int a1), (2, .ref (jx_ad G 5))]) rfl ?_
        refine jx_iload hX d_C_signInColumn_72 0 rfl ?_
        refine jx_if_eq hX d_C_signInColumn_74 rfl (fun hc => ?_) (fun hc => ?_)
        · have h := jx_ip hc h
          refine jx_aload_n hX d_C_signInColumn_82 5 rfl rfl ?_
          refine gf_C_25 hX d_C_signInColumn_83 rfl ?_
          refine jx_si_r hX wm_347 d_C_signInColumn_86 (Nat.le_of_ble_eq_true rfl) (by decide) ?_
          obtain rfl := Option.some.inj h
          exact jx_iret hX d_C_signInColumn_89
        · have h := jx_in_ hc h
          refine jx_iload hX d_C_signInColumn_77 0 rfl ?_
          refine jx_goto hX d_C_signInColumn_79 rfl ?_
          obtain rfl := Option.some.inj h
          exact jx_iret hX d_C_signInColumn_89
      · have h := jx_ip hc h
        refine jx_iload hX d_C_signInColumn_49 0 rfl ?_
        obtain rfl := Option.some.inj h
        exact jx_iret hX d_C_signInColumn_51
  · have h := jx_ip hc h
    refine jx_aload_n hX d_C_signInColumn_4 2 rfl rfl ?_
    obtain ⟨q5_3, hq5_3, h⟩ := jx_bd h
    refine cs_C_69 hX (c_C_signBelowAll (jx_l X) G S q5_3 hq5_3) d_C_signInColumn_5 (by decide) (Nat.le_of_ble_eq_true rfl) ?_
    obtain rfl := Option.some.inj h
    exact jx_iret hX d_C_signInColumn_8

def f_S_number (S : jx_S) (a1 : Int32) (a2 : Int32) : Option (Int32) :=
  if jx_in ((a1 * 4) + a2) 32 = true then
    some ((S.2.1 0) (((a1 * 4) + a2)).toNatClampNeg)
  else none
set_option maxHeartbeats 4000000 in
set_option maxRecDepth 100000 in
theorem c_S_number (l : Launch) (G : jx_G) (S : jx_S) (a1 : Int32) (a2 : Int32) (fin : Int32) (h : f_S_number S a1 a2 = some fin) : jx_M l y_S_number b_S_number 3 (some .int) 0 G [.ref (jx_ad G 1), .int a1, .int a2] (jx_w G S) (some (.int fin), jx_w G S) := by
  refine jx_met (own := "PlaneCells$Sentence") (by decide) rfl (Nat.le_of_ble_eq_true rfl) (fun X hX hl => ?_)
  subst hl
  refine jx_L (L2 := [(0, .ref (jx_ad G 1)), (1, .int a1), (2, .int a2)]) rfl ?_
  unfold f_S_number at h
  refine jx_aload_n hX d_S_number_0 0 rfl rfl ?_
  refine gf_S_9 hX d_S_number_1 ?_
  refine jx_iload_n hX d_S_number_4 1 rfl rfl ?_
  refine jx_iconst (v := 4) hX d_S_number_5 (by decide) ?_
  refine jx_imul hX d_S_number_6 ?_
  refine jx_iload_n hX d_S_number_7 2 rfl rfl ?_
  refine jx_iadd hX d_S_number_8 ?_
  obtain ⟨hg1, h⟩ := jx_gd h
  refine al_0 hX d_S_number_9 rfl hg1 ?_
  obtain rfl := Option.some.inj h
  exact jx_iret hX d_S_number_10

