def f_M_signIn (S : jx_S) (a1 : Int32) (a2 : Int64) (a3 : Int64) (a4 : Int64) : Option (Int32) :=
  if (a1 - a1 / 2 * 2) = 1 then
    (f_M_signAt S (a1 / 2) a2 a3 a4).bind fun q16_2 =>
      some q16_2
  else
    (f_M_signBehind S ((a1 / 2) - 1) a2 a3 a4).bind fun q33_1 =>
      some q33_1
set_option maxHeartbeats 4000000 in
set_option maxRecDepth 100000 in
theorem c_M_signIn (l : Launch) (G : jx_G) (S : jx_S) (a1 : Int32) (a2 : Int64) (a3 : Int64) (a4 : Int64) (fin : Int32) (h : f_M_signIn S a1 a2 a3 a4 = some fin) : jx_M l y_M_signIn b_M_signIn 8 (some .int) 4 G [.ref (jx_ad G 18), .int a1, .long a2, .long a3, .long a4] (jr_w G S) (some (.int fin), jr_w G S) := by
  refine jx_met (own := "PlaneCellsModel") (by decide) rfl (Nat.le_of_ble_eq_true rfl) (fun X hX hl => ?_)
  subst hl
  refine jx_L (L2 := [(0, .ref (jx_ad G 18)), (1, .int a1), (2, .long a2), (4, .long a3), (6, .long a4)]) rfl ?_
  unfold f_M_signIn at h
  refine jx_iload_n hX d_M_signIn_0 1 rfl rfl ?_
  refine jx_iconst (v := 2) hX d_M_signIn_1 (by decide) ?_
  refine jx_irem hX d_M_signIn_2 (by decide) ?_
  refine jx_iconst (v := 1) hX d_M_signIn_3 (by decide) ?_
  refine jx_icmp_ne hX d_M_signIn_4 rfl (fun hc => ?_) (fun hc => ?_)
  · have h := jx_in_ hc h
    refine jx_aload_n hX d_M_signIn_22 0 rfl rfl ?_
    refine jx_iload_n hX d_M_signIn_23 1 rfl rfl ?_
    refine jx_iconst (v := 2) hX d_M_signIn_24 (by decide) ?_
    refine jx_idiv hX d_M_signIn_25 (by decide) ?_
    refine jx_iconst (v := 1) hX d_M_signIn_26 (by decide) ?_
    refine jx_isub hX d_M_signIn_27 ?_
    refine jx_lload_n hX d_M_signIn_28 2 rfl rfl ?_
    refine jx_lload hX d_M_signIn_29 3 rfl ?_
    refine jx_lload hX d_M_signIn_31 4 rfl ?_
    obtain ⟨q33_1, hq33_1, h⟩ := jx_bd h
    refine cs_M_131 hX (c_M_signBehind (jx_l X) G S ((a1 / 2) - 1) a2 a3 a4 q33_1 hq33_1) d_M_signIn_33 (by decide) (Nat.le_of_ble_eq_true rfl) ?_
    obtain rfl := Option.some.inj h
    exact jx_iret hX d_M_signIn_36
  · have h := jx_ip hc h
    refine jx_aload_n hX d_M_signIn_7 0 rfl rfl ?_
    refine jx_iload_n hX d_M_signIn_8 1 rfl rfl ?_
    refine jx_iconst (v := 2) hX d_M_signIn_9 (by decide) ?_
    refine jx_idiv hX d_M_signIn_10 (by decide) ?_
    refine jx_lload_n hX d_M_signIn_11 2 rfl rfl ?_
    refine jx_lload hX d_M_signIn_12 3 rfl ?_
    refine jx_lload hX d_M_signIn_14 4 rfl ?_
    obtain ⟨q16_2, hq16_2, h⟩ := jx_bd h
    refine cs_M_127 hX (c_M_signAt (jx_l X) G S (a1 / 2) a2 a3 a4 q16_2 hq16_2) d_M_signIn_16 (by decide) (Nat.le_of_ble_eq_true rfl) ?_
    refine jx_goto hX d_M_signIn_19 rfl ?_
    obtain rfl := Option.some.inj h
    exact jx_iret hX d_M_signIn_36

def k_M_against_73 (S : jx_S) (x1 : Int32) (x2 : Int64) (x4 : Int64) (x6 : Int64) (x8 : Int32) (x9 : Int32) (x10 : Int32) (y0 : Int32) : Option (Int32) :=
  if x9 = 0 then
    if x10 = 0 then
      some 0
    else
      some (y0 - (if 0 ≤ x8 then 3 else 1 : Int32))
  else
    some (y0 - (if 0 ≤ x8 then 3 else 1 : Int32))

def f_M_against (S : jx_S) (a1 : Int32) (a2 : Int64) (a3 : Int64) (a4 : Int64) (a5 : Int32) : Option (Int32) :=
  (f_M_signAt S a1 a2 a3 a4).bind fun q7_1 =>
    if (lg_cmp a2 0) = 0 then
      some q7_1
    else
      (f_M_signAt S a1 0 (2 * a2) a3).bind fun q31_2 =>
        k_M_against_73 S a1 a2 a3 a4 a5 q7_1 q31_2 (if q7_1 ≤ 0 then (if 0 ≤ q7_1 then (if 0 ≤ q31_2 then 3 else 1 : Int32) else 2 : Int32) else (if 0 ≤ q31_2 then 4 else 0 : Int32) : Int32)
set_option maxHeartbeats 4000000 in
set_option maxRecDepth 100000 in
theorem kt_M_against_73 {G : jx_G} {X : jx_C} (hX : jx_Ok G X b_M_against "PlaneCellsModel" (some .int) 13 3) (fin : Int32) (S : jx_S) (x1 : Int32) (x2 : Int64) (x4 : Int64) (x6 : Int64) (x8 : Int32) (x9 : Int32) (x10 : Int32) (y0 : Int32) (h : k_M_against_73 S x1 x2 x4 x6 x8 x9 x10 y0 = some fin) : jx_At G X (some (.int fin), jr_w G S) (jr_w G S) 73 [(0, .ref (jx_ad G 18)), (1, .int x1), (2, .long x2), (4, .long x4), (6, .long x6), (8, .int x8), (9, .int x9), (10, .int x10)] [.int y0] := by
  unfold k_M_against_73 at h
  refine jx_istore hX d_M_against_73 (by decide) (L2 := [(11, .int y0), (0, .ref (jx_ad G 18)), (1, .int x1), (2, .long x2), (4, .long x4), (6, .long x6), (8, .int x8), (9, .int x9), (10, .int x10)]) rfl ?_
  refine jx_iload hX d_M_against_75 7 rfl ?_
  refine jx_if_ne hX d_M_against_77 rfl (fun hc => ?_) (fun hc => ?_)
  · have h := jx_in_ hc h
    refine jx_iload hX d_M_against_87 6 rfl ?_
    have hj : ∀ v : Int32, v = (if 0 ≤ x8 then 3 else 1 : Int32) → jx_At G X (some (.int fin), jr_w G S) (jr_w G S) 97 [(11, .int y0), (0, .ref (jx_ad G 18)), (1, .int x1), (2, .long x2), (4, .long x4), (6, .long x6), (8, .int x8), (9, .int x9), (10, .int x10)] [.int v] := by
      intro v hv
      subst hv
      refine jx_istore hX d_M_against_97 (by decide) (L2 := [(12, .int (if 0 ≤ x8 then 3 else 1 : Int32)), (11, .int y0), (0, .ref (jx_ad G 18)), (1, .int x1), (2, .long x2), (4, .long x4), (6, .long x6), (8, .int x8), (9, .int x9), (10, .int x10)]) rfl ?_
      refine jx_iload hX d_M_against_99 1 rfl ?_
      refine jx_iload hX d_M_against_101 0 rfl ?_
      refine jx_isub hX d_M_against_103 ?_
      obtain rfl := Option.some.inj h
      exact jx_iret hX d_M_against_104
    refine jx_if_ge hX d_M_against_89 rfl (fun hc3 => ?_) (fun hc3 => ?_)
    · refine jx_iconst (v := 3) hX d_M_against_96 (by decide) ?_
      exact hj _ (if_pos hc3).symm
    · refine jx_iconst (v := 1) hX d_M_against_92 (by decide) ?_
      refine jx_goto hX d_M_against_93 rfl ?_
      exact hj _ (if_neg hc3).symm
  · have h := jx_ip hc h
    refine jx_iload hX d_M_against_80 8 rfl ?_
    refine jx_if_ne hX d_M_against_82 rfl (fun hc => ?_) (fun hc => ?_)
    · have h := jx_in_ hc h
      refine jx_iload hX d_M_against_87 6 rfl ?_
      have hj : ∀ v : Int32, v = (if 0 ≤ x8 then 3 else 1 : Int32) → jx_At G X (some (.int fin), jr_w G S) (jr_w G S) 97 [(11, .int y0), (0, .ref (jx_ad G 18)), (1, .int x1), (2, .long x2), (4, .long x4), (6, .long x6), (8, .int x8), (9, .int x9), (10, .int x10)] [.int v] := by
        intro v hv
        subst hv
        refine jx_istore hX d_M_against_97 (by decide) (L2 := [(12, .int (if 0 ≤ x8 then 3 else 1 : Int32)), (11, .int y0), (0, .ref (jx_ad G 18)), (1, .int x1), (2, .long x2), (4, .long x4), (6, .long x6), (8, .int x8), (9, .int x9), (10, .int x10)]) rfl ?_
        refine jx_iload hX d_M_against_99 1 rfl ?_
        refine jx_iload hX d_M_against_101 0 rfl ?_
        refine jx_isub hX d_M_against_103 ?_
        obtain rfl := Option.some.inj h
        exact jx_iret hX d_M_against_104
      refine jx_if_ge hX d_M_against_89 rfl (fun hc4 => ?_) (fun hc4 => ?_)
      · refine jx_iconst (v := 3) hX d_M_against_96 (by decide) ?_
        exact hj _ (if_pos hc4).symm
      · refine jx_iconst (v := 1) hX d_M_against_92 (by decide) ?_
        refine jx_goto hX d_M_against_93 rfl ?_
        exact hj _ (if_neg hc4).symm
    · have h := jx_ip hc h
      refine jx_iconst (v := 0) hX d_M_against_85 (by decide) ?_
      obtain rfl := Option.some.inj h
      exact jx_iret hX d_M_against_86

set_option maxHeartbeats 4000000 in
set_option maxRecDepth 100000 in
theorem c_M_against (l : Launch) (G : jx_G) (S : jx_S) (a1 : Int32) (a2 : Int64) (a3 : Int64) (a4 : Int64) (a5 : Int32) (fin : Int32) (h : f_M_against S a1 a2 a3 a4 a5 = some fin) : jx_M l y_M_against b_M_against 13 (some .int) 3 G [.ref (jx_ad G 18), .int a1, .long a2, .long a3, .long a4, .int a5] (jr_w G S) (some (.int fin), jr_w G S) := by
  refine jx_met (own := "PlaneCellsModel") (by decide) rfl (Nat.le_of_ble_eq_true rfl) (fun X hX hl => ?_)
  subst hl
  refine jx_L (L2 := [(0, .ref (jx_ad G 18)), (1, .int a1), (2, .long a2), (4, .long a3), (6, .long a4), (8, .int a5)]) rfl ?_
  unfold f_M_against at h
  refine jx_aload_n hX d_M_against_0 0 rfl rfl ?_
  refine jx_iload_n hX d_M_against_1 1 rfl rfl ?_
  refine jx_lload_n hX d_M_against_2 2 rfl rfl ?_
  refine jx_lload hX d_M_against_3 3 rfl ?_
  refine jx_lload hX d_M_against_5 4 rfl ?_
  obtain ⟨q7_1, hq7_1, h⟩ := jx_bd h
  refine cs_M_127 hX (c_M_signAt (jx_l X) G S a1 a2 a3 a4 q7_1 hq7_1) d_M_against_7 (by decide) (Nat.le_of_ble_eq_true rfl) ?_
  refine jx_istore hX d_M_against_10 (by decide) (L2 := [(9, .int q7_1), (0, .ref (jx_ad G 18)), (1, .int a1), (2, .long a2), (4, .long a3), (6, .long a4), (8, .int a5)]) rfl ?_
  refine jx_lload_n hX d_M_against_12 3 rfl rfl ?_
  refine jx_lconst (v := 0) hX d_M_against_13 (by decide) ?_
  refine jx_lcmp hX d_M_against_14 ?_
  refine jx_if_ne hX d_M_against_15 rfl (fun hc => ?_) (fun hc => ?_)
  · have h := jx_in_ hc h
    refine jx_aload_n hX d_M_against_21 1 rfl rfl ?_
    refine jx_iload_n hX d_M_against_22 2 rfl rfl ?_
    refine jx_lconst (v := 0) hX d_M_against_23 (by decide) ?_
    refine jx_ldc2 (v := 2) hX (wm_618) d_M_against_24 ?_
    refine jx_lload_n hX d_M_against_27 3 rfl rfl ?_
    refine jx_lmul hX d_M_against_28 ?_
    refine jx_lload hX d_M_against_29 4 rfl ?_
    obtain ⟨q31_2, hq31_2, h⟩ := jx_bd h
    refine cs_M_127 hX (c_M_signAt (jx_l X) G S a1 0 (2 * a2) a3 q31_2 hq31_2) d_M_against_31 (by decide) (Nat.le_of_ble_eq_true rfl) ?_
    refine jx_istore hX d_M_against_34 (by decide) (L2 := [(10, .int q31_2), (9, .int q7_1), (0, .ref (jx_ad G 18)), (1, .int a1), (2, .long a2), (4, .long a3), (6, .long a4), (8, .int a5)]) rfl ?_
    refine jx_iload hX d_M_against_36 1 rfl ?_
    have hj : ∀ v : Int32, v = (if q7_1 ≤ 0 then (if 0 ≤ q7_1 then (if 0 ≤ q31_2 then 3 else 1 : Int32) else 2 : Int32) else (if 0 ≤ q31_2 then 4 else 0 : Int32) : Int32) → jx_At G X (some (.int fin), jr_w G S) (jr_w G S) 73 [(10, .int q31_2), (9, .int q7_1), (0, .ref (jx_ad G 18)), (1, .int a1), (2, .long a2), (4, .long a3), (6, .long a4), (8, .int a5)] [.int v] := by
      intro v hv
      subst hv
      refine jx_sub (L2 := [(0, .ref (jx_ad G 18)), (1, .int a1), (2, .long a2), (4, .long a3), (6, .long a4), (8, .int a5), (9, .int q7_1), (10, .int q31_2)]) [2, 3, 4, 5, 6, 7, 1, 0] rfl ?_
      exact kt_M_against_73 hX fin S a1 a2 a3 a4 a5 q7_1 q31_2 (if q7_1 ≤ 0 then (if 0 ≤ q7_1 then (if 0 ≤ q31_2 then 3 else 1 : Int32) else 2 : Int32) else (if 0 ≤ q31_2 then 4 else 0 : Int32) : Int32) h
    refine jx_if_le hX d_M_against_38 rfl (fun hc5 => ?_) (fun hc5 => ?_)
    · refine jx_iload hX d_M_against_54 1 rfl ?_
      refine jx_if_ge hX d_M_against_56 rfl (fun hc6 => ?_) (fun hc6 => ?_)
      · refine jx_iload hX d_M_against_63 0 rfl ?_
        refine jx_if_ge hX d_M_against_65 rfl (fun hc7 => ?_) (fun hc7 => ?_)
        · refine jx_iconst (v := 3) hX d_M_against_72 (by decide) ?_
          exact hj _ ((if_pos hc5).trans ((if_pos hc6).trans (if_pos hc7))).symm
        · refine jx_iconst (v := 1) hX d_M_against_68 (by decide) ?_
          refine jx_goto hX d_M_against_69 rfl ?_
          exact hj _ ((if_pos hc5).trans ((if_pos hc6).trans (if_neg hc7))).symm
      · refine jx_iconst (v := 2) hX d_M_against_59 (by decide) ?_
        refine jx_goto hX d_M_against_60 rfl ?_
        exact hj _ ((if_pos hc5).trans (if_neg hc6)).symm
    · refine jx_iload hX d_M_against_41 0 rfl ?_
      refine jx_if_ge hX d_M_against_43 rfl (fun hc8 => ?_) (fun hc8 => ?_)
      · refine jx_iconst (v := 4) hX d_M_against_50 (by decide) ?_
        refine jx_goto hX d_M_against_51 rfl ?_
        exact hj _ ((if_neg hc5).trans (if_pos hc8)).symm
      · refine jx_iconst (v := 0) hX d_M_against_46 (by decide) ?_
        refine jx_goto hX d_M_against_47 rfl ?_
        exact hj _ ((if_neg hc5).trans (if_neg hc8)).symm
  · have h := jx_ip hc h
    refine jx_iload hX d_M_against_18 0 rfl ?_
    obtain rfl := Option.some.inj h
    exact jx_iret hX d_M_against_20

def b_M_addRoot_9 (S : jx_S) (x1 : Int64) (x3 : Int64) (x5 : Int64) (x7 : Int32) (z : Int32 × Int32) : Option ((Int32 × Int32) ⊕ ((Int32) ⊕ jx_S)) :=
  if (S.1 8) ≤ z.2 then
    some (.inr (.inl z.1))
  else
    (f_M_against S z.2 x1 x3 x5 x7).bind fun q27_1 =>
      if q27_1 = 0 then
        some (.inr (.inr S))
      else
        some (.inl ((if q27_1 ≤ 0 then z.1 else (if z.1 ≤ z.2 then z.1 else z.2 : Int32) : Int32), (z.2 + 1)))

def b_M_addRoot_71 (x1 : Int64) (x3 : Int64) (x5 : Int64) (x7 : Int32) (x8 : Int32) (z : jx_S × Int32) : Option ((jx_S × Int32) ⊕ (jx_S)) :=
  if z.2 ≤ x8 then
    some (.inr z.1)
  else
    if jx_in (z.2 - 1) 80 = true then
      if jx_in z.2 80 = true then
        some (.inl ((jx_g (jx_gl (jx_gl (jx_gl z.1 0 (vp_updL (z.1.2.2 0) (z.2).toNatClampNeg ((z.1.2.2 0) ((z.2 - 1)).toNatClampNeg))) 1 (vp_updL (z.1.2.2 1) (z.2).toNatClampNeg ((z.1.2.2 1) ((z.2 - 1)).toNatClampNeg))) 2 (vp_updL (z.1.2.2 2) (z.2).toNatClampNeg ((z.1.2.2 2) ((z.2 - 1)).toNatClampNeg))) 6 (upd (z.1.2.1 6) (z.2).toNatClampNeg ((z.1.2.1 6) ((z.2 - 1)).toNatClampNeg))), (z.2 + (-1))))
      else none
    else none

def f_M_addRoot (S : jx_S) (a1 : Int64) (a2 : Int64) (a3 : Int64) (a4 : Int32) : Option (jx_S) :=
  (jx_lp (b_M_addRoot_9 S a1 a2 a3 a4) jx_N ((S.1 8), 0)).bind (Sum.elim (fun z9_4 =>
    (jx_lp (b_M_addRoot_71 a1 a2 a3 a4 z9_4) jx_N (S, (S.1 8))).bind fun z71_7 =>
      if jx_in z9_4 80 = true then
        some (jx_f (jx_g (jx_gl (jx_gl (jx_gl z71_7 0 (vp_updL (z71_7.2.2 0) (z9_4).toNatClampNeg a1)) 1 (vp_updL (z71_7.2.2 1) (z9_4).toNatClampNeg a2)) 2 (vp_updL (z71_7.2.2 2) (z9_4).toNatClampNeg a3)) 6 (upd (z71_7.2.1 6) (z9_4).toNatClampNeg a4)) 8 ((z71_7.1 8) + 1))
      else none)
    (fun y => some y))
set_option maxHeartbeats 4000000 in
set_option maxRecDepth 100000 in
theorem lt_M_addRoot_9 {G : jx_G} {X : jx_C} (hX : jx_Ok G X b_M_addRoot "PlaneCellsModel" none 11 4) (fin : jx_S) (S : jx_S) (x1 : Int64) (x3 : Int64) (x5 : Int64) (x7 : Int32) {n : Nat} {z : Int32 × Int32} {r : (Int32) ⊕ jx_S} (hz : jx_lp (b_M_addRoot_9 S x1 x3 x5 x7) n z = some r) (hk : ∀ u, r = .inl u → jx_At G X (none, jr_w G fin) (jr_w G S) 65 [(0, .ref (jx_ad G 18)), (1, .long x1), (3, .long x3), (5, .long x5), (7, .int x7), (8, .int u)] []) (hy : ∀ y, r = .inr y → y = fin) : jx_At G X (none, jr_w G fin) (jr_w G S) 9 [(0, .ref (jx_ad G 18)), (1, .long x1), (3, .long x3), (5, .long x5), (7, .int x7), (8, .int z.1), (9, .int z.2)] [] := by
  refine jx_loop2 (b_M_addRoot_9 S x1 x3 x5 x7) (fun z => jx_At G X (none, jr_w G fin) (jr_w G S) 9 [(0, .ref (jx_ad G 18)), (1, .long x1), (3, .long x3), (5, .long x5), (7, .int x7), (8, .int z.1), (9, .int z.2)] []) (fun z => jx_At G X (none, jr_w G fin) (jr_w G S) 65 [(0, .ref (jx_ad G 18)), (1, .long x1), (3, .long x3), (5, .long x5), (7, .int x7), (8, .int z)] []) fin ?_ n z r hz hk hy
  intro z o h hi hx hr
  unfold b_M_addRoot_9 at h
  refine jx_iload hX d_M_addRoot_9 6 rfl ?_
  refine jx_aload_n hX d_M_addRoot_11 0 rfl rfl ?_
  refine gf_M_134 hX d_M_addRoot_12 rfl ?_
  refine jx_icmp_ge hX d_M_addRoot_15 rfl (fun hc => ?_) (fun hc => ?_)
  · have h := jx_ip hc h
    refine jx_sub (L2 := [(0, .ref (jx_ad G 18)), (1, .long x1), (3, .long x3), (5, .long x5), (7, .int x7), (8, .int z.1)]) [0, 1, 2, 3, 4, 5] rfl ?_
    obtain rfl := Option.some.inj h
    exact hx _ rfl
  · have h := jx_in_ hc h
    refine jx_aload_n hX d_M_addRoot_18 0 rfl rfl ?_
    refine jx_iload hX d_M_addRoot_19 6 rfl ?_
    refine jx_lload_n hX d_M_addRoot_21 1 rfl rfl ?_
    refine jx_lload_n hX d_M_addRoot_22 2 rfl rfl ?_
    refine jx_lload hX d_M_addRoot_23 3 rfl ?_
    refine jx_iload hX d_M_addRoot_25 4 rfl ?_
    obtain ⟨q27_1, hq27_1, h⟩ := jx_bd h
    refine cs_M_137 hX (c_M_against (jx_l X) G S z.2 x1 x3 x5 x7 q27_1 hq27_1) d_M_addRoot_27 (by decide) (Nat.le_of_ble_eq_true rfl) ?_
    refine jx_istore hX d_M_addRoot_30 (by decide) (L2 := [(10, .int q27_1), (0, .ref (jx_ad G 18)), (1, .long x1), (3, .long x3), (5, .long x5), (7, .int x7), (8, .int z.1), (9, .int z.2)]) rfl ?_
    refine jx_iload hX d_M_addRoot_32 0 rfl ?_
    refine jx_if_ne hX d_M_addRoot_34 rfl (fun hc => ?_) (fun hc => ?_)
    · have h := jx_in_ hc h
      refine jx_iload hX d_M_addRoot_38 0 rfl ?_
      have hj : ∀ v : Int32, v = (if q27_1 ≤ 0 then z.1 else (if z.1 ≤ z.2 then z.1 else z.2 : Int32) : Int32) → jx_At G X (none, jr_w G fin) (jr_w G S) 57 [(10, .int q27_1), (0, .ref (jx_ad G 18)), (1, .long x1), (3, .long x3), (5, .long x5), (7, .int x7), (8, .int z.1), (9, .int z.2)] [.int v] := by
        intro v hv
        subst hv
        refine jx_istore hX d_M_addRoot_57 (by decide) (L2 := [(8, .int (if q27_1 ≤ 0 then z.1 else (if z.1 ≤ z.2 then z.1 else z.2 : Int32) : Int32)), (10, .int q27_1), (0, .ref (jx_ad G 18)), (1, .long x1), (3, .long x3), (5, .long x5), (7, .int x7), (9, .int z.2)]) rfl ?_
        refine jx_iinc (v := (z.2 + 1)) hX d_M_addRoot_59 7 rfl (by first | rfl | decide) (by decide) (L2 := [(9, .int (z.2 + 1)), (8, .int (if q27_1 ≤ 0 then z.1 else (if z.1 ≤ z.2 then z.1 else z.2 : Int32) : Int32)), (10, .int q27_1), (0, .ref (jx_ad G 18)), (1, .long x1), (3, .long x3), (5, .long x5), (7, .int x7)]) rfl ?_
        refine jx_goto hX d_M_addRoot_62 rfl ?_
        refine jx_sub (L2 := [(0, .ref (jx_ad G 18)), (1, .long x1), (3, .long x3), (5, .long x5), (7, .int x7), (8, .int (if q27_1 ≤ 0 then z.1 else (if z.1 ≤ z.2 then z.1 else z.2 : Int32) : Int32)), (9, .int (z.2 + 1))]) [3, 4, 5, 6, 7, 1, 0] rfl ?_
        obtain rfl := Option.some.inj h
        exact hi _ rfl
      refine jx_if_le hX d_M_addRoot_40 rfl (fun hc2 => ?_) (fun hc2 => ?_)
      · refine jx_iload hX d_M_addRoot_55 6 rfl ?_
        exact hj _ (if_pos hc2).symm
      · refine jx_iload hX d_M_addRoot_43 6 rfl ?_
        refine jx_iload hX d_M_addRoot_45 7 rfl ?_
        refine jx_icmp_le hX d_M_addRoot_47 rfl (fun hc3 => ?_) (fun hc3 => ?_)
        · refine jx_iload hX d_M_addRoot_55 6 rfl ?_
          exact hj _ ((if_neg hc2).trans (if_pos hc3)).symm
        · refine jx_iload hX d_M_addRoot_50 7 rfl ?_
          refine jx_goto hX d_M_addRoot_52 rfl ?_
          exact hj _ ((if_neg hc2).trans (if_neg hc3)).symm
    · have h := jx_ip hc h
      obtain rfl := Option.some.inj h
      obtain rfl := hr _ rfl
      exact jx_vret hX d_M_addRoot_37

set_option maxHeartbeats 4000000 in
set_option maxRecDepth 100000 in
theorem lt_M_addRoot_71 {G : jx_G} {X : jx_C} (hX : jx_Ok G X b_M_addRoot "PlaneCellsModel" none 11 4) (fin : jx_S) (x1 : Int64) (x3 : Int64) (x5 : Int64) (x7 : Int32) (x8 : Int32) {n : Nat} {z : jx_S × Int32} {r : jx_S} (hz : jx_lp (b_M_addRoot_71 x1 x3 x5 x7 x8) n z = some r) (hk : jx_At G X (none, jr_w G fin) (jr_w G r) 148 [(0, .ref (jx_ad G 18)), (1, .long x1), (3, .long x3), (5, .long x5), (7, .int x7), (8, .int x8)] []) : jx_At G X (none, jr_w G fin) (jr_w G z.1) 71 [(0, .ref (jx_ad G 18)), (1, .long x1), (3, .long x3), (5, .long x5), (7, .int x7), (8, .int x8), (9, .int z.2)] [] := by
  refine jx_loop1 (b_M_addRoot_71 x1 x3 x5 x7 x8) (fun z => jx_At G X (none, jr_w G fin) (jr_w G z.1) 71 [(0, .ref (jx_ad G 18)), (1, .long x1), (3, .long x3), (5, .long x5), (7, .int x7), (8, .int x8), (9, .int z.2)] []) (fun z => jx_At G X (none, jr_w G fin) (jr_w G z) 148 [(0, .ref (jx_ad G 18)), (1, .long x1), (3, .long x3), (5, .long x5), (7, .int x7), (8, .int x8)] []) ?_ n z r hz hk
  intro z o h hi hx
  unfold b_M_addRoot_71 at h
  refine jx_iload hX d_M_addRoot_71 6 rfl ?_
  refine jx_iload hX d_M_addRoot_73 5 rfl ?_
  refine jx_icmp_le hX d_M_addRoot_75 rfl (fun hc => ?_) (fun hc => ?_)
  · have h := jx_ip hc h
    refine jx_sub (L2 := [(0, .ref (jx_ad G 18)), (1, .long x1), (3, .long x3), (5, .long x5), (7, .int x7), (8, .int x8)]) [0, 1, 2, 3, 4, 5] rfl ?_
    obtain rfl := Option.some.inj h
    exact hx _ rfl
  · have h := jx_in_ hc h
    refine jx_aload_n hX d_M_addRoot_78 0 rfl rfl ?_
    refine gf_M_33 hX d_M_addRoot_79 ?_
    refine jx_iload hX d_M_addRoot_82 6 rfl ?_
    refine jx_aload_n hX d_M_addRoot_84 0 rfl rfl ?_
    refine gf_M_33 hX d_M_addRoot_85 ?_
    refine jx_iload hX d_M_addRoot_88 6 rfl ?_
    refine jx_iconst (v := 1) hX d_M_addRoot_90 (by decide) ?_
    refine jx_isub hX d_M_addRoot_91 ?_
    obtain ⟨hg5, h⟩ := jx_gd h
    refine al_ML0 hX d_M_addRoot_92 rfl hg5 ?_
    obtain ⟨hg6, h⟩ := jx_gd h
    refine as_ML0 hX d_M_addRoot_93 rfl hg6 ?_
    refine jx_aload_n hX d_M_addRoot_94 0 rfl rfl ?_
    refine gf_M_37 hX d_M_addRoot_95 ?_
    refine jx_iload hX d_M_addRoot_98 6 rfl ?_
    refine jx_aload_n hX d_M_addRoot_100 0 rfl rfl ?_
    refine gf_M_37 hX d_M_addRoot_101 ?_
    refine jx_iload hX d_M_addRoot_104 6 rfl ?_
    refine jx_iconst (v := 1) hX d_M_addRoot_106 (by decide) ?_
    refine jx_isub hX d_M_addRoot_107 ?_
    refine al_ML1 hX d_M_addRoot_108 (f := (z.1.2.2 1)) rfl hg5 ?_
    refine as_ML1 hX d_M_addRoot_109 (f := (z.1.2.2 1)) rfl hg6 ?_
    refine jx_aload_n hX d_M_addRoot_110 0 rfl rfl ?_
    refine gf_M_40 hX d_M_addRoot_111 ?_
    refine jx_iload hX d_M_addRoot_114 6 rfl ?_
    refine jx_aload_n hX d_M_addRoot_116 0 rfl rfl ?_
    refine gf_M_40 hX d_M_addRoot_117 ?_
    refine jx_iload hX d_M_addRoot_120 6 rfl ?_
    refine jx_iconst (v := 1) hX d_M_addRoot_122 (by decide) ?_
    refine jx_isub hX d_M_addRoot_123 ?_
    refine al_ML2 hX d_M_addRoot_124 (f := (z.1.2.2 2)) rfl hg5 ?_
    refine as_ML2 hX d_M_addRoot_125 (f := (z.1.2.2 2)) rfl hg6 ?_
    refine jx_aload_n hX d_M_addRoot_126 0 rfl rfl ?_
    refine gf_M_43 hX d_M_addRoot_127 ?_
    refine jx_iload hX d_M_addRoot_130 6 rfl ?_
    refine jx_aload_n hX d_M_addRoot_132 0 rfl rfl ?_
    refine gf_M_43 hX d_M_addRoot_133 ?_
    refine jx_iload hX d_M_addRoot_136 6 rfl ?_
    refine jx_iconst (v := 1) hX d_M_addRoot_138 (by decide) ?_
    refine jx_isub hX d_M_addRoot_139 ?_
    refine al_M6 hX d_M_addRoot_140 (f := (z.1.2.1 6)) rfl hg5 ?_
    refine as_M6 hX d_M_addRoot_141 (f := (z.1.2.1 6)) rfl hg6 ?_
    refine jx_iinc (v := (z.2 + (-1))) hX d_M_addRoot_142 6 rfl (by first | rfl | decide) (by decide) (L2 := [(9, .int (z.2 + (-1))), (0, .ref (jx_ad G 18)), (1, .long x1), (3, .long x3), (5, .long x5), (7, .int x7), (8, .int x8)]) rfl ?_
    refine jx_goto hX d_M_addRoot_145 rfl ?_
    refine jx_sub (L2 := [(0, .ref (jx_ad G 18)), (1, .long x1), (3, .long x3), (5, .long x5), (7, .int x7), (8, .int x8), (9, .int (z.2 + (-1)))]) [1, 2, 3, 4, 5, 6, 0] rfl ?_
    obtain rfl := Option.some.inj h
    exact hi _ rfl

set_option maxHeartbeats 4000000 in
set_option maxRecDepth 100000 in
theorem c_M_addRoot (l : Launch) (G : jx_G) (S : jx_S) (a1 : Int64) (a2 : Int64) (a3 : Int64) (a4 : Int32) (fin : jx_S) (h : f_M_addRoot S a1 a2 a3 a4 = some fin) : jx_M l y_M_addRoot b_M_addRoot 11 none 4 G [.ref (jx_ad G 18), .long a1, .long a2, .long a3, .int a4] (jr_w G S) (none, jr_w G fin) := by
  refine jx_met (own := "PlaneCellsModel") (by decide) rfl (Nat.le_of_ble_eq_true rfl) (fun X hX hl => ?_)
  subst hl
  refine jx_L (L2 := [(0, .ref (jx_ad G 18)), (1, .long a1), (3, .long a2), (5, .long a3), (7, .int a4)]) rfl ?_
  unfold f_M_addRoot at h
  refine jx_aload_n hX d_M_addRoot_0 0 rfl rfl ?_
  refine gf_M_134 hX d_M_addRoot_1 rfl ?_
  refine jx_istore hX d_M_addRoot_4 (by decide) (L2 := [(8, .int (S.1 8)), (0, .ref (jx_ad G 18)), (1, .long a1), (3, .long a2), (5, .long a3), (7, .int a4)]) rfl ?_
  refine jx_iconst (v := 0) hX d_M_addRoot_6 (by decide) ?_
  refine jx_istore hX d_M_addRoot_7 (by decide) (L2 := [(9, .int 0), (8, .int (S.1 8)), (0, .ref (jx_ad G 18)), (1, .long a1), (3, .long a2), (5, .long a3), (7, .int a4)]) rfl ?_
  refine jx_sub (L2 := [(0, .ref (jx_ad G 18)), (1, .long a1), (3, .long a2), (5, .long a3), (7, .int a4), (8, .int (S.1 8)), (9, .int 0)]) [2, 3, 4, 5, 6, 1, 0] rfl ?_
  obtain ⟨r, hz, h⟩ := jx_bd h
  refine lt_M_addRoot_9 hX fin S a1 a2 a3 a4 hz (fun z9_4 e => ?_) (fun y e => ?_)
  · subst e
    have h := jx_el h
    refine jx_aload_n hX d_M_addRoot_65 0 rfl rfl ?_
    refine gf_M_134 hX d_M_addRoot_66 rfl ?_
    refine jx_istore hX d_M_addRoot_69 (by decide) (L2 := [(9, .int (S.1 8)), (0, .ref (jx_ad G 18)), (1, .long a1), (3, .long a2), (5, .long a3), (7, .int a4), (8, .int z9_4)]) rfl ?_
    refine jx_sub (L2 := [(0, .ref (jx_ad G 18)), (1, .long a1), (3, .long a2), (5, .long a3), (7, .int a4), (8, .int z9_4), (9, .int (S.1 8))]) [1, 2, 3, 4, 5, 6, 0] rfl ?_
    obtain ⟨z71_7, hz, h⟩ := jx_bd h
    refine lt_M_addRoot_71 hX fin a1 a2 a3 a4 z9_4 hz ?_
    refine jx_aload_n hX d_M_addRoot_148 0 rfl rfl ?_
    refine gf_M_33 hX d_M_addRoot_149 ?_
    refine jx_iload hX d_M_addRoot_152 5 rfl ?_
    refine jx_lload_n hX d_M_addRoot_154 1 rfl rfl ?_
    obtain ⟨hg8, h⟩ := jx_gd h
    refine as_ML0 hX d_M_addRoot_155 rfl hg8 ?_
    refine jx_aload_n hX d_M_addRoot_156 0 rfl rfl ?_
    refine gf_M_37 hX d_M_addRoot_157 ?_
    refine jx_iload hX d_M_addRoot_160 5 rfl ?_
    refine jx_lload_n hX d_M_addRoot_162 2 rfl rfl ?_
    refine as_ML1 hX d_M_addRoot_163 (f := (z71_7.2.2 1)) rfl hg8 ?_
    refine jx_aload_n hX d_M_addRoot_164 0 rfl rfl ?_
    refine gf_M_40 hX d_M_addRoot_165 ?_
    refine jx_iload hX d_M_addRoot_168 5 rfl ?_
    refine jx_lload hX d_M_addRoot_170 3 rfl ?_
    refine as_ML2 hX d_M_addRoot_172 (f := (z71_7.2.2 2)) rfl hg8 ?_
    refine jx_aload_n hX d_M_addRoot_173 0 rfl rfl ?_
    refine gf_M_43 hX d_M_addRoot_174 ?_
    refine jx_iload hX d_M_addRoot_177 5 rfl ?_
    refine jx_iload hX d_M_addRoot_179 4 rfl ?_
    refine as_M6 hX d_M_addRoot_181 (f := (z71_7.2.1 6)) rfl hg8 ?_
    refine jx_aload_n hX d_M_addRoot_182 0 rfl rfl ?_
    refine jx_dup hX d_M_addRoot_183 rfl ?_
    refine gf_M_134 hX d_M_addRoot_184 (x := (z71_7.1 8)) rfl ?_
    refine jx_iconst (v := 1) hX d_M_addRoot_187 (by decide) ?_
    refine jx_iadd hX d_M_addRoot_188 ?_
    refine pf_M_134 hX d_M_addRoot_189 ?_
    obtain rfl := Option.some.inj h
    exact jx_vret hX d_M_addRoot_192
  · subst e
    have h := jx_er h
    exact Option.some.inj h

def k_M_addRoots_108 (S : jx_S) (x1 : Int64) (x3 : Int64) (x5 : Int64) (x7 : Int32) (x8 : Int64) (x10 : Int64) (x12 : Int64) : Option (jx_S) :=
  if (lg_cmp x8 0) = 0 then
    (f_M_addRoot S x8 x10 x12 1).bind fun q134_1 =>
      some q134_1
  else
    (f_M_addRoot S x8 x10 x12 (-1)).bind fun q123_2 =>
      (f_M_addRoot q123_2 x8 x10 x12 1).bind fun q134_3 =>
        some q134_3

def k_M_addRoots_80 (S : jx_S) (x1 : Int64) (x3 : Int64) (x5 : Int64) (x7 : Int32) (x8 : Int64) (x10 : Int64) (x12 : Int64) : Option (jx_S) :=
  if (lg_cmp x8 0) = 0 then
    k_M_addRoots_108 S x1 x3 x5 x7 x8 x10 x12
  else
    if 0 ≤ (lg_cmp ((x10 * x10) - ((4 * x8) * x12)) 0) then
      k_M_addRoots_108 S x1 x3 x5 x7 x8 x10 x12
    else
      some S

def k_M_addRoots_23 (S : jx_S) (x1 : Int64) (x3 : Int64) (x5 : Int64) (y0 : Int32) : Option (jx_S) :=
  if (lg_cmp (if y0 = 0 then x1 else (-x1) : Int64) 0) = 0 then
    if (lg_cmp (if y0 = 0 then x3 else (-x3) : Int64) 0) = 0 then
      some S
    else
      k_M_addRoots_80 S x1 x3 x5 y0 (if y0 = 0 then x1 else (-x1) : Int64) (if y0 = 0 then x3 else (-x3) : Int64) (if y0 = 0 then x5 else (-x5) : Int64)
  else
    k_M_addRoots_80 S x1 x3 x5 y0 (if y0 = 0 then x1 else (-x1) : Int64) (if y0 = 0 then x3 else (-x3) : Int64) (if y0 = 0 then x5 else (-x5) : Int64)

def f_M_addRoots (S : jx_S) (a1 : Int64) (a2 : Int64) (a3 : Int64) : Option (jx_S) :=
  k_M_addRoots_23 S a1 a2 a3 (if (lg_cmp a1 0) < 0 then 1 else (if (lg_cmp a1 0) = 0 then (if 0 ≤ (lg_cmp a2 0) then 0 else 1 : Int32) else 0 : Int32) : Int32)
set_option maxHeartbeats 4000000 in
set_option maxRecDepth 100000 in
theorem kt_M_addRoots_108 {G : jx_G} {X : jx_C} (hX : jx_Ok G X b_M_addRoots "PlaneCellsModel" none 14 5) (fin : jx_S) (S : jx_S) (x1 : Int64) (x3 : Int64) (x5 : Int64) (x7 : Int32) (x8 : Int64) (x10 : Int64) (x12 : Int64) (h : k_M_addRoots_108 S x1 x3 x5 x7 x8 x10 x12 = some fin) : jx_At G X (none, jr_w G fin) (jr_w G S) 108 [(0, .ref (jx_ad G 18)), (1, .long x1), (3, .long x3), (5, .long x5), (7, .int x7), (8, .long x8), (10, .long x10), (12, .long x12)] [] := by
  unfold k_M_addRoots_108 at h
  refine jx_lload hX d_M_addRoots_108 5 rfl ?_
  refine jx_lconst (v := 0) hX d_M_addRoots_110 (by decide) ?_
  refine jx_lcmp hX d_M_addRoots_111 ?_
  refine jx_if_eq hX d_M_addRoots_112 rfl (fun hc => ?_) (fun hc => ?_)
  · have h := jx_ip hc h
    refine jx_aload_n hX d_M_addRoots_126 0 rfl rfl ?_
    refine jx_lload hX d_M_addRoots_127 5 rfl ?_
    refine jx_lload hX d_M_addRoots_129 6 rfl ?_
    refine jx_lload hX d_M_addRoots_131 7 rfl ?_
    refine jx_iconst (v := 1) hX d_M_addRoots_133 (by decide) ?_
    obtain ⟨q134_1, hq134_1, h⟩ := jx_bd h
    refine cs_M_141 hX (c_M_addRoot (jx_l X) G S x8 x10 x12 1 q134_1 hq134_1) d_M_addRoots_134 (by decide) (Nat.le_of_ble_eq_true rfl) ?_
    obtain rfl := Option.some.inj h
    exact jx_vret hX d_M_addRoots_137
  · have h := jx_in_ hc h
    refine jx_aload_n hX d_M_addRoots_115 0 rfl rfl ?_
    refine jx_lload hX d_M_addRoots_116 5 rfl ?_
    refine jx_lload hX d_M_addRoots_118 6 rfl ?_
    refine jx_lload hX d_M_addRoots_120 7 rfl ?_
    refine jx_iconst (v := (-1)) hX d_M_addRoots_122 (by decide) ?_
    obtain ⟨q123_2, hq123_2, h⟩ := jx_bd h
    refine cs_M_141 hX (c_M_addRoot (jx_l X) G S x8 x10 x12 (-1) q123_2 hq123_2) d_M_addRoots_123 (by decide) (Nat.le_of_ble_eq_true rfl) ?_
    refine jx_aload_n hX d_M_addRoots_126 0 rfl rfl ?_
    refine jx_lload hX d_M_addRoots_127 5 rfl ?_
    refine jx_lload hX d_M_addRoots_129 6 rfl ?_
    refine jx_lload hX d_M_addRoots_131 7 rfl ?_
    refine jx_iconst (v := 1) hX d_M_addRoots_133 (by decide) ?_
    obtain ⟨q134_3, hq134_3, h⟩ := jx_bd h
    refine cs_M_141 hX (c_M_addRoot (jx_l X) G q123_2 x8 x10 x12 1 q134_3 hq134_3) d_M_addRoots_134 (by decide) (Nat.le_of_ble_eq_true rfl) ?_
    obtain rfl := Option.some.inj h
    exact jx_vret hX d_M_addRoots_137

set_option maxHeartbeats 4000000 in
set_option maxRecDepth 100000 in
theorem kt_M_addRoots_80 {G : jx_G} {X : jx_C} (hX : jx_Ok G X b_M_addRoots "PlaneCellsModel" none 14 5) (fin : jx_S) (S : jx_S) (x1 : Int64) (x3 : Int64) (x5 : Int64) (x7 : Int32) (x8 : Int64) (x10 : Int64) (x12 : Int64) (h : k_M_addRoots_80 S x1 x3 x5 x7 x8 x10 x12 = some fin) : jx_At G X (none, jr_w G fin) (jr_w G S) 80 [(0, .ref (jx_ad G 18)), (1, .long x1), (3, .long x3), (5, .long x5), (7, .int x7), (8, .long x8), (10, .long x10), (12, .long x12)] [] := by
  unfold k_M_addRoots_80 at h
  refine jx_lload hX d_M_addRoots_80 5 rfl ?_
  refine jx_lconst (v := 0) hX d_M_addRoots_82 (by decide) ?_
  refine jx_lcmp hX d_M_addRoots_83 ?_
  refine jx_if_eq hX d_M_addRoots_84 rfl (fun hc => ?_) (fun hc => ?_)
  · have h := jx_ip hc h
    exact kt_M_addRoots_108 hX fin S x1 x3 x5 x7 x8 x10 x12 h
  · have h := jx_in_ hc h
    refine jx_lload hX d_M_addRoots_87 6 rfl ?_
    refine jx_lload hX d_M_addRoots_89 6 rfl ?_
    refine jx_lmul hX d_M_addRoots_91 ?_
    refine jx_ldc2 (v := 4) hX (wm_602) d_M_addRoots_92 ?_
    refine jx_lload hX d_M_addRoots_95 5 rfl ?_
    refine jx_lmul hX d_M_addRoots_97 ?_
    refine jx_lload hX d_M_addRoots_98 7 rfl ?_
    refine jx_lmul hX d_M_addRoots_100 ?_
    refine jx_lsub hX d_M_addRoots_101 ?_
    refine jx_lconst (v := 0) hX d_M_addRoots_102 (by decide) ?_
    refine jx_lcmp hX d_M_addRoots_103 ?_
    refine jx_if_ge hX d_M_addRoots_104 rfl (fun hc => ?_) (fun hc => ?_)
    · have h := jx_ip hc h
      exact kt_M_addRoots_108 hX fin S x1 x3 x5 x7 x8 x10 x12 h
    · have h := jx_in_ hc h
      obtain rfl := Option.some.inj h
      exact jx_vret hX d_M_addRoots_107

set_option maxHeartbeats 4000000 in
set_option maxRecDepth 100000 in
theorem kt_M_addRoots_23 {G : jx_G} {X : jx_C} (hX : jx_Ok G X b_M_addRoots "PlaneCellsModel" none 14 5) (fin : jx_S) (S : jx_S) (x1 : Int64) (x3 : Int64) (x5 : Int64) (y0 : Int32) (h : k_M_addRoots_23 S x1 x3 x5 y0 = some fin) : jx_At G X (none, jr_w G fin) (jr_w G S) 23 [(0, .ref (jx_ad G 18)), (1, .long x1), (3, .long x3), (5, .long x5)] [.int y0] := by
  unfold k_M_addRoots_23 at h
  refine jx_istore hX d_M_addRoots_23 (by decide) (L2 := [(7, .int y0), (0, .ref (jx_ad G 18)), (1, .long x1), (3, .long x3), (5, .long x5)]) rfl ?_
  refine jx_iload hX d_M_addRoots_25 0 rfl ?_
  have hj : ∀ v : Int64, v = (if y0 = 0 then x1 else (-x1) : Int64) → jx_At G X (none, jr_w G fin) (jr_w G S) 36 [(7, .int y0), (0, .ref (jx_ad G 18)), (1, .long x1), (3, .long x3), (5, .long x5)] [.long v] := by
    intro v hv
    subst hv
    refine jx_lstore hX d_M_addRoots_36 (by decide) (L2 := [(8, .long (if y0 = 0 then x1 else (-x1) : Int64)), (7, .int y0), (0, .ref (jx_ad G 18)), (1, .long x1), (3, .long x3), (5, .long x5)]) rfl ?_
    refine jx_iload hX d_M_addRoots_38 1 rfl ?_
    have hj : ∀ v : Int64, v = (if y0 = 0 then x3 else (-x3) : Int64) → jx_At G X (none, jr_w G fin) (jr_w G S) 49 [(8, .long (if y0 = 0 then x1 else (-x1) : Int64)), (7, .int y0), (0, .ref (jx_ad G 18)), (1, .long x1), (3, .long x3), (5, .long x5)] [.long v] := by
      intro v hv
      subst hv
      refine jx_lstore hX d_M_addRoots_49 (by decide) (L2 := [(10, .long (if y0 = 0 then x3 else (-x3) : Int64)), (8, .long (if y0 = 0 then x1 else (-x1) : Int64)), (7, .int y0), (0, .ref (jx_ad G 18)), (1, .long x1), (3, .long x3), (5, .long x5)]) rfl ?_
      refine jx_iload hX d_M_addRoots_51 2 rfl ?_
      have hj : ∀ v : Int64, v = (if y0 = 0 then x5 else (-x5) : Int64) → jx_At G X (none, jr_w G fin) (jr_w G S) 64 [(10, .long (if y0 = 0 then x3 else (-x3) : Int64)), (8, .long (if y0 = 0 then x1 else (-x1) : Int64)), (7, .int y0), (0, .ref (jx_ad G 18)), (1, .long x1), (3, .long x3), (5, .long x5)] [.long v] := by
        intro v hv
        subst hv
        refine jx_lstore hX d_M_addRoots_64 (by decide) (L2 := [(12, .long (if y0 = 0 then x5 else (-x5) : Int64)), (10, .long (if y0 = 0 then x3 else (-x3) : Int64)), (8, .long (if y0 = 0 then x1 else (-x1) : Int64)), (7, .int y0), (0, .ref (jx_ad G 18)), (1, .long x1), (3, .long x3), (5, .long x5)]) rfl ?_
        refine jx_lload hX d_M_addRoots_66 2 rfl ?_
        refine jx_lconst (v := 0) hX d_M_addRoots_68 (by decide) ?_
        refine jx_lcmp hX d_M_addRoots_69 ?_
        refine jx_if_ne hX d_M_addRoots_70 rfl (fun hc => ?_) (fun hc => ?_)
        · have h := jx_in_ hc h
          refine jx_sub (L2 := [(0, .ref (jx_ad G 18)), (1, .long x1), (3, .long x3), (5, .long x5), (7, .int y0), (8, .long (if y0 = 0 then x1 else (-x1) : Int64)), (10, .long (if y0 = 0 then x3 else (-x3) : Int64)), (12, .long (if y0 = 0 then x5 else (-x5) : Int64))]) [4, 5, 6, 7, 3, 2, 1, 0] rfl ?_
          exact kt_M_addRoots_80 hX fin S x1 x3 x5 y0 (if y0 = 0 then x1 else (-x1) : Int64) (if y0 = 0 then x3 else (-x3) : Int64) (if y0 = 0 then x5 else (-x5) : Int64) h
        · have h := jx_ip hc h
          refine jx_lload hX d_M_addRoots_73 1 rfl ?_
          refine jx_lconst (v := 0) hX d_M_addRoots_75 (by decide) ?_
          refine jx_lcmp hX d_M_addRoots_76 ?_
          refine jx_if_eq hX d_M_addRoots_77 rfl (fun hc => ?_) (fun hc => ?_)
          · have h := jx_ip hc h
            obtain rfl := Option.some.inj h
            exact jx_vret hX d_M_addRoots_107
          · have h := jx_in_ hc h
            refine jx_sub (L2 := [(0, .ref (jx_ad G 18)), (1, .long x1), (3, .long x3), (5, .long x5), (7, .int y0), (8, .long (if y0 = 0 then x1 else (-x1) : Int64)), (10, .long (if y0 = 0 then x3 else (-x3) : Int64)), (12, .long (if y0 = 0 then x5 else (-x5) : Int64))]) [4, 5, 6, 7, 3, 2, 1, 0] rfl ?_
            exact kt_M_addRoots_80 hX fin S x1 x3 x5 y0 (if y0 = 0 then x1 else (-x1) : Int64) (if y0 = 0 then x3 else (-x3) : Int64) (if y0 = 0 then x5 else (-x5) : Int64) h
      refine jx_if_eq hX d_M_addRoots_53 rfl (fun hc4 => ?_) (fun hc4 => ?_)
      · refine jx_lload hX d_M_addRoots_62 6 rfl ?_
        exact hj _ (if_pos hc4).symm
      · refine jx_lload hX d_M_addRoots_56 6 rfl ?_
        refine jx_lneg hX d_M_addRoots_58 ?_
        refine jx_goto hX d_M_addRoots_59 rfl ?_
        exact hj _ (if_neg hc4).symm
    refine jx_if_eq hX d_M_addRoots_40 rfl (fun hc5 => ?_) (fun hc5 => ?_)
    · refine jx_lload_n hX d_M_addRoots_48 4 rfl rfl ?_
      exact hj _ (if_pos hc5).symm
    · refine jx_lload_n hX d_M_addRoots_43 4 rfl rfl ?_
      refine jx_lneg hX d_M_addRoots_44 ?_
      refine jx_goto hX d_M_addRoots_45 rfl ?_
      exact hj _ (if_neg hc5).symm
  refine jx_if_eq hX d_M_addRoots_27 rfl (fun hc6 => ?_) (fun hc6 => ?_)
  · refine jx_lload_n hX d_M_addRoots_35 2 rfl rfl ?_
    exact hj _ (if_pos hc6).symm
  · refine jx_lload_n hX d_M_addRoots_30 2 rfl rfl ?_
    refine jx_lneg hX d_M_addRoots_31 ?_
    refine jx_goto hX d_M_addRoots_32 rfl ?_
    exact hj _ (if_neg hc6).symm

set_option maxHeartbeats 4000000 in
set_option maxRecDepth 100000 in
theorem c_M_addRoots (l : Launch) (G : jx_G) (S : jx_S) (a1 : Int64) (a2 : Int64) (a3 : Int64) (fin : jx_S) (h : f_M_addRoots S a1 a2 a3 = some fin) : jx_M l y_M_addRoots b_M_addRoots 14 none 5 G [.ref (jx_ad G 18), .long a1, .long a2, .long a3] (jr_w G S) (none, jr_w G fin) := by
  refine jx_met (own := "PlaneCellsModel") (by decide) rfl (Nat.le_of_ble_eq_true rfl) (fun X hX hl => ?_)
  subst hl
  refine jx_L (L2 := [(0, .ref (jx_ad G 18)), (1, .long a1), (3, .long a2), (5, .long a3)]) rfl ?_
  unfold f_M_addRoots at h
  refine jx_lload_n hX d_M_addRoots_0 1 rfl rfl ?_
  refine jx_lconst (v := 0) hX d_M_addRoots_1 (by decide) ?_
  refine jx_lcmp hX d_M_addRoots_2 ?_
  have hj : ∀ v : Int32, v = (if (lg_cmp a1 0) < 0 then 1 else (if (lg_cmp a1 0) = 0 then (if 0 ≤ (lg_cmp a2 0) then 0 else 1 : Int32) else 0 : Int32) : Int32) → jx_At G X (none, jr_w G fin) (jr_w G S) 23 [(0, .ref (jx_ad G 18)), (1, .long a1), (3, .long a2), (5, .long a3)] [.int v] := by
    intro v hv
    subst hv
    exact kt_M_addRoots_23 hX fin S a1 a2 a3 (if (lg_cmp a1 0) < 0 then 1 else (if (lg_cmp a1 0) = 0 then (if 0 ≤ (lg_cmp a2 0) then 0 else 1 : Int32) else 0 : Int32) : Int32) h
  refine jx_if_lt hX d_M_addRoots_3 rfl (fun hc7 => ?_) (fun hc7 => ?_)
  · refine jx_iconst (v := 1) hX d_M_addRoots_18 (by decide) ?_
    refine jx_goto hX d_M_addRoots_19 rfl ?_
    exact hj _ (if_pos hc7).symm
  · refine jx_lload_n hX d_M_addRoots_6 1 rfl rfl ?_
    refine jx_lconst (v := 0) hX d_M_addRoots_7 (by decide) ?_
    refine jx_lcmp hX d_M_addRoots_8 ?_
    refine jx_if_ne hX d_M_addRoots_9 rfl (fun hc8 => ?_) (fun hc8 => ?_)
    · refine jx_iconst (v := 0) hX d_M_addRoots_22 (by decide) ?_
      exact hj _ ((if_neg hc7).trans (if_neg hc8)).symm
    · refine jx_lload_n hX d_M_addRoots_12 2 rfl rfl ?_
      refine jx_lconst (v := 0) hX d_M_addRoots_13 (by decide) ?_
      refine jx_lcmp hX d_M_addRoots_14 ?_
      refine jx_if_ge hX d_M_addRoots_15 rfl (fun hc9 => ?_) (fun hc9 => ?_)
      · refine jx_iconst (v := 0) hX d_M_addRoots_22 (by decide) ?_
        exact hj _ ((if_neg hc7).trans ((if_pos hc8).trans (if_pos hc9))).symm
      · refine jx_iconst (v := 1) hX d_M_addRoots_18 (by decide) ?_
        refine jx_goto hX d_M_addRoots_19 rfl ?_
        exact hj _ ((if_neg hc7).trans ((if_pos hc8).trans (if_neg hc9))).symm

def f_M_cross (S : jx_S) (a1 : Int32) (a2 : Int32) (a3 : Int32) (a4 : Int32) : Option (Int64) :=
  if jx_in ((4 * a1) + a3) 32 = true then
    if jx_in ((4 * a2) + a4) 32 = true then
      some ((((S.2.1 2) (((4 * a1) + a3)).toNatClampNeg)).toInt64 * (((S.2.1 2) (((4 * a2) + a4)).toNatClampNeg)).toInt64)
    else none
  else none
set_option maxHeartbeats 4000000 in
set_option maxRecDepth 100000 in
theorem c_M_cross (l : Launch) (G : jx_G) (S : jx_S) (a1 : Int32) (a2 : Int32) (a3 : Int32) (a4 : Int32) (fin : Int64) (h : f_M_cross S a1 a2 a3 a4 = some fin) : jx_M l y_M_cross b_M_cross 5 (some .long) 0 G [.ref (jx_ad G 18), .int a1, .int a2, .int a3, .int a4] (jr_w G S) (some (.long fin), jr_w G S) := by
  refine jx_met (own := "PlaneCellsModel") (by decide) rfl (Nat.le_of_ble_eq_true rfl) (fun X hX hl => ?_)
  subst hl
  refine jx_L (L2 := [(0, .ref (jx_ad G 18)), (1, .int a1), (2, .int a2), (3, .int a3), (4, .int a4)]) rfl ?_
  unfold f_M_cross at h
  refine jx_aload_n hX d_M_cross_0 0 rfl rfl ?_
  refine gf_M_20 hX d_M_cross_1 ?_
  refine jx_iconst (v := 4) hX d_M_cross_4 (by decide) ?_
  refine jx_iload_n hX d_M_cross_5 1 rfl rfl ?_
  refine jx_imul hX d_M_cross_6 ?_
  refine jx_iload_n hX d_M_cross_7 3 rfl rfl ?_
  refine jx_iadd hX d_M_cross_8 ?_
  obtain ⟨hg1, h⟩ := jx_gd h
  refine al_M2 hX d_M_cross_9 rfl hg1 ?_
  refine jx_i2l hX d_M_cross_10 rfl ?_
  refine jx_aload_n hX d_M_cross_11 0 rfl rfl ?_
  refine gf_M_20 hX d_M_cross_12 ?_
  refine jx_iconst (v := 4) hX d_M_cross_15 (by decide) ?_
  refine jx_iload_n hX d_M_cross_16 2 rfl rfl ?_
  refine jx_imul hX d_M_cross_17 ?_
  refine jx_iload hX d_M_cross_18 4 rfl ?_
  refine jx_iadd hX d_M_cross_20 ?_
  obtain ⟨hg2, h⟩ := jx_gd h
  refine al_M2 hX d_M_cross_21 rfl hg2 ?_
  refine jx_i2l hX d_M_cross_22 rfl ?_
  refine jx_lmul hX d_M_cross_23 ?_
  obtain rfl := Option.some.inj h
  exact jx_lret hX d_M_cross_24

def f_M_mixed (S : jx_S) (a1 : Int32) (a2 : Int32) (a3 : Int32) : Option (Int64) :=
  if a3 = 0 then
    (f_M_cross S a1 a2 2 0).bind fun q9_7 =>
      (f_M_cross S a2 a1 2 0).bind fun q17_8 =>
        some (q9_7 - q17_8)
  else
    if a3 = 2 then
      (f_M_cross S a1 a2 3 1).bind fun q32_5 =>
        (f_M_cross S a2 a1 3 1).bind fun q40_6 =>
          some (q32_5 - q40_6)
    else
      (f_M_cross S a1 a2 2 1).bind fun q50_1 =>
        (f_M_cross S a1 a2 3 0).bind fun q58_2 =>
          (f_M_cross S a2 a1 2 1).bind fun q67_3 =>
            (f_M_cross S a2 a1 3 0).bind fun q76_4 =>
              some (((q50_1 + q58_2) - q67_3) - q76_4)
set_option maxHeartbeats 4000000 in
set_option maxRecDepth 100000 in
theorem c_M_mixed (l : Launch) (G : jx_G) (S : jx_S) (a1 : Int32) (a2 : Int32) (a3 : Int32) (fin : Int64) (h : f_M_mixed S a1 a2 a3 = some fin) : jx_M l y_M_mixed b_M_mixed 4 (some .long) 1 G [.ref (jx_ad G 18), .int a1, .int a2, .int a3] (jr_w G S) (some (.long fin), jr_w G S) := by
  refine jx_met (own := "PlaneCellsModel") (by decide) rfl (Nat.le_of_ble_eq_true rfl) (fun X hX hl => ?_)
  subst hl
  refine jx_L (L2 := [(0, .ref (jx_ad G 18)), (1, .int a1), (2, .int a2), (3, .int a3)]) rfl ?_
  unfold f_M_mixed at h
  refine jx_iload_n hX d_M_mixed_0 3 rfl rfl ?_
  refine jx_if_ne hX d_M_mixed_1 rfl (fun hc => ?_) (fun hc => ?_)
  · have h := jx_in_ hc h
    refine jx_iload_n hX d_M_mixed_22 3 rfl rfl ?_
    refine jx_iconst (v := 2) hX d_M_mixed_23 (by decide) ?_
    refine jx_icmp_ne hX d_M_mixed_24 rfl (fun hc => ?_) (fun hc => ?_)
    · have h := jx_in_ hc h
      refine jx_aload_n hX d_M_mixed_45 0 rfl rfl ?_
      refine jx_iload_n hX d_M_mixed_46 1 rfl rfl ?_
      refine jx_iload_n hX d_M_mixed_47 2 rfl rfl ?_
      refine jx_iconst (v := 2) hX d_M_mixed_48 (by decide) ?_
      refine jx_iconst (v := 1) hX d_M_mixed_49 (by decide) ?_
      obtain ⟨q50_1, hq50_1, h⟩ := jx_bd h
      refine cs_M_145 hX (c_M_cross (jx_l X) G S a1 a2 2 1 q50_1 hq50_1) d_M_mixed_50 (by decide) (Nat.le_of_ble_eq_true rfl) ?_
      refine jx_aload_n hX d_M_mixed_53 0 rfl rfl ?_
      refine jx_iload_n hX d_M_mixed_54 1 rfl rfl ?_
      refine jx_iload_n hX d_M_mixed_55 2 rfl rfl ?_
      refine jx_iconst (v := 3) hX d_M_mixed_56 (by decide) ?_
      refine jx_iconst (v := 0) hX d_M_mixed_57 (by decide) ?_
      obtain ⟨q58_2, hq58_2, h⟩ := jx_bd h
      refine cs_M_145 hX (c_M_cross (jx_l X) G S a1 a2 3 0 q58_2 hq58_2) d_M_mixed_58 (by decide) (Nat.le_of_ble_eq_true rfl) ?_
      refine jx_ladd hX d_M_mixed_61 ?_
      refine jx_aload_n hX d_M_mixed_62 0 rfl rfl ?_
      refine jx_iload_n hX d_M_mixed_63 2 rfl rfl ?_
      refine jx_iload_n hX d_M_mixed_64 1 rfl rfl ?_
      refine jx_iconst (v := 2) hX d_M_mixed_65 (by decide) ?_
      refine jx_iconst (v := 1) hX d_M_mixed_66 (by decide) ?_
      obtain ⟨q67_3, hq67_3, h⟩ := jx_bd h
      refine cs_M_145 hX (c_M_cross (jx_l X) G S a2 a1 2 1 q67_3 hq67_3) d_M_mixed_67 (by decide) (Nat.le_of_ble_eq_true rfl) ?_
      refine jx_lsub hX d_M_mixed_70 ?_
      refine jx_aload_n hX d_M_mixed_71 0 rfl rfl ?_
      refine jx_iload_n hX d_M_mixed_72 2 rfl rfl ?_
      refine jx_iload_n hX d_M_mixed_73 1 rfl rfl ?_
      refine jx_iconst (v := 3) hX d_M_mixed_74 (by decide) ?_
      refine jx_iconst (v := 0) hX d_M_mixed_75 (by decide) ?_
      obtain ⟨q76_4, hq76_4, h⟩ := jx_bd h
      refine cs_M_145 hX (c_M_cross (jx_l X) G S a2 a1 3 0 q76_4 hq76_4) d_M_mixed_76 (by decide) (Nat.le_of_ble_eq_true rfl) ?_
      refine jx_lsub hX d_M_mixed_79 ?_
      obtain rfl := Option.some.inj h
      exact jx_lret hX d_M_mixed_80
    · have h := jx_ip hc h
      refine jx_aload_n hX d_M_mixed_27 0 rfl rfl ?_
      refine jx_iload_n hX d_M_mixed_28 1 rfl rfl ?_
      refine jx_iload_n hX d_M_mixed_29 2 rfl rfl ?_
      refine jx_iconst (v := 3) hX d_M_mixed_30 (by decide) ?_
      refine jx_iconst (v := 1) hX d_M_mixed_31 (by decide) ?_
      obtain ⟨q32_5, hq32_5, h⟩ := jx_bd h
      refine cs_M_145 hX (c_M_cross (jx_l X) G S a1 a2 3 1 q32_5 hq32_5) d_M_mixed_32 (by decide) (Nat.le_of_ble_eq_true rfl) ?_
      refine jx_aload_n hX d_M_mixed_35 0 rfl rfl ?_
      refine jx_iload_n hX d_M_mixed_36 2 rfl rfl ?_
      refine jx_iload_n hX d_M_mixed_37 1 rfl rfl ?_
      refine jx_iconst (v := 3) hX d_M_mixed_38 (by decide) ?_
      refine jx_iconst (v := 1) hX d_M_mixed_39 (by decide) ?_
      obtain ⟨q40_6, hq40_6, h⟩ := jx_bd h
      refine cs_M_145 hX (c_M_cross (jx_l X) G S a2 a1 3 1 q40_6 hq40_6) d_M_mixed_40 (by decide) (Nat.le_of_ble_eq_true rfl) ?_
      refine jx_lsub hX d_M_mixed_43 ?_
      obtain rfl := Option.some.inj h
      exact jx_lret hX d_M_mixed_44
  · have h := jx_ip hc h
    refine jx_aload_n hX d_M_mixed_4 0 rfl rfl ?_
    refine jx_iload_n hX d_M_mixed_5 1 rfl rfl ?_
    refine jx_iload_n hX d_M_mixed_6 2 rfl rfl ?_
    refine jx_iconst (v := 2) hX d_M_mixed_7 (by decide) ?_
    refine jx_iconst (v := 0) hX d_M_mixed_8 (by decide) ?_
    obtain ⟨q9_7, hq9_7, h⟩ := jx_bd h
    refine cs_M_145 hX (c_M_cross (jx_l X) G S a1 a2 2 0 q9_7 hq9_7) d_M_mixed_9 (by decide) (Nat.le_of_ble_eq_true rfl) ?_
    refine jx_aload_n hX d_M_mixed_12 0 rfl rfl ?_
    refine jx_iload_n hX d_M_mixed_13 2 rfl rfl ?_
    refine jx_iload_n hX d_M_mixed_14 1 rfl rfl ?_
    refine jx_iconst (v := 2) hX d_M_mixed_15 (by decide) ?_
    refine jx_iconst (v := 0) hX d_M_mixed_16 (by decide) ?_
    obtain ⟨q17_8, hq17_8, h⟩ := jx_bd h
    refine cs_M_145 hX (c_M_cross (jx_l X) G S a2 a1 2 0 q17_8 hq17_8) d_M_mixed_17 (by decide) (Nat.le_of_ble_eq_true rfl) ?_
    refine jx_lsub hX d_M_mixed_20 ?_
    obtain rfl := Option.some.inj h
    exact jx_lret hX d_M_mixed_21

