def b_M_takeText_7  (z : jx_S × Int32) : Option ((jx_S × Int32) ⊕ (jx_S)) :=
  if (z.1.1 0) ≤ z.2 then
    some (.inr z.1)
  else
    if jx_in z.2 80 = true then
      if ((z.1.2.1 0) (z.2).toNatClampNeg) = 32 then
        some (.inl (z.1, (z.2 + 1)))
      else
        if jx_in (z.1.1 1) 80 = true then
          some (.inl ((jx_f (jx_g z.1 1 (upd (z.1.2.1 1) ((z.1.1 1)).toNatClampNeg ((z.1.2.1 0) (z.2).toNatClampNeg))) 1 ((z.1.1 1) + 1)), (z.2 + 1)))
        else none
    else none

def f_M_takeText (S : jx_S)  : Option (jx_S) :=
  (jx_lp (b_M_takeText_7 ) jx_N ((jx_f S 1 0), 0)).bind fun z7_3 =>
    some (jx_f z7_3 0 0)
set_option maxHeartbeats 4000000 in
set_option maxRecDepth 100000 in
theorem lt_M_takeText_7 {G : jx_G} {X : jx_C} (hX : jx_Ok G X b_M_takeText "PlaneCellsModel" none 2 0) (fin : jx_S)  {n : Nat} {z : jx_S × Int32} {r : jx_S} (hz : jx_lp (b_M_takeText_7 ) n z = some r) (hk : jx_At G X (none, jr_w G fin) (jr_w G r) 57 [(0, .ref (jx_ad G 18))] []) : jx_At G X (none, jr_w G fin) (jr_w G z.1) 7 [(0, .ref (jx_ad G 18)), (1, .int z.2)] [] := by
  refine jx_loop1 (b_M_takeText_7 ) (fun z => jx_At G X (none, jr_w G fin) (jr_w G z.1) 7 [(0, .ref (jx_ad G 18)), (1, .int z.2)] []) (fun z => jx_At G X (none, jr_w G fin) (jr_w G z) 57 [(0, .ref (jx_ad G 18))] []) ?_ n z r hz hk
  intro z o h hi hx
  unfold b_M_takeText_7 at h
  refine jx_iload_n hX d_M_takeText_7 1 rfl rfl ?_
  refine jx_aload_n hX d_M_takeText_8 0 rfl rfl ?_
  refine gf_M_58 hX d_M_takeText_9 rfl ?_
  refine jx_icmp_ge hX d_M_takeText_12 rfl (fun hc => ?_) (fun hc => ?_)
  · have h := jx_ip hc h
    refine jx_sub (L2 := [(0, .ref (jx_ad G 18))]) [0] rfl ?_
    obtain rfl := Option.some.inj h
    exact hx _ rfl
  · have h := jx_in_ hc h
    refine jx_aload_n hX d_M_takeText_15 0 rfl rfl ?_
    refine gf_M_7 hX d_M_takeText_16 ?_
    refine jx_iload_n hX d_M_takeText_19 1 rfl rfl ?_
    obtain ⟨hg1, h⟩ := jx_gd h
    refine al_M0 hX d_M_takeText_20 rfl hg1 ?_
    refine jx_bipush (v := 32) hX d_M_takeText_21 (by decide) ?_
    refine jx_icmp_eq hX d_M_takeText_23 rfl (fun hc => ?_) (fun hc => ?_)
    · have h := jx_ip hc h
      refine jx_iinc (v := (z.2 + 1)) hX d_M_takeText_51 1 rfl (by first | rfl | decide) (by decide) (L2 := [(1, .int (z.2 + 1)), (0, .ref (jx_ad G 18))]) rfl ?_
      refine jx_goto hX d_M_takeText_54 rfl ?_
      refine jx_sub (L2 := [(0, .ref (jx_ad G 18)), (1, .int (z.2 + 1))]) [1, 0] rfl ?_
      obtain rfl := Option.some.inj h
      exact hi _ rfl
    · have h := jx_in_ hc h
      refine jx_aload_n hX d_M_takeText_26 0 rfl rfl ?_
      refine gf_M_13 hX d_M_takeText_27 ?_
      refine jx_aload_n hX d_M_takeText_30 0 rfl rfl ?_
      refine gf_M_61 hX d_M_takeText_31 rfl ?_
      refine jx_aload_n hX d_M_takeText_34 0 rfl rfl ?_
      refine gf_M_7 hX d_M_takeText_35 ?_
      refine jx_iload_n hX d_M_takeText_38 1 rfl rfl ?_
      refine al_M0 hX d_M_takeText_39 rfl hg1 ?_
      obtain ⟨hg2, h⟩ := jx_gd h
      refine as_M1 hX d_M_takeText_40 rfl hg2 ?_
      refine jx_aload_n hX d_M_takeText_41 0 rfl rfl ?_
      refine jx_dup hX d_M_takeText_42 rfl ?_
      refine gf_M_61 hX d_M_takeText_43 (x := (z.1.1 1)) rfl ?_
      refine jx_iconst (v := 1) hX d_M_takeText_46 (by decide) ?_
      refine jx_iadd hX d_M_takeText_47 ?_
      refine pf_M_61 hX d_M_takeText_48 ?_
      refine jx_iinc (v := (z.2 + 1)) hX d_M_takeText_51 1 rfl (by first | rfl | decide) (by decide) (L2 := [(1, .int (z.2 + 1)), (0, .ref (jx_ad G 18))]) rfl ?_
      refine jx_goto hX d_M_takeText_54 rfl ?_
      refine jx_sub (L2 := [(0, .ref (jx_ad G 18)), (1, .int (z.2 + 1))]) [1, 0] rfl ?_
      obtain rfl := Option.some.inj h
      exact hi _ rfl

set_option maxHeartbeats 4000000 in
set_option maxRecDepth 100000 in
theorem c_M_takeText (l : Launch) (G : jx_G) (S : jx_S)  (fin : jx_S) (h : f_M_takeText S = some fin) : jx_M l y_M_takeText b_M_takeText 2 none 0 G [.ref (jx_ad G 18)] (jr_w G S) (none, jr_w G fin) := by
  refine jx_met (own := "PlaneCellsModel") (by decide) rfl (Nat.le_of_ble_eq_true rfl) (fun X hX hl => ?_)
  subst hl
  refine jx_L (L2 := [(0, .ref (jx_ad G 18))]) rfl ?_
  unfold f_M_takeText at h
  refine jx_aload_n hX d_M_takeText_0 0 rfl rfl ?_
  refine jx_iconst (v := 0) hX d_M_takeText_1 (by decide) ?_
  refine pf_M_61 hX d_M_takeText_2 ?_
  refine jx_iconst (v := 0) hX d_M_takeText_5 (by decide) ?_
  refine jx_istore_n hX d_M_takeText_6 rfl (by decide) (L2 := [(1, .int 0), (0, .ref (jx_ad G 18))]) rfl ?_
  refine jx_sub (L2 := [(0, .ref (jx_ad G 18)), (1, .int 0)]) [1, 0] rfl ?_
  obtain ⟨z7_3, hz, h⟩ := jx_bd h
  refine lt_M_takeText_7 hX fin  hz ?_
  refine jx_aload_n hX d_M_takeText_57 0 rfl rfl ?_
  refine jx_iconst (v := 0) hX d_M_takeText_58 (by decide) ?_
  refine pf_M_58 hX d_M_takeText_59 ?_
  obtain rfl := Option.some.inj h
  exact jx_vret hX d_M_takeText_62

def b_M_count_4 (S : jx_S) (x1 : Int32) (z : Int32 × Int32) : Option ((Int32 × Int32) ⊕ (Int32)) :=
  if (S.1 1) ≤ z.2 then
    some (.inr z.1)
  else
    if jx_in z.2 80 = true then
      if ((S.2.1 1) (z.2).toNatClampNeg) = x1 then
        some (.inl ((z.1 + 1), (z.2 + 1)))
      else
        some (.inl (z.1, (z.2 + 1)))
    else none

def f_M_count (S : jx_S) (a1 : Int32) : Option (Int32) :=
  (jx_lp (b_M_count_4 S a1) jx_N (0, 0)).bind fun z4_2 =>
    some z4_2
set_option maxHeartbeats 4000000 in
set_option maxRecDepth 100000 in
theorem lt_M_count_4 {G : jx_G} {X : jx_C} (hX : jx_Ok G X b_M_count "PlaneCellsModel" (some .int) 4 0) (fin : Int32) (S : jx_S) (x1 : Int32) {n : Nat} {z : Int32 × Int32} {r : Int32} (hz : jx_lp (b_M_count_4 S x1) n z = some r) (hk : jx_At G X (some (.int fin), jr_w G S) (jr_w G S) 31 [(0, .ref (jx_ad G 18)), (1, .int x1), (2, .int r)] []) : jx_At G X (some (.int fin), jr_w G S) (jr_w G S) 4 [(0, .ref (jx_ad G 18)), (1, .int x1), (2, .int z.1), (3, .int z.2)] [] := by
  refine jx_loop1 (b_M_count_4 S x1) (fun z => jx_At G X (some (.int fin), jr_w G S) (jr_w G S) 4 [(0, .ref (jx_ad G 18)), (1, .int x1), (2, .int z.1), (3, .int z.2)] []) (fun z => jx_At G X (some (.int fin), jr_w G S) (jr_w G S) 31 [(0, .ref (jx_ad G 18)), (1, .int x1), (2, .int z)] []) ?_ n z r hz hk
  intro z o h hi hx
  unfold b_M_count_4 at h
  refine jx_iload_n hX d_M_count_4 3 rfl rfl ?_
  refine jx_aload_n hX d_M_count_5 0 rfl rfl ?_
  refine gf_M_61 hX d_M_count_6 rfl ?_
  refine jx_icmp_ge hX d_M_count_9 rfl (fun hc => ?_) (fun hc => ?_)
  · have h := jx_ip hc h
    refine jx_sub (L2 := [(0, .ref (jx_ad G 18)), (1, .int x1), (2, .int z.1)]) [0, 1, 2] rfl ?_
    obtain rfl := Option.some.inj h
    exact hx _ rfl
  · have h := jx_in_ hc h
    refine jx_aload_n hX d_M_count_12 0 rfl rfl ?_
    refine gf_M_13 hX d_M_count_13 ?_
    refine jx_iload_n hX d_M_count_16 3 rfl rfl ?_
    obtain ⟨hg1, h⟩ := jx_gd h
    refine al_M1 hX d_M_count_17 rfl hg1 ?_
    refine jx_iload_n hX d_M_count_18 1 rfl rfl ?_
    refine jx_icmp_ne hX d_M_count_19 rfl (fun hc => ?_) (fun hc => ?_)
    · have h := jx_in_ hc h
      refine jx_iinc (v := (z.2 + 1)) hX d_M_count_25 3 rfl (by first | rfl | decide) (by decide) (L2 := [(3, .int (z.2 + 1)), (0, .ref (jx_ad G 18)), (1, .int x1), (2, .int z.1)]) rfl ?_
      refine jx_goto hX d_M_count_28 rfl ?_
      refine jx_sub (L2 := [(0, .ref (jx_ad G 18)), (1, .int x1), (2, .int z.1), (3, .int (z.2 + 1))]) [1, 2, 3, 0] rfl ?_
      obtain rfl := Option.some.inj h
      exact hi _ rfl
    · have h := jx_ip hc h
      refine jx_iinc (v := (z.1 + 1)) hX d_M_count_22 2 rfl (by first | rfl | decide) (by decide) (L2 := [(2, .int (z.1 + 1)), (0, .ref (jx_ad G 18)), (1, .int x1), (3, .int z.2)]) rfl ?_
      refine jx_iinc (v := (z.2 + 1)) hX d_M_count_25 3 rfl (by first | rfl | decide) (by decide) (L2 := [(3, .int (z.2 + 1)), (2, .int (z.1 + 1)), (0, .ref (jx_ad G 18)), (1, .int x1)]) rfl ?_
      refine jx_goto hX d_M_count_28 rfl ?_
      refine jx_sub (L2 := [(0, .ref (jx_ad G 18)), (1, .int x1), (2, .int (z.1 + 1)), (3, .int (z.2 + 1))]) [2, 3, 1, 0] rfl ?_
      obtain rfl := Option.some.inj h
      exact hi _ rfl

set_option maxHeartbeats 4000000 in
set_option maxRecDepth 100000 in
theorem c_M_count (l : Launch) (G : jx_G) (S : jx_S) (a1 : Int32) (fin : Int32) (h : f_M_count S a1 = some fin) : jx_M l y_M_count b_M_count 4 (some .int) 0 G [.ref (jx_ad G 18), .int a1] (jr_w G S) (some (.int fin), jr_w G S) := by
  refine jx_met (own := "PlaneCellsModel") (by decide) rfl (Nat.le_of_ble_eq_true rfl) (fun X hX hl => ?_)
  subst hl
  refine jx_L (L2 := [(0, .ref (jx_ad G 18)), (1, .int a1)]) rfl ?_
  unfold f_M_count at h
  refine jx_iconst (v := 0) hX d_M_count_0 (by decide) ?_
  refine jx_istore_n hX d_M_count_1 rfl (by decide) (L2 := [(2, .int 0), (0, .ref (jx_ad G 18)), (1, .int a1)]) rfl ?_
  refine jx_iconst (v := 0) hX d_M_count_2 (by decide) ?_
  refine jx_istore_n hX d_M_count_3 rfl (by decide) (L2 := [(3, .int 0), (2, .int 0), (0, .ref (jx_ad G 18)), (1, .int a1)]) rfl ?_
  refine jx_sub (L2 := [(0, .ref (jx_ad G 18)), (1, .int a1), (2, .int 0), (3, .int 0)]) [2, 3, 1, 0] rfl ?_
  obtain ⟨z4_2, hz, h⟩ := jx_bd h
  refine lt_M_count_4 hX fin S a1 hz ?_
  refine jx_iload_n hX d_M_count_31 2 rfl rfl ?_
  obtain rfl := Option.some.inj h
  exact jx_iret hX d_M_count_32

def f_M_relations (S : jx_S)  : Option (Int32) :=
  (f_M_count S 60).bind fun q3_1 =>
    (f_M_count S 61).bind fun q9_2 =>
      (f_M_count S 62).bind fun q16_3 =>
        some ((q3_1 + q9_2) + q16_3)
set_option maxHeartbeats 4000000 in
set_option maxRecDepth 100000 in
theorem c_M_relations (l : Launch) (G : jx_G) (S : jx_S)  (fin : Int32) (h : f_M_relations S = some fin) : jx_M l y_M_relations b_M_relations 1 (some .int) 1 G [.ref (jx_ad G 18)] (jr_w G S) (some (.int fin), jr_w G S) := by
  refine jx_met (own := "PlaneCellsModel") (by decide) rfl (Nat.le_of_ble_eq_true rfl) (fun X hX hl => ?_)
  subst hl
  refine jx_L (L2 := [(0, .ref (jx_ad G 18))]) rfl ?_
  unfold f_M_relations at h
  refine jx_aload_n hX d_M_relations_0 0 rfl rfl ?_
  refine jx_bipush (v := 60) hX d_M_relations_1 (by decide) ?_
  obtain ⟨q3_1, hq3_1, h⟩ := jx_bd h
  refine cs_M_90 hX (c_M_count (jx_l X) G S 60 q3_1 hq3_1) d_M_relations_3 (by decide) (Nat.le_of_ble_eq_true rfl) ?_
  refine jx_aload_n hX d_M_relations_6 0 rfl rfl ?_
  refine jx_bipush (v := 61) hX d_M_relations_7 (by decide) ?_
  obtain ⟨q9_2, hq9_2, h⟩ := jx_bd h
  refine cs_M_90 hX (c_M_count (jx_l X) G S 61 q9_2 hq9_2) d_M_relations_9 (by decide) (Nat.le_of_ble_eq_true rfl) ?_
  refine jx_iadd hX d_M_relations_12 ?_
  refine jx_aload_n hX d_M_relations_13 0 rfl rfl ?_
  refine jx_bipush (v := 62) hX d_M_relations_14 (by decide) ?_
  obtain ⟨q16_3, hq16_3, h⟩ := jx_bd h
  refine cs_M_90 hX (c_M_count (jx_l X) G S 62 q16_3 hq16_3) d_M_relations_16 (by decide) (Nat.le_of_ble_eq_true rfl) ?_
  refine jx_iadd hX d_M_relations_19 ?_
  obtain rfl := Option.some.inj h
  exact jx_iret hX d_M_relations_20

def k_M_readSum_9_207 (S : jx_S) (x1 : Int32) (x2 : Int32) (x3 : Int32) (x4 : Int32) (x5 : Int32) (x6 : Int32) (x7 : Int32) (x8 : Int32) (x9 : Int32) (y0 : Int32) : Option ((jx_S × Int32 × Int32 × Int32) ⊕ (jx_S × Int32 × Int32 × Int32)) :=
  if jx_in (((4 * x2) + (if x8 = 0 then 0 else 1 : Int32)) + (if x9 = 0 then 0 else 2 : Int32)) 32 = true then
    (f_M_at (jx_g S 2 (upd (S.2.1 2) ((((4 * x2) + (if x8 = 0 then 0 else 1 : Int32)) + (if x9 = 0 then 0 else 2 : Int32))).toNatClampNeg (((S.2.1 2) ((((4 * x2) + (if x8 = 0 then 0 else 1 : Int32)) + (if x9 = 0 then 0 else 2 : Int32))).toNatClampNeg) + (x5 * x7)))) y0).bind fun q259_8 =>
      if q259_8 = 43 then
        some (.inl ((jx_g S 2 (upd (S.2.1 2) ((((4 * x2) + (if x8 = 0 then 0 else 1 : Int32)) + (if x9 = 0 then 0 else 2 : Int32))).toNatClampNeg (((S.2.1 2) ((((4 * x2) + (if x8 = 0 then 0 else 1 : Int32)) + (if x9 = 0 then 0 else 2 : Int32))).toNatClampNeg) + (x5 * x7)))), y0, x5, 1))
      else
        (f_M_at (jx_g S 2 (upd (S.2.1 2) ((((4 * x2) + (if x8 = 0 then 0 else 1 : Int32)) + (if x9 = 0 then 0 else 2 : Int32))).toNatClampNeg (((S.2.1 2) ((((4 * x2) + (if x8 = 0 then 0 else 1 : Int32)) + (if x9 = 0 then 0 else 2 : Int32))).toNatClampNeg) + (x5 * x7)))) y0).bind fun q270_9 =>
          some (.inl ((jx_g S 2 (upd (S.2.1 2) ((((4 * x2) + (if x8 = 0 then 0 else 1 : Int32)) + (if x9 = 0 then 0 else 2 : Int32))).toNatClampNeg (((S.2.1 2) ((((4 * x2) + (if x8 = 0 then 0 else 1 : Int32)) + (if x9 = 0 then 0 else 2 : Int32))).toNatClampNeg) + (x5 * x7)))), y0, x5, (if q270_9 = 45 then 1 else 0 : Int32)))
  else none

def k_M_readSum_9_169 (S : jx_S) (x1 : Int32) (x2 : Int32) (x3 : Int32) (x4 : Int32) (x5 : Int32) (x6 : Int32) (x7 : Int32) (x8 : Int32) (y0 : Int32) : Option ((jx_S × Int32 × Int32 × Int32) ⊕ (jx_S × Int32 × Int32 × Int32)) :=
  k_M_readSum_9_207 S x1 x2 x3 x4 x5 x6 x7 x8 y0 (if x8 = 0 then (if x8 = 0 then (if y0 = 0 then x4 else (x4 + 1) : Int32) else (x4 + 1) : Int32) else (if y0 = 0 then (if x8 = 0 then (if y0 = 0 then x4 else (x4 + 1) : Int32) else (x4 + 1) : Int32) else (x4 + 2) : Int32) : Int32)

def k_M_readSum_9_164 (S : jx_S) (x1 : Int32) (x2 : Int32) (x3 : Int32) (x4 : Int32) (x5 : Int32) (x6 : Int32) (x7 : Int32) (x8 : Int32) : Option ((jx_S × Int32 × Int32 × Int32) ⊕ (jx_S × Int32 × Int32 × Int32)) :=
  k_M_readSum_9_169 S x1 x2 x3 x4 x5 x6 x7 x8 1

def k_M_readSum_9_168 (S : jx_S) (x1 : Int32) (x2 : Int32) (x3 : Int32) (x4 : Int32) (x5 : Int32) (x6 : Int32) (x7 : Int32) (x8 : Int32) : Option ((jx_S × Int32 × Int32 × Int32) ⊕ (jx_S × Int32 × Int32 × Int32)) :=
  k_M_readSum_9_169 S x1 x2 x3 x4 x5 x6 x7 x8 0

def k_M_readSum_9_127 (S : jx_S) (x1 : Int32) (x2 : Int32) (x3 : Int32) (x4 : Int32) (x5 : Int32) (x6 : Int32) (x7 : Int32) (y0 : Int32) : Option ((jx_S × Int32 × Int32 × Int32) ⊕ (jx_S × Int32 × Int32 × Int32)) :=
  (f_M_at S x4).bind fun q132_6 =>
    if q132_6 = 121 then
      k_M_readSum_9_164 S x1 x2 x3 x4 x5 x6 x7 y0
    else
      (f_M_at S x4).bind fun q143_19 =>
        if q143_19 = 120 then
          (f_M_at S (x4 + 1)).bind fun q156_20 =>
            k_M_readSum_9_207 S x1 x2 x3 x4 x5 x6 x7 y0 (if q156_20 = 121 then 1 else 0 : Int32) (if y0 = 0 then (if y0 = 0 then (if (if q156_20 = 121 then 1 else 0 : Int32) = 0 then x4 else (x4 + 1) : Int32) else (x4 + 1) : Int32) else (if (if q156_20 = 121 then 1 else 0 : Int32) = 0 then (if y0 = 0 then (if (if q156_20 = 121 then 1 else 0 : Int32) = 0 then x4 else (x4 + 1) : Int32) else (x4 + 1) : Int32) else (x4 + 2) : Int32) : Int32)
        else
          k_M_readSum_9_168 S x1 x2 x3 x4 x5 x6 x7 y0

def k_M_readSum_9_122 (S : jx_S) (x1 : Int32) (x2 : Int32) (x3 : Int32) (x4 : Int32) (x5 : Int32) (x6 : Int32) (x7 : Int32) : Option ((jx_S × Int32 × Int32 × Int32) ⊕ (jx_S × Int32 × Int32 × Int32)) :=
  k_M_readSum_9_127 S x1 x2 x3 x4 x5 x6 x7 1

def k_M_readSum_9_126 (S : jx_S) (x1 : Int32) (x2 : Int32) (x3 : Int32) (x4 : Int32) (x5 : Int32) (x6 : Int32) (x7 : Int32) : Option ((jx_S × Int32 × Int32 × Int32) ⊕ (jx_S × Int32 × Int32 × Int32)) :=
  k_M_readSum_9_127 S x1 x2 x3 x4 x5 x6 x7 0

def k_M_readSum_9_87 (S : jx_S) (x1 : Int32) (x2 : Int32) (x3 : Int32) (x4 : Int32) (x5 : Int32) (x6 : Int32) (x7 : Int32) : Option ((jx_S × Int32 × Int32 × Int32) ⊕ (jx_S × Int32 × Int32 × Int32)) :=
  (f_M_at S x4).bind fun q90_5 =>
    if q90_5 = 120 then
      k_M_readSum_9_122 S x1 x2 x3 x4 x5 x6 x7
    else
      (f_M_at S x4).bind fun q101_28 =>
        if q101_28 = 121 then
          (f_M_at S (x4 + 1)).bind fun q114_29 =>
            (f_M_at S x4).bind fun q132_30 =>
              if q132_30 = 121 then
                k_M_readSum_9_164 S x1 x2 x3 x4 x5 x6 x7 (if q114_29 = 120 then 1 else 0 : Int32)
              else
                (f_M_at S x4).bind fun q143_31 =>
                  if q143_31 = 120 then
                    (f_M_at S (x4 + 1)).bind fun q156_32 =>
                      k_M_readSum_9_207 S x1 x2 x3 x4 x5 x6 x7 (if q114_29 = 120 then 1 else 0 : Int32) (if q156_32 = 121 then 1 else 0 : Int32) (if (if q114_29 = 120 then 1 else 0 : Int32) = 0 then (if (if q114_29 = 120 then 1 else 0 : Int32) = 0 then (if (if q156_32 = 121 then 1 else 0 : Int32) = 0 then x4 else (x4 + 1) : Int32) else (x4 + 1) : Int32) else (if (if q156_32 = 121 then 1 else 0 : Int32) = 0 then (if (if q114_29 = 120 then 1 else 0 : Int32) = 0 then (if (if q156_32 = 121 then 1 else 0 : Int32) = 0 then x4 else (x4 + 1) : Int32) else (x4 + 1) : Int32) else (x4 + 2) : Int32) : Int32)
                  else
                    k_M_readSum_9_168 S x1 x2 x3 x4 x5 x6 x7 (if q114_29 = 120 then 1 else 0 : Int32)
        else
          k_M_readSum_9_126 S x1 x2 x3 x4 x5 x6 x7

def k_M_readSum_9_58 (S : jx_S) (x1 : Int32) (x2 : Int32) (x3 : Int32) (x4 : Int32) (x5 : Int32) (x6 : Int32) : Option ((jx_S × Int32 × Int32 × Int32) ⊕ (jx_S × Int32 × Int32 × Int32)) :=
  (f_M_at S x4).bind fun q64_3 =>
    (f_M_isDigit q64_3).bind fun q67_4 =>
      if q67_4 = 0 then
        k_M_readSum_9_87 S x1 x2 x3 x4 x5 x6 1
      else
        (f_M_at S x4).bind fun q76_41 =>
          k_M_readSum_9_87 S x1 x2 x3 (x4 + 1) x5 x6 (q76_41 - 48)

def k_M_readSum_9_36 (S : jx_S) (x1 : Int32) (x2 : Int32) (x3 : Int32) (x4 : Int32) (x5 : Int32) (x6 : Int32) : Option ((jx_S × Int32 × Int32 × Int32) ⊕ (jx_S × Int32 × Int32 × Int32)) :=
  (f_M_at S x4).bind fun q39_2 =>
    k_M_readSum_9_58 S x1 x2 x3 (x4 + 1) (if q39_2 = 45 then (-x3) else x3 : Int32) x6

def b_M_readSum_9 (x1 : Int32) (x2 : Int32) (x3 : Int32) (z : jx_S × Int32 × Int32 × Int32) : Option ((jx_S × Int32 × Int32 × Int32) ⊕ (jx_S × Int32 × Int32 × Int32)) :=
  if z.2.2.2 = 0 then
    some (.inr (z.1, z.2.1, z.2.2.1, z.2.2.2))
  else
    (f_M_at z.1 z.2.1).bind fun q17_1 =>
      if q17_1 = 43 then
        k_M_readSum_9_36 z.1 x1 x2 x3 z.2.1 z.2.2.1 z.2.2.2
      else
        (f_M_at z.1 z.2.1).bind fun q28_43 =>
          if q28_43 = 45 then
            k_M_readSum_9_36 z.1 x1 x2 x3 z.2.1 z.2.2.1 z.2.2.2
          else
            k_M_readSum_9_58 z.1 x1 x2 x3 z.2.1 z.2.2.1 z.2.2.2

def f_M_readSum (S : jx_S) (a1 : Int32) (a2 : Int32) (a3 : Int32) : Option (Int32 × jx_S) :=
  (jx_lp (b_M_readSum_9 a1 a2 a3) jx_N (S, a1, a3, 1)).bind fun z9_44 =>
    some (z9_44.2.1, z9_44.1)
set_option maxHeartbeats 4000000 in
set_option maxRecDepth 100000 in
theorem kt_M_readSum_9_207 {G : jx_G} {X : jx_C} (hX : jx_Ok G X b_M_readSum "PlaneCellsModel" (some .int) 11 1) (fin : Int32 × jx_S) (S : jx_S) (x1 : Int32) (x2 : Int32) (x3 : Int32) (x4 : Int32) (x5 : Int32) (x6 : Int32) (x7 : Int32) (x8 : Int32) (x9 : Int32) (y0 : Int32) {o : (jx_S × Int32 × Int32 × Int32) ⊕ (jx_S × Int32 × Int32 × Int32)} (h : k_M_readSum_9_207 S x1 x2 x3 x4 x5 x6 x7 x8 x9 y0 = some o) (hi : ∀ z, o = .inl z → jx_At G X (some (.int fin.1), jr_w G fin.2) (jr_w G z.1) 9 [(0, .ref (jx_ad G 18)), (1, .int x1), (2, .int x2), (3, .int x3), (4, .int z.2.1), (5, .int z.2.2.1), (6, .int z.2.2.2)] []) (hx : ∀ u, o = .inr u → jx_At G X (some (.int fin.1), jr_w G fin.2) (jr_w G u.1) 288 [(0, .ref (jx_ad G 18)), (1, .int x1), (2, .int x2), (3, .int x3), (4, .int u.2.1), (5, .int u.2.2.1), (6, .int u.2.2.2)] []) : jx_At G X (some (.int fin.1), jr_w G fin.2) (jr_w G S) 207 [(0, .ref (jx_ad G 18)), (1, .int x1), (2, .int x2), (3, .int x3), (4, .int x4), (5, .int x5), (6, .int x6), (7, .int x7), (8, .int x8), (9, .int x9)] [.int y0] := by
  unfold k_M_readSum_9_207 at h
  refine jx_istore hX d_M_readSum_207 (by decide) (L2 := [(4, .int y0), (0, .ref (jx_ad G 18)), (1, .int x1), (2, .int x2), (3, .int x3), (5, .int x5), (6, .int x6), (7, .int x7), (8, .int x8), (9, .int x9)]) rfl ?_
  refine jx_iconst (v := 4) hX d_M_readSum_209 (by decide) ?_
  refine jx_iload_n hX d_M_readSum_210 3 rfl rfl ?_
  refine jx_imul hX d_M_readSum_211 ?_
  refine jx_iload hX d_M_readSum_212 8 rfl ?_
  have hj : ∀ v : Int32, v = (if x8 = 0 then 0 else 1 : Int32) → jx_At G X (some (.int fin.1), jr_w G fin.2) (jr_w G S) 222 [(4, .int y0), (0, .ref (jx_ad G 18)), (1, .int x1), (2, .int x2), (3, .int x3), (5, .int x5), (6, .int x6), (7, .int x7), (8, .int x8), (9, .int x9)] [.int v, .int (4 * x2)] := by
    intro v hv
    subst hv
    refine jx_iadd hX d_M_readSum_222 ?_
    refine jx_iload hX d_M_readSum_223 9 rfl ?_
    have hj : ∀ v : Int32, v = (if x9 = 0 then 0 else 2 : Int32) → jx_At G X (some (.int fin.1), jr_w G fin.2) (jr_w G S) 233 [(4, .int y0), (0, .ref (jx_ad G 18)), (1, .int x1), (2, .int x2), (3, .int x3), (5, .int x5), (6, .int x6), (7, .int x7), (8, .int x8), (9, .int x9)] [.int v, .int ((4 * x2) + (if x8 = 0 then 0 else 1 : Int32))] := by
      intro v hv
      subst hv
      refine jx_iadd hX d_M_readSum_233 ?_
      refine jx_istore hX d_M_readSum_234 (by decide) (L2 := [(10, .int (((4 * x2) + (if x8 = 0 then 0 else 1 : Int32)) + (if x9 = 0 then 0 else 2 : Int32))), (4, .int y0), (0, .ref (jx_ad G 18)), (1, .int x1), (2, .int x2), (3, .int x3), (5, .int x5), (6, .int x6), (7, .int x7), (8, .int x8), (9, .int x9)]) rfl ?_
      refine jx_aload_n hX d_M_readSum_236 2 rfl rfl ?_
      refine gf_M_20 hX d_M_readSum_237 ?_
      refine jx_iload hX d_M_readSum_240 0 rfl ?_
      refine jx_aload_n hX d_M_readSum_242 2 rfl rfl ?_
      refine gf_M_20 hX d_M_readSum_243 ?_
      refine jx_iload hX d_M_readSum_246 0 rfl ?_
      obtain ⟨hg7, h⟩ := jx_gd h
      refine al_M2 hX d_M_readSum_248 rfl hg7 ?_
      refine jx_iload hX d_M_readSum_249 6 rfl ?_
      refine jx_iload hX d_M_readSum_251 8 rfl ?_
      refine jx_imul hX d_M_readSum_253 ?_
      refine jx_iadd hX d_M_readSum_254 ?_
      refine as_M2 hX d_M_readSum_255 rfl hg7 ?_
      refine jx_aload_n hX d_M_readSum_256 2 rfl rfl ?_
      refine jx_iload hX d_M_readSum_257 1 rfl ?_
      obtain ⟨q259_8, hq259_8, h⟩ := jx_bd h
      refine cs_M_79 hX (c_M_at (jx_l X) G (jx_g S 2 (upd (S.2.1 2) ((((4 * x2) + (if x8 = 0 then 0 else 1 : Int32)) + (if x9 = 0 then 0 else 2 : Int32))).toNatClampNeg (((S.2.1 2) ((((4 * x2) + (if x8 = 0 then 0 else 1 : Int32)) + (if x9 = 0 then 0 else 2 : Int32))).toNatClampNeg) + (x5 * x7)))) y0 q259_8 hq259_8) d_M_readSum_259 (by decide) (Nat.le_of_ble_eq_true rfl) ?_
      refine jx_bipush (v := 43) hX d_M_readSum_262 (by decide) ?_
      refine jx_icmp_eq hX d_M_readSum_264 rfl (fun hc => ?_) (fun hc => ?_)
      · have h := jx_ip hc h
        refine jx_iconst (v := 1) hX d_M_readSum_278 (by decide) ?_
        refine jx_goto hX d_M_readSum_279 rfl ?_
        refine jx_istore hX d_M_readSum_283 (by decide) (L2 := [(6, .int 1), (10, .int (((4 * x2) + (if x8 = 0 then 0 else 1 : Int32)) + (if x9 = 0 then 0 else 2 : Int32))), (4, .int y0), (0, .ref (jx_ad G 18)), (1, .int x1), (2, .int x2), (3, .int x3), (5, .int x5), (7, .int x7), (8, .int x8), (9, .int x9)]) rfl ?_
        refine jx_goto hX d_M_readSum_285 rfl ?_
        refine jx_sub (L2 := [(0, .ref (jx_ad G 18)), (1, .int x1), (2, .int x2), (3, .int x3), (4, .int y0), (5, .int x5), (6, .int 1)]) [3, 4, 5, 6, 2, 7, 0] rfl ?_
        obtain rfl := Option.some.inj h
        exact hi _ rfl
      · have h := jx_in_ hc h
        refine jx_aload_n hX d_M_readSum_267 2 rfl rfl ?_
        refine jx_iload hX d_M_readSum_268 1 rfl ?_
        obtain ⟨q270_9, hq270_9, h⟩ := jx_bd h
        refine cs_M_79 hX (c_M_at (jx_l X) G (jx_g S 2 (upd (S.2.1 2) ((((4 * x2) + (if x8 = 0 then 0 else 1 : Int32)) + (if x9 = 0 then 0 else 2 : Int32))).toNatClampNeg (((S.2.1 2) ((((4 * x2) + (if x8 = 0 then 0 else 1 : Int32)) + (if x9 = 0 then 0 else 2 : Int32))).toNatClampNeg) + (x5 * x7)))) y0 q270_9 hq270_9) d_M_readSum_270 (by decide) (Nat.le_of_ble_eq_true rfl) ?_
        refine jx_bipush (v := 45) hX d_M_readSum_273 (by decide) ?_
        have hj : ∀ v : Int32, v = (if q270_9 = 45 then 1 else 0 : Int32) → jx_At G X (some (.int fin.1), jr_w G fin.2) (jr_w G (jx_g S 2 (upd (S.2.1 2) ((((4 * x2) + (if x8 = 0 then 0 else 1 : Int32)) + (if x9 = 0 then 0 else 2 : Int32))).toNatClampNeg (((S.2.1 2) ((((4 * x2) + (if x8 = 0 then 0 else 1 : Int32)) + (if x9 = 0 then 0 else 2 : Int32))).toNatClampNeg) + (x5 * x7))))) 283 [(10, .int (((4 * x2) + (if x8 = 0 then 0 else 1 : Int32)) + (if x9 = 0 then 0 else 2 : Int32))), (4, .int y0), (0, .ref (jx_ad G 18)), (1, .int x1), (2, .int x2), (3, .int x3), (5, .int x5), (6, .int x6), (7, .int x7), (8, .int x8), (9, .int x9)] [.int v] := by
          intro v hv
          subst hv
          refine jx_istore hX d_M_readSum_283 (by decide) (L2 := [(6, .int (if q270_9 = 45 then 1 else 0 : Int32)), (10, .int (((4 * x2) + (if x8 = 0 then 0 else 1 : Int32)) + (if x9 = 0 then 0 else 2 : Int32))), (4, .int y0), (0, .ref (jx_ad G 18)), (1, .int x1), (2, .int x2), (3, .int x3), (5, .int x5), (7, .int x7), (8, .int x8), (9, .int x9)]) rfl ?_
          refine jx_goto hX d_M_readSum_285 rfl ?_
          refine jx_sub (L2 := [(0, .ref (jx_ad G 18)), (1, .int x1), (2, .int x2), (3, .int x3), (4, .int y0), (5, .int x5), (6, .int (if q270_9 = 45 then 1 else 0 : Int32))]) [3, 4, 5, 6, 2, 7, 0] rfl ?_
          obtain rfl := Option.some.inj h
          exact hi _ rfl
        refine jx_icmp_ne hX d_M_readSum_275 rfl (fun hc10 => ?_) (fun hc10 => ?_)
        · refine jx_iconst (v := 0) hX d_M_readSum_282 (by decide) ?_
          exact hj _ (if_neg hc10).symm
        · refine jx_iconst (v := 1) hX d_M_readSum_278 (by decide) ?_
          refine jx_goto hX d_M_readSum_279 rfl ?_
          exact hj _ (if_pos hc10).symm
    refine jx_if_eq hX d_M_readSum_225 rfl (fun hc11 => ?_) (fun hc11 => ?_)
    · refine jx_iconst (v := 0) hX d_M_readSum_232 (by decide) ?_
      exact hj _ (if_pos hc11).symm
    · refine jx_iconst (v := 2) hX d_M_readSum_228 (by decide) ?_
      refine jx_goto hX d_M_readSum_229 rfl ?_
      exact hj _ (if_neg hc11).symm
  refine jx_if_eq hX d_M_readSum_214 rfl (fun hc12 => ?_) (fun hc12 => ?_)
  · refine jx_iconst (v := 0) hX d_M_readSum_221 (by decide) ?_
    exact hj _ (if_pos hc12).symm
  · refine jx_iconst (v := 1) hX d_M_readSum_217 (by decide) ?_
    refine jx_goto hX d_M_readSum_218 rfl ?_
    exact hj _ (if_neg hc12).symm

set_option maxHeartbeats 4000000 in
set_option maxRecDepth 100000 in
theorem kt_M_readSum_9_169 {G : jx_G} {X : jx_C} (hX : jx_Ok G X b_M_readSum "PlaneCellsModel" (some .int) 11 1) (fin : Int32 × jx_S) (S : jx_S) (x1 : Int32) (x2 : Int32) (x3 : Int32) (x4 : Int32) (x5 : Int32) (x6 : Int32) (x7 : Int32) (x8 : Int32) (y0 : Int32) {o : (jx_S × Int32 × Int32 × Int32) ⊕ (jx_S × Int32 × Int32 × Int32)} (h : k_M_readSum_9_169 S x1 x2 x3 x4 x5 x6 x7 x8 y0 = some o) (hi : ∀ z, o = .inl z → jx_At G X (some (.int fin.1), jr_w G fin.2) (jr_w G z.1) 9 [(0, .ref (jx_ad G 18)), (1, .int x1), (2, .int x2), (3, .int x3), (4, .int z.2.1), (5, .int z.2.2.1), (6, .int z.2.2.2)] []) (hx : ∀ u, o = .inr u → jx_At G X (some (.int fin.1), jr_w G fin.2) (jr_w G u.1) 288 [(0, .ref (jx_ad G 18)), (1, .int x1), (2, .int x2), (3, .int x3), (4, .int u.2.1), (5, .int u.2.2.1), (6, .int u.2.2.2)] []) : jx_At G X (some (.int fin.1), jr_w G fin.2) (jr_w G S) 169 [(0, .ref (jx_ad G 18)), (1, .int x1), (2, .int x2), (3, .int x3), (4, .int x4), (5, .int x5), (6, .int x6), (7, .int x7), (8, .int x8)] [.int y0] := by
  unfold k_M_readSum_9_169 at h
  refine jx_istore hX d_M_readSum_169 (by decide) (L2 := [(9, .int y0), (0, .ref (jx_ad G 18)), (1, .int x1), (2, .int x2), (3, .int x3), (4, .int x4), (5, .int x5), (6, .int x6), (7, .int x7), (8, .int x8)]) rfl ?_
  refine jx_iload hX d_M_readSum_171 9 rfl ?_
  have hj : ∀ v : Int32, v = (if x8 = 0 then (if x8 = 0 then (if y0 = 0 then x4 else (x4 + 1) : Int32) else (x4 + 1) : Int32) else (if y0 = 0 then (if x8 = 0 then (if y0 = 0 then x4 else (x4 + 1) : Int32) else (x4 + 1) : Int32) else (x4 + 2) : Int32) : Int32) → jx_At G X (some (.int fin.1), jr_w G fin.2) (jr_w G S) 207 [(9, .int y0), (0, .ref (jx_ad G 18)), (1, .int x1), (2, .int x2), (3, .int x3), (4, .int x4), (5, .int x5), (6, .int x6), (7, .int x7), (8, .int x8)] [.int v] := by
    intro v hv
    subst hv
    refine jx_sub (L2 := [(0, .ref (jx_ad G 18)), (1, .int x1), (2, .int x2), (3, .int x3), (4, .int x4), (5, .int x5), (6, .int x6), (7, .int x7), (8, .int x8), (9, .int y0)]) [1, 2, 3, 4, 5, 6, 7, 8, 9, 0] rfl ?_
    exact kt_M_readSum_9_207 hX fin S x1 x2 x3 x4 x5 x6 x7 x8 y0 (if x8 = 0 then (if x8 = 0 then (if y0 = 0 then x4 else (x4 + 1) : Int32) else (x4 + 1) : Int32) else (if y0 = 0 then (if x8 = 0 then (if y0 = 0 then x4 else (x4 + 1) : Int32) else (x4 + 1) : Int32) else (x4 + 2) : Int32) : Int32) h hi hx
  refine jx_if_eq hX d_M_readSum_173 rfl (fun hc13 => ?_) (fun hc13 => ?_)
  · refine jx_iload hX d_M_readSum_188 9 rfl ?_
    refine jx_if_ne hX d_M_readSum_190 rfl (fun hc14 => ?_) (fun hc14 => ?_)
    · refine jx_iload hX d_M_readSum_198 5 rfl ?_
      refine jx_iconst (v := 1) hX d_M_readSum_200 (by decide) ?_
      refine jx_iadd hX d_M_readSum_201 ?_
      refine jx_goto hX d_M_readSum_202 rfl ?_
      exact hj _ ((if_pos hc13).trans (if_neg hc14)).symm
    · refine jx_iload hX d_M_readSum_193 0 rfl ?_
      refine jx_if_eq hX d_M_readSum_195 rfl (fun hc15 => ?_) (fun hc15 => ?_)
      · refine jx_iload hX d_M_readSum_205 5 rfl ?_
        exact hj _ ((if_pos hc13).trans ((if_pos hc14).trans (if_pos hc15))).symm
      · refine jx_iload hX d_M_readSum_198 5 rfl ?_
        refine jx_iconst (v := 1) hX d_M_readSum_200 (by decide) ?_
        refine jx_iadd hX d_M_readSum_201 ?_
        refine jx_goto hX d_M_readSum_202 rfl ?_
        exact hj _ ((if_pos hc13).trans ((if_pos hc14).trans (if_neg hc15))).symm
  · refine jx_iload hX d_M_readSum_176 0 rfl ?_
    refine jx_if_eq hX d_M_readSum_178 rfl (fun hc16 => ?_) (fun hc16 => ?_)
    · refine jx_iload hX d_M_readSum_188 9 rfl ?_
      refine jx_if_ne hX d_M_readSum_190 rfl (fun hc17 => ?_) (fun hc17 => ?_)
      · refine jx_iload hX d_M_readSum_198 5 rfl ?_
        refine jx_iconst (v := 1) hX d_M_readSum_200 (by decide) ?_
        refine jx_iadd hX d_M_readSum_201 ?_
        refine jx_goto hX d_M_readSum_202 rfl ?_
        exact hj _ ((if_neg hc13).trans ((if_pos hc16).trans (if_neg hc17))).symm
      · refine jx_iload hX d_M_readSum_193 0 rfl ?_
        refine jx_if_eq hX d_M_readSum_195 rfl (fun hc18 => ?_) (fun hc18 => ?_)
        · refine jx_iload hX d_M_readSum_205 5 rfl ?_
          exact hj _ ((if_neg hc13).trans ((if_pos hc16).trans ((if_pos hc17).trans (if_pos hc18)))).symm
        · refine jx_iload hX d_M_readSum_198 5 rfl ?_
          refine jx_iconst (v := 1) hX d_M_readSum_200 (by decide) ?_
          refine jx_iadd hX d_M_readSum_201 ?_
          refine jx_goto hX d_M_readSum_202 rfl ?_
          exact hj _ ((if_neg hc13).trans ((if_pos hc16).trans ((if_pos hc17).trans (if_neg hc18)))).symm
    · refine jx_iload hX d_M_readSum_181 5 rfl ?_
      refine jx_iconst (v := 2) hX d_M_readSum_183 (by decide) ?_
      refine jx_iadd hX d_M_readSum_184 ?_
      refine jx_goto hX d_M_readSum_185 rfl ?_
      exact hj _ ((if_neg hc13).trans (if_neg hc16)).symm

set_option maxHeartbeats 4000000 in
set_option maxRecDepth 100000 in
theorem kt_M_readSum_9_164 {G : jx_G} {X : jx_C} (hX : jx_Ok G X b_M_readSum "PlaneCellsModel" (some .int) 11 1) (fin : Int32 × jx_S) (S : jx_S) (x1 : Int32) (x2 : Int32) (x3 : Int32) (x4 : Int32) (x5 : Int32) (x6 : Int32) (x7 : Int32) (x8 : Int32) {o : (jx_S × Int32 × Int32 × Int32) ⊕ (jx_S × Int32 × Int32 × Int32)} (h : k_M_readSum_9_164 S x1 x2 x3 x4 x5 x6 x7 x8 = some o) (hi : ∀ z, o = .inl z → jx_At G X (some (.int fin.1), jr_w G fin.2) (jr_w G z.1) 9 [(0, .ref (jx_ad G 18)), (1, .int x1), (2, .int x2), (3, .int x3), (4, .int z.2.1), (5, .int z.2.2.1), (6, .int z.2.2.2)] []) (hx : ∀ u, o = .inr u → jx_At G X (some (.int fin.1), jr_w G fin.2) (jr_w G u.1) 288 [(0, .ref (jx_ad G 18)), (1, .int x1), (2, .int x2), (3, .int x3), (4, .int u.2.1), (5, .int u.2.2.1), (6, .int u.2.2.2)] []) : jx_At G X (some (.int fin.1), jr_w G fin.2) (jr_w G S) 164 [(0, .ref (jx_ad G 18)), (1, .int x1), (2, .int x2), (3, .int x3), (4, .int x4), (5, .int x5), (6, .int x6), (7, .int x7), (8, .int x8)] [] := by
  unfold k_M_readSum_9_164 at h
  refine jx_iconst (v := 1) hX d_M_readSum_164 (by decide) ?_
  refine jx_goto hX d_M_readSum_165 rfl ?_
  exact kt_M_readSum_9_169 hX fin S x1 x2 x3 x4 x5 x6 x7 x8 1 h hi hx

set_option maxHeartbeats 4000000 in
set_option maxRecDepth 100000 in
theorem kt_M_readSum_9_168 {G : jx_G} {X : jx_C} (hX : jx_Ok G X b_M_readSum "PlaneCellsModel" (some .int) 11 1) (fin : Int32 × jx_S) (S : jx_S) (x1 : Int32) (x2 : Int32) (x3 : Int32) (x4 : Int32) (x5 : Int32) (x6 : Int32) (x7 : Int32) (x8 : Int32) {o : (jx_S × Int32 × Int32 × Int32) ⊕ (jx_S × Int32 × Int32 × Int32)} (h : k_M_readSum_9_168 S x1 x2 x3 x4 x5 x6 x7 x8 = some o) (hi : ∀ z, o = .inl z → jx_At G X (some (.int fin.1), jr_w G fin.2) (jr_w G z.1) 9 [(0, .ref (jx_ad G 18)), (1, .int x1), (2, .int x2), (3, .int x3), (4, .int z.2.1), (5, .int z.2.2.1), (6, .int z.2.2.2)] []) (hx : ∀ u, o = .inr u → jx_At G X (some (.int fin.1), jr_w G fin.2) (jr_w G u.1) 288 [(0, .ref (jx_ad G 18)), (1, .int x1), (2, .int x2), (3, .int x3), (4, .int u.2.1), (5, .int u.2.2.1), (6, .int u.2.2.2)] []) : jx_At G X (some (.int fin.1), jr_w G fin.2) (jr_w G S) 168 [(0, .ref (jx_ad G 18)), (1, .int x1), (2, .int x2), (3, .int x3), (4, .int x4), (5, .int x5), (6, .int x6), (7, .int x7), (8, .int x8)] [] := by
  unfold k_M_readSum_9_168 at h
  refine jx_iconst (v := 0) hX d_M_readSum_168 (by decide) ?_
  exact kt_M_readSum_9_169 hX fin S x1 x2 x3 x4 x5 x6 x7 x8 0 h hi hx

set_option maxHeartbeats 4000000 in
set_option maxRecDepth 100000 in
theorem kt_M_readSum_9_127 {G : jx_G} {X : jx_C} (hX : jx_Ok G X b_M_readSum "PlaneCellsModel" (some .int) 11 1) (fin : Int32 × jx_S) (S : jx_S) (x1 : Int32) (x2 : Int32) (x3 : Int32) (x4 : Int32) (x5 : Int32) (x6 : Int32) (x7 : Int32) (y0 : Int32) {o : (jx_S × Int32 × Int32 × Int32) ⊕ (jx_S × Int32 × Int32 × Int32)} (h : k_M_readSum_9_127 S x1 x2 x3 x4 x5 x6 x7 y0 = some o) (hi : ∀ z, o = .inl z → jx_At G X (some (.int fin.1), jr_w G fin.2) (jr_w G z.1) 9 [(0, .ref (jx_ad G 18)), (1, .int x1), (2, .int x2), (3, .int x3), (4, .int z.2.1), (5, .int z.2.2.1), (6, .int z.2.2.2)] []) (hx : ∀ u, o = .inr u → jx_At G X (some (.int fin.1), jr_w G fin.2) (jr_w G u.1) 288 [(0, .ref (jx_ad G 18)), (1, .int x1), (2, .int x2), (3, .int x3), (4, .int u.2.1), (5, .int u.2.2.1), (6, .int u.2.2.2)] []) : jx_At G X (some (.int fin.1), jr_w G fin.2) (jr_w G S) 127 [(0, .ref (jx_ad G 18)), (1, .int x1), (2, .int x2), (3, .int x3), (4, .int x4), (5, .int x5), (6, .int x6), (7, .int x7)] [.int y0] := by
  unfold k_M_readSum_9_127 at h
  refine jx_istore hX d_M_readSum_127 (by decide) (L2 := [(8, .int y0), (0, .ref (jx_ad G 18)), (1, .int x1), (2, .int x2), (3, .int x3), (4, .int x4), (5, .int x5), (6, .int x6), (7, .int x7)]) rfl ?_
  refine jx_aload_n hX d_M_readSum_129 1 rfl rfl ?_
  refine jx_iload hX d_M_readSum_130 5 rfl ?_
  obtain ⟨q132_6, hq132_6, h⟩ := jx_bd h
  refine cs_M_79 hX (c_M_at (jx_l X) G S x4 q132_6 hq132_6) d_M_readSum_132 (by decide) (Nat.le_of_ble_eq_true rfl) ?_
  refine jx_bipush (v := 121) hX d_M_readSum_135 (by decide) ?_
  refine jx_icmp_eq hX d_M_readSum_137 rfl (fun hc => ?_) (fun hc => ?_)
  · have h := jx_ip hc h
    refine jx_sub (L2 := [(0, .ref (jx_ad G 18)), (1, .int x1), (2, .int x2), (3, .int x3), (4, .int x4), (5, .int x5), (6, .int x6), (7, .int x7), (8, .int y0)]) [1, 2, 3, 4, 5, 6, 7, 8, 0] rfl ?_
    exact kt_M_readSum_9_164 hX fin S x1 x2 x3 x4 x5 x6 x7 y0 h hi hx
  · have h := jx_in_ hc h
    refine jx_aload_n hX d_M_readSum_140 1 rfl rfl ?_
    refine jx_iload hX d_M_readSum_141 5 rfl ?_
    obtain ⟨q143_19, hq143_19, h⟩ := jx_bd h
    refine cs_M_79 hX (c_M_at (jx_l X) G S x4 q143_19 hq143_19) d_M_readSum_143 (by decide) (Nat.le_of_ble_eq_true rfl) ?_
    refine jx_bipush (v := 120) hX d_M_readSum_146 (by decide) ?_
    refine jx_icmp_ne hX d_M_readSum_148 rfl (fun hc => ?_) (fun hc => ?_)
    · have h := jx_in_ hc h
      refine jx_sub (L2 := [(0, .ref (jx_ad G 18)), (1, .int x1), (2, .int x2), (3, .int x3), (4, .int x4), (5, .int x5), (6, .int x6), (7, .int x7), (8, .int y0)]) [1, 2, 3, 4, 5, 6, 7, 8, 0] rfl ?_
      exact kt_M_readSum_9_168 hX fin S x1 x2 x3 x4 x5 x6 x7 y0 h hi hx
    · have h := jx_ip hc h
      refine jx_aload_n hX d_M_readSum_151 1 rfl rfl ?_
      refine jx_iload hX d_M_readSum_152 5 rfl ?_
      refine jx_iconst (v := 1) hX d_M_readSum_154 (by decide) ?_
      refine jx_iadd hX d_M_readSum_155 ?_
      obtain ⟨q156_20, hq156_20, h⟩ := jx_bd h
      refine cs_M_79 hX (c_M_at (jx_l X) G S (x4 + 1) q156_20 hq156_20) d_M_readSum_156 (by decide) (Nat.le_of_ble_eq_true rfl) ?_
      refine jx_bipush (v := 121) hX d_M_readSum_159 (by decide) ?_
      have hj : ∀ v : Int32, v = (if q156_20 = 121 then 1 else 0 : Int32) → jx_At G X (some (.int fin.1), jr_w G fin.2) (jr_w G S) 169 [(8, .int y0), (0, .ref (jx_ad G 18)), (1, .int x1), (2, .int x2), (3, .int x3), (4, .int x4), (5, .int x5), (6, .int x6), (7, .int x7)] [.int v] := by
        intro v hv
        subst hv
        refine jx_istore hX d_M_readSum_169 (by decide) (L2 := [(9, .int (if q156_20 = 121 then 1 else 0 : Int32)), (8, .int y0), (0, .ref (jx_ad G 18)), (1, .int x1), (2, .int x2), (3, .int x3), (4, .int x4), (5, .int x5), (6, .int x6), (7, .int x7)]) rfl ?_
        refine jx_iload hX d_M_readSum_171 1 rfl ?_
        have hj : ∀ v : Int32, v = (if y0 = 0 then (if y0 = 0 then (if (if q156_20 = 121 then 1 else 0 : Int32) = 0 then x4 else (x4 + 1) : Int32) else (x4 + 1) : Int32) else (if (if q156_20 = 121 then 1 else 0 : Int32) = 0 then (if y0 = 0 then (if (if q156_20 = 121 then 1 else 0 : Int32) = 0 then x4 else (x4 + 1) : Int32) else (x4 + 1) : Int32) else (x4 + 2) : Int32) : Int32) → jx_At G X (some (.int fin.1), jr_w G fin.2) (jr_w G S) 207 [(9, .int (if q156_20 = 121 then 1 else 0 : Int32)), (8, .int y0), (0, .ref (jx_ad G 18)), (1, .int x1), (2, .int x2), (3, .int x3), (4, .int x4), (5, .int x5), (6, .int x6), (7, .int x7)] [.int v] := by
          intro v hv
          subst hv
          refine jx_sub (L2 := [(0, .ref (jx_ad G 18)), (1, .int x1), (2, .int x2), (3, .int x3), (4, .int x4), (5, .int x5), (6, .int x6), (7, .int x7), (8, .int y0), (9, .int (if q156_20 = 121 then 1 else 0 : Int32))]) [2, 3, 4, 5, 6, 7, 8, 9, 1, 0] rfl ?_
          exact kt_M_readSum_9_207 hX fin S x1 x2 x3 x4 x5 x6 x7 y0 (if q156_20 = 121 then 1 else 0 : Int32) (if y0 = 0 then (if y0 = 0 then (if (if q156_20 = 121 then 1 else 0 : Int32) = 0 then x4 else (x4 + 1) : Int32) else (x4 + 1) : Int32) else (if (if q156_20 = 121 then 1 else 0 : Int32) = 0 then (if y0 = 0 then (if (if q156_20 = 121 then 1 else 0 : Int32) = 0 then x4 else (x4 + 1) : Int32) else (x4 + 1) : Int32) else (x4 + 2) : Int32) : Int32) h hi hx
        refine jx_if_eq hX d_M_readSum_173 rfl (fun hc21 => ?_) (fun hc21 => ?_)
        · refine jx_iload hX d_M_readSum_188 1 rfl ?_
          refine jx_if_ne hX d_M_readSum_190 rfl (fun hc22 => ?_) (fun hc22 => ?_)
          · refine jx_iload hX d_M_readSum_198 6 rfl ?_
            refine jx_iconst (v := 1) hX d_M_readSum_200 (by decide) ?_
            refine jx_iadd hX d_M_readSum_201 ?_
            refine jx_goto hX d_M_readSum_202 rfl ?_
            exact hj _ ((if_pos hc21).trans (if_neg hc22)).symm
          · refine jx_iload hX d_M_readSum_193 0 rfl ?_
            refine jx_if_eq hX d_M_readSum_195 rfl (fun hc23 => ?_) (fun hc23 => ?_)
            · refine jx_iload hX d_M_readSum_205 6 rfl ?_
              exact hj _ ((if_pos hc21).trans ((if_pos hc22).trans (if_pos hc23))).symm
            · refine jx_iload hX d_M_readSum_198 6 rfl ?_
              refine jx_iconst (v := 1) hX d_M_readSum_200 (by decide) ?_
              refine jx_iadd hX d_M_readSum_201 ?_
              refine jx_goto hX d_M_readSum_202 rfl ?_
              exact hj _ ((if_pos hc21).trans ((if_pos hc22).trans (if_neg hc23))).symm
        · refine jx_iload hX d_M_readSum_176 0 rfl ?_
          refine jx_if_eq hX d_M_readSum_178 rfl (fun hc24 => ?_) (fun hc24 => ?_)
          · refine jx_iload hX d_M_readSum_188 1 rfl ?_
            refine jx_if_ne hX d_M_readSum_190 rfl (fun hc25 => ?_) (fun hc25 => ?_)
            · refine jx_iload hX d_M_readSum_198 6 rfl ?_
              refine jx_iconst (v := 1) hX d_M_readSum_200 (by decide) ?_
              refine jx_iadd hX d_M_readSum_201 ?_
              refine jx_goto hX d_M_readSum_202 rfl ?_
              exact hj _ ((if_neg hc21).trans ((if_pos hc24).trans (if_neg hc25))).symm
            · refine jx_iload hX d_M_readSum_193 0 rfl ?_
              refine jx_if_eq hX d_M_readSum_195 rfl (fun hc26 => ?_) (fun hc26 => ?_)
              · refine jx_iload hX d_M_readSum_205 6 rfl ?_
                exact hj _ ((if_neg hc21).trans ((if_pos hc24).trans ((if_pos hc25).trans (if_pos hc26)))).symm
              · refine jx_iload hX d_M_readSum_198 6 rfl ?_
                refine jx_iconst (v := 1) hX d_M_readSum_200 (by decide) ?_
                refine jx_iadd hX d_M_readSum_201 ?_
                refine jx_goto hX d_M_readSum_202 rfl ?_
                exact hj _ ((if_neg hc21).trans ((if_pos hc24).trans ((if_pos hc25).trans (if_neg hc26)))).symm
          · refine jx_iload hX d_M_readSum_181 6 rfl ?_
            refine jx_iconst (v := 2) hX d_M_readSum_183 (by decide) ?_
            refine jx_iadd hX d_M_readSum_184 ?_
            refine jx_goto hX d_M_readSum_185 rfl ?_
            exact hj _ ((if_neg hc21).trans (if_neg hc24)).symm
      refine jx_icmp_ne hX d_M_readSum_161 rfl (fun hc27 => ?_) (fun hc27 => ?_)
      · refine jx_iconst (v := 0) hX d_M_readSum_168 (by decide) ?_
        exact hj _ (if_neg hc27).symm
      · refine jx_iconst (v := 1) hX d_M_readSum_164 (by decide) ?_
        refine jx_goto hX d_M_readSum_165 rfl ?_
        exact hj _ (if_pos hc27).symm

set_option maxHeartbeats 4000000 in
set_option maxRecDepth 100000 in
theorem kt_M_readSum_9_122 {G : jx_G} {X : jx_C} (hX : jx_Ok G X b_M_readSum "PlaneCellsModel" (some .int) 11 1) (fin : Int32 × jx_S) (S : jx_S) (x1 : Int32) (x2 : Int32) (x3 : Int32) (x4 : Int32) (x5 : Int32) (x6 : Int32) (x7 : Int32) {o : (jx_S × Int32 × Int32 × Int32) ⊕ (jx_S × Int32 × Int32 × Int32)} (h : k_M_readSum_9_122 S x1 x2 x3 x4 x5 x6 x7 = some o) (hi : ∀ z, o = .inl z → jx_At G X (some (.int fin.1), jr_w G fin.2) (jr_w G z.1) 9 [(0, .ref (jx_ad G 18)), (1, .int x1), (2, .int x2), (3, .int x3), (4, .int z.2.1), (5, .int z.2.2.1), (6, .int z.2.2.2)] []) (hx : ∀ u, o = .inr u → jx_At G X (some (.int fin.1), jr_w G fin.2) (jr_w G u.1) 288 [(0, .ref (jx_ad G 18)), (1, .int x1), (2, .int x2), (3, .int x3), (4, .int u.2.1), (5, .int u.2.2.1), (6, .int u.2.2.2)] []) : jx_At G X (some (.int fin.1), jr_w G fin.2) (jr_w G S) 122 [(0, .ref (jx_ad G 18)), (1, .int x1), (2, .int x2), (3, .int x3), (4, .int x4), (5, .int x5), (6, .int x6), (7, .int x7)] [] := by
  unfold k_M_readSum_9_122 at h
  refine jx_iconst (v := 1) hX d_M_readSum_122 (by decide) ?_
  refine jx_goto hX d_M_readSum_123 rfl ?_
  exact kt_M_readSum_9_127 hX fin S x1 x2 x3 x4 x5 x6 x7 1 h hi hx

set_option maxHeartbeats 4000000 in
set_option maxRecDepth 100000 in
theorem kt_M_readSum_9_126 {G : jx_G} {X : jx_C} (hX : jx_Ok G X b_M_readSum "PlaneCellsModel" (some .int) 11 1) (fin : Int32 × jx_S) (S : jx_S) (x1 : Int32) (x2 : Int32) (x3 : Int32) (x4 : Int32) (x5 : Int32) (x6 : Int32) (x7 : Int32) {o : (jx_S × Int32 × Int32 × Int32) ⊕ (jx_S × Int32 × Int32 × Int32)} (h : k_M_readSum_9_126 S x1 x2 x3 x4 x5 x6 x7 = some o) (hi : ∀ z, o = .inl z → jx_At G X (some (.int fin.1), jr_w G fin.2) (jr_w G z.1) 9 [(0, .ref (jx_ad G 18)), (1, .int x1), (2, .int x2), (3, .int x3), (4, .int z.2.1), (5, .int z.2.2.1), (6, .int z.2.2.2)] []) (hx : ∀ u, o = .inr u → jx_At G X (some (.int fin.1), jr_w G fin.2) (jr_w G u.1) 288 [(0, .ref (jx_ad G 18)), (1, .int x1), (2, .int x2), (3, .int x3), (4, .int u.2.1), (5, .int u.2.2.1), (6, .int u.2.2.2)] []) : jx_At G X (some (.int fin.1), jr_w G fin.2) (jr_w G S) 126 [(0, .ref (jx_ad G 18)), (1, .int x1), (2, .int x2), (3, .int x3), (4, .int x4), (5, .int x5), (6, .int x6), (7, .int x7)] [] := by
  unfold k_M_readSum_9_126 at h
  refine jx_iconst (v := 0) hX d_M_readSum_126 (by decide) ?_
  exact kt_M_readSum_9_127 hX fin S x1 x2 x3 x4 x5 x6 x7 0 h hi hx

set_option maxHeartbeats 4000000 in
set_option maxRecDepth 100000 in
theorem kt_M_readSum_9_87 {G : jx_G} {X : jx_C} (hX : jx_Ok G X b_M_readSum "PlaneCellsModel" (some .int) 11 1) (fin : Int32 × jx_S) (S : jx_S) (x1 : Int32) (x2 : Int32) (x3 : Int32) (x4 : Int32) (x5 : Int32) (x6 : Int32) (x7 : Int32) {o : (jx_S × Int32 × Int32 × Int32) ⊕ (jx_S × Int32 × Int32 × Int32)} (h : k_M_readSum_9_87 S x1 x2 x3 x4 x5 x6 x7 = some o) (hi : ∀ z, o = .inl z → jx_At G X (some (.int fin.1), jr_w G fin.2) (jr_w G z.1) 9 [(0, .ref (jx_ad G 18)), (1, .int x1), (2, .int x2), (3, .int x3), (4, .int z.2.1), (5, .int z.2.2.1), (6, .int z.2.2.2)] []) (hx : ∀ u, o = .inr u → jx_At G X (some (.int fin.1), jr_w G fin.2) (jr_w G u.1) 288 [(0, .ref (jx_ad G 18)), (1, .int x1), (2, .int x2), (3, .int x3), (4, .int u.2.1), (5, .int u.2.2.1), (6, .int u.2.2.2)] []) : jx_At G X (some (.int fin.1), jr_w G fin.2) (jr_w G S) 87 [(0, .ref (jx_ad G 18)), (1, .int x1), (2, .int x2), (3, .int x3), (4, .int x4), (5, .int x5), (6, .int x6), (7, .int x7)] [] := by
  unfold k_M_readSum_9_87 at h
  refine jx_aload_n hX d_M_readSum_87 0 rfl rfl ?_
  refine jx_iload hX d_M_readSum_88 4 rfl ?_
  obtain ⟨q90_5, hq90_5, h⟩ := jx_bd h
  refine cs_M_79 hX (c_M_at (jx_l X) G S x4 q90_5 hq90_5) d_M_readSum_90 (by decide) (Nat.le_of_ble_eq_true rfl) ?_
  refine jx_bipush (v := 120) hX d_M_readSum_93 (by decide) ?_
  refine jx_icmp_eq hX d_M_readSum_95 rfl (fun hc => ?_) (fun hc => ?_)
  · have h := jx_ip hc h
    exact kt_M_readSum_9_122 hX fin S x1 x2 x3 x4 x5 x6 x7 h hi hx
  · have h := jx_in_ hc h
    refine jx_aload_n hX d_M_readSum_98 0 rfl rfl ?_
    refine jx_iload hX d_M_readSum_99 4 rfl ?_
    obtain ⟨q101_28, hq101_28, h⟩ := jx_bd h
    refine cs_M_79 hX (c_M_at (jx_l X) G S x4 q101_28 hq101_28) d_M_readSum_101 (by decide) (Nat.le_of_ble_eq_true rfl) ?_
    refine jx_bipush (v := 121) hX d_M_readSum_104 (by decide) ?_
    refine jx_icmp_ne hX d_M_readSum_106 rfl (fun hc => ?_) (fun hc => ?_)
    · have h := jx_in_ hc h
      exact kt_M_readSum_9_126 hX fin S x1 x2 x3 x4 x5 x6 x7 h hi hx
    · have h := jx_ip hc h
      refine jx_aload_n hX d_M_readSum_109 0 rfl rfl ?_
      refine jx_iload hX d_M_readSum_110 4 rfl ?_
      refine jx_iconst (v := 1) hX d_M_readSum_112 (by decide) ?_
      refine jx_iadd hX d_M_readSum_113 ?_
      obtain ⟨q114_29, hq114_29, h⟩ := jx_bd h
      refine cs_M_79 hX (c_M_at (jx_l X) G S (x4 + 1) q114_29 hq114_29) d_M_readSum_114 (by decide) (Nat.le_of_ble_eq_true rfl) ?_
      refine jx_bipush (v := 120) hX d_M_readSum_117 (by decide) ?_
      have hj : ∀ v : Int32, v = (if q114_29 = 120 then 1 else 0 : Int32) → jx_At G X (some (.int fin.1), jr_w G fin.2) (jr_w G S) 127 [(0, .ref (jx_ad G 18)), (1, .int x1), (2, .int x2), (3, .int x3), (4, .int x4), (5, .int x5), (6, .int x6), (7, .int x7)] [.int v] := by
        intro v hv
        subst hv
        refine jx_istore hX d_M_readSum_127 (by decide) (L2 := [(8, .int (if q114_29 = 120 then 1 else 0 : Int32)), (0, .ref (jx_ad G 18)), (1, .int x1), (2, .int x2), (3, .int x3), (4, .int x4), (5, .int x5), (6, .int x6), (7, .int x7)]) rfl ?_
        refine jx_aload_n hX d_M_readSum_129 1 rfl rfl ?_
        refine jx_iload hX d_M_readSum_130 5 rfl ?_
        obtain ⟨q132_30, hq132_30, h⟩ := jx_bd h
        refine cs_M_79 hX (c_M_at (jx_l X) G S x4 q132_30 hq132_30) d_M_readSum_132 (by decide) (Nat.le_of_ble_eq_true rfl) ?_
        refine jx_bipush (v := 121) hX d_M_readSum_135 (by decide) ?_
        refine jx_icmp_eq hX d_M_readSum_137 rfl (fun hc => ?_) (fun hc => ?_)
        · have h := jx_ip hc h
          refine jx_sub (L2 := [(0, .ref (jx_ad G 18)), (1, .int x1), (2, .int x2), (3, .int x3), (4, .int x4), (5, .int x5), (6, .int x6), (7, .int x7), (8, .int (if q114_29 = 120 then 1 else 0 : Int32))]) [1, 2, 3, 4, 5, 6, 7, 8, 0] rfl ?_
          exact kt_M_readSum_9_164 hX fin S x1 x2 x3 x4 x5 x6 x7 (if q114_29 = 120 then 1 else 0 : Int32) h hi hx
        · have h := jx_in_ hc h
          refine jx_aload_n hX d_M_readSum_140 1 rfl rfl ?_
          refine jx_iload hX d_M_readSum_141 5 rfl ?_
          obtain ⟨q143_31, hq143_31, h⟩ := jx_bd h
          refine cs_M_79 hX (c_M_at (jx_l X) G S x4 q143_31 hq143_31) d_M_readSum_143 (by decide) (Nat.le_of_ble_eq_true rfl) ?_
          refine jx_bipush (v := 120) hX d_M_readSum_146 (by decide) ?_
          refine jx_icmp_ne hX d_M_readSum_148 rfl (fun hc => ?_) (fun hc => ?_)
          · have h := jx_in_ hc h
            refine jx_sub (L2 := [(0, .ref (jx_ad G 18)), (1, .int x1), (2, .int x2), (3, .int x3), (4, .int x4), (5, .int x5), (6, .int x6), (7, .int x7), (8, .int (if q114_29 = 120 then 1 else 0 : Int32))]) [1, 2, 3, 4, 5, 6, 7, 8, 0] rfl ?_
            exact kt_M_readSum_9_168 hX fin S x1 x2 x3 x4 x5 x6 x7 (if q114_29 = 120 then 1 else 0 : Int32) h hi hx
          · have h := jx_ip hc h
            refine jx_aload_n hX d_M_readSum_151 1 rfl rfl ?_
            refine jx_iload hX d_M_readSum_152 5 rfl ?_
            refine jx_iconst (v := 1) hX d_M_readSum_154 (by decide) ?_
            refine jx_iadd hX d_M_readSum_155 ?_
            obtain ⟨q156_32, hq156_32, h⟩ := jx_bd h
            refine cs_M_79 hX (c_M_at (jx_l X) G S (x4 + 1) q156_32 hq156_32) d_M_readSum_156 (by decide) (Nat.le_of_ble_eq_true rfl) ?_
            refine jx_bipush (v := 121) hX d_M_readSum_159 (by decide) ?_
            have hj : ∀ v : Int32, v = (if q156_32 = 121 then 1 else 0 : Int32) → jx_At G X (some (.int fin.1), jr_w G fin.2) (jr_w G S) 169 [(8, .int (if q114_29 = 120 then 1 else 0 : Int32)), (0, .ref (jx_ad G 18)), (1, .int x1), (2, .int x2), (3, .int x3), (4, .int x4), (5, .int x5), (6, .int x6), (7, .int x7)] [.int v] := by
              intro v hv
              subst hv
              refine jx_istore hX d_M_readSum_169 (by decide) (L2 := [(9, .int (if q156_32 = 121 then 1 else 0 : Int32)), (8, .int (if q114_29 = 120 then 1 else 0 : Int32)), (0, .ref (jx_ad G 18)), (1, .int x1), (2, .int x2), (3, .int x3), (4, .int x4), (5, .int x5), (6, .int x6), (7, .int x7)]) rfl ?_
              refine jx_iload hX d_M_readSum_171 1 rfl ?_
              have hj : ∀ v : Int32, v = (if (if q114_29 = 120 then 1 else 0 : Int32) = 0 then (if (if q114_29 = 120 then 1 else 0 : Int32) = 0 then (if (if q156_32 = 121 then 1 else 0 : Int32) = 0 then x4 else (x4 + 1) : Int32) else (x4 + 1) : Int32) else (if (if q156_32 = 121 then 1 else 0 : Int32) = 0 then (if (if q114_29 = 120 then 1 else 0 : Int32) = 0 then (if (if q156_32 = 121 then 1 else 0 : Int32) = 0 then x4 else (x4 + 1) : Int32) else (x4 + 1) : Int32) else (x4 + 2) : Int32) : Int32) → jx_At G X (some (.int fin.1), jr_w G fin.2) (jr_w G S) 207 [(9, .int (if q156_32 = 121 then 1 else 0 : Int32)), (8, .int (if q114_29 = 120 then 1 else 0 : Int32)), (0, .ref (jx_ad G 18)), (1, .int x1), (2, .int x2), (3, .int x3), (4, .int x4), (5, .int x5), (6, .int x6), (7, .int x7)] [.int v] := by
                intro v hv
                subst hv
                refine jx_sub (L2 := [(0, .ref (jx_ad G 18)), (1, .int x1), (2, .int x2), (3, .int x3), (4, .int x4), (5, .int x5), (6, .int x6), (7, .int x7), (8, .int (if q114_29 = 120 then 1 else 0 : Int32)), (9, .int (if q156_32 = 121 then 1 else 0 : Int32))]) [2, 3, 4, 5, 6, 7, 8, 9, 1, 0] rfl ?_
                exact kt_M_readSum_9_207 hX fin S x1 x2 x3 x4 x5 x6 x7 (if q114_29 = 120 then 1 else 0 : Int32) (if q156_32 = 121 then 1 else 0 : Int32) (if (if q114_29 = 120 then 1 else 0 : Int32) = 0 then (if (if q114_29 = 120 then 1 else 0 : Int32) = 0 then (if (if q156_32 = 121 then 1 else 0 : Int32) = 0 then x4 else (x4 + 1) : Int32) else (x4 + 1) : Int32) else (if (if q156_32 = 121 then 1 else 0 : Int32) = 0 then (if (if q114_29 = 120 then 1 else 0 : Int32) = 0 then (if (if q156_32 = 121 then 1 else 0 : Int32) = 0 then x4 else (x4 + 1) : Int32) else (x4 + 1) : Int32) else (x4 + 2) : Int32) : Int32) h hi hx
              refine jx_if_eq hX d_M_readSum_173 rfl (fun hc33 => ?_) (fun hc33 => ?_)
              · refine jx_iload hX d_M_readSum_188 1 rfl ?_
                refine jx_if_ne hX d_M_readSum_190 rfl (fun hc34 => ?_) (fun hc34 => ?_)
                · refine jx_iload hX d_M_readSum_198 6 rfl ?_
                  refine jx_iconst (v := 1) hX d_M_readSum_200 (by decide) ?_
                  refine jx_iadd hX d_M_readSum_201 ?_
                  refine jx_goto hX d_M_readSum_202 rfl ?_
                  exact hj _ ((if_pos hc33).trans (if_neg hc34)).symm
                · refine jx_iload hX d_M_readSum_193 0 rfl ?_
                  refine jx_if_eq hX d_M_readSum_195 rfl (fun hc35 => ?_) (fun hc35 => ?_)
                  · refine jx_iload hX d_M_readSum_205 6 rfl ?_
                    exact hj _ ((if_pos hc33).trans ((if_pos hc34).trans (if_pos hc35))).symm
                  · refine jx_iload hX d_M_readSum_198 6 rfl ?_
                    refine jx_iconst (v := 1) hX d_M_readSum_200 (by decide) ?_
                    refine jx_iadd hX d_M_readSum_201 ?_
                    refine jx_goto hX d_M_readSum_202 rfl ?_
                    exact hj _ ((if_pos hc33).trans ((if_pos hc34).trans (if_neg hc35))).symm
              · refine jx_iload hX d_M_readSum_176 0 rfl ?_
                refine jx_if_eq hX d_M_readSum_178 rfl (fun hc36 => ?_) (fun hc36 => ?_)
                · refine jx_iload hX d_M_readSum_188 1 rfl ?_
                  refine jx_if_ne hX d_M_readSum_190 rfl (fun hc37 => ?_) (fun hc37 => ?_)
                  · refine jx_iload hX d_M_readSum_198 6 rfl ?_
                    refine jx_iconst (v := 1) hX d_M_readSum_200 (by decide) ?_
                    refine jx_iadd hX d_M_readSum_201 ?_
                    refine jx_goto hX d_M_readSum_202 rfl ?_
                    exact hj _ ((if_neg hc33).trans ((if_pos hc36).trans (if_neg hc37))).symm
                  · refine jx_iload hX d_M_readSum_193 0 rfl ?_
                    refine jx_if_eq hX d_M_readSum_195 rfl (fun hc38 => ?_) (fun hc38 => ?_)
                    · refine jx_iload hX d_M_readSum_205 6 rfl ?_
                      exact hj _ ((if_neg hc33).trans ((if_pos hc36).trans ((if_pos hc37).trans (if_pos hc38)))).symm
                    · refine jx_iload hX d_M_readSum_198 6 rfl ?_
                      refine jx_iconst (v := 1) hX d_M_readSum_200 (by decide) ?_
                      refine jx_iadd hX d_M_readSum_201 ?_
                      refine jx_goto hX d_M_readSum_202 rfl ?_
                      exact hj _ ((if_neg hc33).trans ((if_pos hc36).trans ((if_pos hc37).trans (if_neg hc38)))).symm
                · refine jx_iload hX d_M_readSum_181 6 rfl ?_
                  refine jx_iconst (v := 2) hX d_M_readSum_183 (by decide) ?_
                  refine jx_iadd hX d_M_readSum_184 ?_
                  refine jx_goto hX d_M_readSum_185 rfl ?_
                  exact hj _ ((if_neg hc33).trans (if_neg hc36)).symm
            refine jx_icmp_ne hX d_M_readSum_161 rfl (fun hc39 => ?_) (fun hc39 => ?_)
            · refine jx_iconst (v := 0) hX d_M_readSum_168 (by decide) ?_
              exact hj _ (if_neg hc39).symm
            · refine jx_iconst (v := 1) hX d_M_readSum_164 (by decide) ?_
              refine jx_goto hX d_M_readSum_165 rfl ?_
              exact hj _ (if_pos hc39).symm
      refine jx_icmp_ne hX d_M_readSum_119 rfl (fun hc40 => ?_) (fun hc40 => ?_)
      · refine jx_iconst (v := 0) hX d_M_readSum_126 (by decide) ?_
        exact hj _ (if_neg hc40).symm
      · refine jx_iconst (v := 1) hX d_M_readSum_122 (by decide) ?_
        refine jx_goto hX d_M_readSum_123 rfl ?_
        exact hj _ (if_pos hc40).symm

set_option maxHeartbeats 4000000 in
set_option maxRecDepth 100000 in
theorem kt_M_readSum_9_58 {G : jx_G} {X : jx_C} (hX : jx_Ok G X b_M_readSum "PlaneCellsModel" (some .int) 11 1) (fin : Int32 × jx_S) (S : jx_S) (x1 : Int32) (x2 : Int32) (x3 : Int32) (x4 : Int32) (x5 : Int32) (x6 : Int32) {o : (jx_S × Int32 × Int32 × Int32) ⊕ (jx_S × Int32 × Int32 × Int32)} (h : k_M_readSum_9_58 S x1 x2 x3 x4 x5 x6 = some o) (hi : ∀ z, o = .inl z → jx_At G X (some (.int fin.1), jr_w G fin.2) (jr_w G z.1) 9 [(0, .ref (jx_ad G 18)), (1, .int x1), (2, .int x2), (3, .int x3), (4, .int z.2.1), (5, .int z.2.2.1), (6, .int z.2.2.2)] []) (hx : ∀ u, o = .inr u → jx_At G X (some (.int fin.1), jr_w G fin.2) (jr_w G u.1) 288 [(0, .ref (jx_ad G 18)), (1, .int x1), (2, .int x2), (3, .int x3), (4, .int u.2.1), (5, .int u.2.2.1), (6, .int u.2.2.2)] []) : jx_At G X (some (.int fin.1), jr_w G fin.2) (jr_w G S) 58 [(0, .ref (jx_ad G 18)), (1, .int x1), (2, .int x2), (3, .int x3), (4, .int x4), (5, .int x5), (6, .int x6)] [] := by
  unfold k_M_readSum_9_58 at h
  refine jx_iconst (v := 1) hX d_M_readSum_58 (by decide) ?_
  refine jx_istore hX d_M_readSum_59 (by decide) (L2 := [(7, .int 1), (0, .ref (jx_ad G 18)), (1, .int x1), (2, .int x2), (3, .int x3), (4, .int x4), (5, .int x5), (6, .int x6)]) rfl ?_
  refine jx_aload_n hX d_M_readSum_61 1 rfl rfl ?_
  refine jx_iload hX d_M_readSum_62 5 rfl ?_
  obtain ⟨q64_3, hq64_3, h⟩ := jx_bd h
  refine cs_M_79 hX (c_M_at (jx_l X) G S x4 q64_3 hq64_3) d_M_readSum_64 (by decide) (Nat.le_of_ble_eq_true rfl) ?_
  obtain ⟨q67_4, hq67_4, h⟩ := jx_bd h
  refine cs_M_75 hX (c_M_isDigit (jx_l X) G S q64_3 q67_4 hq67_4) d_M_readSum_67 (by decide) (Nat.le_of_ble_eq_true rfl) ?_
  refine jx_if_eq hX d_M_readSum_70 rfl (fun hc => ?_) (fun hc => ?_)
  · have h := jx_ip hc h
    refine jx_sub (L2 := [(0, .ref (jx_ad G 18)), (1, .int x1), (2, .int x2), (3, .int x3), (4, .int x4), (5, .int x5), (6, .int x6), (7, .int 1)]) [1, 2, 3, 4, 5, 6, 7, 0] rfl ?_
    exact kt_M_readSum_9_87 hX fin S x1 x2 x3 x4 x5 x6 1 h hi hx
  · have h := jx_in_ hc h
    refine jx_aload_n hX d_M_readSum_73 1 rfl rfl ?_
    refine jx_iload hX d_M_readSum_74 5 rfl ?_
    obtain ⟨q76_41, hq76_41, h⟩ := jx_bd h
    refine cs_M_79 hX (c_M_at (jx_l X) G S x4 q76_41 hq76_41) d_M_readSum_76 (by decide) (Nat.le_of_ble_eq_true rfl) ?_
    refine jx_bipush (v := 48) hX d_M_readSum_79 (by decide) ?_
    refine jx_isub hX d_M_readSum_81 ?_
    refine jx_istore hX d_M_readSum_82 (by decide) (L2 := [(7, .int (q76_41 - 48)), (0, .ref (jx_ad G 18)), (1, .int x1), (2, .int x2), (3, .int x3), (4, .int x4), (5, .int x5), (6, .int x6)]) rfl ?_
    refine jx_iinc (v := (x4 + 1)) hX d_M_readSum_84 5 rfl (by first | rfl | decide) (by decide) (L2 := [(4, .int (x4 + 1)), (7, .int (q76_41 - 48)), (0, .ref (jx_ad G 18)), (1, .int x1), (2, .int x2), (3, .int x3), (5, .int x5), (6, .int x6)]) rfl ?_
    refine jx_sub (L2 := [(0, .ref (jx_ad G 18)), (1, .int x1), (2, .int x2), (3, .int x3), (4, .int (x4 + 1)), (5, .int x5), (6, .int x6), (7, .int (q76_41 - 48))]) [2, 3, 4, 5, 0, 6, 7, 1] rfl ?_
    exact kt_M_readSum_9_87 hX fin S x1 x2 x3 (x4 + 1) x5 x6 (q76_41 - 48) h hi hx

set_option maxHeartbeats 4000000 in
set_option maxRecDepth 100000 in
theorem kt_M_readSum_9_36 {G : jx_G} {X : jx_C} (hX : jx_Ok G X b_M_readSum "PlaneCellsModel" (some .int) 11 1) (fin : Int32 × jx_S) (S : jx_S) (x1 : Int32) (x2 : Int32) (x3 : Int32) (x4 : Int32) (x5 : Int32) (x6 : Int32) {o : (jx_S × Int32 × Int32 × Int32) ⊕ (jx_S × Int32 × Int32 × Int32)} (h : k_M_readSum_9_36 S x1 x2 x3 x4 x5 x6 = some o) (hi : ∀ z, o = .inl z → jx_At G X (some (.int fin.1), jr_w G fin.2) (jr_w G z.1) 9 [(0, .ref (jx_ad G 18)), (1, .int x1), (2, .int x2), (3, .int x3), (4, .int z.2.1), (5, .int z.2.2.1), (6, .int z.2.2.2)] []) (hx : ∀ u, o = .inr u → jx_At G X (some (.int fin.1), jr_w G fin.2) (jr_w G u.1) 288 [(0, .ref (jx_ad G 18)), (1, .int x1), (2, .int x2), (3, .int x3), (4, .int u.2.1), (5, .int u.2.2.1), (6, .int u.2.2.2)] []) : jx_At G X (some (.int fin.1), jr_w G fin.2) (jr_w G S) 36 [(0, .ref (jx_ad G 18)), (1, .int x1), (2, .int x2), (3, .int x3), (4, .int x4), (5, .int x5), (6, .int x6)] [] := by
  unfold k_M_readSum_9_36 at h
  refine jx_aload_n hX d_M_readSum_36 0 rfl rfl ?_
  refine jx_iload hX d_M_readSum_37 4 rfl ?_
  obtain ⟨q39_2, hq39_2, h⟩ := jx_bd h
  refine cs_M_79 hX (c_M_at (jx_l X) G S x4 q39_2 hq39_2) d_M_readSum_39 (by decide) (Nat.le_of_ble_eq_true rfl) ?_
  refine jx_bipush (v := 45) hX d_M_readSum_42 (by decide) ?_
  have hj : ∀ v : Int32, v = (if q39_2 = 45 then (-x3) else x3 : Int32) → jx_At G X (some (.int fin.1), jr_w G fin.2) (jr_w G S) 53 [(0, .ref (jx_ad G 18)), (1, .int x1), (2, .int x2), (3, .int x3), (4, .int x4), (5, .int x5), (6, .int x6)] [.int v] := by
    intro v hv
    subst hv
    refine jx_istore hX d_M_readSum_53 (by decide) (L2 := [(5, .int (if q39_2 = 45 then (-x3) else x3 : Int32)), (0, .ref (jx_ad G 18)), (1, .int x1), (2, .int x2), (3, .int x3), (4, .int x4), (6, .int x6)]) rfl ?_
    refine jx_iinc (v := (x4 + 1)) hX d_M_readSum_55 5 rfl (by first | rfl | decide) (by decide) (L2 := [(4, .int (x4 + 1)), (5, .int (if q39_2 = 45 then (-x3) else x3 : Int32)), (0, .ref (jx_ad G 18)), (1, .int x1), (2, .int x2), (3, .int x3), (6, .int x6)]) rfl ?_
    refine jx_sub (L2 := [(0, .ref (jx_ad G 18)), (1, .int x1), (2, .int x2), (3, .int x3), (4, .int (x4 + 1)), (5, .int (if q39_2 = 45 then (-x3) else x3 : Int32)), (6, .int x6)]) [2, 3, 4, 5, 0, 1, 6] rfl ?_
    exact kt_M_readSum_9_58 hX fin S x1 x2 x3 (x4 + 1) (if q39_2 = 45 then (-x3) else x3 : Int32) x6 h hi hx
  refine jx_icmp_ne hX d_M_readSum_44 rfl (fun hc42 => ?_) (fun hc42 => ?_)
  · refine jx_iload_n hX d_M_readSum_52 3 rfl rfl ?_
    exact hj _ (if_neg hc42).symm
  · refine jx_iload_n hX d_M_readSum_47 3 rfl rfl ?_
    refine jx_ineg hX d_M_readSum_48 ?_
    refine jx_goto hX d_M_readSum_49 rfl ?_
    exact hj _ (if_pos hc42).symm

set_option maxHeartbeats 4000000 in
set_option maxRecDepth 100000 in
theorem lt_M_readSum_9 {G : jx_G} {X : jx_C} (hX : jx_Ok G X b_M_readSum "PlaneCellsModel" (some .int) 11 1) (fin : Int32 × jx_S) (x1 : Int32) (x2 : Int32) (x3 : Int32) {n : Nat} {z : jx_S × Int32 × Int32 × Int32} {r : jx_S × Int32 × Int32 × Int32} (hz : jx_lp (b_M_readSum_9 x1 x2 x3) n z = some r) (hk : jx_At G X (some (.int fin.1), jr_w G fin.2) (jr_w G r.1) 288 [(0, .ref (jx_ad G 18)), (1, .int x1), (2, .int x2), (3, .int x3), (4, .int r.2.1), (5, .int r.2.2.1), (6, .int r.2.2.2)] []) : jx_At G X (some (.int fin.1), jr_w G fin.2) (jr_w G z.1) 9 [(0, .ref (jx_ad G 18)), (1, .int x1), (2, .int x2), (3, .int x3), (4, .int z.2.1), (5, .int z.2.2.1), (6, .int z.2.2.2)] [] := by
  refine jx_loop1 (b_M_readSum_9 x1 x2 x3) (fun z => jx_At G X (some (.int fin.1), jr_w G fin.2) (jr_w G z.1) 9 [(0, .ref (jx_ad G 18)), (1, .int x1), (2, .int x2), (3, .int x3), (4, .int z.2.1), (5, .int z.2.2.1), (6, .int z.2.2.2)] []) (fun z => jx_At G X (some (.int fin.1), jr_w G fin.2) (jr_w G z.1) 288 [(0, .ref (jx_ad G 18)), (1, .int x1), (2, .int x2), (3, .int x3), (4, .int z.2.1), (5, .int z.2.2.1), (6, .int z.2.2.2)] []) ?_ n z r hz hk
  intro z o h hi hx
  unfold b_M_readSum_9 at h
  refine jx_iload hX d_M_readSum_9 6 rfl ?_
  refine jx_if_eq hX d_M_readSum_11 rfl (fun hc => ?_) (fun hc => ?_)
  · have h := jx_ip hc h
    obtain rfl := Option.some.inj h
    exact hx _ rfl
  · have h := jx_in_ hc h
    refine jx_aload_n hX d_M_readSum_14 0 rfl rfl ?_
    refine jx_iload hX d_M_readSum_15 4 rfl ?_
    obtain ⟨q17_1, hq17_1, h⟩ := jx_bd h
    refine cs_M_79 hX (c_M_at (jx_l X) G z.1 z.2.1 q17_1 hq17_1) d_M_readSum_17 (by decide) (Nat.le_of_ble_eq_true rfl) ?_
    refine jx_bipush (v := 43) hX d_M_readSum_20 (by decide) ?_
    refine jx_icmp_eq hX d_M_readSum_22 rfl (fun hc => ?_) (fun hc => ?_)
    · have h := jx_ip hc h
      exact kt_M_readSum_9_36 hX fin z.1 x1 x2 x3 z.2.1 z.2.2.1 z.2.2.2 h hi hx
    · have h := jx_in_ hc h
      refine jx_aload_n hX d_M_readSum_25 0 rfl rfl ?_
      refine jx_iload hX d_M_readSum_26 4 rfl ?_
      obtain ⟨q28_43, hq28_43, h⟩ := jx_bd h
      refine cs_M_79 hX (c_M_at (jx_l X) G z.1 z.2.1 q28_43 hq28_43) d_M_readSum_28 (by decide) (Nat.le_of_ble_eq_true rfl) ?_
      refine jx_bipush (v := 45) hX d_M_readSum_31 (by decide) ?_
      refine jx_icmp_ne hX d_M_readSum_33 rfl (fun hc => ?_) (fun hc => ?_)
      · have h := jx_in_ hc h
        exact kt_M_readSum_9_58 hX fin z.1 x1 x2 x3 z.2.1 z.2.2.1 z.2.2.2 h hi hx
      · have h := jx_ip hc h
        exact kt_M_readSum_9_36 hX fin z.1 x1 x2 x3 z.2.1 z.2.2.1 z.2.2.2 h hi hx

set_option maxHeartbeats 4000000 in
set_option maxRecDepth 100000 in
theorem c_M_readSum (l : Launch) (G : jx_G) (S : jx_S) (a1 : Int32) (a2 : Int32) (a3 : Int32) (fin : Int32 × jx_S) (h : f_M_readSum S a1 a2 a3 = some fin) : jx_M l y_M_readSum b_M_readSum 11 (some .int) 1 G [.ref (jx_ad G 18), .int a1, .int a2, .int a3] (jr_w G S) (some (.int fin.1), jr_w G fin.2) := by
  refine jx_met (own := "PlaneCellsModel") (by decide) rfl (Nat.le_of_ble_eq_true rfl) (fun X hX hl => ?_)
  subst hl
  refine jx_L (L2 := [(0, .ref (jx_ad G 18)), (1, .int a1), (2, .int a2), (3, .int a3)]) rfl ?_
  unfold f_M_readSum at h
  refine jx_iload_n hX d_M_readSum_0 1 rfl rfl ?_
  refine jx_istore hX d_M_readSum_1 (by decide) (L2 := [(4, .int a1), (0, .ref (jx_ad G 18)), (1, .int a1), (2, .int a2), (3, .int a3)]) rfl ?_
  refine jx_iload_n hX d_M_readSum_3 4 rfl rfl ?_
  refine jx_istore hX d_M_readSum_4 (by decide) (L2 := [(5, .int a3), (4, .int a1), (0, .ref (jx_ad G 18)), (1, .int a1), (2, .int a2), (3, .int a3)]) rfl ?_
  refine jx_iconst (v := 1) hX d_M_readSum_6 (by decide) ?_
  refine jx_istore hX d_M_readSum_7 (by decide) (L2 := [(6, .int 1), (5, .int a3), (4, .int a1), (0, .ref (jx_ad G 18)), (1, .int a1), (2, .int a2), (3, .int a3)]) rfl ?_
  refine jx_sub (L2 := [(0, .ref (jx_ad G 18)), (1, .int a1), (2, .int a2), (3, .int a3), (4, .int a1), (5, .int a3), (6, .int 1)]) [3, 4, 5, 6, 2, 1, 0] rfl ?_
  obtain ⟨z9_44, hz, h⟩ := jx_bd h
  refine lt_M_readSum_9 hX fin a1 a2 a3 hz ?_
  refine jx_iload hX d_M_readSum_288 4 rfl ?_
  obtain rfl := Option.some.inj h
  exact jx_iret hX d_M_readSum_290

