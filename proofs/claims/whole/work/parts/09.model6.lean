def k_M_columnHolds_12_46 (S : jx_S) (x1 : Int32) (x2 : Int32) (x3 : Int32) (x4 : Int32) (x5 : Int32) (y0 : Int32) : Option ((jx_S × Int32 × Int32 × Int32) ⊕ (jx_S × Int32 × Int32)) :=
  some (.inl (S, y0, (if x3 = 0 then (if x5 = 0 then 0 else 1 : Int32) else 1 : Int32), (x4 + 1)))

def b_M_columnHolds_12 (x1 : Int32) (z : jx_S × Int32 × Int32 × Int32) : Option ((jx_S × Int32 × Int32 × Int32) ⊕ (jx_S × Int32 × Int32)) :=
  if (2 * (z.1.1 10)) < z.2.2.2 then
    some (.inr (z.1, z.2.1, z.2.2.1))
  else
    (f_M_formulaIn z.1 x1 z.2.2.2).bind fun q27_2 =>
      k_M_columnHolds_12_46 q27_2.2 x1 z.2.1 z.2.2.1 z.2.2.2 q27_2.1 (if z.2.1 = 0 then 0 else (if q27_2.1 = 0 then 0 else 1 : Int32) : Int32)

def f_M_columnHolds (S : jx_S) (a1 : Int32) : Option (Int32 × jx_S) :=
  (f_M_look S a1).bind fun q2_1 =>
    (jx_lp (b_M_columnHolds_12 a1) jx_N (q2_1, 1, 0, 0)).bind fun z12_7 =>
      if jx_nb (if (z12_7.1.1 4) = 0 then z12_7.2.2 else z12_7.2.1 : Int32) = true then some ((if (z12_7.1.1 4) = 0 then z12_7.2.2 else z12_7.2.1 : Int32), z12_7.1) else none
set_option maxHeartbeats 4000000 in
set_option maxRecDepth 100000 in
theorem kt_M_columnHolds_12_46 {G : jx_G} {X : jx_C} (hX : jx_Ok G X b_M_columnHolds "PlaneCellsModel" (some .boolean) 6 10) (fin : Int32 × jx_S) (S : jx_S) (x1 : Int32) (x2 : Int32) (x3 : Int32) (x4 : Int32) (x5 : Int32) (y0 : Int32) {o : (jx_S × Int32 × Int32 × Int32) ⊕ (jx_S × Int32 × Int32)} (h : k_M_columnHolds_12_46 S x1 x2 x3 x4 x5 y0 = some o) (hi : ∀ z, o = .inl z → jx_At G X (some (.int fin.1), jr_w G fin.2) (jr_w G z.1) 12 [(0, .ref (jx_ad G 18)), (1, .int x1), (2, .int z.2.1), (3, .int z.2.2.1), (4, .int z.2.2.2)] []) (hx : ∀ u, o = .inr u → jx_At G X (some (.int fin.1), jr_w G fin.2) (jr_w G u.1) 68 [(0, .ref (jx_ad G 18)), (1, .int x1), (2, .int u.2.1), (3, .int u.2.2)] []) : jx_At G X (some (.int fin.1), jr_w G fin.2) (jr_w G S) 46 [(0, .ref (jx_ad G 18)), (1, .int x1), (2, .int x2), (3, .int x3), (4, .int x4), (5, .int x5)] [.int y0] := by
  unfold k_M_columnHolds_12_46 at h
  refine jx_istore_n hX d_M_columnHolds_46 rfl (by decide) (L2 := [(2, .int y0), (0, .ref (jx_ad G 18)), (1, .int x1), (3, .int x3), (4, .int x4), (5, .int x5)]) rfl ?_
  refine jx_iload_n hX d_M_columnHolds_47 3 rfl rfl ?_
  have hj : ∀ v : Int32, v = (if x3 = 0 then (if x5 = 0 then 0 else 1 : Int32) else 1 : Int32) → jx_At G X (some (.int fin.1), jr_w G fin.2) (jr_w G S) 61 [(2, .int y0), (0, .ref (jx_ad G 18)), (1, .int x1), (3, .int x3), (4, .int x4), (5, .int x5)] [.int v] := by
    intro v hv
    subst hv
    refine jx_istore_n hX d_M_columnHolds_61 rfl (by decide) (L2 := [(3, .int (if x3 = 0 then (if x5 = 0 then 0 else 1 : Int32) else 1 : Int32)), (2, .int y0), (0, .ref (jx_ad G 18)), (1, .int x1), (4, .int x4), (5, .int x5)]) rfl ?_
    refine jx_iinc (v := (x4 + 1)) hX d_M_columnHolds_62 4 rfl (by first | rfl | decide) (by decide) (L2 := [(4, .int (x4 + 1)), (3, .int (if x3 = 0 then (if x5 = 0 then 0 else 1 : Int32) else 1 : Int32)), (2, .int y0), (0, .ref (jx_ad G 18)), (1, .int x1), (5, .int x5)]) rfl ?_
    refine jx_goto hX d_M_columnHolds_65 rfl ?_
    refine jx_sub (L2 := [(0, .ref (jx_ad G 18)), (1, .int x1), (2, .int y0), (3, .int (if x3 = 0 then (if x5 = 0 then 0 else 1 : Int32) else 1 : Int32)), (4, .int (x4 + 1))]) [3, 4, 2, 1, 0] rfl ?_
    obtain rfl := Option.some.inj h
    exact hi _ rfl
  refine jx_if_ne hX d_M_columnHolds_48 rfl (fun hc3 => ?_) (fun hc3 => ?_)
  · refine jx_iconst (v := 1) hX d_M_columnHolds_56 (by decide) ?_
    refine jx_goto hX d_M_columnHolds_57 rfl ?_
    exact hj _ (if_neg hc3).symm
  · refine jx_iload hX d_M_columnHolds_51 5 rfl ?_
    refine jx_if_eq hX d_M_columnHolds_53 rfl (fun hc4 => ?_) (fun hc4 => ?_)
    · refine jx_iconst (v := 0) hX d_M_columnHolds_60 (by decide) ?_
      exact hj _ ((if_pos hc3).trans (if_pos hc4)).symm
    · refine jx_iconst (v := 1) hX d_M_columnHolds_56 (by decide) ?_
      refine jx_goto hX d_M_columnHolds_57 rfl ?_
      exact hj _ ((if_pos hc3).trans (if_neg hc4)).symm

set_option maxHeartbeats 4000000 in
set_option maxRecDepth 100000 in
theorem lt_M_columnHolds_12 {G : jx_G} {X : jx_C} (hX : jx_Ok G X b_M_columnHolds "PlaneCellsModel" (some .boolean) 6 10) (fin : Int32 × jx_S) (x1 : Int32) {n : Nat} {z : jx_S × Int32 × Int32 × Int32} {r : jx_S × Int32 × Int32} (hz : jx_lp (b_M_columnHolds_12 x1) n z = some r) (hk : jx_At G X (some (.int fin.1), jr_w G fin.2) (jr_w G r.1) 68 [(0, .ref (jx_ad G 18)), (1, .int x1), (2, .int r.2.1), (3, .int r.2.2)] []) : jx_At G X (some (.int fin.1), jr_w G fin.2) (jr_w G z.1) 12 [(0, .ref (jx_ad G 18)), (1, .int x1), (2, .int z.2.1), (3, .int z.2.2.1), (4, .int z.2.2.2)] [] := by
  refine jx_loop1 (b_M_columnHolds_12 x1) (fun z => jx_At G X (some (.int fin.1), jr_w G fin.2) (jr_w G z.1) 12 [(0, .ref (jx_ad G 18)), (1, .int x1), (2, .int z.2.1), (3, .int z.2.2.1), (4, .int z.2.2.2)] []) (fun z => jx_At G X (some (.int fin.1), jr_w G fin.2) (jr_w G z.1) 68 [(0, .ref (jx_ad G 18)), (1, .int x1), (2, .int z.2.1), (3, .int z.2.2)] []) ?_ n z r hz hk
  intro z o h hi hx
  unfold b_M_columnHolds_12 at h
  refine jx_iload hX d_M_columnHolds_12 4 rfl ?_
  refine jx_iconst (v := 2) hX d_M_columnHolds_14 (by decide) ?_
  refine jx_aload_n hX d_M_columnHolds_15 0 rfl rfl ?_
  refine gf_M_160 hX d_M_columnHolds_16 rfl ?_
  refine jx_imul hX d_M_columnHolds_19 ?_
  refine jx_icmp_gt hX d_M_columnHolds_20 rfl (fun hc => ?_) (fun hc => ?_)
  · have h := jx_ip hc h
    refine jx_sub (L2 := [(0, .ref (jx_ad G 18)), (1, .int x1), (2, .int z.2.1), (3, .int z.2.2.1)]) [0, 1, 2, 3] rfl ?_
    obtain rfl := Option.some.inj h
    exact hx _ rfl
  · have h := jx_in_ hc h
    refine jx_aload_n hX d_M_columnHolds_23 0 rfl rfl ?_
    refine jx_iload_n hX d_M_columnHolds_24 1 rfl rfl ?_
    refine jx_iload hX d_M_columnHolds_25 4 rfl ?_
    obtain ⟨q27_2, hq27_2, h⟩ := jx_bd h
    refine cs_M_175 hX (c_M_formulaIn (jx_l X) G z.1 x1 z.2.2.2 q27_2 hq27_2) d_M_columnHolds_27 (by decide) (Nat.le_of_ble_eq_true rfl) ?_
    refine jx_istore hX d_M_columnHolds_30 (by decide) (L2 := [(5, .int q27_2.1), (0, .ref (jx_ad G 18)), (1, .int x1), (2, .int z.2.1), (3, .int z.2.2.1), (4, .int z.2.2.2)]) rfl ?_
    refine jx_iload_n hX d_M_columnHolds_32 3 rfl rfl ?_
    have hj : ∀ v : Int32, v = (if z.2.1 = 0 then 0 else (if q27_2.1 = 0 then 0 else 1 : Int32) : Int32) → jx_At G X (some (.int fin.1), jr_w G fin.2) (jr_w G q27_2.2) 46 [(5, .int q27_2.1), (0, .ref (jx_ad G 18)), (1, .int x1), (2, .int z.2.1), (3, .int z.2.2.1), (4, .int z.2.2.2)] [.int v] := by
      intro v hv
      subst hv
      refine jx_sub (L2 := [(0, .ref (jx_ad G 18)), (1, .int x1), (2, .int z.2.1), (3, .int z.2.2.1), (4, .int z.2.2.2), (5, .int q27_2.1)]) [1, 2, 3, 4, 5, 0] rfl ?_
      exact kt_M_columnHolds_12_46 hX fin q27_2.2 x1 z.2.1 z.2.2.1 z.2.2.2 q27_2.1 (if z.2.1 = 0 then 0 else (if q27_2.1 = 0 then 0 else 1 : Int32) : Int32) h hi hx
    refine jx_if_eq hX d_M_columnHolds_33 rfl (fun hc5 => ?_) (fun hc5 => ?_)
    · refine jx_iconst (v := 0) hX d_M_columnHolds_45 (by decide) ?_
      exact hj _ (if_pos hc5).symm
    · refine jx_iload hX d_M_columnHolds_36 0 rfl ?_
      refine jx_if_eq hX d_M_columnHolds_38 rfl (fun hc6 => ?_) (fun hc6 => ?_)
      · refine jx_iconst (v := 0) hX d_M_columnHolds_45 (by decide) ?_
        exact hj _ ((if_neg hc5).trans (if_pos hc6)).symm
      · refine jx_iconst (v := 1) hX d_M_columnHolds_41 (by decide) ?_
        refine jx_goto hX d_M_columnHolds_42 rfl ?_
        exact hj _ ((if_neg hc5).trans (if_neg hc6)).symm

set_option maxHeartbeats 4000000 in
set_option maxRecDepth 100000 in
theorem c_M_columnHolds (l : Launch) (G : jx_G) (S : jx_S) (a1 : Int32) (fin : Int32 × jx_S) (h : f_M_columnHolds S a1 = some fin) : jx_M l y_M_columnHolds b_M_columnHolds 6 (some .boolean) 10 G [.ref (jx_ad G 18), .int a1] (jr_w G S) (some (.int fin.1), jr_w G fin.2) := by
  refine jx_met (own := "PlaneCellsModel") (by decide) rfl (Nat.le_of_ble_eq_true rfl) (fun X hX hl => ?_)
  subst hl
  refine jx_L (L2 := [(0, .ref (jx_ad G 18)), (1, .int a1)]) rfl ?_
  unfold f_M_columnHolds at h
  refine jx_aload_n hX d_M_columnHolds_0 0 rfl rfl ?_
  refine jx_iload_n hX d_M_columnHolds_1 1 rfl rfl ?_
  obtain ⟨q2_1, hq2_1, h⟩ := jx_bd h
  refine cs_M_169 hX (c_M_look (jx_l X) G S a1 q2_1 hq2_1) d_M_columnHolds_2 (by decide) (Nat.le_of_ble_eq_true rfl) ?_
  refine jx_iconst (v := 1) hX d_M_columnHolds_5 (by decide) ?_
  refine jx_istore_n hX d_M_columnHolds_6 rfl (by decide) (L2 := [(2, .int 1), (0, .ref (jx_ad G 18)), (1, .int a1)]) rfl ?_
  refine jx_iconst (v := 0) hX d_M_columnHolds_7 (by decide) ?_
  refine jx_istore_n hX d_M_columnHolds_8 rfl (by decide) (L2 := [(3, .int 0), (2, .int 1), (0, .ref (jx_ad G 18)), (1, .int a1)]) rfl ?_
  refine jx_iconst (v := 0) hX d_M_columnHolds_9 (by decide) ?_
  refine jx_istore hX d_M_columnHolds_10 (by decide) (L2 := [(4, .int 0), (3, .int 0), (2, .int 1), (0, .ref (jx_ad G 18)), (1, .int a1)]) rfl ?_
  refine jx_sub (L2 := [(0, .ref (jx_ad G 18)), (1, .int a1), (2, .int 1), (3, .int 0), (4, .int 0)]) [3, 4, 2, 1, 0] rfl ?_
  obtain ⟨z12_7, hz, h⟩ := jx_bd h
  refine lt_M_columnHolds_12 hX fin a1 hz ?_
  refine jx_aload_n hX d_M_columnHolds_68 0 rfl rfl ?_
  refine gf_M_178 hX d_M_columnHolds_69 rfl ?_
  have hj : ∀ v : Int32, v = (if (z12_7.1.1 4) = 0 then z12_7.2.2 else z12_7.2.1 : Int32) → jx_At G X (some (.int fin.1), jr_w G fin.2) (jr_w G z12_7.1) 80 [(0, .ref (jx_ad G 18)), (1, .int a1), (2, .int z12_7.2.1), (3, .int z12_7.2.2)] [.int v] := by
    intro v hv
    subst hv
    obtain ⟨hg, h⟩ := jx_gd h
    obtain rfl := Option.some.inj h
    exact jx_zret hX d_M_columnHolds_80 (jx_nb_ok hg)
  refine jx_if_eq hX d_M_columnHolds_72 rfl (fun hc8 => ?_) (fun hc8 => ?_)
  · refine jx_iload_n hX d_M_columnHolds_79 3 rfl rfl ?_
    exact hj _ (if_pos hc8).symm
  · refine jx_iload_n hX d_M_columnHolds_75 2 rfl rfl ?_
    refine jx_goto hX d_M_columnHolds_76 rfl ?_
    exact hj _ (if_neg hc8).symm

def f_M_wrong (S : jx_S) (a1 : Int32) (a2 : Int32) : Option (Int32 × jx_S) :=
  some (a1, (jx_f (jx_f (jx_f S 5 0) 11 0) 2 a2))
set_option maxHeartbeats 4000000 in
set_option maxRecDepth 100000 in
theorem c_M_wrong (l : Launch) (G : jx_G) (S : jx_S) (a1 : Int32) (a2 : Int32) (fin : Int32 × jx_S) (h : f_M_wrong S a1 a2 = some fin) : jx_M l y_M_wrong b_M_wrong 3 (some .int) 0 G [.ref (jx_ad G 18), .int a1, .int a2] (jr_w G S) (some (.int fin.1), jr_w G fin.2) := by
  refine jx_met (own := "PlaneCellsModel") (by decide) rfl (Nat.le_of_ble_eq_true rfl) (fun X hX hl => ?_)
  subst hl
  refine jx_L (L2 := [(0, .ref (jx_ad G 18)), (1, .int a1), (2, .int a2)]) rfl ?_
  unfold f_M_wrong at h
  refine jx_aload_n hX d_M_wrong_0 0 rfl rfl ?_
  refine jx_iconst (v := 0) hX d_M_wrong_1 (by decide) ?_
  refine pf_M_103 hX d_M_wrong_2 ?_
  refine jx_aload_n hX d_M_wrong_5 0 rfl rfl ?_
  refine jx_iconst (v := 0) hX d_M_wrong_6 (by decide) ?_
  refine pf_M_182 hX d_M_wrong_7 ?_
  refine jx_aload_n hX d_M_wrong_10 0 rfl rfl ?_
  refine jx_iload_n hX d_M_wrong_11 2 rfl rfl ?_
  refine pf_M_16 hX d_M_wrong_12 ?_
  refine jx_iload_n hX d_M_wrong_15 1 rfl rfl ?_
  obtain rfl := Option.some.inj h
  exact jx_iret hX d_M_wrong_16

def b_M_decide_105 (S : jx_S) (x1 : Int32) (z : Int32) : Option ((Int32) ⊕ ((Unit) ⊕ (Int32 × jx_S))) :=
  if 32 ≤ z then
    some (.inr (.inl ()))
  else
    if jx_in z 32 = true then
      if ((S.2.1 2) (z).toNatClampNeg) < (-5) then
        (f_M_wrong S (-2) (-1)).bind fun q136_9 =>
          some (.inr (.inr (q136_9.1, q136_9.2)))
      else
        if ((S.2.1 2) (z).toNatClampNeg) ≤ 5 then
          some (.inl (z + 1))
        else
          (f_M_wrong S (-2) (-1)).bind fun q136_10 =>
            some (.inr (.inr (q136_10.1, q136_10.2)))
    else none

def k_M_decide_174_205 (S : jx_S) (x1 : Int32) (x2 : Int32) (x3 : Int32) (x4 : Int32) (x5 : Int32) (y0 : Int32) : Option ((jx_S × Int32 × Int32 × Int32) ⊕ (jx_S × Int32 × Int32)) :=
  some (.inl (S, y0, (if x3 = 0 then (if x5 = 0 then 0 else 1 : Int32) else 1 : Int32), (x4 + 1)))

def b_M_decide_174 (x1 : Int32) (z : jx_S × Int32 × Int32 × Int32) : Option ((jx_S × Int32 × Int32 × Int32) ⊕ (jx_S × Int32 × Int32)) :=
  if (z.1.1 11) ≤ z.2.2.2 then
    some (.inr (z.1, z.2.1, z.2.2.1))
  else
    (f_M_columnHolds z.1 z.2.2.2).bind fun q186_13 =>
      k_M_decide_174_205 q186_13.2 x1 z.2.1 z.2.2.1 z.2.2.2 q186_13.1 (if z.2.1 = 0 then 0 else (if q186_13.1 = 0 then 0 else 1 : Int32) : Int32)

def f_M_decide (S : jx_S)  : Option (Int32 × jx_S) :=
  (f_M_takeText S).bind fun q1_1 =>
    (f_M_count (jx_f q1_1 9 (-1)) 40).bind fun q12_2 =>
      if q12_2 ≤ 8 then
        (f_M_illAt (jx_f q1_1 9 (-1))).bind fun q29_3 =>
          if q29_3 < 0 then
            (f_M_relations (jx_f q1_1 9 (-1))).bind fun q45_4 =>
              if q45_4 ≤ 8 then
                (f_M_at (jx_f q1_1 9 (-1)) 0).bind fun q64_5 =>
                  (f_M_at (jx_f (jx_f q1_1 9 (-1)) 3 (if q64_5 = 65 then 1 else 0 : Int32)) 2).bind fun q83_6 =>
                    (f_M_readFormula (jx_f (jx_f (jx_f q1_1 9 (-1)) 3 (if q64_5 = 65 then 1 else 0 : Int32)) 4 (if q83_6 = 65 then 1 else 0 : Int32))).bind fun q100_7 =>
                      (jx_lp (b_M_decide_105 q100_7 q29_3) jx_N 0).bind (Sum.elim (fun z105_11 =>
                        (f_M_findCriticals (jx_f q100_7 2 (-1))).bind fun q152_12 =>
                          (jx_lp (b_M_decide_174 q29_3) jx_N ((jx_f q152_12 11 ((2 * (q152_12.1 8)) + 1)), 1, 0, 0)).bind fun z174_18 =>
                            some ((if (z174_18.1.1 3) = 0 then (if z174_18.2.2 = 0 then 0 else 1 : Int32) else (if z174_18.2.1 = 0 then 0 else 1 : Int32) : Int32), z174_18.1))
                        (fun y => some y))
              else
                (f_M_wrong (jx_f q1_1 9 (-1)) (-2) (-1)).bind fun q57_24 =>
                  some (q57_24.1, q57_24.2)
          else
            (f_M_wrong (jx_f q1_1 9 (-1)) (-1) q29_3).bind fun q40_25 =>
              some (q40_25.1, q40_25.2)
      else
        (f_M_wrong (jx_f q1_1 9 (-1)) (-2) (-1)).bind fun q24_26 =>
          some (q24_26.1, q24_26.2)
set_option maxHeartbeats 4000000 in
set_option maxRecDepth 100000 in
theorem lt_M_decide_105 {G : jx_G} {X : jx_C} (hX : jx_Ok G X b_M_decide "PlaneCellsModel" (some .int) 6 11) (fin : Int32 × jx_S) (S : jx_S) (x1 : Int32) {n : Nat} {z : Int32} {r : (Unit) ⊕ (Int32 × jx_S)} (hz : jx_lp (b_M_decide_105 S x1) n z = some r) (hk : ∀ u, r = .inl u → jx_At G X (some (.int fin.1), jr_w G fin.2) (jr_w G S) 146 [(0, .ref (jx_ad G 18)), (1, .int x1)] []) (hy : ∀ y, r = .inr y → y = fin) : jx_At G X (some (.int fin.1), jr_w G fin.2) (jr_w G S) 105 [(0, .ref (jx_ad G 18)), (1, .int x1), (2, .int z)] [] := by
  refine jx_loop2 (b_M_decide_105 S x1) (fun z => jx_At G X (some (.int fin.1), jr_w G fin.2) (jr_w G S) 105 [(0, .ref (jx_ad G 18)), (1, .int x1), (2, .int z)] []) (fun z => jx_At G X (some (.int fin.1), jr_w G fin.2) (jr_w G S) 146 [(0, .ref (jx_ad G 18)), (1, .int x1)] []) fin ?_ n z r hz hk hy
  intro z o h hi hx hr
  unfold b_M_decide_105 at h
  refine jx_iload_n hX d_M_decide_105 2 rfl rfl ?_
  refine jx_bipush (v := 32) hX d_M_decide_106 (by decide) ?_
  refine jx_icmp_ge hX d_M_decide_108 rfl (fun hc => ?_) (fun hc => ?_)
  · have h := jx_ip hc h
    refine jx_sub (L2 := [(0, .ref (jx_ad G 18)), (1, .int x1)]) [0, 1] rfl ?_
    obtain rfl := Option.some.inj h
    exact hx _ rfl
  · have h := jx_in_ hc h
    refine jx_aload_n hX d_M_decide_111 0 rfl rfl ?_
    refine gf_M_20 hX d_M_decide_112 ?_
    refine jx_iload_n hX d_M_decide_115 2 rfl rfl ?_
    obtain ⟨hg8, h⟩ := jx_gd h
    refine al_M2 hX d_M_decide_116 rfl hg8 ?_
    refine jx_bipush (v := (-5)) hX d_M_decide_117 (by decide) ?_
    refine jx_icmp_lt hX d_M_decide_119 rfl (fun hc => ?_) (fun hc => ?_)
    · have h := jx_ip hc h
      refine jx_aload_n hX d_M_decide_132 0 rfl rfl ?_
      refine jx_bipush (v := (-2)) hX d_M_decide_133 (by decide) ?_
      refine jx_iconst (v := (-1)) hX d_M_decide_135 (by decide) ?_
      obtain ⟨q136_9, hq136_9, h⟩ := jx_bd h
      refine cs_M_188 hX (c_M_wrong (jx_l X) G S (-2) (-1) q136_9 hq136_9) d_M_decide_136 (by decide) (Nat.le_of_ble_eq_true rfl) ?_
      obtain rfl := Option.some.inj h
      obtain rfl := hr _ rfl
      exact jx_iret hX d_M_decide_139
    · have h := jx_in_ hc h
      refine jx_aload_n hX d_M_decide_122 0 rfl rfl ?_
      refine gf_M_20 hX d_M_decide_123 ?_
      refine jx_iload_n hX d_M_decide_126 2 rfl rfl ?_
      refine al_M2 hX d_M_decide_127 rfl hg8 ?_
      refine jx_iconst (v := 5) hX d_M_decide_128 (by decide) ?_
      refine jx_icmp_le hX d_M_decide_129 rfl (fun hc => ?_) (fun hc => ?_)
      · have h := jx_ip hc h
        refine jx_iinc (v := (z + 1)) hX d_M_decide_140 2 rfl (by first | rfl | decide) (by decide) (L2 := [(2, .int (z + 1)), (0, .ref (jx_ad G 18)), (1, .int x1)]) rfl ?_
        refine jx_goto hX d_M_decide_143 rfl ?_
        refine jx_sub (L2 := [(0, .ref (jx_ad G 18)), (1, .int x1), (2, .int (z + 1))]) [1, 2, 0] rfl ?_
        obtain rfl := Option.some.inj h
        exact hi _ rfl
      · have h := jx_in_ hc h
        refine jx_aload_n hX d_M_decide_132 0 rfl rfl ?_
        refine jx_bipush (v := (-2)) hX d_M_decide_133 (by decide) ?_
        refine jx_iconst (v := (-1)) hX d_M_decide_135 (by decide) ?_
        obtain ⟨q136_10, hq136_10, h⟩ := jx_bd h
        refine cs_M_188 hX (c_M_wrong (jx_l X) G S (-2) (-1) q136_10 hq136_10) d_M_decide_136 (by decide) (Nat.le_of_ble_eq_true rfl) ?_
        obtain rfl := Option.some.inj h
        obtain rfl := hr _ rfl
        exact jx_iret hX d_M_decide_139

set_option maxHeartbeats 4000000 in
set_option maxRecDepth 100000 in
theorem kt_M_decide_174_205 {G : jx_G} {X : jx_C} (hX : jx_Ok G X b_M_decide "PlaneCellsModel" (some .int) 6 11) (fin : Int32 × jx_S) (S : jx_S) (x1 : Int32) (x2 : Int32) (x3 : Int32) (x4 : Int32) (x5 : Int32) (y0 : Int32) {o : (jx_S × Int32 × Int32 × Int32) ⊕ (jx_S × Int32 × Int32)} (h : k_M_decide_174_205 S x1 x2 x3 x4 x5 y0 = some o) (hi : ∀ z, o = .inl z → jx_At G X (some (.int fin.1), jr_w G fin.2) (jr_w G z.1) 174 [(0, .ref (jx_ad G 18)), (1, .int x1), (2, .int z.2.1), (3, .int z.2.2.1), (4, .int z.2.2.2)] []) (hx : ∀ u, o = .inr u → jx_At G X (some (.int fin.1), jr_w G fin.2) (jr_w G u.1) 227 [(0, .ref (jx_ad G 18)), (1, .int x1), (2, .int u.2.1), (3, .int u.2.2)] []) : jx_At G X (some (.int fin.1), jr_w G fin.2) (jr_w G S) 205 [(0, .ref (jx_ad G 18)), (1, .int x1), (2, .int x2), (3, .int x3), (4, .int x4), (5, .int x5)] [.int y0] := by
  unfold k_M_decide_174_205 at h
  refine jx_istore_n hX d_M_decide_205 rfl (by decide) (L2 := [(2, .int y0), (0, .ref (jx_ad G 18)), (1, .int x1), (3, .int x3), (4, .int x4), (5, .int x5)]) rfl ?_
  refine jx_iload_n hX d_M_decide_206 3 rfl rfl ?_
  have hj : ∀ v : Int32, v = (if x3 = 0 then (if x5 = 0 then 0 else 1 : Int32) else 1 : Int32) → jx_At G X (some (.int fin.1), jr_w G fin.2) (jr_w G S) 220 [(2, .int y0), (0, .ref (jx_ad G 18)), (1, .int x1), (3, .int x3), (4, .int x4), (5, .int x5)] [.int v] := by
    intro v hv
    subst hv
    refine jx_istore_n hX d_M_decide_220 rfl (by decide) (L2 := [(3, .int (if x3 = 0 then (if x5 = 0 then 0 else 1 : Int32) else 1 : Int32)), (2, .int y0), (0, .ref (jx_ad G 18)), (1, .int x1), (4, .int x4), (5, .int x5)]) rfl ?_
    refine jx_iinc (v := (x4 + 1)) hX d_M_decide_221 4 rfl (by first | rfl | decide) (by decide) (L2 := [(4, .int (x4 + 1)), (3, .int (if x3 = 0 then (if x5 = 0 then 0 else 1 : Int32) else 1 : Int32)), (2, .int y0), (0, .ref (jx_ad G 18)), (1, .int x1), (5, .int x5)]) rfl ?_
    refine jx_goto hX d_M_decide_224 rfl ?_
    refine jx_sub (L2 := [(0, .ref (jx_ad G 18)), (1, .int x1), (2, .int y0), (3, .int (if x3 = 0 then (if x5 = 0 then 0 else 1 : Int32) else 1 : Int32)), (4, .int (x4 + 1))]) [3, 4, 2, 1, 0] rfl ?_
    obtain rfl := Option.some.inj h
    exact hi _ rfl
  refine jx_if_ne hX d_M_decide_207 rfl (fun hc14 => ?_) (fun hc14 => ?_)
  · refine jx_iconst (v := 1) hX d_M_decide_215 (by decide) ?_
    refine jx_goto hX d_M_decide_216 rfl ?_
    exact hj _ (if_neg hc14).symm
  · refine jx_iload hX d_M_decide_210 5 rfl ?_
    refine jx_if_eq hX d_M_decide_212 rfl (fun hc15 => ?_) (fun hc15 => ?_)
    · refine jx_iconst (v := 0) hX d_M_decide_219 (by decide) ?_
      exact hj _ ((if_pos hc14).trans (if_pos hc15)).symm
    · refine jx_iconst (v := 1) hX d_M_decide_215 (by decide) ?_
      refine jx_goto hX d_M_decide_216 rfl ?_
      exact hj _ ((if_pos hc14).trans (if_neg hc15)).symm

set_option maxHeartbeats 4000000 in
set_option maxRecDepth 100000 in
theorem lt_M_decide_174 {G : jx_G} {X : jx_C} (hX : jx_Ok G X b_M_decide "PlaneCellsModel" (some .int) 6 11) (fin : Int32 × jx_S) (x1 : Int32) {n : Nat} {z : jx_S × Int32 × Int32 × Int32} {r : jx_S × Int32 × Int32} (hz : jx_lp (b_M_decide_174 x1) n z = some r) (hk : jx_At G X (some (.int fin.1), jr_w G fin.2) (jr_w G r.1) 227 [(0, .ref (jx_ad G 18)), (1, .int x1), (2, .int r.2.1), (3, .int r.2.2)] []) : jx_At G X (some (.int fin.1), jr_w G fin.2) (jr_w G z.1) 174 [(0, .ref (jx_ad G 18)), (1, .int x1), (2, .int z.2.1), (3, .int z.2.2.1), (4, .int z.2.2.2)] [] := by
  refine jx_loop1 (b_M_decide_174 x1) (fun z => jx_At G X (some (.int fin.1), jr_w G fin.2) (jr_w G z.1) 174 [(0, .ref (jx_ad G 18)), (1, .int x1), (2, .int z.2.1), (3, .int z.2.2.1), (4, .int z.2.2.2)] []) (fun z => jx_At G X (some (.int fin.1), jr_w G fin.2) (jr_w G z.1) 227 [(0, .ref (jx_ad G 18)), (1, .int x1), (2, .int z.2.1), (3, .int z.2.2)] []) ?_ n z r hz hk
  intro z o h hi hx
  unfold b_M_decide_174 at h
  refine jx_iload hX d_M_decide_174 4 rfl ?_
  refine jx_aload_n hX d_M_decide_176 0 rfl rfl ?_
  refine gf_M_182 hX d_M_decide_177 rfl ?_
  refine jx_icmp_ge hX d_M_decide_180 rfl (fun hc => ?_) (fun hc => ?_)
  · have h := jx_ip hc h
    refine jx_sub (L2 := [(0, .ref (jx_ad G 18)), (1, .int x1), (2, .int z.2.1), (3, .int z.2.2.1)]) [0, 1, 2, 3] rfl ?_
    obtain rfl := Option.some.inj h
    exact hx _ rfl
  · have h := jx_in_ hc h
    refine jx_aload_n hX d_M_decide_183 0 rfl rfl ?_
    refine jx_iload hX d_M_decide_184 4 rfl ?_
    obtain ⟨q186_13, hq186_13, h⟩ := jx_bd h
    refine cs_M_207 hX (c_M_columnHolds (jx_l X) G z.1 z.2.2.2 q186_13 hq186_13) d_M_decide_186 (by decide) (Nat.le_of_ble_eq_true rfl) ?_
    refine jx_istore hX d_M_decide_189 (by decide) (L2 := [(5, .int q186_13.1), (0, .ref (jx_ad G 18)), (1, .int x1), (2, .int z.2.1), (3, .int z.2.2.1), (4, .int z.2.2.2)]) rfl ?_
    refine jx_iload_n hX d_M_decide_191 3 rfl rfl ?_
    have hj : ∀ v : Int32, v = (if z.2.1 = 0 then 0 else (if q186_13.1 = 0 then 0 else 1 : Int32) : Int32) → jx_At G X (some (.int fin.1), jr_w G fin.2) (jr_w G q186_13.2) 205 [(5, .int q186_13.1), (0, .ref (jx_ad G 18)), (1, .int x1), (2, .int z.2.1), (3, .int z.2.2.1), (4, .int z.2.2.2)] [.int v] := by
      intro v hv
      subst hv
      refine jx_sub (L2 := [(0, .ref (jx_ad G 18)), (1, .int x1), (2, .int z.2.1), (3, .int z.2.2.1), (4, .int z.2.2.2), (5, .int q186_13.1)]) [1, 2, 3, 4, 5, 0] rfl ?_
      exact kt_M_decide_174_205 hX fin q186_13.2 x1 z.2.1 z.2.2.1 z.2.2.2 q186_13.1 (if z.2.1 = 0 then 0 else (if q186_13.1 = 0 then 0 else 1 : Int32) : Int32) h hi hx
    refine jx_if_eq hX d_M_decide_192 rfl (fun hc16 => ?_) (fun hc16 => ?_)
    · refine jx_iconst (v := 0) hX d_M_decide_204 (by decide) ?_
      exact hj _ (if_pos hc16).symm
    · refine jx_iload hX d_M_decide_195 0 rfl ?_
      refine jx_if_eq hX d_M_decide_197 rfl (fun hc17 => ?_) (fun hc17 => ?_)
      · refine jx_iconst (v := 0) hX d_M_decide_204 (by decide) ?_
        exact hj _ ((if_neg hc16).trans (if_pos hc17)).symm
      · refine jx_iconst (v := 1) hX d_M_decide_200 (by decide) ?_
        refine jx_goto hX d_M_decide_201 rfl ?_
        exact hj _ ((if_neg hc16).trans (if_neg hc17)).symm

set_option maxHeartbeats 4000000 in
set_option maxRecDepth 100000 in
theorem c_M_decide (l : Launch) (G : jx_G) (S : jx_S)  (fin : Int32 × jx_S) (h : f_M_decide S = some fin) : jx_M l y_M_decide b_M_decide 6 (some .int) 11 G [.ref (jx_ad G 18)] (jr_w G S) (some (.int fin.1), jr_w G fin.2) := by
  refine jx_met (own := "PlaneCellsModel") (by decide) rfl (Nat.le_of_ble_eq_true rfl) (fun X hX hl => ?_)
  subst hl
  refine jx_L (L2 := [(0, .ref (jx_ad G 18))]) rfl ?_
  unfold f_M_decide at h
  refine jx_aload_n hX d_M_decide_0 0 rfl rfl ?_
  obtain ⟨q1_1, hq1_1, h⟩ := jx_bd h
  refine cs_M_185 hX (c_M_takeText (jx_l X) G S q1_1 hq1_1) d_M_decide_1 (by decide) (Nat.le_of_ble_eq_true rfl) ?_
  refine jx_aload_n hX d_M_decide_4 0 rfl rfl ?_
  refine jx_iconst (v := (-1)) hX d_M_decide_5 (by decide) ?_
  refine pf_M_46 hX d_M_decide_6 ?_
  refine jx_aload_n hX d_M_decide_9 0 rfl rfl ?_
  refine jx_bipush (v := 40) hX d_M_decide_10 (by decide) ?_
  obtain ⟨q12_2, hq12_2, h⟩ := jx_bd h
  refine cs_M_90 hX (c_M_count (jx_l X) G (jx_f q1_1 9 (-1)) 40 q12_2 hq12_2) d_M_decide_12 (by decide) (Nat.le_of_ble_eq_true rfl) ?_
  refine jx_bipush (v := 8) hX d_M_decide_15 (by decide) ?_
  refine jx_icmp_le hX d_M_decide_17 rfl (fun hc => ?_) (fun hc => ?_)
  · have h := jx_ip hc h
    refine jx_aload_n hX d_M_decide_28 0 rfl rfl ?_
    obtain ⟨q29_3, hq29_3, h⟩ := jx_bd h
    refine cs_M_191 hX (c_M_illAt (jx_l X) G (jx_f q1_1 9 (-1)) q29_3 hq29_3) d_M_decide_29 (by decide) (Nat.le_of_ble_eq_true rfl) ?_
    refine jx_istore_n hX d_M_decide_32 rfl (by decide) (L2 := [(1, .int q29_3), (0, .ref (jx_ad G 18))]) rfl ?_
    refine jx_iload_n hX d_M_decide_33 0 rfl rfl ?_
    refine jx_if_lt hX d_M_decide_34 rfl (fun hc => ?_) (fun hc => ?_)
    · have h := jx_ip hc h
      refine jx_aload_n hX d_M_decide_44 1 rfl rfl ?_
      obtain ⟨q45_4, hq45_4, h⟩ := jx_bd h
      refine cs_M_195 hX (c_M_relations (jx_l X) G (jx_f q1_1 9 (-1)) q45_4 hq45_4) d_M_decide_45 (by decide) (Nat.le_of_ble_eq_true rfl) ?_
      refine jx_bipush (v := 8) hX d_M_decide_48 (by decide) ?_
      refine jx_icmp_le hX d_M_decide_50 rfl (fun hc => ?_) (fun hc => ?_)
      · have h := jx_ip hc h
        refine jx_aload_n hX d_M_decide_61 1 rfl rfl ?_
        refine jx_aload_n hX d_M_decide_62 1 rfl rfl ?_
        refine jx_iconst (v := 0) hX d_M_decide_63 (by decide) ?_
        obtain ⟨q64_5, hq64_5, h⟩ := jx_bd h
        refine cs_M_79 hX (c_M_at (jx_l X) G (jx_f q1_1 9 (-1)) 0 q64_5 hq64_5) d_M_decide_64 (by decide) (Nat.le_of_ble_eq_true rfl) ?_
        refine jx_bipush (v := 65) hX d_M_decide_67 (by decide) ?_
        have hj : ∀ v : Int32, v = (if q64_5 = 65 then 1 else 0 : Int32) → jx_At G X (some (.int fin.1), jr_w G fin.2) (jr_w G (jx_f q1_1 9 (-1))) 77 [(1, .int q29_3), (0, .ref (jx_ad G 18))] [.int v, .ref (jx_ad G 18)] := by
          intro v hv
          subst hv
          refine pf_M_198 hX d_M_decide_77 (jx_zi jx_z1 jx_z0) ?_
          refine jx_aload_n hX d_M_decide_80 1 rfl rfl ?_
          refine jx_aload_n hX d_M_decide_81 1 rfl rfl ?_
          refine jx_iconst (v := 2) hX d_M_decide_82 (by decide) ?_
          obtain ⟨q83_6, hq83_6, h⟩ := jx_bd h
          refine cs_M_79 hX (c_M_at (jx_l X) G (jx_f (jx_f q1_1 9 (-1)) 3 (if q64_5 = 65 then 1 else 0 : Int32)) 2 q83_6 hq83_6) d_M_decide_83 (by decide) (Nat.le_of_ble_eq_true rfl) ?_
          refine jx_bipush (v := 65) hX d_M_decide_86 (by decide) ?_
          have hj : ∀ v : Int32, v = (if q83_6 = 65 then 1 else 0 : Int32) → jx_At G X (some (.int fin.1), jr_w G fin.2) (jr_w G (jx_f (jx_f q1_1 9 (-1)) 3 (if q64_5 = 65 then 1 else 0 : Int32))) 96 [(1, .int q29_3), (0, .ref (jx_ad G 18))] [.int v, .ref (jx_ad G 18)] := by
            intro v hv
            subst hv
            refine pf_M_178 hX d_M_decide_96 (jx_zi jx_z1 jx_z0) ?_
            refine jx_aload_n hX d_M_decide_99 1 rfl rfl ?_
            obtain ⟨q100_7, hq100_7, h⟩ := jx_bd h
            refine cs_M_201 hX (c_M_readFormula (jx_l X) G (jx_f (jx_f (jx_f q1_1 9 (-1)) 3 (if q64_5 = 65 then 1 else 0 : Int32)) 4 (if q83_6 = 65 then 1 else 0 : Int32)) q100_7 hq100_7) d_M_decide_100 (by decide) (Nat.le_of_ble_eq_true rfl) ?_
            refine jx_iconst (v := 0) hX d_M_decide_103 (by decide) ?_
            refine jx_istore_n hX d_M_decide_104 rfl (by decide) (L2 := [(2, .int 0), (1, .int q29_3), (0, .ref (jx_ad G 18))]) rfl ?_
            refine jx_sub (L2 := [(0, .ref (jx_ad G 18)), (1, .int q29_3), (2, .int 0)]) [2, 1, 0] rfl ?_
            obtain ⟨r, hz, h⟩ := jx_bd h
            refine lt_M_decide_105 hX fin q100_7 q29_3 hz (fun z105_11 e => ?_) (fun y e => ?_)
            · subst e
              have h := jx_el h
              refine jx_aload_n hX d_M_decide_146 0 rfl rfl ?_
              refine jx_iconst (v := (-1)) hX d_M_decide_147 (by decide) ?_
              refine pf_M_16 hX d_M_decide_148 ?_
              refine jx_aload_n hX d_M_decide_151 0 rfl rfl ?_
              obtain ⟨q152_12, hq152_12, h⟩ := jx_bd h
              refine cs_M_204 hX (c_M_findCriticals (jx_l X) G (jx_f q100_7 2 (-1)) q152_12 hq152_12) d_M_decide_152 (by decide) (Nat.le_of_ble_eq_true rfl) ?_
              refine jx_aload_n hX d_M_decide_155 0 rfl rfl ?_
              refine jx_iconst (v := 2) hX d_M_decide_156 (by decide) ?_
              refine jx_aload_n hX d_M_decide_157 0 rfl rfl ?_
              refine gf_M_134 hX d_M_decide_158 rfl ?_
              refine jx_imul hX d_M_decide_161 ?_
              refine jx_iconst (v := 1) hX d_M_decide_162 (by decide) ?_
              refine jx_iadd hX d_M_decide_163 ?_
              refine pf_M_182 hX d_M_decide_164 ?_
              refine jx_iconst (v := 1) hX d_M_decide_167 (by decide) ?_
              refine jx_istore_n hX d_M_decide_168 rfl (by decide) (L2 := [(2, .int 1), (0, .ref (jx_ad G 18)), (1, .int q29_3)]) rfl ?_
              refine jx_iconst (v := 0) hX d_M_decide_169 (by decide) ?_
              refine jx_istore_n hX d_M_decide_170 rfl (by decide) (L2 := [(3, .int 0), (2, .int 1), (0, .ref (jx_ad G 18)), (1, .int q29_3)]) rfl ?_
              refine jx_iconst (v := 0) hX d_M_decide_171 (by decide) ?_
              refine jx_istore hX d_M_decide_172 (by decide) (L2 := [(4, .int 0), (3, .int 0), (2, .int 1), (0, .ref (jx_ad G 18)), (1, .int q29_3)]) rfl ?_
              refine jx_sub (L2 := [(0, .ref (jx_ad G 18)), (1, .int q29_3), (2, .int 1), (3, .int 0), (4, .int 0)]) [3, 4, 2, 1, 0] rfl ?_
              obtain ⟨z174_18, hz, h⟩ := jx_bd h
              refine lt_M_decide_174 hX fin q29_3 hz ?_
              refine jx_aload_n hX d_M_decide_227 0 rfl rfl ?_
              refine gf_M_198 hX d_M_decide_228 rfl ?_
              have hj : ∀ v : Int32, v = (if (z174_18.1.1 3) = 0 then (if z174_18.2.2 = 0 then 0 else 1 : Int32) else (if z174_18.2.1 = 0 then 0 else 1 : Int32) : Int32) → jx_At G X (some (.int fin.1), jr_w G fin.2) (jr_w G z174_18.1) 250 [(0, .ref (jx_ad G 18)), (1, .int q29_3), (2, .int z174_18.2.1), (3, .int z174_18.2.2)] [.int v] := by
                intro v hv
                subst hv
                obtain rfl := Option.some.inj h
                exact jx_iret hX d_M_decide_250
              refine jx_if_eq hX d_M_decide_231 rfl (fun hc19 => ?_) (fun hc19 => ?_)
              · refine jx_iload_n hX d_M_decide_241 3 rfl rfl ?_
                refine jx_if_eq hX d_M_decide_242 rfl (fun hc20 => ?_) (fun hc20 => ?_)
                · refine jx_iconst (v := 0) hX d_M_decide_249 (by decide) ?_
                  exact hj _ ((if_pos hc19).trans (if_pos hc20)).symm
                · refine jx_iconst (v := 1) hX d_M_decide_245 (by decide) ?_
                  refine jx_goto hX d_M_decide_246 rfl ?_
                  exact hj _ ((if_pos hc19).trans (if_neg hc20)).symm
              · refine jx_iload_n hX d_M_decide_234 2 rfl rfl ?_
                refine jx_if_eq hX d_M_decide_235 rfl (fun hc21 => ?_) (fun hc21 => ?_)
                · refine jx_iconst (v := 0) hX d_M_decide_249 (by decide) ?_
                  exact hj _ ((if_neg hc19).trans (if_pos hc21)).symm
                · refine jx_goto hX d_M_decide_238 rfl ?_
                  refine jx_iconst (v := 1) hX d_M_decide_245 (by decide) ?_
                  refine jx_goto hX d_M_decide_246 rfl ?_
                  exact hj _ ((if_neg hc19).trans (if_neg hc21)).symm
            · subst e
              have h := jx_er h
              exact Option.some.inj h
          refine jx_icmp_ne hX d_M_decide_88 rfl (fun hc22 => ?_) (fun hc22 => ?_)
          · refine jx_iconst (v := 0) hX d_M_decide_95 (by decide) ?_
            exact hj _ (if_neg hc22).symm
          · refine jx_iconst (v := 1) hX d_M_decide_91 (by decide) ?_
            refine jx_goto hX d_M_decide_92 rfl ?_
            exact hj _ (if_pos hc22).symm
        refine jx_icmp_ne hX d_M_decide_69 rfl (fun hc23 => ?_) (fun hc23 => ?_)
        · refine jx_iconst (v := 0) hX d_M_decide_76 (by decide) ?_
          exact hj _ (if_neg hc23).symm
        · refine jx_iconst (v := 1) hX d_M_decide_72 (by decide) ?_
          refine jx_goto hX d_M_decide_73 rfl ?_
          exact hj _ (if_pos hc23).symm
      · have h := jx_in_ hc h
        refine jx_aload_n hX d_M_decide_53 1 rfl rfl ?_
        refine jx_bipush (v := (-2)) hX d_M_decide_54 (by decide) ?_
        refine jx_iconst (v := (-1)) hX d_M_decide_56 (by decide) ?_
        obtain ⟨q57_24, hq57_24, h⟩ := jx_bd h
        refine cs_M_188 hX (c_M_wrong (jx_l X) G (jx_f q1_1 9 (-1)) (-2) (-1) q57_24 hq57_24) d_M_decide_57 (by decide) (Nat.le_of_ble_eq_true rfl) ?_
        obtain rfl := Option.some.inj h
        exact jx_iret hX d_M_decide_60
    · have h := jx_in_ hc h
      refine jx_aload_n hX d_M_decide_37 1 rfl rfl ?_
      refine jx_iconst (v := (-1)) hX d_M_decide_38 (by decide) ?_
      refine jx_iload_n hX d_M_decide_39 0 rfl rfl ?_
      obtain ⟨q40_25, hq40_25, h⟩ := jx_bd h
      refine cs_M_188 hX (c_M_wrong (jx_l X) G (jx_f q1_1 9 (-1)) (-1) q29_3 q40_25 hq40_25) d_M_decide_40 (by decide) (Nat.le_of_ble_eq_true rfl) ?_
      obtain rfl := Option.some.inj h
      exact jx_iret hX d_M_decide_43
  · have h := jx_in_ hc h
    refine jx_aload_n hX d_M_decide_20 0 rfl rfl ?_
    refine jx_bipush (v := (-2)) hX d_M_decide_21 (by decide) ?_
    refine jx_iconst (v := (-1)) hX d_M_decide_23 (by decide) ?_
    obtain ⟨q24_26, hq24_26, h⟩ := jx_bd h
    refine cs_M_188 hX (c_M_wrong (jx_l X) G (jx_f q1_1 9 (-1)) (-2) (-1) q24_26 hq24_26) d_M_decide_24 (by decide) (Nat.le_of_ble_eq_true rfl) ?_
    obtain rfl := Option.some.inj h
    exact jx_iret hX d_M_decide_27

def f_M_place (S : jx_S)  : Option (Int32) :=
  some (S.1 2)
set_option maxHeartbeats 4000000 in
set_option maxRecDepth 100000 in
theorem c_M_place (l : Launch) (G : jx_G) (S : jx_S)  (fin : Int32) (h : f_M_place S = some fin) : jx_M l y_M_place b_M_place 1 (some .int) 0 G [.ref (jx_ad G 18)] (jr_w G S) (some (.int fin), jr_w G S) := by
  refine jx_met (own := "PlaneCellsModel") (by decide) rfl (Nat.le_of_ble_eq_true rfl) (fun X hX hl => ?_)
  subst hl
  refine jx_L (L2 := [(0, .ref (jx_ad G 18))]) rfl ?_
  unfold f_M_place at h
  refine jx_aload_n hX d_M_place_0 0 rfl rfl ?_
  refine gf_M_16 hX d_M_place_1 rfl ?_
  obtain rfl := Option.some.inj h
  exact jx_iret hX d_M_place_4

def f_M_polynomials (S : jx_S)  : Option (Int32) :=
  some (S.1 5)
set_option maxHeartbeats 4000000 in
set_option maxRecDepth 100000 in
theorem c_M_polynomials (l : Launch) (G : jx_G) (S : jx_S)  (fin : Int32) (h : f_M_polynomials S = some fin) : jx_M l y_M_polynomials b_M_polynomials 1 (some .int) 0 G [.ref (jx_ad G 18)] (jr_w G S) (some (.int fin), jr_w G S) := by
  refine jx_met (own := "PlaneCellsModel") (by decide) rfl (Nat.le_of_ble_eq_true rfl) (fun X hX hl => ?_)
  subst hl
  refine jx_L (L2 := [(0, .ref (jx_ad G 18))]) rfl ?_
  unfold f_M_polynomials at h
  refine jx_aload_n hX d_M_polynomials_0 0 rfl rfl ?_
  refine gf_M_103 hX d_M_polynomials_1 rfl ?_
  obtain rfl := Option.some.inj h
  exact jx_iret hX d_M_polynomials_4

def f_M_coefficient (S : jx_S) (a1 : Int32) (a2 : Int32) : Option (Int32) :=
  if a1 < 0 then
    some 9
  else
    if (S.1 5) ≤ a1 then
      some 9
    else
      if a2 < 0 then
        some 9
      else
        if a2 ≤ 3 then
          if jx_in ((4 * a1) + a2) 32 = true then
            some ((S.2.1 2) (((4 * a1) + a2)).toNatClampNeg)
          else none
        else
          some 9
set_option maxHeartbeats 4000000 in
set_option maxRecDepth 100000 in
theorem c_M_coefficient (l : Launch) (G : jx_G) (S : jx_S) (a1 : Int32) (a2 : Int32) (fin : Int32) (h : f_M_coefficient S a1 a2 = some fin) : jx_M l y_M_coefficient b_M_coefficient 3 (some .int) 0 G [.ref (jx_ad G 18), .int a1, .int a2] (jr_w G S) (some (.int fin), jr_w G S) := by
  refine jx_met (own := "PlaneCellsModel") (by decide) rfl (Nat.le_of_ble_eq_true rfl) (fun X hX hl => ?_)
  subst hl
  refine jx_L (L2 := [(0, .ref (jx_ad G 18)), (1, .int a1), (2, .int a2)]) rfl ?_
  unfold f_M_coefficient at h
  refine jx_iload_n hX d_M_coefficient_0 1 rfl rfl ?_
  refine jx_if_lt hX d_M_coefficient_1 rfl (fun hc => ?_) (fun hc => ?_)
  · have h := jx_ip hc h
    refine jx_bipush (v := 9) hX d_M_coefficient_21 (by decide) ?_
    refine jx_goto hX d_M_coefficient_23 rfl ?_
    obtain rfl := Option.some.inj h
    exact jx_iret hX d_M_coefficient_36
  · have h := jx_in_ hc h
    refine jx_iload_n hX d_M_coefficient_4 1 rfl rfl ?_
    refine jx_aload_n hX d_M_coefficient_5 0 rfl rfl ?_
    refine gf_M_103 hX d_M_coefficient_6 rfl ?_
    refine jx_icmp_ge hX d_M_coefficient_9 rfl (fun hc => ?_) (fun hc => ?_)
    · have h := jx_ip hc h
      refine jx_bipush (v := 9) hX d_M_coefficient_21 (by decide) ?_
      refine jx_goto hX d_M_coefficient_23 rfl ?_
      obtain rfl := Option.some.inj h
      exact jx_iret hX d_M_coefficient_36
    · have h := jx_in_ hc h
      refine jx_iload_n hX d_M_coefficient_12 2 rfl rfl ?_
      refine jx_if_lt hX d_M_coefficient_13 rfl (fun hc => ?_) (fun hc => ?_)
      · have h := jx_ip hc h
        refine jx_bipush (v := 9) hX d_M_coefficient_21 (by decide) ?_
        refine jx_goto hX d_M_coefficient_23 rfl ?_
        obtain rfl := Option.some.inj h
        exact jx_iret hX d_M_coefficient_36
      · have h := jx_in_ hc h
        refine jx_iload_n hX d_M_coefficient_16 2 rfl rfl ?_
        refine jx_iconst (v := 3) hX d_M_coefficient_17 (by decide) ?_
        refine jx_icmp_le hX d_M_coefficient_18 rfl (fun hc => ?_) (fun hc => ?_)
        · have h := jx_ip hc h
          refine jx_aload_n hX d_M_coefficient_26 0 rfl rfl ?_
          refine gf_M_20 hX d_M_coefficient_27 ?_
          refine jx_iconst (v := 4) hX d_M_coefficient_30 (by decide) ?_
          refine jx_iload_n hX d_M_coefficient_31 1 rfl rfl ?_
          refine jx_imul hX d_M_coefficient_32 ?_
          refine jx_iload_n hX d_M_coefficient_33 2 rfl rfl ?_
          refine jx_iadd hX d_M_coefficient_34 ?_
          obtain ⟨hg1, h⟩ := jx_gd h
          refine al_M2 hX d_M_coefficient_35 rfl hg1 ?_
          obtain rfl := Option.some.inj h
          exact jx_iret hX d_M_coefficient_36
        · have h := jx_in_ hc h
          refine jx_bipush (v := 9) hX d_M_coefficient_21 (by decide) ?_
          refine jx_goto hX d_M_coefficient_23 rfl ?_
          obtain rfl := Option.some.inj h
          exact jx_iret hX d_M_coefficient_36

def f_M_columns (S : jx_S)  : Option (Int32) :=
  some (S.1 11)
set_option maxHeartbeats 4000000 in
set_option maxRecDepth 100000 in
theorem c_M_columns (l : Launch) (G : jx_G) (S : jx_S)  (fin : Int32) (h : f_M_columns S = some fin) : jx_M l y_M_columns b_M_columns 1 (some .int) 0 G [.ref (jx_ad G 18)] (jr_w G S) (some (.int fin), jr_w G S) := by
  refine jx_met (own := "PlaneCellsModel") (by decide) rfl (Nat.le_of_ble_eq_true rfl) (fun X hX hl => ?_)
  subst hl
  refine jx_L (L2 := [(0, .ref (jx_ad G 18))]) rfl ?_
  unfold f_M_columns at h
  refine jx_aload_n hX d_M_columns_0 0 rfl rfl ?_
  refine gf_M_182 hX d_M_columns_1 rfl ?_
  obtain rfl := Option.some.inj h
  exact jx_iret hX d_M_columns_4

def f_M_isColumn (S : jx_S) (a1 : Int32) : Option (Int32) :=
  some (if a1 < 0 then 0 else (if (S.1 11) ≤ a1 then 0 else 1 : Int32) : Int32)
set_option maxHeartbeats 4000000 in
set_option maxRecDepth 100000 in
theorem c_M_isColumn (l : Launch) (G : jx_G) (S : jx_S) (a1 : Int32) (fin : Int32) (h : f_M_isColumn S a1 = some fin) : jx_M l y_M_isColumn b_M_isColumn 2 (some .boolean) 0 G [.ref (jx_ad G 18), .int a1] (jr_w G S) (some (.int fin), jr_w G S) := by
  refine jx_met (own := "PlaneCellsModel") (by decide) rfl (Nat.le_of_ble_eq_true rfl) (fun X hX hl => ?_)
  subst hl
  refine jx_L (L2 := [(0, .ref (jx_ad G 18)), (1, .int a1)]) rfl ?_
  unfold f_M_isColumn at h
  refine jx_iload_n hX d_M_isColumn_0 1 rfl rfl ?_
  have hj : ∀ v : Int32, v = (if a1 < 0 then 0 else (if (S.1 11) ≤ a1 then 0 else 1 : Int32) : Int32) → jx_At G X (some (.int fin), jr_w G S) (jr_w G S) 17 [(0, .ref (jx_ad G 18)), (1, .int a1)] [.int v] := by
    intro v hv
    subst hv
    obtain rfl := Option.some.inj h
    exact jx_zret hX d_M_isColumn_17 (jx_01n (jx_zi jx_z0 (jx_zi jx_z0 jx_z1)))
  refine jx_if_lt hX d_M_isColumn_1 rfl (fun hc1 => ?_) (fun hc1 => ?_)
  · refine jx_iconst (v := 0) hX d_M_isColumn_16 (by decide) ?_
    exact hj _ (if_pos hc1).symm
  · refine jx_iload_n hX d_M_isColumn_4 1 rfl rfl ?_
    refine jx_aload_n hX d_M_isColumn_5 0 rfl rfl ?_
    refine gf_M_182 hX d_M_isColumn_6 rfl ?_
    refine jx_icmp_ge hX d_M_isColumn_9 rfl (fun hc2 => ?_) (fun hc2 => ?_)
    · refine jx_iconst (v := 0) hX d_M_isColumn_16 (by decide) ?_
      exact hj _ ((if_neg hc1).trans (if_pos hc2)).symm
    · refine jx_iconst (v := 1) hX d_M_isColumn_12 (by decide) ?_
      refine jx_goto hX d_M_isColumn_13 rfl ?_
      exact hj _ ((if_neg hc1).trans (if_neg hc2)).symm

def f_M_isCell (S : jx_S) (a1 : Int32) (a2 : Int32) : Option (Int32 × jx_S) :=
  (f_M_isColumn S a1).bind fun q2_1 =>
    if q2_1 = 0 then
      some (0, S)
    else
      (f_M_look S a1).bind fun q12_2 =>
        some ((if a2 < 0 then 0 else (if (2 * (q12_2.1 10)) < a2 then 0 else 1 : Int32) : Int32), q12_2)
set_option maxHeartbeats 4000000 in
set_option maxRecDepth 100000 in
theorem c_M_isCell (l : Launch) (G : jx_G) (S : jx_S) (a1 : Int32) (a2 : Int32) (fin : Int32 × jx_S) (h : f_M_isCell S a1 a2 = some fin) : jx_M l y_M_isCell b_M_isCell 3 (some .boolean) 8 G [.ref (jx_ad G 18), .int a1, .int a2] (jr_w G S) (some (.int fin.1), jr_w G fin.2) := by
  refine jx_met (own := "PlaneCellsModel") (by decide) rfl (Nat.le_of_ble_eq_true rfl) (fun X hX hl => ?_)
  subst hl
  refine jx_L (L2 := [(0, .ref (jx_ad G 18)), (1, .int a1), (2, .int a2)]) rfl ?_
  unfold f_M_isCell at h
  refine jx_aload_n hX d_M_isCell_0 0 rfl rfl ?_
  refine jx_iload_n hX d_M_isCell_1 1 rfl rfl ?_
  obtain ⟨q2_1, hq2_1, h⟩ := jx_bd h
  refine cs_M_210 hX (c_M_isColumn (jx_l X) G S a1 q2_1 hq2_1) d_M_isCell_2 (by decide) (Nat.le_of_ble_eq_true rfl) ?_
  refine jx_if_ne hX d_M_isCell_5 rfl (fun hc => ?_) (fun hc => ?_)
  · have h := jx_in_ hc h
    refine jx_aload_n hX d_M_isCell_10 0 rfl rfl ?_
    refine jx_iload_n hX d_M_isCell_11 1 rfl rfl ?_
    obtain ⟨q12_2, hq12_2, h⟩ := jx_bd h
    refine cs_M_169 hX (c_M_look (jx_l X) G S a1 q12_2 hq12_2) d_M_isCell_12 (by decide) (Nat.le_of_ble_eq_true rfl) ?_
    refine jx_iload_n hX d_M_isCell_15 2 rfl rfl ?_
    have hj : ∀ v : Int32, v = (if a2 < 0 then 0 else (if (2 * (q12_2.1 10)) < a2 then 0 else 1 : Int32) : Int32) → jx_At G X (some (.int fin.1), jr_w G fin.2) (jr_w G q12_2) 34 [(0, .ref (jx_ad G 18)), (1, .int a1), (2, .int a2)] [.int v] := by
      intro v hv
      subst hv
      obtain rfl := Option.some.inj h
      exact jx_zret hX d_M_isCell_34 (jx_01n (jx_zi jx_z0 (jx_zi jx_z0 jx_z1)))
    refine jx_if_lt hX d_M_isCell_16 rfl (fun hc3 => ?_) (fun hc3 => ?_)
    · refine jx_iconst (v := 0) hX d_M_isCell_33 (by decide) ?_
      exact hj _ (if_pos hc3).symm
    · refine jx_iload_n hX d_M_isCell_19 2 rfl rfl ?_
      refine jx_iconst (v := 2) hX d_M_isCell_20 (by decide) ?_
      refine jx_aload_n hX d_M_isCell_21 0 rfl rfl ?_
      refine gf_M_160 hX d_M_isCell_22 rfl ?_
      refine jx_imul hX d_M_isCell_25 ?_
      refine jx_icmp_gt hX d_M_isCell_26 rfl (fun hc4 => ?_) (fun hc4 => ?_)
      · refine jx_iconst (v := 0) hX d_M_isCell_33 (by decide) ?_
        exact hj _ ((if_neg hc3).trans (if_pos hc4)).symm
      · refine jx_iconst (v := 1) hX d_M_isCell_29 (by decide) ?_
        refine jx_goto hX d_M_isCell_30 rfl ?_
        exact hj _ ((if_neg hc3).trans (if_neg hc4)).symm
  · have h := jx_ip hc h
    refine jx_iconst (v := 0) hX d_M_isCell_8 (by decide) ?_
    obtain rfl := Option.some.inj h
    exact jx_zret hX d_M_isCell_9 (jx_01n jx_z0)

def f_M_cells (S : jx_S) (a1 : Int32) : Option (Int32 × jx_S) :=
  (f_M_isColumn S a1).bind fun q2_1 =>
    if q2_1 = 0 then
      some (0, S)
    else
      (f_M_look S a1).bind fun q12_2 =>
        some (((2 * (q12_2.1 10)) + 1), q12_2)
set_option maxHeartbeats 4000000 in
set_option maxRecDepth 100000 in
theorem c_M_cells (l : Launch) (G : jx_G) (S : jx_S) (a1 : Int32) (fin : Int32 × jx_S) (h : f_M_cells S a1 = some fin) : jx_M l y_M_cells b_M_cells 2 (some .int) 8 G [.ref (jx_ad G 18), .int a1] (jr_w G S) (some (.int fin.1), jr_w G fin.2) := by
  refine jx_met (own := "PlaneCellsModel") (by decide) rfl (Nat.le_of_ble_eq_true rfl) (fun X hX hl => ?_)
  subst hl
  refine jx_L (L2 := [(0, .ref (jx_ad G 18)), (1, .int a1)]) rfl ?_
  unfold f_M_cells at h
  refine jx_aload_n hX d_M_cells_0 0 rfl rfl ?_
  refine jx_iload_n hX d_M_cells_1 1 rfl rfl ?_
  obtain ⟨q2_1, hq2_1, h⟩ := jx_bd h
  refine cs_M_210 hX (c_M_isColumn (jx_l X) G S a1 q2_1 hq2_1) d_M_cells_2 (by decide) (Nat.le_of_ble_eq_true rfl) ?_
  refine jx_if_ne hX d_M_cells_5 rfl (fun hc => ?_) (fun hc => ?_)
  · have h := jx_in_ hc h
    refine jx_aload_n hX d_M_cells_10 0 rfl rfl ?_
    refine jx_iload_n hX d_M_cells_11 1 rfl rfl ?_
    obtain ⟨q12_2, hq12_2, h⟩ := jx_bd h
    refine cs_M_169 hX (c_M_look (jx_l X) G S a1 q12_2 hq12_2) d_M_cells_12 (by decide) (Nat.le_of_ble_eq_true rfl) ?_
    refine jx_iconst (v := 2) hX d_M_cells_15 (by decide) ?_
    refine jx_aload_n hX d_M_cells_16 0 rfl rfl ?_
    refine gf_M_160 hX d_M_cells_17 rfl ?_
    refine jx_imul hX d_M_cells_20 ?_
    refine jx_iconst (v := 1) hX d_M_cells_21 (by decide) ?_
    refine jx_iadd hX d_M_cells_22 ?_
    obtain rfl := Option.some.inj h
    exact jx_iret hX d_M_cells_23
  · have h := jx_ip hc h
    refine jx_iconst (v := 0) hX d_M_cells_8 (by decide) ?_
    obtain rfl := Option.some.inj h
    exact jx_iret hX d_M_cells_9

