def b_M_findCriticals_69 (x1 : Int32) (z : jx_S × Int32) : Option ((jx_S × Int32) ⊕ (jx_S)) :=
  if x1 ≤ z.2 then
    some (.inr z.1)
  else
    (f_M_mixed z.1 x1 z.2 2).bind fun q79_7 =>
      (f_M_mixed z.1 x1 z.2 1).bind fun q86_8 =>
        (f_M_mixed z.1 x1 z.2 0).bind fun q93_9 =>
          (f_M_addRoots z.1 q79_7 q86_8 q93_9).bind fun q96_10 =>
            some (.inl (q96_10, (z.2 + 1)))

def b_M_findCriticals_7  (z : jx_S × Int32) : Option ((jx_S × Int32) ⊕ (jx_S)) :=
  if (z.1.1 5) ≤ z.2 then
    some (.inr z.1)
  else
    if jx_in ((4 * z.2) + 3) 32 = true then
      if jx_in ((4 * z.2) + 2) 32 = true then
        (f_M_addRoots z.1 0 ((((z.1.2.1 2) (((4 * z.2) + 3)).toNatClampNeg)).toInt64) ((((z.1.2.1 2) (((4 * z.2) + 2)).toNatClampNeg)).toInt64)).bind fun q39_3 =>
          if jx_in ((4 * z.2) + 1) 32 = true then
            if jx_in (4 * z.2) 32 = true then
              (f_M_addRoots q39_3 0 ((((q39_3.2.1 2) (((4 * z.2) + 1)).toNatClampNeg)).toInt64) ((((q39_3.2.1 2) ((4 * z.2)).toNatClampNeg)).toInt64)).bind fun q64_6 =>
                (jx_lp (b_M_findCriticals_69 z.2) jx_N (q64_6, 0)).bind fun z69_11 =>
                  some (.inl (z69_11, (z.2 + 1)))
            else none
          else none
      else none
    else none

def f_M_findCriticals (S : jx_S)  : Option (jx_S) :=
  (jx_lp (b_M_findCriticals_7 ) jx_N ((jx_f S 8 0), 0)).bind fun z7_12 =>
    some z7_12
set_option maxHeartbeats 4000000 in
set_option maxRecDepth 100000 in
theorem lt_M_findCriticals_69 {G : jx_G} {X : jx_C} (hX : jx_Ok G X b_M_findCriticals "PlaneCellsModel" none 3 6) (fin : jx_S) (x1 : Int32) {n : Nat} {z : jx_S × Int32} {r : jx_S} (hz : jx_lp (b_M_findCriticals_69 x1) n z = some r) (hk : jx_At G X (none, jr_w G fin) (jr_w G r) 105 [(0, .ref (jx_ad G 18)), (1, .int x1)] []) : jx_At G X (none, jr_w G fin) (jr_w G z.1) 69 [(0, .ref (jx_ad G 18)), (1, .int x1), (2, .int z.2)] [] := by
  refine jx_loop1 (b_M_findCriticals_69 x1) (fun z => jx_At G X (none, jr_w G fin) (jr_w G z.1) 69 [(0, .ref (jx_ad G 18)), (1, .int x1), (2, .int z.2)] []) (fun z => jx_At G X (none, jr_w G fin) (jr_w G z) 105 [(0, .ref (jx_ad G 18)), (1, .int x1)] []) ?_ n z r hz hk
  intro z o h hi hx
  unfold b_M_findCriticals_69 at h
  refine jx_iload_n hX d_M_findCriticals_69 2 rfl rfl ?_
  refine jx_iload_n hX d_M_findCriticals_70 1 rfl rfl ?_
  refine jx_icmp_ge hX d_M_findCriticals_71 rfl (fun hc => ?_) (fun hc => ?_)
  · have h := jx_ip hc h
    refine jx_sub (L2 := [(0, .ref (jx_ad G 18)), (1, .int x1)]) [0, 1] rfl ?_
    obtain rfl := Option.some.inj h
    exact hx _ rfl
  · have h := jx_in_ hc h
    refine jx_aload_n hX d_M_findCriticals_74 0 rfl rfl ?_
    refine jx_aload_n hX d_M_findCriticals_75 0 rfl rfl ?_
    refine jx_iload_n hX d_M_findCriticals_76 1 rfl rfl ?_
    refine jx_iload_n hX d_M_findCriticals_77 2 rfl rfl ?_
    refine jx_iconst (v := 2) hX d_M_findCriticals_78 (by decide) ?_
    obtain ⟨q79_7, hq79_7, h⟩ := jx_bd h
    refine cs_M_153 hX (c_M_mixed (jx_l X) G z.1 x1 z.2 2 q79_7 hq79_7) d_M_findCriticals_79 (by decide) (Nat.le_of_ble_eq_true rfl) ?_
    refine jx_aload_n hX d_M_findCriticals_82 0 rfl rfl ?_
    refine jx_iload_n hX d_M_findCriticals_83 1 rfl rfl ?_
    refine jx_iload_n hX d_M_findCriticals_84 2 rfl rfl ?_
    refine jx_iconst (v := 1) hX d_M_findCriticals_85 (by decide) ?_
    obtain ⟨q86_8, hq86_8, h⟩ := jx_bd h
    refine cs_M_153 hX (c_M_mixed (jx_l X) G z.1 x1 z.2 1 q86_8 hq86_8) d_M_findCriticals_86 (by decide) (Nat.le_of_ble_eq_true rfl) ?_
    refine jx_aload_n hX d_M_findCriticals_89 0 rfl rfl ?_
    refine jx_iload_n hX d_M_findCriticals_90 1 rfl rfl ?_
    refine jx_iload_n hX d_M_findCriticals_91 2 rfl rfl ?_
    refine jx_iconst (v := 0) hX d_M_findCriticals_92 (by decide) ?_
    obtain ⟨q93_9, hq93_9, h⟩ := jx_bd h
    refine cs_M_153 hX (c_M_mixed (jx_l X) G z.1 x1 z.2 0 q93_9 hq93_9) d_M_findCriticals_93 (by decide) (Nat.le_of_ble_eq_true rfl) ?_
    obtain ⟨q96_10, hq96_10, h⟩ := jx_bd h
    refine cs_M_149 hX (c_M_addRoots (jx_l X) G z.1 q79_7 q86_8 q93_9 q96_10 hq96_10) d_M_findCriticals_96 (by decide) (Nat.le_of_ble_eq_true rfl) ?_
    refine jx_iinc (v := (z.2 + 1)) hX d_M_findCriticals_99 2 rfl (by first | rfl | decide) (by decide) (L2 := [(2, .int (z.2 + 1)), (0, .ref (jx_ad G 18)), (1, .int x1)]) rfl ?_
    refine jx_goto hX d_M_findCriticals_102 rfl ?_
    refine jx_sub (L2 := [(0, .ref (jx_ad G 18)), (1, .int x1), (2, .int (z.2 + 1))]) [1, 2, 0] rfl ?_
    obtain rfl := Option.some.inj h
    exact hi _ rfl

set_option maxHeartbeats 4000000 in
set_option maxRecDepth 100000 in
theorem lt_M_findCriticals_7 {G : jx_G} {X : jx_C} (hX : jx_Ok G X b_M_findCriticals "PlaneCellsModel" none 3 6) (fin : jx_S)  {n : Nat} {z : jx_S × Int32} {r : jx_S} (hz : jx_lp (b_M_findCriticals_7 ) n z = some r) (hk : jx_At G X (none, jr_w G fin) (jr_w G r) 111 [(0, .ref (jx_ad G 18))] []) : jx_At G X (none, jr_w G fin) (jr_w G z.1) 7 [(0, .ref (jx_ad G 18)), (1, .int z.2)] [] := by
  refine jx_loop1 (b_M_findCriticals_7 ) (fun z => jx_At G X (none, jr_w G fin) (jr_w G z.1) 7 [(0, .ref (jx_ad G 18)), (1, .int z.2)] []) (fun z => jx_At G X (none, jr_w G fin) (jr_w G z) 111 [(0, .ref (jx_ad G 18))] []) ?_ n z r hz hk
  intro z o h hi hx
  unfold b_M_findCriticals_7 at h
  refine jx_iload_n hX d_M_findCriticals_7 1 rfl rfl ?_
  refine jx_aload_n hX d_M_findCriticals_8 0 rfl rfl ?_
  refine gf_M_103 hX d_M_findCriticals_9 rfl ?_
  refine jx_icmp_ge hX d_M_findCriticals_12 rfl (fun hc => ?_) (fun hc => ?_)
  · have h := jx_ip hc h
    refine jx_sub (L2 := [(0, .ref (jx_ad G 18))]) [0] rfl ?_
    obtain rfl := Option.some.inj h
    exact hx _ rfl
  · have h := jx_in_ hc h
    refine jx_aload_n hX d_M_findCriticals_15 0 rfl rfl ?_
    refine jx_lconst (v := 0) hX d_M_findCriticals_16 (by decide) ?_
    refine jx_aload_n hX d_M_findCriticals_17 0 rfl rfl ?_
    refine gf_M_20 hX d_M_findCriticals_18 ?_
    refine jx_iconst (v := 4) hX d_M_findCriticals_21 (by decide) ?_
    refine jx_iload_n hX d_M_findCriticals_22 1 rfl rfl ?_
    refine jx_imul hX d_M_findCriticals_23 ?_
    refine jx_iconst (v := 3) hX d_M_findCriticals_24 (by decide) ?_
    refine jx_iadd hX d_M_findCriticals_25 ?_
    obtain ⟨hg1, h⟩ := jx_gd h
    refine al_M2 hX d_M_findCriticals_26 rfl hg1 ?_
    refine jx_i2l hX d_M_findCriticals_27 rfl ?_
    refine jx_aload_n hX d_M_findCriticals_28 0 rfl rfl ?_
    refine gf_M_20 hX d_M_findCriticals_29 ?_
    refine jx_iconst (v := 4) hX d_M_findCriticals_32 (by decide) ?_
    refine jx_iload_n hX d_M_findCriticals_33 1 rfl rfl ?_
    refine jx_imul hX d_M_findCriticals_34 ?_
    refine jx_iconst (v := 2) hX d_M_findCriticals_35 (by decide) ?_
    refine jx_iadd hX d_M_findCriticals_36 ?_
    obtain ⟨hg2, h⟩ := jx_gd h
    refine al_M2 hX d_M_findCriticals_37 rfl hg2 ?_
    refine jx_i2l hX d_M_findCriticals_38 rfl ?_
    obtain ⟨q39_3, hq39_3, h⟩ := jx_bd h
    refine cs_M_149 hX (c_M_addRoots (jx_l X) G z.1 0 ((((z.1.2.1 2) (((4 * z.2) + 3)).toNatClampNeg)).toInt64) ((((z.1.2.1 2) (((4 * z.2) + 2)).toNatClampNeg)).toInt64) q39_3 hq39_3) d_M_findCriticals_39 (by decide) (Nat.le_of_ble_eq_true rfl) ?_
    refine jx_aload_n hX d_M_findCriticals_42 0 rfl rfl ?_
    refine jx_lconst (v := 0) hX d_M_findCriticals_43 (by decide) ?_
    refine jx_aload_n hX d_M_findCriticals_44 0 rfl rfl ?_
    refine gf_M_20 hX d_M_findCriticals_45 ?_
    refine jx_iconst (v := 4) hX d_M_findCriticals_48 (by decide) ?_
    refine jx_iload_n hX d_M_findCriticals_49 1 rfl rfl ?_
    refine jx_imul hX d_M_findCriticals_50 ?_
    refine jx_iconst (v := 1) hX d_M_findCriticals_51 (by decide) ?_
    refine jx_iadd hX d_M_findCriticals_52 ?_
    obtain ⟨hg4, h⟩ := jx_gd h
    refine al_M2 hX d_M_findCriticals_53 rfl hg4 ?_
    refine jx_i2l hX d_M_findCriticals_54 rfl ?_
    refine jx_aload_n hX d_M_findCriticals_55 0 rfl rfl ?_
    refine gf_M_20 hX d_M_findCriticals_56 ?_
    refine jx_iconst (v := 4) hX d_M_findCriticals_59 (by decide) ?_
    refine jx_iload_n hX d_M_findCriticals_60 1 rfl rfl ?_
    refine jx_imul hX d_M_findCriticals_61 ?_
    obtain ⟨hg5, h⟩ := jx_gd h
    refine al_M2 hX d_M_findCriticals_62 rfl hg5 ?_
    refine jx_i2l hX d_M_findCriticals_63 rfl ?_
    obtain ⟨q64_6, hq64_6, h⟩ := jx_bd h
    refine cs_M_149 hX (c_M_addRoots (jx_l X) G q39_3 0 ((((q39_3.2.1 2) (((4 * z.2) + 1)).toNatClampNeg)).toInt64) ((((q39_3.2.1 2) ((4 * z.2)).toNatClampNeg)).toInt64) q64_6 hq64_6) d_M_findCriticals_64 (by decide) (Nat.le_of_ble_eq_true rfl) ?_
    refine jx_iconst (v := 0) hX d_M_findCriticals_67 (by decide) ?_
    refine jx_istore_n hX d_M_findCriticals_68 rfl (by decide) (L2 := [(2, .int 0), (0, .ref (jx_ad G 18)), (1, .int z.2)]) rfl ?_
    refine jx_sub (L2 := [(0, .ref (jx_ad G 18)), (1, .int z.2), (2, .int 0)]) [1, 2, 0] rfl ?_
    obtain ⟨z69_11, hz, h⟩ := jx_bd h
    refine lt_M_findCriticals_69 hX fin z.2 hz ?_
    refine jx_iinc (v := (z.2 + 1)) hX d_M_findCriticals_105 1 rfl (by first | rfl | decide) (by decide) (L2 := [(1, .int (z.2 + 1)), (0, .ref (jx_ad G 18))]) rfl ?_
    refine jx_goto hX d_M_findCriticals_108 rfl ?_
    refine jx_sub (L2 := [(0, .ref (jx_ad G 18)), (1, .int (z.2 + 1))]) [1, 0] rfl ?_
    obtain rfl := Option.some.inj h
    exact hi _ rfl

set_option maxHeartbeats 4000000 in
set_option maxRecDepth 100000 in
theorem c_M_findCriticals (l : Launch) (G : jx_G) (S : jx_S)  (fin : jx_S) (h : f_M_findCriticals S = some fin) : jx_M l y_M_findCriticals b_M_findCriticals 3 none 6 G [.ref (jx_ad G 18)] (jr_w G S) (none, jr_w G fin) := by
  refine jx_met (own := "PlaneCellsModel") (by decide) rfl (Nat.le_of_ble_eq_true rfl) (fun X hX hl => ?_)
  subst hl
  refine jx_L (L2 := [(0, .ref (jx_ad G 18))]) rfl ?_
  unfold f_M_findCriticals at h
  refine jx_aload_n hX d_M_findCriticals_0 0 rfl rfl ?_
  refine jx_iconst (v := 0) hX d_M_findCriticals_1 (by decide) ?_
  refine pf_M_134 hX d_M_findCriticals_2 ?_
  refine jx_iconst (v := 0) hX d_M_findCriticals_5 (by decide) ?_
  refine jx_istore_n hX d_M_findCriticals_6 rfl (by decide) (L2 := [(1, .int 0), (0, .ref (jx_ad G 18))]) rfl ?_
  refine jx_sub (L2 := [(0, .ref (jx_ad G 18)), (1, .int 0)]) [1, 0] rfl ?_
  obtain ⟨z7_12, hz, h⟩ := jx_bd h
  refine lt_M_findCriticals_7 hX fin  hz ?_
  obtain rfl := Option.some.inj h
  exact jx_vret hX d_M_findCriticals_111

def f_M_compareY (S : jx_S) (a1 : Int32) (a2 : Int32) (a3 : Int32) : Option (Int32) :=
  (f_M_mixed S a2 a3 2).bind fun q6_1 =>
    (f_M_mixed S a2 a3 1).bind fun q13_2 =>
      (f_M_mixed S a2 a3 0).bind fun q20_3 =>
        (f_M_signIn S a1 q6_1 q13_2 q20_3).bind fun q23_4 =>
          if jx_in a2 8 = true then
            if jx_in a3 8 = true then
              some ((q23_4 * ((S.2.1 7) (a2).toNatClampNeg)) * ((S.2.1 7) (a3).toNatClampNeg))
            else none
          else none
set_option maxHeartbeats 4000000 in
set_option maxRecDepth 100000 in
theorem c_M_compareY (l : Launch) (G : jx_G) (S : jx_S) (a1 : Int32) (a2 : Int32) (a3 : Int32) (fin : Int32) (h : f_M_compareY S a1 a2 a3 = some fin) : jx_M l y_M_compareY b_M_compareY 4 (some .int) 5 G [.ref (jx_ad G 18), .int a1, .int a2, .int a3] (jr_w G S) (some (.int fin), jr_w G S) := by
  refine jx_met (own := "PlaneCellsModel") (by decide) rfl (Nat.le_of_ble_eq_true rfl) (fun X hX hl => ?_)
  subst hl
  refine jx_L (L2 := [(0, .ref (jx_ad G 18)), (1, .int a1), (2, .int a2), (3, .int a3)]) rfl ?_
  unfold f_M_compareY at h
  refine jx_aload_n hX d_M_compareY_0 0 rfl rfl ?_
  refine jx_iload_n hX d_M_compareY_1 1 rfl rfl ?_
  refine jx_aload_n hX d_M_compareY_2 0 rfl rfl ?_
  refine jx_iload_n hX d_M_compareY_3 2 rfl rfl ?_
  refine jx_iload_n hX d_M_compareY_4 3 rfl rfl ?_
  refine jx_iconst (v := 2) hX d_M_compareY_5 (by decide) ?_
  obtain ⟨q6_1, hq6_1, h⟩ := jx_bd h
  refine cs_M_153 hX (c_M_mixed (jx_l X) G S a2 a3 2 q6_1 hq6_1) d_M_compareY_6 (by decide) (Nat.le_of_ble_eq_true rfl) ?_
  refine jx_aload_n hX d_M_compareY_9 0 rfl rfl ?_
  refine jx_iload_n hX d_M_compareY_10 2 rfl rfl ?_
  refine jx_iload_n hX d_M_compareY_11 3 rfl rfl ?_
  refine jx_iconst (v := 1) hX d_M_compareY_12 (by decide) ?_
  obtain ⟨q13_2, hq13_2, h⟩ := jx_bd h
  refine cs_M_153 hX (c_M_mixed (jx_l X) G S a2 a3 1 q13_2 hq13_2) d_M_compareY_13 (by decide) (Nat.le_of_ble_eq_true rfl) ?_
  refine jx_aload_n hX d_M_compareY_16 0 rfl rfl ?_
  refine jx_iload_n hX d_M_compareY_17 2 rfl rfl ?_
  refine jx_iload_n hX d_M_compareY_18 3 rfl rfl ?_
  refine jx_iconst (v := 0) hX d_M_compareY_19 (by decide) ?_
  obtain ⟨q20_3, hq20_3, h⟩ := jx_bd h
  refine cs_M_153 hX (c_M_mixed (jx_l X) G S a2 a3 0 q20_3 hq20_3) d_M_compareY_20 (by decide) (Nat.le_of_ble_eq_true rfl) ?_
  obtain ⟨q23_4, hq23_4, h⟩ := jx_bd h
  refine cs_M_157 hX (c_M_signIn (jx_l X) G S a1 q6_1 q13_2 q20_3 q23_4 hq23_4) d_M_compareY_23 (by decide) (Nat.le_of_ble_eq_true rfl) ?_
  refine jx_aload_n hX d_M_compareY_26 0 rfl rfl ?_
  refine gf_M_49 hX d_M_compareY_27 ?_
  refine jx_iload_n hX d_M_compareY_30 2 rfl rfl ?_
  obtain ⟨hg5, h⟩ := jx_gd h
  refine al_M7 hX d_M_compareY_31 rfl hg5 ?_
  refine jx_imul hX d_M_compareY_32 ?_
  refine jx_aload_n hX d_M_compareY_33 0 rfl rfl ?_
  refine gf_M_49 hX d_M_compareY_34 ?_
  refine jx_iload_n hX d_M_compareY_37 3 rfl rfl ?_
  obtain ⟨hg6, h⟩ := jx_gd h
  refine al_M7 hX d_M_compareY_38 rfl hg6 ?_
  refine jx_imul hX d_M_compareY_39 ?_
  obtain rfl := Option.some.inj h
  exact jx_iret hX d_M_compareY_40

def b_M_isFirst_5 (S : jx_S) (x1 : Int32) (x2 : Int32) (z : Int32 × Int32) : Option ((Int32 × Int32) ⊕ (Int32)) :=
  if x2 ≤ z.2 then
    some (.inr z.1)
  else
    if jx_in z.2 8 = true then
      if ((S.2.1 7) (z.2).toNatClampNeg) = 0 then
        some (.inl (z.1, (z.2 + 1)))
      else
        (f_M_compareY S x1 z.2 x2).bind fun q26_2 =>
          if q26_2 = 0 then
            some (.inl (0, (z.2 + 1)))
          else
            some (.inl (z.1, (z.2 + 1)))
    else none

def f_M_isFirst (S : jx_S) (a1 : Int32) (a2 : Int32) : Option (Int32) :=
  (jx_lp (b_M_isFirst_5 S a1 a2) jx_N (1, 0)).bind fun z5_3 =>
    if jx_nb z5_3 = true then some z5_3 else none
set_option maxHeartbeats 4000000 in
set_option maxRecDepth 100000 in
theorem lt_M_isFirst_5 {G : jx_G} {X : jx_C} (hX : jx_Ok G X b_M_isFirst "PlaneCellsModel" (some .boolean) 5 6) (fin : Int32) (S : jx_S) (x1 : Int32) (x2 : Int32) {n : Nat} {z : Int32 × Int32} {r : Int32} (hz : jx_lp (b_M_isFirst_5 S x1 x2) n z = some r) (hk : jx_At G X (some (.int fin), jr_w G S) (jr_w G S) 40 [(0, .ref (jx_ad G 18)), (1, .int x1), (2, .int x2), (3, .int r)] []) : jx_At G X (some (.int fin), jr_w G S) (jr_w G S) 5 [(0, .ref (jx_ad G 18)), (1, .int x1), (2, .int x2), (3, .int z.1), (4, .int z.2)] [] := by
  refine jx_loop1 (b_M_isFirst_5 S x1 x2) (fun z => jx_At G X (some (.int fin), jr_w G S) (jr_w G S) 5 [(0, .ref (jx_ad G 18)), (1, .int x1), (2, .int x2), (3, .int z.1), (4, .int z.2)] []) (fun z => jx_At G X (some (.int fin), jr_w G S) (jr_w G S) 40 [(0, .ref (jx_ad G 18)), (1, .int x1), (2, .int x2), (3, .int z)] []) ?_ n z r hz hk
  intro z o h hi hx
  unfold b_M_isFirst_5 at h
  refine jx_iload hX d_M_isFirst_5 4 rfl ?_
  refine jx_iload_n hX d_M_isFirst_7 2 rfl rfl ?_
  refine jx_icmp_ge hX d_M_isFirst_8 rfl (fun hc => ?_) (fun hc => ?_)
  · have h := jx_ip hc h
    refine jx_sub (L2 := [(0, .ref (jx_ad G 18)), (1, .int x1), (2, .int x2), (3, .int z.1)]) [0, 1, 2, 3] rfl ?_
    obtain rfl := Option.some.inj h
    exact hx _ rfl
  · have h := jx_in_ hc h
    refine jx_aload_n hX d_M_isFirst_11 0 rfl rfl ?_
    refine gf_M_49 hX d_M_isFirst_12 ?_
    refine jx_iload hX d_M_isFirst_15 4 rfl ?_
    obtain ⟨hg1, h⟩ := jx_gd h
    refine al_M7 hX d_M_isFirst_17 rfl hg1 ?_
    refine jx_if_eq hX d_M_isFirst_18 rfl (fun hc => ?_) (fun hc => ?_)
    · have h := jx_ip hc h
      refine jx_iinc (v := (z.2 + 1)) hX d_M_isFirst_34 4 rfl (by first | rfl | decide) (by decide) (L2 := [(4, .int (z.2 + 1)), (0, .ref (jx_ad G 18)), (1, .int x1), (2, .int x2), (3, .int z.1)]) rfl ?_
      refine jx_goto hX d_M_isFirst_37 rfl ?_
      refine jx_sub (L2 := [(0, .ref (jx_ad G 18)), (1, .int x1), (2, .int x2), (3, .int z.1), (4, .int (z.2 + 1))]) [1, 2, 3, 4, 0] rfl ?_
      obtain rfl := Option.some.inj h
      exact hi _ rfl
    · have h := jx_in_ hc h
      refine jx_aload_n hX d_M_isFirst_21 0 rfl rfl ?_
      refine jx_iload_n hX d_M_isFirst_22 1 rfl rfl ?_
      refine jx_iload hX d_M_isFirst_23 4 rfl ?_
      refine jx_iload_n hX d_M_isFirst_25 2 rfl rfl ?_
      obtain ⟨q26_2, hq26_2, h⟩ := jx_bd h
      refine cs_M_163 hX (c_M_compareY (jx_l X) G S x1 z.2 x2 q26_2 hq26_2) d_M_isFirst_26 (by decide) (Nat.le_of_ble_eq_true rfl) ?_
      refine jx_if_ne hX d_M_isFirst_29 rfl (fun hc => ?_) (fun hc => ?_)
      · have h := jx_in_ hc h
        refine jx_iinc (v := (z.2 + 1)) hX d_M_isFirst_34 4 rfl (by first | rfl | decide) (by decide) (L2 := [(4, .int (z.2 + 1)), (0, .ref (jx_ad G 18)), (1, .int x1), (2, .int x2), (3, .int z.1)]) rfl ?_
        refine jx_goto hX d_M_isFirst_37 rfl ?_
        refine jx_sub (L2 := [(0, .ref (jx_ad G 18)), (1, .int x1), (2, .int x2), (3, .int z.1), (4, .int (z.2 + 1))]) [1, 2, 3, 4, 0] rfl ?_
        obtain rfl := Option.some.inj h
        exact hi _ rfl
      · have h := jx_ip hc h
        refine jx_iconst (v := 0) hX d_M_isFirst_32 (by decide) ?_
        refine jx_istore_n hX d_M_isFirst_33 rfl (by decide) (L2 := [(3, .int 0), (0, .ref (jx_ad G 18)), (1, .int x1), (2, .int x2), (4, .int z.2)]) rfl ?_
        refine jx_iinc (v := (z.2 + 1)) hX d_M_isFirst_34 4 rfl (by first | rfl | decide) (by decide) (L2 := [(4, .int (z.2 + 1)), (3, .int 0), (0, .ref (jx_ad G 18)), (1, .int x1), (2, .int x2)]) rfl ?_
        refine jx_goto hX d_M_isFirst_37 rfl ?_
        refine jx_sub (L2 := [(0, .ref (jx_ad G 18)), (1, .int x1), (2, .int x2), (3, .int 0), (4, .int (z.2 + 1))]) [2, 3, 4, 1, 0] rfl ?_
        obtain rfl := Option.some.inj h
        exact hi _ rfl

set_option maxHeartbeats 4000000 in
set_option maxRecDepth 100000 in
theorem c_M_isFirst (l : Launch) (G : jx_G) (S : jx_S) (a1 : Int32) (a2 : Int32) (fin : Int32) (h : f_M_isFirst S a1 a2 = some fin) : jx_M l y_M_isFirst b_M_isFirst 5 (some .boolean) 6 G [.ref (jx_ad G 18), .int a1, .int a2] (jr_w G S) (some (.int fin), jr_w G S) := by
  refine jx_met (own := "PlaneCellsModel") (by decide) rfl (Nat.le_of_ble_eq_true rfl) (fun X hX hl => ?_)
  subst hl
  refine jx_L (L2 := [(0, .ref (jx_ad G 18)), (1, .int a1), (2, .int a2)]) rfl ?_
  unfold f_M_isFirst at h
  refine jx_iconst (v := 1) hX d_M_isFirst_0 (by decide) ?_
  refine jx_istore_n hX d_M_isFirst_1 rfl (by decide) (L2 := [(3, .int 1), (0, .ref (jx_ad G 18)), (1, .int a1), (2, .int a2)]) rfl ?_
  refine jx_iconst (v := 0) hX d_M_isFirst_2 (by decide) ?_
  refine jx_istore hX d_M_isFirst_3 (by decide) (L2 := [(4, .int 0), (3, .int 1), (0, .ref (jx_ad G 18)), (1, .int a1), (2, .int a2)]) rfl ?_
  refine jx_sub (L2 := [(0, .ref (jx_ad G 18)), (1, .int a1), (2, .int a2), (3, .int 1), (4, .int 0)]) [2, 3, 4, 1, 0] rfl ?_
  obtain ⟨z5_3, hz, h⟩ := jx_bd h
  refine lt_M_isFirst_5 hX fin S a1 a2 hz ?_
  refine jx_iload_n hX d_M_isFirst_40 3 rfl rfl ?_
  obtain ⟨hg, h⟩ := jx_gd h
  obtain rfl := Option.some.inj h
  exact jx_zret hX d_M_isFirst_41 (jx_nb_ok hg)

def b_M_look_16 (x1 : Int32) (z : jx_S × Int32) : Option ((jx_S × Int32) ⊕ (jx_S)) :=
  if (z.1.1 5) ≤ z.2 then
    some (.inr z.1)
  else
    if jx_in ((4 * z.2) + 3) 32 = true then
      if jx_in ((4 * z.2) + 2) 32 = true then
        (f_M_signIn z.1 x1 0 ((((z.1.2.1 2) (((4 * z.2) + 3)).toNatClampNeg)).toInt64) ((((z.1.2.1 2) (((4 * z.2) + 2)).toNatClampNeg)).toInt64)).bind fun q54_3 =>
          if jx_in z.2 8 = true then
            some (.inl ((jx_g z.1 7 (upd (z.1.2.1 7) (z.2).toNatClampNeg q54_3)), (z.2 + 1)))
          else none
      else none
    else none

def k_M_look_104_154 (S : jx_S) (x1 : Int32) (x2 : Int32) (x3 : Int32) (x4 : Int32) : Option ((jx_S × Int32 × Int32) ⊕ (jx_S × Int32)) :=
  (f_M_compareY S x1 x2 x4).bind fun q159_9 =>
    if q159_9 ≤ 0 then
      some (.inl (S, x3, (x4 + 1)))
    else
      (f_M_isFirst S x1 x4).bind fun q169_10 =>
        if q169_10 = 0 then
          some (.inl (S, x3, (x4 + 1)))
        else
          if jx_in x2 8 = true then
            some (.inl ((jx_g S 8 (upd (S.2.1 8) (x2).toNatClampNeg (((S.2.1 8) (x2).toNatClampNeg) + 1))), x3, (x4 + 1)))
          else none

def b_M_look_104 (x1 : Int32) (x2 : Int32) (z : jx_S × Int32 × Int32) : Option ((jx_S × Int32 × Int32) ⊕ (jx_S × Int32)) :=
  if (z.1.1 5) ≤ z.2.2 then
    some (.inr (z.1, z.2.1))
  else
    if jx_in x2 8 = true then
      if ((z.1.2.1 7) (x2).toNatClampNeg) = 0 then
        some (.inl (z.1, z.2.1, (z.2.2 + 1)))
      else
        if jx_in z.2.2 8 = true then
          if ((z.1.2.1 7) (z.2.2).toNatClampNeg) = 0 then
            some (.inl (z.1, z.2.1, (z.2.2 + 1)))
          else
            if x2 ≤ z.2.2 then
              k_M_look_104_154 z.1 x1 x2 z.2.1 z.2.2
            else
              (f_M_compareY z.1 x1 x2 z.2.2).bind fun q146_12 =>
                if q146_12 = 0 then
                  k_M_look_104_154 z.1 x1 x2 0 z.2.2
                else
                  k_M_look_104_154 z.1 x1 x2 z.2.1 z.2.2
        else none
    else none

def b_M_look_71 (x1 : Int32) (z : jx_S × Int32) : Option ((jx_S × Int32) ⊕ (jx_S)) :=
  if (z.1.1 5) ≤ z.2 then
    some (.inr z.1)
  else
    if jx_in z.2 8 = true then
      (jx_lp (b_M_look_104 x1 z.2) jx_N ((jx_g z.1 8 (upd (z.1.2.1 8) (z.2).toNatClampNeg 0)), (if ((z.1.2.1 7) (z.2).toNatClampNeg) = 0 then 0 else 1 : Int32), 0)).bind fun z104_13 =>
        some (.inl ((jx_f z104_13.1 10 (if z104_13.2 = 0 then (z104_13.1.1 10) else ((z104_13.1.1 10) + 1) : Int32)), (z.2 + 1)))
    else none

def f_M_look (S : jx_S) (a1 : Int32) : Option (jx_S) :=
  if (S.1 9) = a1 then
    some S
  else
    (jx_lp (b_M_look_16 a1) jx_N ((jx_f S 9 a1), 0)).bind fun z16_5 =>
      (jx_lp (b_M_look_71 a1) jx_N ((jx_f z16_5 10 0), 0)).bind fun z71_16 =>
        some z71_16
set_option maxHeartbeats 4000000 in
set_option maxRecDepth 100000 in
theorem lt_M_look_16 {G : jx_G} {X : jx_C} (hX : jx_Ok G X b_M_look "PlaneCellsModel" none 5 7) (fin : jx_S) (x1 : Int32) {n : Nat} {z : jx_S × Int32} {r : jx_S} (hz : jx_lp (b_M_look_16 x1) n z = some r) (hk : jx_At G X (none, jr_w G fin) (jr_w G r) 64 [(0, .ref (jx_ad G 18)), (1, .int x1)] []) : jx_At G X (none, jr_w G fin) (jr_w G z.1) 16 [(0, .ref (jx_ad G 18)), (1, .int x1), (2, .int z.2)] [] := by
  refine jx_loop1 (b_M_look_16 x1) (fun z => jx_At G X (none, jr_w G fin) (jr_w G z.1) 16 [(0, .ref (jx_ad G 18)), (1, .int x1), (2, .int z.2)] []) (fun z => jx_At G X (none, jr_w G fin) (jr_w G z) 64 [(0, .ref (jx_ad G 18)), (1, .int x1)] []) ?_ n z r hz hk
  intro z o h hi hx
  unfold b_M_look_16 at h
  refine jx_iload_n hX d_M_look_16 2 rfl rfl ?_
  refine jx_aload_n hX d_M_look_17 0 rfl rfl ?_
  refine gf_M_103 hX d_M_look_18 rfl ?_
  refine jx_icmp_ge hX d_M_look_21 rfl (fun hc => ?_) (fun hc => ?_)
  · have h := jx_ip hc h
    refine jx_sub (L2 := [(0, .ref (jx_ad G 18)), (1, .int x1)]) [0, 1] rfl ?_
    obtain rfl := Option.some.inj h
    exact hx _ rfl
  · have h := jx_in_ hc h
    refine jx_aload_n hX d_M_look_24 0 rfl rfl ?_
    refine gf_M_49 hX d_M_look_25 ?_
    refine jx_iload_n hX d_M_look_28 2 rfl rfl ?_
    refine jx_aload_n hX d_M_look_29 0 rfl rfl ?_
    refine jx_iload_n hX d_M_look_30 1 rfl rfl ?_
    refine jx_lconst (v := 0) hX d_M_look_31 (by decide) ?_
    refine jx_aload_n hX d_M_look_32 0 rfl rfl ?_
    refine gf_M_20 hX d_M_look_33 ?_
    refine jx_iconst (v := 4) hX d_M_look_36 (by decide) ?_
    refine jx_iload_n hX d_M_look_37 2 rfl rfl ?_
    refine jx_imul hX d_M_look_38 ?_
    refine jx_iconst (v := 3) hX d_M_look_39 (by decide) ?_
    refine jx_iadd hX d_M_look_40 ?_
    obtain ⟨hg1, h⟩ := jx_gd h
    refine al_M2 hX d_M_look_41 rfl hg1 ?_
    refine jx_i2l hX d_M_look_42 rfl ?_
    refine jx_aload_n hX d_M_look_43 0 rfl rfl ?_
    refine gf_M_20 hX d_M_look_44 ?_
    refine jx_iconst (v := 4) hX d_M_look_47 (by decide) ?_
    refine jx_iload_n hX d_M_look_48 2 rfl rfl ?_
    refine jx_imul hX d_M_look_49 ?_
    refine jx_iconst (v := 2) hX d_M_look_50 (by decide) ?_
    refine jx_iadd hX d_M_look_51 ?_
    obtain ⟨hg2, h⟩ := jx_gd h
    refine al_M2 hX d_M_look_52 rfl hg2 ?_
    refine jx_i2l hX d_M_look_53 rfl ?_
    obtain ⟨q54_3, hq54_3, h⟩ := jx_bd h
    refine cs_M_157 hX (c_M_signIn (jx_l X) G z.1 x1 0 ((((z.1.2.1 2) (((4 * z.2) + 3)).toNatClampNeg)).toInt64) ((((z.1.2.1 2) (((4 * z.2) + 2)).toNatClampNeg)).toInt64) q54_3 hq54_3) d_M_look_54 (by decide) (Nat.le_of_ble_eq_true rfl) ?_
    obtain ⟨hg4, h⟩ := jx_gd h
    refine as_M7 hX d_M_look_57 rfl hg4 ?_
    refine jx_iinc (v := (z.2 + 1)) hX d_M_look_58 2 rfl (by first | rfl | decide) (by decide) (L2 := [(2, .int (z.2 + 1)), (0, .ref (jx_ad G 18)), (1, .int x1)]) rfl ?_
    refine jx_goto hX d_M_look_61 rfl ?_
    refine jx_sub (L2 := [(0, .ref (jx_ad G 18)), (1, .int x1), (2, .int (z.2 + 1))]) [1, 2, 0] rfl ?_
    obtain rfl := Option.some.inj h
    exact hi _ rfl

set_option maxHeartbeats 4000000 in
set_option maxRecDepth 100000 in
theorem kt_M_look_104_154 {G : jx_G} {X : jx_C} (hX : jx_Ok G X b_M_look "PlaneCellsModel" none 5 7) (fin : jx_S) (S : jx_S) (x1 : Int32) (x2 : Int32) (x3 : Int32) (x4 : Int32) {o : (jx_S × Int32 × Int32) ⊕ (jx_S × Int32)} (h : k_M_look_104_154 S x1 x2 x3 x4 = some o) (hi : ∀ z, o = .inl z → jx_At G X (none, jr_w G fin) (jr_w G z.1) 104 [(0, .ref (jx_ad G 18)), (1, .int x1), (2, .int x2), (3, .int z.2.1), (4, .int z.2.2)] []) (hx : ∀ u, o = .inr u → jx_At G X (none, jr_w G fin) (jr_w G u.1) 191 [(0, .ref (jx_ad G 18)), (1, .int x1), (2, .int x2), (3, .int u.2)] []) : jx_At G X (none, jr_w G fin) (jr_w G S) 154 [(0, .ref (jx_ad G 18)), (1, .int x1), (2, .int x2), (3, .int x3), (4, .int x4)] [] := by
  unfold k_M_look_104_154 at h
  refine jx_aload_n hX d_M_look_154 0 rfl rfl ?_
  refine jx_iload_n hX d_M_look_155 1 rfl rfl ?_
  refine jx_iload_n hX d_M_look_156 2 rfl rfl ?_
  refine jx_iload hX d_M_look_157 4 rfl ?_
  obtain ⟨q159_9, hq159_9, h⟩ := jx_bd h
  refine cs_M_163 hX (c_M_compareY (jx_l X) G S x1 x2 x4 q159_9 hq159_9) d_M_look_159 (by decide) (Nat.le_of_ble_eq_true rfl) ?_
  refine jx_if_le hX d_M_look_162 rfl (fun hc => ?_) (fun hc => ?_)
  · have h := jx_ip hc h
    refine jx_iinc (v := (x4 + 1)) hX d_M_look_185 4 rfl (by first | rfl | decide) (by decide) (L2 := [(4, .int (x4 + 1)), (0, .ref (jx_ad G 18)), (1, .int x1), (2, .int x2), (3, .int x3)]) rfl ?_
    refine jx_goto hX d_M_look_188 rfl ?_
    refine jx_sub (L2 := [(0, .ref (jx_ad G 18)), (1, .int x1), (2, .int x2), (3, .int x3), (4, .int (x4 + 1))]) [1, 2, 3, 4, 0] rfl ?_
    obtain rfl := Option.some.inj h
    exact hi _ rfl
  · have h := jx_in_ hc h
    refine jx_aload_n hX d_M_look_165 0 rfl rfl ?_
    refine jx_iload_n hX d_M_look_166 1 rfl rfl ?_
    refine jx_iload hX d_M_look_167 4 rfl ?_
    obtain ⟨q169_10, hq169_10, h⟩ := jx_bd h
    refine cs_M_166 hX (c_M_isFirst (jx_l X) G S x1 x4 q169_10 hq169_10) d_M_look_169 (by decide) (Nat.le_of_ble_eq_true rfl) ?_
    refine jx_if_eq hX d_M_look_172 rfl (fun hc => ?_) (fun hc => ?_)
    · have h := jx_ip hc h
      refine jx_iinc (v := (x4 + 1)) hX d_M_look_185 4 rfl (by first | rfl | decide) (by decide) (L2 := [(4, .int (x4 + 1)), (0, .ref (jx_ad G 18)), (1, .int x1), (2, .int x2), (3, .int x3)]) rfl ?_
      refine jx_goto hX d_M_look_188 rfl ?_
      refine jx_sub (L2 := [(0, .ref (jx_ad G 18)), (1, .int x1), (2, .int x2), (3, .int x3), (4, .int (x4 + 1))]) [1, 2, 3, 4, 0] rfl ?_
      obtain rfl := Option.some.inj h
      exact hi _ rfl
    · have h := jx_in_ hc h
      refine jx_aload_n hX d_M_look_175 0 rfl rfl ?_
      refine gf_M_52 hX d_M_look_176 ?_
      refine jx_iload_n hX d_M_look_179 2 rfl rfl ?_
      refine jx_dup2 hX d_M_look_180 rfl rfl ?_
      obtain ⟨hg11, h⟩ := jx_gd h
      refine al_M8 hX d_M_look_181 rfl hg11 ?_
      refine jx_iconst (v := 1) hX d_M_look_182 (by decide) ?_
      refine jx_iadd hX d_M_look_183 ?_
      refine as_M8 hX d_M_look_184 rfl hg11 ?_
      refine jx_iinc (v := (x4 + 1)) hX d_M_look_185 4 rfl (by first | rfl | decide) (by decide) (L2 := [(4, .int (x4 + 1)), (0, .ref (jx_ad G 18)), (1, .int x1), (2, .int x2), (3, .int x3)]) rfl ?_
      refine jx_goto hX d_M_look_188 rfl ?_
      refine jx_sub (L2 := [(0, .ref (jx_ad G 18)), (1, .int x1), (2, .int x2), (3, .int x3), (4, .int (x4 + 1))]) [1, 2, 3, 4, 0] rfl ?_
      obtain rfl := Option.some.inj h
      exact hi _ rfl

set_option maxHeartbeats 4000000 in
set_option maxRecDepth 100000 in
theorem lt_M_look_104 {G : jx_G} {X : jx_C} (hX : jx_Ok G X b_M_look "PlaneCellsModel" none 5 7) (fin : jx_S) (x1 : Int32) (x2 : Int32) {n : Nat} {z : jx_S × Int32 × Int32} {r : jx_S × Int32} (hz : jx_lp (b_M_look_104 x1 x2) n z = some r) (hk : jx_At G X (none, jr_w G fin) (jr_w G r.1) 191 [(0, .ref (jx_ad G 18)), (1, .int x1), (2, .int x2), (3, .int r.2)] []) : jx_At G X (none, jr_w G fin) (jr_w G z.1) 104 [(0, .ref (jx_ad G 18)), (1, .int x1), (2, .int x2), (3, .int z.2.1), (4, .int z.2.2)] [] := by
  refine jx_loop1 (b_M_look_104 x1 x2) (fun z => jx_At G X (none, jr_w G fin) (jr_w G z.1) 104 [(0, .ref (jx_ad G 18)), (1, .int x1), (2, .int x2), (3, .int z.2.1), (4, .int z.2.2)] []) (fun z => jx_At G X (none, jr_w G fin) (jr_w G z.1) 191 [(0, .ref (jx_ad G 18)), (1, .int x1), (2, .int x2), (3, .int z.2)] []) ?_ n z r hz hk
  intro z o h hi hx
  unfold b_M_look_104 at h
  refine jx_iload hX d_M_look_104 4 rfl ?_
  refine jx_aload_n hX d_M_look_106 0 rfl rfl ?_
  refine gf_M_103 hX d_M_look_107 rfl ?_
  refine jx_icmp_ge hX d_M_look_110 rfl (fun hc => ?_) (fun hc => ?_)
  · have h := jx_ip hc h
    refine jx_sub (L2 := [(0, .ref (jx_ad G 18)), (1, .int x1), (2, .int x2), (3, .int z.2.1)]) [0, 1, 2, 3] rfl ?_
    obtain rfl := Option.some.inj h
    exact hx _ rfl
  · have h := jx_in_ hc h
    refine jx_aload_n hX d_M_look_113 0 rfl rfl ?_
    refine gf_M_49 hX d_M_look_114 ?_
    refine jx_iload_n hX d_M_look_117 2 rfl rfl ?_
    obtain ⟨hg7, h⟩ := jx_gd h
    refine al_M7 hX d_M_look_118 rfl hg7 ?_
    refine jx_if_eq hX d_M_look_119 rfl (fun hc => ?_) (fun hc => ?_)
    · have h := jx_ip hc h
      refine jx_iinc (v := (z.2.2 + 1)) hX d_M_look_185 4 rfl (by first | rfl | decide) (by decide) (L2 := [(4, .int (z.2.2 + 1)), (0, .ref (jx_ad G 18)), (1, .int x1), (2, .int x2), (3, .int z.2.1)]) rfl ?_
      refine jx_goto hX d_M_look_188 rfl ?_
      refine jx_sub (L2 := [(0, .ref (jx_ad G 18)), (1, .int x1), (2, .int x2), (3, .int z.2.1), (4, .int (z.2.2 + 1))]) [1, 2, 3, 4, 0] rfl ?_
      obtain rfl := Option.some.inj h
      exact hi _ rfl
    · have h := jx_in_ hc h
      refine jx_aload_n hX d_M_look_122 0 rfl rfl ?_
      refine gf_M_49 hX d_M_look_123 ?_
      refine jx_iload hX d_M_look_126 4 rfl ?_
      obtain ⟨hg8, h⟩ := jx_gd h
      refine al_M7 hX d_M_look_128 rfl hg8 ?_
      refine jx_if_ne hX d_M_look_129 rfl (fun hc => ?_) (fun hc => ?_)
      · have h := jx_in_ hc h
        refine jx_iload hX d_M_look_135 4 rfl ?_
        refine jx_iload_n hX d_M_look_137 2 rfl rfl ?_
        refine jx_icmp_ge hX d_M_look_138 rfl (fun hc => ?_) (fun hc => ?_)
        · have h := jx_ip hc h
          exact kt_M_look_104_154 hX fin z.1 x1 x2 z.2.1 z.2.2 h hi hx
        · have h := jx_in_ hc h
          refine jx_aload_n hX d_M_look_141 0 rfl rfl ?_
          refine jx_iload_n hX d_M_look_142 1 rfl rfl ?_
          refine jx_iload_n hX d_M_look_143 2 rfl rfl ?_
          refine jx_iload hX d_M_look_144 4 rfl ?_
          obtain ⟨q146_12, hq146_12, h⟩ := jx_bd h
          refine cs_M_163 hX (c_M_compareY (jx_l X) G z.1 x1 x2 z.2.2 q146_12 hq146_12) d_M_look_146 (by decide) (Nat.le_of_ble_eq_true rfl) ?_
          refine jx_if_ne hX d_M_look_149 rfl (fun hc => ?_) (fun hc => ?_)
          · have h := jx_in_ hc h
            exact kt_M_look_104_154 hX fin z.1 x1 x2 z.2.1 z.2.2 h hi hx
          · have h := jx_ip hc h
            refine jx_iconst (v := 0) hX d_M_look_152 (by decide) ?_
            refine jx_istore_n hX d_M_look_153 rfl (by decide) (L2 := [(3, .int 0), (0, .ref (jx_ad G 18)), (1, .int x1), (2, .int x2), (4, .int z.2.2)]) rfl ?_
            refine jx_sub (L2 := [(0, .ref (jx_ad G 18)), (1, .int x1), (2, .int x2), (3, .int 0), (4, .int z.2.2)]) [1, 2, 3, 0, 4] rfl ?_
            exact kt_M_look_104_154 hX fin z.1 x1 x2 0 z.2.2 h hi hx
      · have h := jx_ip hc h
        refine jx_goto hX d_M_look_132 rfl ?_
        refine jx_iinc (v := (z.2.2 + 1)) hX d_M_look_185 4 rfl (by first | rfl | decide) (by decide) (L2 := [(4, .int (z.2.2 + 1)), (0, .ref (jx_ad G 18)), (1, .int x1), (2, .int x2), (3, .int z.2.1)]) rfl ?_
        refine jx_goto hX d_M_look_188 rfl ?_
        refine jx_sub (L2 := [(0, .ref (jx_ad G 18)), (1, .int x1), (2, .int x2), (3, .int z.2.1), (4, .int (z.2.2 + 1))]) [1, 2, 3, 4, 0] rfl ?_
        obtain rfl := Option.some.inj h
        exact hi _ rfl

set_option maxHeartbeats 4000000 in
set_option maxRecDepth 100000 in
theorem lt_M_look_71 {G : jx_G} {X : jx_C} (hX : jx_Ok G X b_M_look "PlaneCellsModel" none 5 7) (fin : jx_S) (x1 : Int32) {n : Nat} {z : jx_S × Int32} {r : jx_S} (hz : jx_lp (b_M_look_71 x1) n z = some r) (hk : jx_At G X (none, jr_w G fin) (jr_w G r) 218 [(0, .ref (jx_ad G 18)), (1, .int x1)] []) : jx_At G X (none, jr_w G fin) (jr_w G z.1) 71 [(0, .ref (jx_ad G 18)), (1, .int x1), (2, .int z.2)] [] := by
  refine jx_loop1 (b_M_look_71 x1) (fun z => jx_At G X (none, jr_w G fin) (jr_w G z.1) 71 [(0, .ref (jx_ad G 18)), (1, .int x1), (2, .int z.2)] []) (fun z => jx_At G X (none, jr_w G fin) (jr_w G z) 218 [(0, .ref (jx_ad G 18)), (1, .int x1)] []) ?_ n z r hz hk
  intro z o h hi hx
  unfold b_M_look_71 at h
  refine jx_iload_n hX d_M_look_71 2 rfl rfl ?_
  refine jx_aload_n hX d_M_look_72 0 rfl rfl ?_
  refine gf_M_103 hX d_M_look_73 rfl ?_
  refine jx_icmp_ge hX d_M_look_76 rfl (fun hc => ?_) (fun hc => ?_)
  · have h := jx_ip hc h
    refine jx_sub (L2 := [(0, .ref (jx_ad G 18)), (1, .int x1)]) [0, 1] rfl ?_
    obtain rfl := Option.some.inj h
    exact hx _ rfl
  · have h := jx_in_ hc h
    refine jx_aload_n hX d_M_look_79 0 rfl rfl ?_
    refine gf_M_49 hX d_M_look_80 ?_
    refine jx_iload_n hX d_M_look_83 2 rfl rfl ?_
    obtain ⟨hg6, h⟩ := jx_gd h
    refine al_M7 hX d_M_look_84 rfl hg6 ?_
    have hj : ∀ v : Int32, v = (if ((z.1.2.1 7) (z.2).toNatClampNeg) = 0 then 0 else 1 : Int32) → jx_At G X (none, jr_w G fin) (jr_w G z.1) 93 [(0, .ref (jx_ad G 18)), (1, .int x1), (2, .int z.2)] [.int v] := by
      intro v hv
      subst hv
      refine jx_istore_n hX d_M_look_93 rfl (by decide) (L2 := [(3, .int (if ((z.1.2.1 7) (z.2).toNatClampNeg) = 0 then 0 else 1 : Int32)), (0, .ref (jx_ad G 18)), (1, .int x1), (2, .int z.2)]) rfl ?_
      refine jx_aload_n hX d_M_look_94 1 rfl rfl ?_
      refine gf_M_52 hX d_M_look_95 ?_
      refine jx_iload_n hX d_M_look_98 3 rfl rfl ?_
      refine jx_iconst (v := 0) hX d_M_look_99 (by decide) ?_
      refine as_M8 hX d_M_look_100 rfl hg6 ?_
      refine jx_iconst (v := 0) hX d_M_look_101 (by decide) ?_
      refine jx_istore hX d_M_look_102 (by decide) (L2 := [(4, .int 0), (3, .int (if ((z.1.2.1 7) (z.2).toNatClampNeg) = 0 then 0 else 1 : Int32)), (0, .ref (jx_ad G 18)), (1, .int x1), (2, .int z.2)]) rfl ?_
      refine jx_sub (L2 := [(0, .ref (jx_ad G 18)), (1, .int x1), (2, .int z.2), (3, .int (if ((z.1.2.1 7) (z.2).toNatClampNeg) = 0 then 0 else 1 : Int32)), (4, .int 0)]) [2, 3, 4, 1, 0] rfl ?_
      obtain ⟨z104_13, hz, h⟩ := jx_bd h
      refine lt_M_look_104 hX fin x1 z.2 hz ?_
      refine jx_aload_n hX d_M_look_191 0 rfl rfl ?_
      refine jx_iload_n hX d_M_look_192 3 rfl rfl ?_
      have hj : ∀ v : Int32, v = (if z104_13.2 = 0 then (z104_13.1.1 10) else ((z104_13.1.1 10) + 1) : Int32) → jx_At G X (none, jr_w G fin) (jr_w G z104_13.1) 209 [(0, .ref (jx_ad G 18)), (1, .int x1), (2, .int z.2), (3, .int z104_13.2)] [.int v, .ref (jx_ad G 18)] := by
        intro v hv
        subst hv
        refine pf_M_160 hX d_M_look_209 ?_
        refine jx_iinc (v := (z.2 + 1)) hX d_M_look_212 2 rfl (by first | rfl | decide) (by decide) (L2 := [(2, .int (z.2 + 1)), (0, .ref (jx_ad G 18)), (1, .int x1), (3, .int z104_13.2)]) rfl ?_
        refine jx_goto hX d_M_look_215 rfl ?_
        refine jx_sub (L2 := [(0, .ref (jx_ad G 18)), (1, .int x1), (2, .int (z.2 + 1))]) [1, 2, 0] rfl ?_
        obtain rfl := Option.some.inj h
        exact hi _ rfl
      refine jx_if_eq hX d_M_look_193 rfl (fun hc14 => ?_) (fun hc14 => ?_)
      · refine jx_aload_n hX d_M_look_205 0 rfl rfl ?_
        refine gf_M_160 hX d_M_look_206 rfl ?_
        exact hj _ (if_pos hc14).symm
      · refine jx_aload_n hX d_M_look_196 0 rfl rfl ?_
        refine gf_M_160 hX d_M_look_197 rfl ?_
        refine jx_iconst (v := 1) hX d_M_look_200 (by decide) ?_
        refine jx_iadd hX d_M_look_201 ?_
        refine jx_goto hX d_M_look_202 rfl ?_
        exact hj _ (if_neg hc14).symm
    refine jx_if_eq hX d_M_look_85 rfl (fun hc15 => ?_) (fun hc15 => ?_)
    · refine jx_iconst (v := 0) hX d_M_look_92 (by decide) ?_
      exact hj _ (if_pos hc15).symm
    · refine jx_iconst (v := 1) hX d_M_look_88 (by decide) ?_
      refine jx_goto hX d_M_look_89 rfl ?_
      exact hj _ (if_neg hc15).symm

set_option maxHeartbeats 4000000 in
set_option maxRecDepth 100000 in
theorem c_M_look (l : Launch) (G : jx_G) (S : jx_S) (a1 : Int32) (fin : jx_S) (h : f_M_look S a1 = some fin) : jx_M l y_M_look b_M_look 5 none 7 G [.ref (jx_ad G 18), .int a1] (jr_w G S) (none, jr_w G fin) := by
  refine jx_met (own := "PlaneCellsModel") (by decide) rfl (Nat.le_of_ble_eq_true rfl) (fun X hX hl => ?_)
  subst hl
  refine jx_L (L2 := [(0, .ref (jx_ad G 18)), (1, .int a1)]) rfl ?_
  unfold f_M_look at h
  refine jx_aload_n hX d_M_look_0 0 rfl rfl ?_
  refine gf_M_46 hX d_M_look_1 rfl ?_
  refine jx_iload_n hX d_M_look_4 1 rfl rfl ?_
  refine jx_icmp_ne hX d_M_look_5 rfl (fun hc => ?_) (fun hc => ?_)
  · have h := jx_in_ hc h
    refine jx_aload_n hX d_M_look_9 0 rfl rfl ?_
    refine jx_iload_n hX d_M_look_10 1 rfl rfl ?_
    refine pf_M_46 hX d_M_look_11 ?_
    refine jx_iconst (v := 0) hX d_M_look_14 (by decide) ?_
    refine jx_istore_n hX d_M_look_15 rfl (by decide) (L2 := [(2, .int 0), (0, .ref (jx_ad G 18)), (1, .int a1)]) rfl ?_
    refine jx_sub (L2 := [(0, .ref (jx_ad G 18)), (1, .int a1), (2, .int 0)]) [1, 2, 0] rfl ?_
    obtain ⟨z16_5, hz, h⟩ := jx_bd h
    refine lt_M_look_16 hX fin a1 hz ?_
    refine jx_aload_n hX d_M_look_64 0 rfl rfl ?_
    refine jx_iconst (v := 0) hX d_M_look_65 (by decide) ?_
    refine pf_M_160 hX d_M_look_66 ?_
    refine jx_iconst (v := 0) hX d_M_look_69 (by decide) ?_
    refine jx_istore_n hX d_M_look_70 rfl (by decide) (L2 := [(2, .int 0), (0, .ref (jx_ad G 18)), (1, .int a1)]) rfl ?_
    refine jx_sub (L2 := [(0, .ref (jx_ad G 18)), (1, .int a1), (2, .int 0)]) [1, 2, 0] rfl ?_
    obtain ⟨z71_16, hz, h⟩ := jx_bd h
    refine lt_M_look_71 hX fin a1 hz ?_
    obtain rfl := Option.some.inj h
    exact jx_vret hX d_M_look_218
  · have h := jx_ip hc h
    obtain rfl := Option.some.inj h
    exact jx_vret hX d_M_look_8

def f_M_signOfCell (S : jx_S) (a1 : Int32) (a2 : Int32) (a3 : Int32) : Option (Int32 × jx_S) :=
  (f_M_look S a1).bind fun q2_1 =>
    if jx_in a3 8 = true then
      if ((q2_1.2.1 7) (a3).toNatClampNeg) = 0 then
        if jx_in ((4 * a3) + 1) 32 = true then
          if jx_in (4 * a3) 32 = true then
            (f_M_signIn q2_1 a1 0 ((((q2_1.2.1 2) (((4 * a3) + 1)).toNatClampNeg)).toInt64) ((((q2_1.2.1 2) ((4 * a3)).toNatClampNeg)).toInt64)).bind fun q37_5 =>
              some (q37_5, q2_1)
          else none
        else none
      else
        if a2 = ((2 * ((q2_1.2.1 8) (a3).toNatClampNeg)) + 1) then
          some (0, q2_1)
        else
          if a2 ≤ ((2 * ((q2_1.2.1 8) (a3).toNatClampNeg)) + 1) then
            some ((-((q2_1.2.1 7) (a3).toNatClampNeg)), q2_1)
          else
            some (((q2_1.2.1 7) (a3).toNatClampNeg), q2_1)
    else none
set_option maxHeartbeats 4000000 in
set_option maxRecDepth 100000 in
theorem c_M_signOfCell (l : Launch) (G : jx_G) (S : jx_S) (a1 : Int32) (a2 : Int32) (a3 : Int32) (fin : Int32 × jx_S) (h : f_M_signOfCell S a1 a2 a3 = some fin) : jx_M l y_M_signOfCell b_M_signOfCell 5 (some .int) 8 G [.ref (jx_ad G 18), .int a1, .int a2, .int a3] (jr_w G S) (some (.int fin.1), jr_w G fin.2) := by
  refine jx_met (own := "PlaneCellsModel") (by decide) rfl (Nat.le_of_ble_eq_true rfl) (fun X hX hl => ?_)
  subst hl
  refine jx_L (L2 := [(0, .ref (jx_ad G 18)), (1, .int a1), (2, .int a2), (3, .int a3)]) rfl ?_
  unfold f_M_signOfCell at h
  refine jx_aload_n hX d_M_signOfCell_0 0 rfl rfl ?_
  refine jx_iload_n hX d_M_signOfCell_1 1 rfl rfl ?_
  obtain ⟨q2_1, hq2_1, h⟩ := jx_bd h
  refine cs_M_169 hX (c_M_look (jx_l X) G S a1 q2_1 hq2_1) d_M_signOfCell_2 (by decide) (Nat.le_of_ble_eq_true rfl) ?_
  refine jx_aload_n hX d_M_signOfCell_5 0 rfl rfl ?_
  refine gf_M_49 hX d_M_signOfCell_6 ?_
  refine jx_iload_n hX d_M_signOfCell_9 3 rfl rfl ?_
  obtain ⟨hg2, h⟩ := jx_gd h
  refine al_M7 hX d_M_signOfCell_10 rfl hg2 ?_
  refine jx_if_ne hX d_M_signOfCell_11 rfl (fun hc => ?_) (fun hc => ?_)
  · have h := jx_in_ hc h
    refine jx_iconst (v := 2) hX d_M_signOfCell_41 (by decide) ?_
    refine jx_aload_n hX d_M_signOfCell_42 0 rfl rfl ?_
    refine gf_M_52 hX d_M_signOfCell_43 ?_
    refine jx_iload_n hX d_M_signOfCell_46 3 rfl rfl ?_
    refine al_M8 hX d_M_signOfCell_47 rfl hg2 ?_
    refine jx_imul hX d_M_signOfCell_48 ?_
    refine jx_iconst (v := 1) hX d_M_signOfCell_49 (by decide) ?_
    refine jx_iadd hX d_M_signOfCell_50 ?_
    refine jx_istore hX d_M_signOfCell_51 (by decide) (L2 := [(4, .int ((2 * ((q2_1.2.1 8) (a3).toNatClampNeg)) + 1)), (0, .ref (jx_ad G 18)), (1, .int a1), (2, .int a2), (3, .int a3)]) rfl ?_
    refine jx_iload_n hX d_M_signOfCell_53 3 rfl rfl ?_
    refine jx_iload hX d_M_signOfCell_54 0 rfl ?_
    refine jx_icmp_ne hX d_M_signOfCell_56 rfl (fun hc => ?_) (fun hc => ?_)
    · have h := jx_in_ hc h
      refine jx_iload_n hX d_M_signOfCell_63 3 rfl rfl ?_
      refine jx_iload hX d_M_signOfCell_64 0 rfl ?_
      refine jx_icmp_le hX d_M_signOfCell_66 rfl (fun hc => ?_) (fun hc => ?_)
      · have h := jx_ip hc h
        refine jx_aload_n hX d_M_signOfCell_78 1 rfl rfl ?_
        refine gf_M_49 hX d_M_signOfCell_79 ?_
        refine jx_iload_n hX d_M_signOfCell_82 4 rfl rfl ?_
        refine al_M7 hX d_M_signOfCell_83 rfl hg2 ?_
        refine jx_ineg hX d_M_signOfCell_84 ?_
        obtain rfl := Option.some.inj h
        exact jx_iret hX d_M_signOfCell_85
      · have h := jx_in_ hc h
        refine jx_aload_n hX d_M_signOfCell_69 1 rfl rfl ?_
        refine gf_M_49 hX d_M_signOfCell_70 ?_
        refine jx_iload_n hX d_M_signOfCell_73 4 rfl rfl ?_
        refine al_M7 hX d_M_signOfCell_74 rfl hg2 ?_
        refine jx_goto hX d_M_signOfCell_75 rfl ?_
        obtain rfl := Option.some.inj h
        exact jx_iret hX d_M_signOfCell_85
    · have h := jx_ip hc h
      refine jx_iconst (v := 0) hX d_M_signOfCell_59 (by decide) ?_
      refine jx_goto hX d_M_signOfCell_60 rfl ?_
      obtain rfl := Option.some.inj h
      exact jx_iret hX d_M_signOfCell_85
  · have h := jx_ip hc h
    refine jx_aload_n hX d_M_signOfCell_14 0 rfl rfl ?_
    refine jx_iload_n hX d_M_signOfCell_15 1 rfl rfl ?_
    refine jx_lconst (v := 0) hX d_M_signOfCell_16 (by decide) ?_
    refine jx_aload_n hX d_M_signOfCell_17 0 rfl rfl ?_
    refine gf_M_20 hX d_M_signOfCell_18 ?_
    refine jx_iconst (v := 4) hX d_M_signOfCell_21 (by decide) ?_
    refine jx_iload_n hX d_M_signOfCell_22 3 rfl rfl ?_
    refine jx_imul hX d_M_signOfCell_23 ?_
    refine jx_iconst (v := 1) hX d_M_signOfCell_24 (by decide) ?_
    refine jx_iadd hX d_M_signOfCell_25 ?_
    obtain ⟨hg3, h⟩ := jx_gd h
    refine al_M2 hX d_M_signOfCell_26 rfl hg3 ?_
    refine jx_i2l hX d_M_signOfCell_27 rfl ?_
    refine jx_aload_n hX d_M_signOfCell_28 0 rfl rfl ?_
    refine gf_M_20 hX d_M_signOfCell_29 ?_
    refine jx_iconst (v := 4) hX d_M_signOfCell_32 (by decide) ?_
    refine jx_iload_n hX d_M_signOfCell_33 3 rfl rfl ?_
    refine jx_imul hX d_M_signOfCell_34 ?_
    obtain ⟨hg4, h⟩ := jx_gd h
    refine al_M2 hX d_M_signOfCell_35 rfl hg4 ?_
    refine jx_i2l hX d_M_signOfCell_36 rfl ?_
    obtain ⟨q37_5, hq37_5, h⟩ := jx_bd h
    refine cs_M_157 hX (c_M_signIn (jx_l X) G q2_1 a1 0 ((((q2_1.2.1 2) (((4 * a3) + 1)).toNatClampNeg)).toInt64) ((((q2_1.2.1 2) ((4 * a3)).toNatClampNeg)).toInt64) q37_5 hq37_5) d_M_signOfCell_37 (by decide) (Nat.le_of_ble_eq_true rfl) ?_
    obtain rfl := Option.some.inj h
    exact jx_iret hX d_M_signOfCell_40

def b_M_formulaIn_5 (x1 : Int32) (x2 : Int32) (z : jx_S × Int32 × Int32) : Option ((jx_S × Int32 × Int32) ⊕ (jx_S × Int32)) :=
  if (z.1.1 6) ≤ z.2.2 then
    some (.inr (z.1, z.2.1))
  else
    if jx_in z.2.2 90 = true then
      if ((z.1.2.1 3) (z.2.2).toNatClampNeg) = 12 then
        if jx_in (z.2.1 - 1) 90 = true then
          some (.inl ((jx_g z.1 5 (upd (z.1.2.1 5) ((z.2.1 - 1)).toNatClampNeg (vp_nar .boolean (if ((z.1.2.1 5) ((z.2.1 - 1)).toNatClampNeg) = 0 then 1 else 0 : Int32)))), z.2.1, (z.2.2 + 1)))
        else none
      else
        if ((z.1.2.1 3) (z.2.2).toNatClampNeg) < 10 then
          (f_M_signOfCell z.1 x1 x2 ((z.1.2.1 3) (z.2.2).toNatClampNeg)).bind fun q143_2 =>
            if jx_in ((z.1.2.1 3) (z.2.2).toNatClampNeg) 8 = true then
              if ((q143_2.2.2.1 9) (((z.1.2.1 3) (z.2.2).toNatClampNeg)).toNatClampNeg) = 60 then
                if jx_in z.2.1 90 = true then
                  some (.inl ((jx_g q143_2.2 5 (upd (q143_2.2.2.1 5) (z.2.1).toNatClampNeg (vp_nar .boolean (if 0 ≤ q143_2.1 then 0 else 1 : Int32)))), (z.2.1 + 1), (z.2.2 + 1)))
                else none
              else
                if jx_in z.2.1 90 = true then
                  some (.inl ((jx_g q143_2.2 5 (upd (q143_2.2.2.1 5) (z.2.1).toNatClampNeg (vp_nar .boolean (if ((q143_2.2.2.1 9) (((z.1.2.1 3) (z.2.2).toNatClampNeg)).toNatClampNeg) = 61 then (if q143_2.1 = 0 then 1 else 0 : Int32) else (if q143_2.1 ≤ 0 then 0 else 1 : Int32) : Int32)))), (z.2.1 + 1), (z.2.2 + 1)))
                else none
            else none
        else
          if ((z.1.2.1 3) (z.2.2).toNatClampNeg) = 10 then
            if jx_in ((z.2.1 + (-1)) - 1) 90 = true then
              if ((z.1.2.1 5) (((z.2.1 + (-1)) - 1)).toNatClampNeg) = 0 then
                some (.inl ((jx_g z.1 5 (upd (z.1.2.1 5) (((z.2.1 + (-1)) - 1)).toNatClampNeg (vp_nar .boolean 0))), (z.2.1 + (-1)), (z.2.2 + 1)))
              else
                if jx_in (z.2.1 + (-1)) 90 = true then
                  some (.inl ((jx_g z.1 5 (upd (z.1.2.1 5) (((z.2.1 + (-1)) - 1)).toNatClampNeg (vp_nar .boolean (if ((z.1.2.1 5) ((z.2.1 + (-1))).toNatClampNeg) = 0 then 0 else 1 : Int32)))), (z.2.1 + (-1)), (z.2.2 + 1)))
                else none
            else none
          else
            if jx_in ((z.2.1 + (-1)) - 1) 90 = true then
              if ((z.1.2.1 5) (((z.2.1 + (-1)) - 1)).toNatClampNeg) = 0 then
                if jx_in (z.2.1 + (-1)) 90 = true then
                  some (.inl ((jx_g z.1 5 (upd (z.1.2.1 5) (((z.2.1 + (-1)) - 1)).toNatClampNeg (vp_nar .boolean (if ((z.1.2.1 5) ((z.2.1 + (-1))).toNatClampNeg) = 0 then 0 else 1 : Int32)))), (z.2.1 + (-1)), (z.2.2 + 1)))
                else none
              else
                some (.inl ((jx_g z.1 5 (upd (z.1.2.1 5) (((z.2.1 + (-1)) - 1)).toNatClampNeg (vp_nar .boolean 1))), (z.2.1 + (-1)), (z.2.2 + 1)))
            else none
    else none

def f_M_formulaIn (S : jx_S) (a1 : Int32) (a2 : Int32) : Option (Int32 × jx_S) :=
  (jx_lp (b_M_formulaIn_5 a1 a2) jx_N (S, 0, 0)).bind fun z5_18 =>
    if jx_in 0 90 = true then
      if jx_nb ((z5_18.1.2.1 5) (0 : Int32).toNatClampNeg) = true then some (((z5_18.1.2.1 5) (0 : Int32).toNatClampNeg), z5_18.1) else none
    else none
set_option maxHeartbeats 4000000 in
set_option maxRecDepth 100000 in
theorem lt_M_formulaIn_5 {G : jx_G} {X : jx_C} (hX : jx_Ok G X b_M_formulaIn "PlaneCellsModel" (some .boolean) 7 9) (fin : Int32 × jx_S) (x1 : Int32) (x2 : Int32) {n : Nat} {z : jx_S × Int32 × Int32} {r : jx_S × Int32} (hz : jx_lp (b_M_formulaIn_5 x1 x2) n z = some r) (hk : jx_At G X (some (.int fin.1), jr_w G fin.2) (jr_w G r.1) 223 [(0, .ref (jx_ad G 18)), (1, .int x1), (2, .int x2), (3, .int r.2)] []) : jx_At G X (some (.int fin.1), jr_w G fin.2) (jr_w G z.1) 5 [(0, .ref (jx_ad G 18)), (1, .int x1), (2, .int x2), (3, .int z.2.1), (4, .int z.2.2)] [] := by
  refine jx_loop1 (b_M_formulaIn_5 x1 x2) (fun z => jx_At G X (some (.int fin.1), jr_w G fin.2) (jr_w G z.1) 5 [(0, .ref (jx_ad G 18)), (1, .int x1), (2, .int x2), (3, .int z.2.1), (4, .int z.2.2)] []) (fun z => jx_At G X (some (.int fin.1), jr_w G fin.2) (jr_w G z.1) 223 [(0, .ref (jx_ad G 18)), (1, .int x1), (2, .int x2), (3, .int z.2)] []) ?_ n z r hz hk
  intro z o h hi hx
  unfold b_M_formulaIn_5 at h
  refine jx_iload hX d_M_formulaIn_5 4 rfl ?_
  refine jx_aload_n hX d_M_formulaIn_7 0 rfl rfl ?_
  refine gf_M_93 hX d_M_formulaIn_8 rfl ?_
  refine jx_icmp_ge hX d_M_formulaIn_11 rfl (fun hc => ?_) (fun hc => ?_)
  · have h := jx_ip hc h
    refine jx_sub (L2 := [(0, .ref (jx_ad G 18)), (1, .int x1), (2, .int x2), (3, .int z.2.1)]) [0, 1, 2, 3] rfl ?_
    obtain rfl := Option.some.inj h
    exact hx _ rfl
  · have h := jx_in_ hc h
    refine jx_aload_n hX d_M_formulaIn_14 0 rfl rfl ?_
    refine gf_M_23 hX d_M_formulaIn_15 ?_
    refine jx_iload hX d_M_formulaIn_18 4 rfl ?_
    obtain ⟨hg1, h⟩ := jx_gd h
    refine al_M3 hX d_M_formulaIn_20 rfl hg1 ?_
    refine jx_istore hX d_M_formulaIn_21 (by decide) (L2 := [(5, .int ((z.1.2.1 3) (z.2.2).toNatClampNeg)), (0, .ref (jx_ad G 18)), (1, .int x1), (2, .int x2), (3, .int z.2.1), (4, .int z.2.2)]) rfl ?_
    refine jx_iload hX d_M_formulaIn_23 0 rfl ?_
    refine jx_bipush (v := 12) hX d_M_formulaIn_25 (by decide) ?_
    refine jx_icmp_ne hX d_M_formulaIn_27 rfl (fun hc => ?_) (fun hc => ?_)
    · have h := jx_in_ hc h
      refine jx_iload hX d_M_formulaIn_57 0 rfl ?_
      refine jx_bipush (v := 10) hX d_M_formulaIn_59 (by decide) ?_
      refine jx_icmp_lt hX d_M_formulaIn_61 rfl (fun hc => ?_) (fun hc => ?_)
      · have h := jx_ip hc h
        refine jx_aload_n hX d_M_formulaIn_138 1 rfl rfl ?_
        refine jx_iload_n hX d_M_formulaIn_139 2 rfl rfl ?_
        refine jx_iload_n hX d_M_formulaIn_140 3 rfl rfl ?_
        refine jx_iload hX d_M_formulaIn_141 0 rfl ?_
        obtain ⟨q143_2, hq143_2, h⟩ := jx_bd h
        refine cs_M_172 hX (c_M_signOfCell (jx_l X) G z.1 x1 x2 ((z.1.2.1 3) (z.2.2).toNatClampNeg) q143_2 hq143_2) d_M_formulaIn_143 (by decide) (Nat.le_of_ble_eq_true rfl) ?_
        refine jx_istore hX d_M_formulaIn_146 (by decide) (L2 := [(6, .int q143_2.1), (5, .int ((z.1.2.1 3) (z.2.2).toNatClampNeg)), (0, .ref (jx_ad G 18)), (1, .int x1), (2, .int x2), (3, .int z.2.1), (4, .int z.2.2)]) rfl ?_
        refine jx_aload_n hX d_M_formulaIn_148 2 rfl rfl ?_
        refine gf_M_29 hX d_M_formulaIn_149 ?_
        refine jx_iload_n hX d_M_formulaIn_152 5 rfl rfl ?_
        refine jx_aload_n hX d_M_formulaIn_153 2 rfl rfl ?_
        refine gf_M_55 hX d_M_formulaIn_154 ?_
        refine jx_iload hX d_M_formulaIn_157 1 rfl ?_
        obtain ⟨hg3, h⟩ := jx_gd h
        refine al_M9 hX d_M_formulaIn_159 rfl hg3 ?_
        refine jx_bipush (v := 60) hX d_M_formulaIn_160 (by decide) ?_
        refine jx_icmp_ne hX d_M_formulaIn_162 rfl (fun hc => ?_) (fun hc => ?_)
        · have h := jx_in_ hc h
          refine jx_aload_n hX d_M_formulaIn_178 2 rfl rfl ?_
          refine gf_M_55 hX d_M_formulaIn_179 ?_
          refine jx_iload hX d_M_formulaIn_182 1 rfl ?_
          refine al_M9 hX d_M_formulaIn_184 rfl hg3 ?_
          refine jx_bipush (v := 61) hX d_M_formulaIn_185 (by decide) ?_
          have hj : ∀ v : Int32, v = (if ((q143_2.2.2.1 9) (((z.1.2.1 3) (z.2.2).toNatClampNeg)).toNatClampNeg) = 61 then (if q143_2.1 = 0 then 1 else 0 : Int32) else (if q143_2.1 ≤ 0 then 0 else 1 : Int32) : Int32) → jx_At G X (some (.int fin.1), jr_w G fin.2) (jr_w G q143_2.2) 213 [(6, .int q143_2.1), (5, .int ((z.1.2.1 3) (z.2.2).toNatClampNeg)), (0, .ref (jx_ad G 18)), (1, .int x1), (2, .int x2), (3, .int z.2.1), (4, .int z.2.2)] [.int v, .int z.2.1, .ref (jx_ad G 24)] := by
            intro v hv
            subst hv
            obtain ⟨hg4, h⟩ := jx_gd h
            refine as_M5 hX d_M_formulaIn_213 rfl hg4 ?_
            refine jx_iinc (v := (z.2.1 + 1)) hX d_M_formulaIn_214 5 rfl (by first | rfl | decide) (by decide) (L2 := [(3, .int (z.2.1 + 1)), (6, .int q143_2.1), (5, .int ((z.1.2.1 3) (z.2.2).toNatClampNeg)), (0, .ref (jx_ad G 18)), (1, .int x1), (2, .int x2), (4, .int z.2.2)]) rfl ?_
            refine jx_iinc (v := (z.2.2 + 1)) hX d_M_formulaIn_217 6 rfl (by first | rfl | decide) (by decide) (L2 := [(4, .int (z.2.2 + 1)), (3, .int (z.2.1 + 1)), (6, .int q143_2.1), (5, .int ((z.1.2.1 3) (z.2.2).toNatClampNeg)), (0, .ref (jx_ad G 18)), (1, .int x1), (2, .int x2)]) rfl ?_
            refine jx_goto hX d_M_formulaIn_220 rfl ?_
            refine jx_sub (L2 := [(0, .ref (jx_ad G 18)), (1, .int x1), (2, .int x2), (3, .int (z.2.1 + 1)), (4, .int (z.2.2 + 1))]) [4, 5, 6, 1, 0] rfl ?_
            obtain rfl := Option.some.inj h
            exact hi _ rfl
          refine jx_icmp_ne hX d_M_formulaIn_187 rfl (fun hc5 => ?_) (fun hc5 => ?_)
          · refine jx_iload hX d_M_formulaIn_203 0 rfl ?_
            refine jx_if_le hX d_M_formulaIn_205 rfl (fun hc6 => ?_) (fun hc6 => ?_)
            · refine jx_iconst (v := 0) hX d_M_formulaIn_212 (by decide) ?_
              exact hj _ ((if_neg hc5).trans (if_pos hc6)).symm
            · refine jx_iconst (v := 1) hX d_M_formulaIn_208 (by decide) ?_
              refine jx_goto hX d_M_formulaIn_209 rfl ?_
              exact hj _ ((if_neg hc5).trans (if_neg hc6)).symm
          · refine jx_iload hX d_M_formulaIn_190 0 rfl ?_
            refine jx_if_ne hX d_M_formulaIn_192 rfl (fun hc7 => ?_) (fun hc7 => ?_)
            · refine jx_iconst (v := 0) hX d_M_formulaIn_199 (by decide) ?_
              refine jx_goto hX d_M_formulaIn_200 rfl ?_
              exact hj _ ((if_pos hc5).trans (if_neg hc7)).symm
            · refine jx_iconst (v := 1) hX d_M_formulaIn_195 (by decide) ?_
              refine jx_goto hX d_M_formulaIn_196 rfl ?_
              exact hj _ ((if_pos hc5).trans (if_pos hc7)).symm
        · have h := jx_ip hc h
          refine jx_iload hX d_M_formulaIn_165 0 rfl ?_
          have hj : ∀ v : Int32, v = (if 0 ≤ q143_2.1 then 0 else 1 : Int32) → jx_At G X (some (.int fin.1), jr_w G fin.2) (jr_w G q143_2.2) 213 [(6, .int q143_2.1), (5, .int ((z.1.2.1 3) (z.2.2).toNatClampNeg)), (0, .ref (jx_ad G 18)), (1, .int x1), (2, .int x2), (3, .int z.2.1), (4, .int z.2.2)] [.int v, .int z.2.1, .ref (jx_ad G 24)] := by
            intro v hv
            subst hv
            obtain ⟨hg8, h⟩ := jx_gd h
            refine as_M5 hX d_M_formulaIn_213 rfl hg8 ?_
            refine jx_iinc (v := (z.2.1 + 1)) hX d_M_formulaIn_214 5 rfl (by first | rfl | decide) (by decide) (L2 := [(3, .int (z.2.1 + 1)), (6, .int q143_2.1), (5, .int ((z.1.2.1 3) (z.2.2).toNatClampNeg)), (0, .ref (jx_ad G 18)), (1, .int x1), (2, .int x2), (4, .int z.2.2)]) rfl ?_
            refine jx_iinc (v := (z.2.2 + 1)) hX d_M_formulaIn_217 6 rfl (by first | rfl | decide) (by decide) (L2 := [(4, .int (z.2.2 + 1)), (3, .int (z.2.1 + 1)), (6, .int q143_2.1), (5, .int ((z.1.2.1 3) (z.2.2).toNatClampNeg)), (0, .ref (jx_ad G 18)), (1, .int x1), (2, .int x2)]) rfl ?_
            refine jx_goto hX d_M_formulaIn_220 rfl ?_
            refine jx_sub (L2 := [(0, .ref (jx_ad G 18)), (1, .int x1), (2, .int x2), (3, .int (z.2.1 + 1)), (4, .int (z.2.2 + 1))]) [4, 5, 6, 1, 0] rfl ?_
            obtain rfl := Option.some.inj h
            exact hi _ rfl
          refine jx_if_ge hX d_M_formulaIn_167 rfl (fun hc9 => ?_) (fun hc9 => ?_)
          · refine jx_iconst (v := 0) hX d_M_formulaIn_174 (by decide) ?_
            refine jx_goto hX d_M_formulaIn_175 rfl ?_
            exact hj _ (if_pos hc9).symm
          · refine jx_iconst (v := 1) hX d_M_formulaIn_170 (by decide) ?_
            refine jx_goto hX d_M_formulaIn_171 rfl ?_
            exact hj _ (if_neg hc9).symm
      · have h := jx_in_ hc h
        refine jx_iinc (v := (z.2.1 + (-1))) hX d_M_formulaIn_64 4 rfl (by first | rfl | decide) (by decide) (L2 := [(3, .int (z.2.1 + (-1))), (5, .int ((z.1.2.1 3) (z.2.2).toNatClampNeg)), (0, .ref (jx_ad G 18)), (1, .int x1), (2, .int x2), (4, .int z.2.2)]) rfl ?_
        refine jx_aload_n hX d_M_formulaIn_67 2 rfl rfl ?_
        refine gf_M_29 hX d_M_formulaIn_68 ?_
        refine jx_iload_n hX d_M_formulaIn_71 0 rfl rfl ?_
        refine jx_iconst (v := 1) hX d_M_formulaIn_72 (by decide) ?_
        refine jx_isub hX d_M_formulaIn_73 ?_
        refine jx_iload hX d_M_formulaIn_74 1 rfl ?_
        refine jx_bipush (v := 10) hX d_M_formulaIn_76 (by decide) ?_
        refine jx_icmp_ne hX d_M_formulaIn_78 rfl (fun hc => ?_) (fun hc => ?_)
        · have h := jx_in_ hc h
          refine jx_aload_n hX d_M_formulaIn_109 2 rfl rfl ?_
          refine gf_M_29 hX d_M_formulaIn_110 ?_
          refine jx_iload_n hX d_M_formulaIn_113 0 rfl rfl ?_
          refine jx_iconst (v := 1) hX d_M_formulaIn_114 (by decide) ?_
          refine jx_isub hX d_M_formulaIn_115 ?_
          obtain ⟨hg10, h⟩ := jx_gd h
          refine al_M5 hX d_M_formulaIn_116 rfl hg10 ?_
          refine jx_if_ne hX d_M_formulaIn_117 rfl (fun hc => ?_) (fun hc => ?_)
          · have h := jx_in_ hc h
            refine jx_iconst (v := 1) hX d_M_formulaIn_129 (by decide) ?_
            refine jx_goto hX d_M_formulaIn_130 rfl ?_
            refine as_M5 hX d_M_formulaIn_134 rfl hg10 ?_
            refine jx_goto hX d_M_formulaIn_135 rfl ?_
            refine jx_iinc (v := (z.2.2 + 1)) hX d_M_formulaIn_217 5 rfl (by first | rfl | decide) (by decide) (L2 := [(4, .int (z.2.2 + 1)), (3, .int (z.2.1 + (-1))), (5, .int ((z.1.2.1 3) (z.2.2).toNatClampNeg)), (0, .ref (jx_ad G 18)), (1, .int x1), (2, .int x2)]) rfl ?_
            refine jx_goto hX d_M_formulaIn_220 rfl ?_
            refine jx_sub (L2 := [(0, .ref (jx_ad G 18)), (1, .int x1), (2, .int x2), (3, .int (z.2.1 + (-1))), (4, .int (z.2.2 + 1))]) [3, 4, 5, 1, 0] rfl ?_
            obtain rfl := Option.some.inj h
            exact hi _ rfl
          · have h := jx_ip hc h
            refine jx_aload_n hX d_M_formulaIn_120 2 rfl rfl ?_
            refine gf_M_29 hX d_M_formulaIn_121 ?_
            refine jx_iload_n hX d_M_formulaIn_124 0 rfl rfl ?_
            obtain ⟨hg11, h⟩ := jx_gd h
            refine al_M5 hX d_M_formulaIn_125 rfl hg11 ?_
            have hj : ∀ v : Int32, v = (if ((z.1.2.1 5) ((z.2.1 + (-1))).toNatClampNeg) = 0 then 0 else 1 : Int32) → jx_At G X (some (.int fin.1), jr_w G fin.2) (jr_w G z.1) 134 [(3, .int (z.2.1 + (-1))), (5, .int ((z.1.2.1 3) (z.2.2).toNatClampNeg)), (0, .ref (jx_ad G 18)), (1, .int x1), (2, .int x2), (4, .int z.2.2)] [.int v, .int ((z.2.1 + (-1)) - 1), .ref (jx_ad G 24)] := by
              intro v hv
              subst hv
              refine as_M5 hX d_M_formulaIn_134 rfl hg10 ?_
              refine jx_goto hX d_M_formulaIn_135 rfl ?_
              refine jx_iinc (v := (z.2.2 + 1)) hX d_M_formulaIn_217 5 rfl (by first | rfl | decide) (by decide) (L2 := [(4, .int (z.2.2 + 1)), (3, .int (z.2.1 + (-1))), (5, .int ((z.1.2.1 3) (z.2.2).toNatClampNeg)), (0, .ref (jx_ad G 18)), (1, .int x1), (2, .int x2)]) rfl ?_
              refine jx_goto hX d_M_formulaIn_220 rfl ?_
              refine jx_sub (L2 := [(0, .ref (jx_ad G 18)), (1, .int x1), (2, .int x2), (3, .int (z.2.1 + (-1))), (4, .int (z.2.2 + 1))]) [3, 4, 5, 1, 0] rfl ?_
              obtain rfl := Option.some.inj h
              exact hi _ rfl
            refine jx_if_eq hX d_M_formulaIn_126 rfl (fun hc12 => ?_) (fun hc12 => ?_)
            · refine jx_iconst (v := 0) hX d_M_formulaIn_133 (by decide) ?_
              exact hj _ (if_pos hc12).symm
            · refine jx_iconst (v := 1) hX d_M_formulaIn_129 (by decide) ?_
              refine jx_goto hX d_M_formulaIn_130 rfl ?_
              exact hj _ (if_neg hc12).symm
        · have h := jx_ip hc h
          refine jx_aload_n hX d_M_formulaIn_81 2 rfl rfl ?_
          refine gf_M_29 hX d_M_formulaIn_82 ?_
          refine jx_iload_n hX d_M_formulaIn_85 0 rfl rfl ?_
          refine jx_iconst (v := 1) hX d_M_formulaIn_86 (by decide) ?_
          refine jx_isub hX d_M_formulaIn_87 ?_
          obtain ⟨hg13, h⟩ := jx_gd h
          refine al_M5 hX d_M_formulaIn_88 rfl hg13 ?_
          refine jx_if_eq hX d_M_formulaIn_89 rfl (fun hc => ?_) (fun hc => ?_)
          · have h := jx_ip hc h
            refine jx_iconst (v := 0) hX d_M_formulaIn_105 (by decide) ?_
            refine jx_goto hX d_M_formulaIn_106 rfl ?_
            refine as_M5 hX d_M_formulaIn_134 rfl hg13 ?_
            refine jx_goto hX d_M_formulaIn_135 rfl ?_
            refine jx_iinc (v := (z.2.2 + 1)) hX d_M_formulaIn_217 5 rfl (by first | rfl | decide) (by decide) (L2 := [(4, .int (z.2.2 + 1)), (3, .int (z.2.1 + (-1))), (5, .int ((z.1.2.1 3) (z.2.2).toNatClampNeg)), (0, .ref (jx_ad G 18)), (1, .int x1), (2, .int x2)]) rfl ?_
            refine jx_goto hX d_M_formulaIn_220 rfl ?_
            refine jx_sub (L2 := [(0, .ref (jx_ad G 18)), (1, .int x1), (2, .int x2), (3, .int (z.2.1 + (-1))), (4, .int (z.2.2 + 1))]) [3, 4, 5, 1, 0] rfl ?_
            obtain rfl := Option.some.inj h
            exact hi _ rfl
          · have h := jx_in_ hc h
            refine jx_aload_n hX d_M_formulaIn_92 2 rfl rfl ?_
            refine gf_M_29 hX d_M_formulaIn_93 ?_
            refine jx_iload_n hX d_M_formulaIn_96 0 rfl rfl ?_
            obtain ⟨hg14, h⟩ := jx_gd h
            refine al_M5 hX d_M_formulaIn_97 rfl hg14 ?_
            have hj : ∀ v : Int32, v = (if ((z.1.2.1 5) ((z.2.1 + (-1))).toNatClampNeg) = 0 then 0 else 1 : Int32) → jx_At G X (some (.int fin.1), jr_w G fin.2) (jr_w G z.1) 134 [(3, .int (z.2.1 + (-1))), (5, .int ((z.1.2.1 3) (z.2.2).toNatClampNeg)), (0, .ref (jx_ad G 18)), (1, .int x1), (2, .int x2), (4, .int z.2.2)] [.int v, .int ((z.2.1 + (-1)) - 1), .ref (jx_ad G 24)] := by
              intro v hv
              subst hv
              refine as_M5 hX d_M_formulaIn_134 rfl hg13 ?_
              refine jx_goto hX d_M_formulaIn_135 rfl ?_
              refine jx_iinc (v := (z.2.2 + 1)) hX d_M_formulaIn_217 5 rfl (by first | rfl | decide) (by decide) (L2 := [(4, .int (z.2.2 + 1)), (3, .int (z.2.1 + (-1))), (5, .int ((z.1.2.1 3) (z.2.2).toNatClampNeg)), (0, .ref (jx_ad G 18)), (1, .int x1), (2, .int x2)]) rfl ?_
              refine jx_goto hX d_M_formulaIn_220 rfl ?_
              refine jx_sub (L2 := [(0, .ref (jx_ad G 18)), (1, .int x1), (2, .int x2), (3, .int (z.2.1 + (-1))), (4, .int (z.2.2 + 1))]) [3, 4, 5, 1, 0] rfl ?_
              obtain rfl := Option.some.inj h
              exact hi _ rfl
            refine jx_if_eq hX d_M_formulaIn_98 rfl (fun hc15 => ?_) (fun hc15 => ?_)
            · refine jx_iconst (v := 0) hX d_M_formulaIn_105 (by decide) ?_
              refine jx_goto hX d_M_formulaIn_106 rfl ?_
              exact hj _ (if_pos hc15).symm
            · refine jx_iconst (v := 1) hX d_M_formulaIn_101 (by decide) ?_
              refine jx_goto hX d_M_formulaIn_102 rfl ?_
              exact hj _ (if_neg hc15).symm
    · have h := jx_ip hc h
      refine jx_aload_n hX d_M_formulaIn_30 1 rfl rfl ?_
      refine gf_M_29 hX d_M_formulaIn_31 ?_
      refine jx_iload_n hX d_M_formulaIn_34 4 rfl rfl ?_
      refine jx_iconst (v := 1) hX d_M_formulaIn_35 (by decide) ?_
      refine jx_isub hX d_M_formulaIn_36 ?_
      refine jx_aload_n hX d_M_formulaIn_37 1 rfl rfl ?_
      refine gf_M_29 hX d_M_formulaIn_38 ?_
      refine jx_iload_n hX d_M_formulaIn_41 4 rfl rfl ?_
      refine jx_iconst (v := 1) hX d_M_formulaIn_42 (by decide) ?_
      refine jx_isub hX d_M_formulaIn_43 ?_
      obtain ⟨hg16, h⟩ := jx_gd h
      refine al_M5 hX d_M_formulaIn_44 rfl hg16 ?_
      have hj : ∀ v : Int32, v = (if ((z.1.2.1 5) ((z.2.1 - 1)).toNatClampNeg) = 0 then 1 else 0 : Int32) → jx_At G X (some (.int fin.1), jr_w G fin.2) (jr_w G z.1) 53 [(5, .int ((z.1.2.1 3) (z.2.2).toNatClampNeg)), (0, .ref (jx_ad G 18)), (1, .int x1), (2, .int x2), (3, .int z.2.1), (4, .int z.2.2)] [.int v, .int (z.2.1 - 1), .ref (jx_ad G 24)] := by
        intro v hv
        subst hv
        refine as_M5 hX d_M_formulaIn_53 rfl hg16 ?_
        refine jx_goto hX d_M_formulaIn_54 rfl ?_
        refine jx_iinc (v := (z.2.2 + 1)) hX d_M_formulaIn_217 5 rfl (by first | rfl | decide) (by decide) (L2 := [(4, .int (z.2.2 + 1)), (5, .int ((z.1.2.1 3) (z.2.2).toNatClampNeg)), (0, .ref (jx_ad G 18)), (1, .int x1), (2, .int x2), (3, .int z.2.1)]) rfl ?_
        refine jx_goto hX d_M_formulaIn_220 rfl ?_
        refine jx_sub (L2 := [(0, .ref (jx_ad G 18)), (1, .int x1), (2, .int x2), (3, .int z.2.1), (4, .int (z.2.2 + 1))]) [2, 3, 4, 5, 0] rfl ?_
        obtain rfl := Option.some.inj h
        exact hi _ rfl
      refine jx_if_ne hX d_M_formulaIn_45 rfl (fun hc17 => ?_) (fun hc17 => ?_)
      · refine jx_iconst (v := 0) hX d_M_formulaIn_52 (by decide) ?_
        exact hj _ (if_neg hc17).symm
      · refine jx_iconst (v := 1) hX d_M_formulaIn_48 (by decide) ?_
        refine jx_goto hX d_M_formulaIn_49 rfl ?_
        exact hj _ (if_pos hc17).symm

set_option maxHeartbeats 4000000 in
set_option maxRecDepth 100000 in
theorem c_M_formulaIn (l : Launch) (G : jx_G) (S : jx_S) (a1 : Int32) (a2 : Int32) (fin : Int32 × jx_S) (h : f_M_formulaIn S a1 a2 = some fin) : jx_M l y_M_formulaIn b_M_formulaIn 7 (some .boolean) 9 G [.ref (jx_ad G 18), .int a1, .int a2] (jr_w G S) (some (.int fin.1), jr_w G fin.2) := by
  refine jx_met (own := "PlaneCellsModel") (by decide) rfl (Nat.le_of_ble_eq_true rfl) (fun X hX hl => ?_)
  subst hl
  refine jx_L (L2 := [(0, .ref (jx_ad G 18)), (1, .int a1), (2, .int a2)]) rfl ?_
  unfold f_M_formulaIn at h
  refine jx_iconst (v := 0) hX d_M_formulaIn_0 (by decide) ?_
  refine jx_istore_n hX d_M_formulaIn_1 rfl (by decide) (L2 := [(3, .int 0), (0, .ref (jx_ad G 18)), (1, .int a1), (2, .int a2)]) rfl ?_
  refine jx_iconst (v := 0) hX d_M_formulaIn_2 (by decide) ?_
  refine jx_istore hX d_M_formulaIn_3 (by decide) (L2 := [(4, .int 0), (3, .int 0), (0, .ref (jx_ad G 18)), (1, .int a1), (2, .int a2)]) rfl ?_
  refine jx_sub (L2 := [(0, .ref (jx_ad G 18)), (1, .int a1), (2, .int a2), (3, .int 0), (4, .int 0)]) [2, 3, 4, 1, 0] rfl ?_
  obtain ⟨z5_18, hz, h⟩ := jx_bd h
  refine lt_M_formulaIn_5 hX fin a1 a2 hz ?_
  refine jx_aload_n hX d_M_formulaIn_223 0 rfl rfl ?_
  refine gf_M_29 hX d_M_formulaIn_224 ?_
  refine jx_iconst (v := 0) hX d_M_formulaIn_227 (by decide) ?_
  obtain ⟨hg19, h⟩ := jx_gd h
  refine al_M5 hX d_M_formulaIn_228 rfl hg19 ?_
  obtain ⟨hg, h⟩ := jx_gd h
  obtain rfl := Option.some.inj h
  exact jx_zret hX d_M_formulaIn_229 (jx_nb_ok hg)

