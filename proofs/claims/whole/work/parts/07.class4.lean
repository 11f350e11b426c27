def f_R_numberOfLetter (a1 : Int32) : Option (Int32) :=
  some (if a1 = 120 then 1 else (if a1 = 121 then 2 else 0 : Int32) : Int32)
set_option maxHeartbeats 4000000 in
set_option maxRecDepth 100000 in
theorem c_R_numberOfLetter (l : Launch) (G : jx_G) (S : jx_S) (a1 : Int32) (fin : Int32) (h : f_R_numberOfLetter a1 = some fin) : jx_M l y_R_numberOfLetter b_R_numberOfLetter 1 (some .int) 0 G [.int a1] (jx_w G S) (some (.int fin), jx_w G S) := by
  refine jx_met (own := "PlaneCells$Reader") (by decide) rfl (Nat.le_of_ble_eq_true rfl) (fun X hX hl => ?_)
  subst hl
  refine jx_L (L2 := [(0, .int a1)]) rfl ?_
  unfold f_R_numberOfLetter at h
  refine jx_iload_n hX d_R_numberOfLetter_0 0 rfl rfl ?_
  refine jx_bipush (v := 120) hX d_R_numberOfLetter_1 (by decide) ?_
  have hj : ∀ v : Int32, v = (if a1 = 120 then 1 else (if a1 = 121 then 2 else 0 : Int32) : Int32) → jx_At G X (some (.int fin), jx_w G S) (jx_w G S) 21 [(0, .int a1)] [.int v] := by
    intro v hv
    subst hv
    obtain rfl := Option.some.inj h
    exact jx_iret hX d_R_numberOfLetter_21
  refine jx_icmp_ne hX d_R_numberOfLetter_3 rfl (fun hc1 => ?_) (fun hc1 => ?_)
  · refine jx_iload_n hX d_R_numberOfLetter_10 0 rfl rfl ?_
    refine jx_bipush (v := 121) hX d_R_numberOfLetter_11 (by decide) ?_
    refine jx_icmp_ne hX d_R_numberOfLetter_13 rfl (fun hc2 => ?_) (fun hc2 => ?_)
    · refine jx_iconst (v := 0) hX d_R_numberOfLetter_20 (by decide) ?_
      exact hj _ ((if_neg hc1).trans (if_neg hc2)).symm
    · refine jx_iconst (v := 2) hX d_R_numberOfLetter_16 (by decide) ?_
      refine jx_goto hX d_R_numberOfLetter_17 rfl ?_
      exact hj _ ((if_neg hc1).trans (if_pos hc2)).symm
  · refine jx_iconst (v := 1) hX d_R_numberOfLetter_6 (by decide) ?_
    refine jx_goto hX d_R_numberOfLetter_7 rfl ?_
    exact hj _ (if_pos hc1).symm

def b_R_takeTerm_51 (x1 : Int32) (x2 : Int32) (x3 : Int32) (x4 : Int32) (z : jx_S × Int32 × Int32) : Option ((jx_S × Int32 × Int32) ⊕ (jx_S × Int32)) :=
  if 2 ≤ z.2.2 then
    some (.inr (z.1, z.2.1))
  else
    (f_R_peek z.1).bind fun q58_2 =>
      (f_R_numberOfLetter q58_2).bind fun q61_3 =>
        if (z.2.1 &&& q61_3) = q61_3 then
          some (.inr (z.1, z.2.1))
        else
          some (.inl ((jx_f z.1 9 ((z.1.1 9) + 1)), (z.2.1 + q61_3), (z.2.2 + 1)))

def k_R_takeTerm_45 (S : jx_S) (x1 : Int32) (x2 : Int32) (x3 : Int32) (x4 : Int32) : Option (Int32 × jx_S) :=
  (jx_lp (b_R_takeTerm_51 x1 x2 x3 x4) jx_N (S, 0, 0)).bind fun z51_4 =>
    if (z51_4.1.1 9) = x2 then
      some (0, z51_4.1)
    else
      if jx_in z51_4.2 4 = true then
        some (1, (jx_g z51_4.1 5 (upd (z51_4.1.2.1 5) (z51_4.2).toNatClampNeg (((z51_4.1.2.1 5) (z51_4.2).toNatClampNeg) + x3))))
      else none

def f_R_takeTerm (S : jx_S) (a1 : Int32) : Option (Int32 × jx_S) :=
  (f_R_peek S).bind fun q8_1 =>
    if q8_1 < 48 then
      k_R_takeTerm_45 S a1 (S.1 9) a1 q8_1
    else
      if 57 < q8_1 then
        k_R_takeTerm_45 S a1 (S.1 9) a1 q8_1
      else
        k_R_takeTerm_45 (jx_f S 9 ((S.1 9) + 1)) a1 (S.1 9) (a1 * (q8_1 - 48)) q8_1
set_option maxHeartbeats 4000000 in
set_option maxRecDepth 100000 in
theorem lt_R_takeTerm_51 {G : jx_G} {X : jx_C} (hX : jx_Ok G X b_R_takeTerm "PlaneCells$Reader" (some .boolean) 8 1) (fin : Int32 × jx_S) (x1 : Int32) (x2 : Int32) (x3 : Int32) (x4 : Int32) {n : Nat} {z : jx_S × Int32 × Int32} {r : jx_S × Int32} (hz : jx_lp (b_R_takeTerm_51 x1 x2 x3 x4) n z = some r) (hk : jx_At G X (some (.int fin.1), jx_w G fin.2) (jx_w G r.1) 102 [(0, .ref (jx_ad G 2)), (1, .int x1), (2, .int x2), (3, .int x3), (4, .int x4), (5, .int r.2)] []) : jx_At G X (some (.int fin.1), jx_w G fin.2) (jx_w G z.1) 51 [(0, .ref (jx_ad G 2)), (1, .int x1), (2, .int x2), (3, .int x3), (4, .int x4), (5, .int z.2.1), (6, .int z.2.2)] [] := by
  refine jx_loop1 (b_R_takeTerm_51 x1 x2 x3 x4) (fun z => jx_At G X (some (.int fin.1), jx_w G fin.2) (jx_w G z.1) 51 [(0, .ref (jx_ad G 2)), (1, .int x1), (2, .int x2), (3, .int x3), (4, .int x4), (5, .int z.2.1), (6, .int z.2.2)] []) (fun z => jx_At G X (some (.int fin.1), jx_w G fin.2) (jx_w G z.1) 102 [(0, .ref (jx_ad G 2)), (1, .int x1), (2, .int x2), (3, .int x3), (4, .int x4), (5, .int z.2)] []) ?_ n z r hz hk
  intro z o h hi hx
  unfold b_R_takeTerm_51 at h
  refine jx_iload hX d_R_takeTerm_51 6 rfl ?_
  refine jx_iconst (v := 2) hX d_R_takeTerm_53 (by decide) ?_
  refine jx_icmp_ge hX d_R_takeTerm_54 rfl (fun hc => ?_) (fun hc => ?_)
  · have h := jx_ip hc h
    refine jx_sub (L2 := [(0, .ref (jx_ad G 2)), (1, .int x1), (2, .int x2), (3, .int x3), (4, .int x4), (5, .int z.2.1)]) [0, 1, 2, 3, 4, 5] rfl ?_
    obtain rfl := Option.some.inj h
    exact hx _ rfl
  · have h := jx_in_ hc h
    refine jx_aload_n hX d_R_takeTerm_57 0 rfl rfl ?_
    obtain ⟨q58_2, hq58_2, h⟩ := jx_bd h
    refine cs_R_67 hX (c_R_peek (jx_l X) G z.1 q58_2 hq58_2) d_R_takeTerm_58 (by decide) (Nat.le_of_ble_eq_true rfl) ?_
    obtain ⟨q61_3, hq61_3, h⟩ := jx_bd h
    refine cs_R_102 hX (c_R_numberOfLetter (jx_l X) G z.1 q58_2 q61_3 hq61_3) d_R_takeTerm_61 (by decide) (Nat.le_of_ble_eq_true rfl) ?_
    refine jx_istore hX d_R_takeTerm_64 (by decide) (L2 := [(7, .int q61_3), (0, .ref (jx_ad G 2)), (1, .int x1), (2, .int x2), (3, .int x3), (4, .int x4), (5, .int z.2.1), (6, .int z.2.2)]) rfl ?_
    refine jx_iload hX d_R_takeTerm_66 6 rfl ?_
    refine jx_iload hX d_R_takeTerm_68 0 rfl ?_
    refine jx_iand hX d_R_takeTerm_70 ?_
    refine jx_iload hX d_R_takeTerm_71 0 rfl ?_
    refine jx_icmp_ne hX d_R_takeTerm_73 rfl (fun hc => ?_) (fun hc => ?_)
    · have h := jx_in_ hc h
      refine jx_iload hX d_R_takeTerm_79 6 rfl ?_
      refine jx_iload hX d_R_takeTerm_81 0 rfl ?_
      refine jx_iadd hX d_R_takeTerm_83 ?_
      refine jx_istore hX d_R_takeTerm_84 (by decide) (L2 := [(5, .int (z.2.1 + q61_3)), (7, .int q61_3), (0, .ref (jx_ad G 2)), (1, .int x1), (2, .int x2), (3, .int x3), (4, .int x4), (6, .int z.2.2)]) rfl ?_
      refine jx_aload_n hX d_R_takeTerm_86 2 rfl rfl ?_
      refine jx_dup hX d_R_takeTerm_87 rfl ?_
      refine gf_R_33 hX d_R_takeTerm_88 rfl ?_
      refine jx_iconst (v := 1) hX d_R_takeTerm_91 (by decide) ?_
      refine jx_iadd hX d_R_takeTerm_92 ?_
      refine pf_R_33 hX d_R_takeTerm_93 ?_
      refine jx_iinc (v := (z.2.2 + 1)) hX d_R_takeTerm_96 7 rfl (by first | rfl | decide) (by decide) (L2 := [(6, .int (z.2.2 + 1)), (5, .int (z.2.1 + q61_3)), (7, .int q61_3), (0, .ref (jx_ad G 2)), (1, .int x1), (2, .int x2), (3, .int x3), (4, .int x4)]) rfl ?_
      refine jx_goto hX d_R_takeTerm_99 rfl ?_
      refine jx_sub (L2 := [(0, .ref (jx_ad G 2)), (1, .int x1), (2, .int x2), (3, .int x3), (4, .int x4), (5, .int (z.2.1 + q61_3)), (6, .int (z.2.2 + 1))]) [3, 4, 5, 6, 7, 1, 0] rfl ?_
      obtain rfl := Option.some.inj h
      exact hi _ rfl
    · have h := jx_ip hc h
      refine jx_goto hX d_R_takeTerm_76 rfl ?_
      refine jx_sub (L2 := [(0, .ref (jx_ad G 2)), (1, .int x1), (2, .int x2), (3, .int x3), (4, .int x4), (5, .int z.2.1)]) [1, 2, 3, 4, 5, 6] rfl ?_
      obtain rfl := Option.some.inj h
      exact hx _ rfl

set_option maxHeartbeats 4000000 in
set_option maxRecDepth 100000 in
theorem kt_R_takeTerm_45 {G : jx_G} {X : jx_C} (hX : jx_Ok G X b_R_takeTerm "PlaneCells$Reader" (some .boolean) 8 1) (fin : Int32 × jx_S) (S : jx_S) (x1 : Int32) (x2 : Int32) (x3 : Int32) (x4 : Int32) (h : k_R_takeTerm_45 S x1 x2 x3 x4 = some fin) : jx_At G X (some (.int fin.1), jx_w G fin.2) (jx_w G S) 45 [(0, .ref (jx_ad G 2)), (1, .int x1), (2, .int x2), (3, .int x3), (4, .int x4)] [] := by
  unfold k_R_takeTerm_45 at h
  refine jx_iconst (v := 0) hX d_R_takeTerm_45 (by decide) ?_
  refine jx_istore hX d_R_takeTerm_46 (by decide) (L2 := [(5, .int 0), (0, .ref (jx_ad G 2)), (1, .int x1), (2, .int x2), (3, .int x3), (4, .int x4)]) rfl ?_
  refine jx_iconst (v := 0) hX d_R_takeTerm_48 (by decide) ?_
  refine jx_istore hX d_R_takeTerm_49 (by decide) (L2 := [(6, .int 0), (5, .int 0), (0, .ref (jx_ad G 2)), (1, .int x1), (2, .int x2), (3, .int x3), (4, .int x4)]) rfl ?_
  refine jx_sub (L2 := [(0, .ref (jx_ad G 2)), (1, .int x1), (2, .int x2), (3, .int x3), (4, .int x4), (5, .int 0), (6, .int 0)]) [2, 3, 4, 5, 6, 1, 0] rfl ?_
  obtain ⟨z51_4, hz, h⟩ := jx_bd h
  refine lt_R_takeTerm_51 hX fin x1 x2 x3 x4 hz ?_
  refine jx_aload_n hX d_R_takeTerm_102 0 rfl rfl ?_
  refine gf_R_33 hX d_R_takeTerm_103 rfl ?_
  refine jx_iload_n hX d_R_takeTerm_106 2 rfl rfl ?_
  refine jx_icmp_ne hX d_R_takeTerm_107 rfl (fun hc => ?_) (fun hc => ?_)
  · have h := jx_in_ hc h
    refine jx_aload_n hX d_R_takeTerm_112 0 rfl rfl ?_
    refine gf_R_19 hX d_R_takeTerm_113 ?_
    refine jx_iload hX d_R_takeTerm_116 5 rfl ?_
    refine jx_dup2 hX d_R_takeTerm_118 rfl rfl ?_
    obtain ⟨hg5, h⟩ := jx_gd h
    refine al_5 hX d_R_takeTerm_119 rfl hg5 ?_
    refine jx_iload_n hX d_R_takeTerm_120 3 rfl rfl ?_
    refine jx_iadd hX d_R_takeTerm_121 ?_
    refine as_5 hX d_R_takeTerm_122 rfl hg5 ?_
    refine jx_iconst (v := 1) hX d_R_takeTerm_123 (by decide) ?_
    obtain rfl := Option.some.inj h
    exact jx_zret hX d_R_takeTerm_124 (jx_01n jx_z1)
  · have h := jx_ip hc h
    refine jx_iconst (v := 0) hX d_R_takeTerm_110 (by decide) ?_
    obtain rfl := Option.some.inj h
    exact jx_zret hX d_R_takeTerm_111 (jx_01n jx_z0)

set_option maxHeartbeats 4000000 in
set_option maxRecDepth 100000 in
theorem c_R_takeTerm (l : Launch) (G : jx_G) (S : jx_S) (a1 : Int32) (fin : Int32 × jx_S) (h : f_R_takeTerm S a1 = some fin) : jx_M l y_R_takeTerm b_R_takeTerm 8 (some .boolean) 1 G [.ref (jx_ad G 2), .int a1] (jx_w G S) (some (.int fin.1), jx_w G fin.2) := by
  refine jx_met (own := "PlaneCells$Reader") (by decide) rfl (Nat.le_of_ble_eq_true rfl) (fun X hX hl => ?_)
  subst hl
  refine jx_L (L2 := [(0, .ref (jx_ad G 2)), (1, .int a1)]) rfl ?_
  unfold f_R_takeTerm at h
  refine jx_aload_n hX d_R_takeTerm_0 0 rfl rfl ?_
  refine gf_R_33 hX d_R_takeTerm_1 rfl ?_
  refine jx_istore_n hX d_R_takeTerm_4 rfl (by decide) (L2 := [(2, .int (S.1 9)), (0, .ref (jx_ad G 2)), (1, .int a1)]) rfl ?_
  refine jx_iload_n hX d_R_takeTerm_5 2 rfl rfl ?_
  refine jx_istore_n hX d_R_takeTerm_6 rfl (by decide) (L2 := [(3, .int a1), (2, .int (S.1 9)), (0, .ref (jx_ad G 2)), (1, .int a1)]) rfl ?_
  refine jx_aload_n hX d_R_takeTerm_7 2 rfl rfl ?_
  obtain ⟨q8_1, hq8_1, h⟩ := jx_bd h
  refine cs_R_67 hX (c_R_peek (jx_l X) G S q8_1 hq8_1) d_R_takeTerm_8 (by decide) (Nat.le_of_ble_eq_true rfl) ?_
  refine jx_istore hX d_R_takeTerm_11 (by decide) (L2 := [(4, .int q8_1), (3, .int a1), (2, .int (S.1 9)), (0, .ref (jx_ad G 2)), (1, .int a1)]) rfl ?_
  refine jx_iload hX d_R_takeTerm_13 0 rfl ?_
  refine jx_bipush (v := 48) hX d_R_takeTerm_15 (by decide) ?_
  refine jx_icmp_lt hX d_R_takeTerm_17 rfl (fun hc => ?_) (fun hc => ?_)
  · have h := jx_ip hc h
    refine jx_sub (L2 := [(0, .ref (jx_ad G 2)), (1, .int a1), (2, .int (S.1 9)), (3, .int a1), (4, .int q8_1)]) [3, 4, 2, 1, 0] rfl ?_
    exact kt_R_takeTerm_45 hX fin S a1 (S.1 9) a1 q8_1 h
  · have h := jx_in_ hc h
    refine jx_iload hX d_R_takeTerm_20 0 rfl ?_
    refine jx_bipush (v := 57) hX d_R_takeTerm_22 (by decide) ?_
    refine jx_icmp_gt hX d_R_takeTerm_24 rfl (fun hc => ?_) (fun hc => ?_)
    · have h := jx_ip hc h
      refine jx_sub (L2 := [(0, .ref (jx_ad G 2)), (1, .int a1), (2, .int (S.1 9)), (3, .int a1), (4, .int q8_1)]) [3, 4, 2, 1, 0] rfl ?_
      exact kt_R_takeTerm_45 hX fin S a1 (S.1 9) a1 q8_1 h
    · have h := jx_in_ hc h
      refine jx_iload_n hX d_R_takeTerm_27 4 rfl rfl ?_
      refine jx_iload hX d_R_takeTerm_28 0 rfl ?_
      refine jx_bipush (v := 48) hX d_R_takeTerm_30 (by decide) ?_
      refine jx_isub hX d_R_takeTerm_32 ?_
      refine jx_imul hX d_R_takeTerm_33 ?_
      refine jx_istore_n hX d_R_takeTerm_34 rfl (by decide) (L2 := [(3, .int (a1 * (q8_1 - 48))), (4, .int q8_1), (2, .int (S.1 9)), (0, .ref (jx_ad G 2)), (1, .int a1)]) rfl ?_
      refine jx_aload_n hX d_R_takeTerm_35 3 rfl rfl ?_
      refine jx_dup hX d_R_takeTerm_36 rfl ?_
      refine gf_R_33 hX d_R_takeTerm_37 rfl ?_
      refine jx_iconst (v := 1) hX d_R_takeTerm_40 (by decide) ?_
      refine jx_iadd hX d_R_takeTerm_41 ?_
      refine pf_R_33 hX d_R_takeTerm_42 ?_
      refine jx_sub (L2 := [(0, .ref (jx_ad G 2)), (1, .int a1), (2, .int (S.1 9)), (3, .int (a1 * (q8_1 - 48))), (4, .int q8_1)]) [3, 4, 2, 0, 1] rfl ?_
      exact kt_R_takeTerm_45 hX fin (jx_f S 9 ((S.1 9) + 1)) a1 (S.1 9) (a1 * (q8_1 - 48)) q8_1 h

def b_R_takeSum_18 (x1 : Int32) (z : jx_S × Int32 × Int32) : Option ((jx_S × Int32 × Int32) ⊕ ((jx_S × Int32) ⊕ (Int32 × jx_S))) :=
  if (z.1.1 8) ≤ z.2.2 then
    some (.inr (.inl (z.1, z.2.1)))
  else
    (f_R_takeTerm z.1 z.2.1).bind fun q28_2 =>
      if q28_2.1 = 0 then
        some (.inr (.inr (0, q28_2.2)))
      else
        (f_R_take q28_2.2 45).bind fun q39_3 =>
          if q39_3.1 = 0 then
            (f_R_take q39_3.2 43).bind fun q54_4 =>
              if q54_4.1 = 0 then
                some (.inr (.inr (1, q54_4.2)))
              else
                some (.inl (q54_4.2, x1, (z.2.2 + 1)))
          else
            some (.inl (q39_3.2, (-x1), (z.2.2 + 1)))

def f_R_takeSum (S : jx_S) (a1 : Int32) : Option (Int32 × jx_S) :=
  (f_R_take S 45).bind fun q3_1 =>
    (jx_lp (b_R_takeSum_18 a1) jx_N (q3_1.2, (if q3_1.1 = 0 then a1 else (-a1) : Int32), 0)).bind (Sum.elim (fun z18_5 =>
      some (0, z18_5.1))
      (fun y => some y))
set_option maxHeartbeats 4000000 in
set_option maxRecDepth 100000 in
theorem lt_R_takeSum_18 {G : jx_G} {X : jx_C} (hX : jx_Ok G X b_R_takeSum "PlaneCells$Reader" (some .boolean) 4 2) (fin : Int32 × jx_S) (x1 : Int32) {n : Nat} {z : jx_S × Int32 × Int32} {r : (jx_S × Int32) ⊕ (Int32 × jx_S)} (hz : jx_lp (b_R_takeSum_18 x1) n z = some r) (hk : ∀ u, r = .inl u → jx_At G X (some (.int fin.1), jx_w G fin.2) (jx_w G u.1) 73 [(0, .ref (jx_ad G 2)), (1, .int x1), (2, .int u.2)] []) (hy : ∀ y, r = .inr y → y = fin) : jx_At G X (some (.int fin.1), jx_w G fin.2) (jx_w G z.1) 18 [(0, .ref (jx_ad G 2)), (1, .int x1), (2, .int z.2.1), (3, .int z.2.2)] [] := by
  refine jx_loop2 (b_R_takeSum_18 x1) (fun z => jx_At G X (some (.int fin.1), jx_w G fin.2) (jx_w G z.1) 18 [(0, .ref (jx_ad G 2)), (1, .int x1), (2, .int z.2.1), (3, .int z.2.2)] []) (fun z => jx_At G X (some (.int fin.1), jx_w G fin.2) (jx_w G z.1) 73 [(0, .ref (jx_ad G 2)), (1, .int x1), (2, .int z.2)] []) fin ?_ n z r hz hk hy
  intro z o h hi hx hr
  unfold b_R_takeSum_18 at h
  refine jx_iload_n hX d_R_takeSum_18 3 rfl rfl ?_
  refine jx_aload_n hX d_R_takeSum_19 0 rfl rfl ?_
  refine gf_R_30 hX d_R_takeSum_20 rfl ?_
  refine jx_icmp_ge hX d_R_takeSum_23 rfl (fun hc => ?_) (fun hc => ?_)
  · have h := jx_ip hc h
    refine jx_sub (L2 := [(0, .ref (jx_ad G 2)), (1, .int x1), (2, .int z.2.1)]) [0, 1, 2] rfl ?_
    obtain rfl := Option.some.inj h
    exact hx _ rfl
  · have h := jx_in_ hc h
    refine jx_aload_n hX d_R_takeSum_26 0 rfl rfl ?_
    refine jx_iload_n hX d_R_takeSum_27 2 rfl rfl ?_
    obtain ⟨q28_2, hq28_2, h⟩ := jx_bd h
    refine cs_R_99 hX (c_R_takeTerm (jx_l X) G z.1 z.2.1 q28_2 hq28_2) d_R_takeSum_28 (by decide) (Nat.le_of_ble_eq_true rfl) ?_
    refine jx_if_ne hX d_R_takeSum_31 rfl (fun hc => ?_) (fun hc => ?_)
    · have h := jx_in_ hc h
      refine jx_aload_n hX d_R_takeSum_36 0 rfl rfl ?_
      refine jx_bipush (v := 45) hX d_R_takeSum_37 (by decide) ?_
      obtain ⟨q39_3, hq39_3, h⟩ := jx_bd h
      refine cs_R_78 hX (c_R_take (jx_l X) G q28_2.2 45 q39_3 hq39_3) d_R_takeSum_39 (by decide) (Nat.le_of_ble_eq_true rfl) ?_
      refine jx_if_eq hX d_R_takeSum_42 rfl (fun hc => ?_) (fun hc => ?_)
      · have h := jx_ip hc h
        refine jx_aload_n hX d_R_takeSum_51 0 rfl rfl ?_
        refine jx_bipush (v := 43) hX d_R_takeSum_52 (by decide) ?_
        obtain ⟨q54_4, hq54_4, h⟩ := jx_bd h
        refine cs_R_78 hX (c_R_take (jx_l X) G q39_3.2 43 q54_4 hq54_4) d_R_takeSum_54 (by decide) (Nat.le_of_ble_eq_true rfl) ?_
        refine jx_if_eq hX d_R_takeSum_57 rfl (fun hc => ?_) (fun hc => ?_)
        · have h := jx_ip hc h
          refine jx_iconst (v := 1) hX d_R_takeSum_65 (by decide) ?_
          obtain rfl := Option.some.inj h
          obtain rfl := hr _ rfl
          exact jx_zret hX d_R_takeSum_66 (jx_01n jx_z1)
        · have h := jx_in_ hc h
          refine jx_iload_n hX d_R_takeSum_60 1 rfl rfl ?_
          refine jx_istore_n hX d_R_takeSum_61 rfl (by decide) (L2 := [(2, .int x1), (0, .ref (jx_ad G 2)), (1, .int x1), (3, .int z.2.2)]) rfl ?_
          refine jx_goto hX d_R_takeSum_62 rfl ?_
          refine jx_iinc (v := (z.2.2 + 1)) hX d_R_takeSum_67 3 rfl (by first | rfl | decide) (by decide) (L2 := [(3, .int (z.2.2 + 1)), (2, .int x1), (0, .ref (jx_ad G 2)), (1, .int x1)]) rfl ?_
          refine jx_goto hX d_R_takeSum_70 rfl ?_
          refine jx_sub (L2 := [(0, .ref (jx_ad G 2)), (1, .int x1), (2, .int x1), (3, .int (z.2.2 + 1))]) [2, 3, 1, 0] rfl ?_
          obtain rfl := Option.some.inj h
          exact hi _ rfl
      · have h := jx_in_ hc h
        refine jx_iload_n hX d_R_takeSum_45 1 rfl rfl ?_
        refine jx_ineg hX d_R_takeSum_46 ?_
        refine jx_istore_n hX d_R_takeSum_47 rfl (by decide) (L2 := [(2, .int (-x1)), (0, .ref (jx_ad G 2)), (1, .int x1), (3, .int z.2.2)]) rfl ?_
        refine jx_goto hX d_R_takeSum_48 rfl ?_
        refine jx_iinc (v := (z.2.2 + 1)) hX d_R_takeSum_67 3 rfl (by first | rfl | decide) (by decide) (L2 := [(3, .int (z.2.2 + 1)), (2, .int (-x1)), (0, .ref (jx_ad G 2)), (1, .int x1)]) rfl ?_
        refine jx_goto hX d_R_takeSum_70 rfl ?_
        refine jx_sub (L2 := [(0, .ref (jx_ad G 2)), (1, .int x1), (2, .int (-x1)), (3, .int (z.2.2 + 1))]) [2, 3, 1, 0] rfl ?_
        obtain rfl := Option.some.inj h
        exact hi _ rfl
    · have h := jx_ip hc h
      refine jx_iconst (v := 0) hX d_R_takeSum_34 (by decide) ?_
      obtain rfl := Option.some.inj h
      obtain rfl := hr _ rfl
      exact jx_zret hX d_R_takeSum_35 (jx_01n jx_z0)

set_option maxHeartbeats 4000000 in
set_option maxRecDepth 100000 in
theorem c_R_takeSum (l : Launch) (G : jx_G) (S : jx_S) (a1 : Int32) (fin : Int32 × jx_S) (h : f_R_takeSum S a1 = some fin) : jx_M l y_R_takeSum b_R_takeSum 4 (some .boolean) 2 G [.ref (jx_ad G 2), .int a1] (jx_w G S) (some (.int fin.1), jx_w G fin.2) := by
  refine jx_met (own := "PlaneCells$Reader") (by decide) rfl (Nat.le_of_ble_eq_true rfl) (fun X hX hl => ?_)
  subst hl
  refine jx_L (L2 := [(0, .ref (jx_ad G 2)), (1, .int a1)]) rfl ?_
  unfold f_R_takeSum at h
  refine jx_aload_n hX d_R_takeSum_0 0 rfl rfl ?_
  refine jx_bipush (v := 45) hX d_R_takeSum_1 (by decide) ?_
  obtain ⟨q3_1, hq3_1, h⟩ := jx_bd h
  refine cs_R_78 hX (c_R_take (jx_l X) G S 45 q3_1 hq3_1) d_R_takeSum_3 (by decide) (Nat.le_of_ble_eq_true rfl) ?_
  have hj : ∀ v : Int32, v = (if q3_1.1 = 0 then a1 else (-a1) : Int32) → jx_At G X (some (.int fin.1), jx_w G fin.2) (jx_w G q3_1.2) 15 [(0, .ref (jx_ad G 2)), (1, .int a1)] [.int v] := by
    intro v hv
    subst hv
    refine jx_istore_n hX d_R_takeSum_15 rfl (by decide) (L2 := [(2, .int (if q3_1.1 = 0 then a1 else (-a1) : Int32)), (0, .ref (jx_ad G 2)), (1, .int a1)]) rfl ?_
    refine jx_iconst (v := 0) hX d_R_takeSum_16 (by decide) ?_
    refine jx_istore_n hX d_R_takeSum_17 rfl (by decide) (L2 := [(3, .int 0), (2, .int (if q3_1.1 = 0 then a1 else (-a1) : Int32)), (0, .ref (jx_ad G 2)), (1, .int a1)]) rfl ?_
    refine jx_sub (L2 := [(0, .ref (jx_ad G 2)), (1, .int a1), (2, .int (if q3_1.1 = 0 then a1 else (-a1) : Int32)), (3, .int 0)]) [2, 3, 1, 0] rfl ?_
    obtain ⟨r, hz, h⟩ := jx_bd h
    refine lt_R_takeSum_18 hX fin a1 hz (fun z18_5 e => ?_) (fun y e => ?_)
    · subst e
      have h := jx_el h
      refine jx_iconst (v := 0) hX d_R_takeSum_73 (by decide) ?_
      obtain rfl := Option.some.inj h
      exact jx_zret hX d_R_takeSum_74 (jx_01n jx_z0)
    · subst e
      have h := jx_er h
      exact Option.some.inj h
  refine jx_if_eq hX d_R_takeSum_6 rfl (fun hc6 => ?_) (fun hc6 => ?_)
  · refine jx_iload_n hX d_R_takeSum_14 1 rfl rfl ?_
    exact hj _ (if_pos hc6).symm
  · refine jx_iload_n hX d_R_takeSum_9 1 rfl rfl ?_
    refine jx_ineg hX d_R_takeSum_10 ?_
    refine jx_goto hX d_R_takeSum_11 rfl ?_
    exact hj _ (if_neg hc6).symm

def f_S_addStep (S : jx_S) (a1 : Int32) : Option (jx_S) :=
  if 80 ≤ (S.1 3) then
    some S
  else
    if jx_in (S.1 3) 80 = true then
      some (jx_f (jx_g S 2 (upd (S.2.1 2) ((S.1 3)).toNatClampNeg a1)) 3 ((S.1 3) + 1))
    else none
set_option maxHeartbeats 4000000 in
set_option maxRecDepth 100000 in
theorem c_S_addStep (l : Launch) (G : jx_G) (S : jx_S) (a1 : Int32) (fin : jx_S) (h : f_S_addStep S a1 = some fin) : jx_M l y_S_addStep b_S_addStep 2 none 0 G [.ref (jx_ad G 1), .int a1] (jx_w G S) (none, jx_w G fin) := by
  refine jx_met (own := "PlaneCells$Sentence") (by decide) rfl (Nat.le_of_ble_eq_true rfl) (fun X hX hl => ?_)
  subst hl
  refine jx_L (L2 := [(0, .ref (jx_ad G 1)), (1, .int a1)]) rfl ?_
  unfold f_S_addStep at h
  refine jx_aload_n hX d_S_addStep_0 0 rfl rfl ?_
  refine gf_S_22 hX d_S_addStep_1 rfl ?_
  refine jx_bipush (v := 80) hX d_S_addStep_4 (by decide) ?_
  refine jx_icmp_ge hX d_S_addStep_6 rfl (fun hc => ?_) (fun hc => ?_)
  · have h := jx_ip hc h
    obtain rfl := Option.some.inj h
    exact jx_vret hX d_S_addStep_29
  · have h := jx_in_ hc h
    refine jx_aload_n hX d_S_addStep_9 0 rfl rfl ?_
    refine gf_S_19 hX d_S_addStep_10 ?_
    refine jx_aload_n hX d_S_addStep_13 0 rfl rfl ?_
    refine gf_S_22 hX d_S_addStep_14 rfl ?_
    refine jx_iload_n hX d_S_addStep_17 1 rfl rfl ?_
    obtain ⟨hg1, h⟩ := jx_gd h
    refine as_2 hX d_S_addStep_18 rfl hg1 ?_
    refine jx_aload_n hX d_S_addStep_19 0 rfl rfl ?_
    refine jx_dup hX d_S_addStep_20 rfl ?_
    refine gf_S_22 hX d_S_addStep_21 (x := (S.1 3)) rfl ?_
    refine jx_iconst (v := 1) hX d_S_addStep_24 (by decide) ?_
    refine jx_iadd hX d_S_addStep_25 ?_
    refine pf_S_22 hX d_S_addStep_26 ?_
    obtain rfl := Option.some.inj h
    exact jx_vret hX d_S_addStep_29

def k_S_addAtom_35 (S : jx_S) (x2 : Int32) : Option (jx_S) :=
  (f_S_addStep S (4 + (S.1 4))).bind fun q42_1 =>
    some (jx_f q42_1 4 ((q42_1.1 4) + 1))

def f_S_addAtom (S : jx_S) (a2 : Int32) : Option (jx_S) :=
  if 8 ≤ (S.1 4) then
    k_S_addAtom_35 S a2
  else
    if jx_ck 0 ((S.1 4) * 4) 4 4 32 = true then
      if jx_in (S.1 4) 8 = true then
        k_S_addAtom_35 (jx_g (jx_g S 0 (va_cpy (S.2.1 5) (S.2.1 0) (0 : Int32).toNatClampNeg (((S.1 4) * 4) : Int32).toNatClampNeg (4 : Int32).toNatClampNeg)) 1 (upd (S.2.1 1) ((S.1 4)).toNatClampNeg (vp_nar .char a2))) a2
      else none
    else none
set_option maxHeartbeats 4000000 in
set_option maxRecDepth 100000 in
theorem kt_S_addAtom_35 {G : jx_G} {X : jx_C} (hX : jx_Ok G X b_S_addAtom "PlaneCells$Sentence" none 3 1) (fin : jx_S) (S : jx_S) (x2 : Int32) (h : k_S_addAtom_35 S x2 = some fin) : jx_At G X (none, jx_w G fin) (jx_w G S) 35 [(0, .ref (jx_ad G 1)), (1, .ref (jx_ad G 11)), (2, .int x2)] [] := by
  unfold k_S_addAtom_35 at h
  refine jx_aload_n hX d_S_addAtom_35 0 rfl rfl ?_
  refine jx_iconst (v := 4) hX d_S_addAtom_36 (by decide) ?_
  refine jx_aload_n hX d_S_addAtom_37 0 rfl rfl ?_
  refine gf_S_26 hX d_S_addAtom_38 rfl ?_
  refine jx_iadd hX d_S_addAtom_41 ?_
  obtain ⟨q42_1, hq42_1, h⟩ := jx_bd h
  refine cs_S_35 hX (c_S_addStep (jx_l X) G S (4 + (S.1 4)) q42_1 hq42_1) d_S_addAtom_42 (by decide) (Nat.le_of_ble_eq_true rfl) ?_
  refine jx_aload_n hX d_S_addAtom_45 0 rfl rfl ?_
  refine jx_dup hX d_S_addAtom_46 rfl ?_
  refine gf_S_26 hX d_S_addAtom_47 rfl ?_
  refine jx_iconst (v := 1) hX d_S_addAtom_50 (by decide) ?_
  refine jx_iadd hX d_S_addAtom_51 ?_
  refine pf_S_26 hX d_S_addAtom_52 ?_
  obtain rfl := Option.some.inj h
  exact jx_vret hX d_S_addAtom_55

set_option maxHeartbeats 4000000 in
set_option maxRecDepth 100000 in
theorem c_S_addAtom (l : Launch) (G : jx_G) (S : jx_S) (a2 : Int32) (fin : jx_S) (h : f_S_addAtom S a2 = some fin) : jx_M l y_S_addAtom b_S_addAtom 3 none 1 G [.ref (jx_ad G 1), .ref (jx_ad G 11), .int a2] (jx_w G S) (none, jx_w G fin) := by
  refine jx_met (own := "PlaneCells$Sentence") (by decide) rfl (Nat.le_of_ble_eq_true rfl) (fun X hX hl => ?_)
  subst hl
  refine jx_L (L2 := [(0, .ref (jx_ad G 1)), (1, .ref (jx_ad G 11)), (2, .int a2)]) rfl ?_
  unfold f_S_addAtom at h
  refine jx_aload_n hX d_S_addAtom_0 0 rfl rfl ?_
  refine gf_S_26 hX d_S_addAtom_1 rfl ?_
  refine jx_bipush (v := 8) hX d_S_addAtom_4 (by decide) ?_
  refine jx_icmp_ge hX d_S_addAtom_6 rfl (fun hc => ?_) (fun hc => ?_)
  · have h := jx_ip hc h
    exact kt_S_addAtom_35 hX fin S a2 h
  · have h := jx_in_ hc h
    refine jx_aload_n hX d_S_addAtom_9 1 rfl rfl ?_
    refine jx_iconst (v := 0) hX d_S_addAtom_10 (by decide) ?_
    refine jx_aload_n hX d_S_addAtom_11 0 rfl rfl ?_
    refine gf_S_9 hX d_S_addAtom_12 ?_
    refine jx_aload_n hX d_S_addAtom_15 0 rfl rfl ?_
    refine gf_S_26 hX d_S_addAtom_16 rfl ?_
    refine jx_iconst (v := 4) hX d_S_addAtom_19 (by decide) ?_
    refine jx_imul hX d_S_addAtom_20 ?_
    refine jx_iconst (v := 4) hX d_S_addAtom_21 (by decide) ?_
    obtain ⟨hg, h⟩ := jx_gd h
    refine ac_5_0 hX d_S_addAtom_22 hg (Nat.le_of_ble_eq_true rfl) (by decide) ?_
    refine jx_aload_n hX d_S_addAtom_25 0 rfl rfl ?_
    refine gf_S_15 hX d_S_addAtom_26 ?_
    refine jx_aload_n hX d_S_addAtom_29 0 rfl rfl ?_
    refine gf_S_26 hX d_S_addAtom_30 (x := (S.1 4)) rfl ?_
    refine jx_iload_n hX d_S_addAtom_33 2 rfl rfl ?_
    obtain ⟨hg2, h⟩ := jx_gd h
    refine as_1 hX d_S_addAtom_34 (f := (S.2.1 1)) rfl hg2 ?_
    exact kt_S_addAtom_35 hX fin (jx_g (jx_g S 0 (va_cpy (S.2.1 5) (S.2.1 0) (0 : Int32).toNatClampNeg (((S.1 4) * 4) : Int32).toNatClampNeg (4 : Int32).toNatClampNeg)) 1 (upd (S.2.1 1) ((S.1 4)).toNatClampNeg (vp_nar .char a2))) a2 h

def b_R_takeAtom_2  (z : jx_S × Int32) : Option ((jx_S × Int32) ⊕ (jx_S)) :=
  if 4 ≤ z.2 then
    some (.inr z.1)
  else
    if jx_in z.2 4 = true then
      some (.inl ((jx_g z.1 5 (upd (z.1.2.1 5) (z.2).toNatClampNeg 0)), (z.2 + 1)))
    else none

def k_R_takeAtom_67 (S : jx_S) (x1 : Int32) (y0 : Int32) : Option (Int32 × jx_S) :=
  if y0 = 0 then
    some (0, S)
  else
    (f_R_takeSum S (-1)).bind fun q74_6 =>
      if q74_6.1 = 0 then
        some (0, q74_6.2)
      else
        (f_S_addAtom q74_6.2 x1).bind fun q91_7 =>
          some (1, q91_7)

def k_R_takeAtom_62 (S : jx_S) (x1 : Int32) : Option (Int32 × jx_S) :=
  k_R_takeAtom_67 S x1 1

def f_R_takeAtom (S : jx_S)  : Option (Int32 × jx_S) :=
  (jx_lp (b_R_takeAtom_2 ) jx_N (S, 0)).bind fun z2_2 =>
    (f_R_takeSum z2_2 1).bind fun q22_3 =>
      if q22_3.1 = 0 then
        some (0, q22_3.2)
      else
        (f_R_peek q22_3.2).bind fun q31_4 =>
          (f_R_take q22_3.2 60).bind fun q38_5 =>
            if q38_5.1 = 0 then
              (f_R_take q38_5.2 61).bind fun q47_8 =>
                if q47_8.1 = 0 then
                  (f_R_take q47_8.2 62).bind fun q56_9 =>
                    if (if q56_9.1 = 0 then 0 else 1 : Int32) = 0 then
                      some (0, q56_9.2)
                    else
                      (f_R_takeSum q56_9.2 (-1)).bind fun q74_10 =>
                        if q74_10.1 = 0 then
                          some (0, q74_10.2)
                        else
                          (f_S_addAtom q74_10.2 q31_4).bind fun q91_11 =>
                            some (1, q91_11)
                else
                  k_R_takeAtom_62 q47_8.2 q31_4
            else
              k_R_takeAtom_62 q38_5.2 q31_4
set_option maxHeartbeats 4000000 in
set_option maxRecDepth 100000 in
theorem lt_R_takeAtom_2 {G : jx_G} {X : jx_C} (hX : jx_Ok G X b_R_takeAtom "PlaneCells$Reader" (some .boolean) 3 3) (fin : Int32 × jx_S)  {n : Nat} {z : jx_S × Int32} {r : jx_S} (hz : jx_lp (b_R_takeAtom_2 ) n z = some r) (hk : jx_At G X (some (.int fin.1), jx_w G fin.2) (jx_w G r) 20 [(0, .ref (jx_ad G 2))] []) : jx_At G X (some (.int fin.1), jx_w G fin.2) (jx_w G z.1) 2 [(0, .ref (jx_ad G 2)), (1, .int z.2)] [] := by
  refine jx_loop1 (b_R_takeAtom_2 ) (fun z => jx_At G X (some (.int fin.1), jx_w G fin.2) (jx_w G z.1) 2 [(0, .ref (jx_ad G 2)), (1, .int z.2)] []) (fun z => jx_At G X (some (.int fin.1), jx_w G fin.2) (jx_w G z) 20 [(0, .ref (jx_ad G 2))] []) ?_ n z r hz hk
  intro z o h hi hx
  unfold b_R_takeAtom_2 at h
  refine jx_iload_n hX d_R_takeAtom_2 1 rfl rfl ?_
  refine jx_iconst (v := 4) hX d_R_takeAtom_3 (by decide) ?_
  refine jx_icmp_ge hX d_R_takeAtom_4 rfl (fun hc => ?_) (fun hc => ?_)
  · have h := jx_ip hc h
    refine jx_sub (L2 := [(0, .ref (jx_ad G 2))]) [0] rfl ?_
    obtain rfl := Option.some.inj h
    exact hx _ rfl
  · have h := jx_in_ hc h
    refine jx_aload_n hX d_R_takeAtom_7 0 rfl rfl ?_
    refine gf_R_19 hX d_R_takeAtom_8 ?_
    refine jx_iload_n hX d_R_takeAtom_11 1 rfl rfl ?_
    refine jx_iconst (v := 0) hX d_R_takeAtom_12 (by decide) ?_
    obtain ⟨hg1, h⟩ := jx_gd h
    refine as_5 hX d_R_takeAtom_13 rfl hg1 ?_
    refine jx_iinc (v := (z.2 + 1)) hX d_R_takeAtom_14 1 rfl (by first | rfl | decide) (by decide) (L2 := [(1, .int (z.2 + 1)), (0, .ref (jx_ad G 2))]) rfl ?_
    refine jx_goto hX d_R_takeAtom_17 rfl ?_
    refine jx_sub (L2 := [(0, .ref (jx_ad G 2)), (1, .int (z.2 + 1))]) [1, 0] rfl ?_
    obtain rfl := Option.some.inj h
    exact hi _ rfl

set_option maxHeartbeats 4000000 in
set_option maxRecDepth 100000 in
theorem kt_R_takeAtom_67 {G : jx_G} {X : jx_C} (hX : jx_Ok G X b_R_takeAtom "PlaneCells$Reader" (some .boolean) 3 3) (fin : Int32 × jx_S) (S : jx_S) (x1 : Int32) (y0 : Int32) (h : k_R_takeAtom_67 S x1 y0 = some fin) : jx_At G X (some (.int fin.1), jx_w G fin.2) (jx_w G S) 67 [(0, .ref (jx_ad G 2)), (1, .int x1)] [.int y0] := by
  unfold k_R_takeAtom_67 at h
  refine jx_istore_n hX d_R_takeAtom_67 rfl (by decide) (L2 := [(2, .int y0), (0, .ref (jx_ad G 2)), (1, .int x1)]) rfl ?_
  refine jx_iload_n hX d_R_takeAtom_68 0 rfl rfl ?_
  refine jx_if_eq hX d_R_takeAtom_69 rfl (fun hc => ?_) (fun hc => ?_)
  · have h := jx_ip hc h
    refine jx_iconst (v := 0) hX d_R_takeAtom_80 (by decide) ?_
    obtain rfl := Option.some.inj h
    exact jx_zret hX d_R_takeAtom_81 (jx_01n jx_z0)
  · have h := jx_in_ hc h
    refine jx_aload_n hX d_R_takeAtom_72 1 rfl rfl ?_
    refine jx_iconst (v := (-1)) hX d_R_takeAtom_73 (by decide) ?_
    obtain ⟨q74_6, hq74_6, h⟩ := jx_bd h
    refine cs_R_91 hX (c_R_takeSum (jx_l X) G S (-1) q74_6 hq74_6) d_R_takeAtom_74 (by decide) (Nat.le_of_ble_eq_true rfl) ?_
    refine jx_if_ne hX d_R_takeAtom_77 rfl (fun hc => ?_) (fun hc => ?_)
    · have h := jx_in_ hc h
      refine jx_aload_n hX d_R_takeAtom_82 1 rfl rfl ?_
      refine gf_R_22 hX d_R_takeAtom_83 ?_
      refine jx_aload_n hX d_R_takeAtom_86 1 rfl rfl ?_
      refine gf_R_19 hX d_R_takeAtom_87 ?_
      refine jx_iload_n hX d_R_takeAtom_90 2 rfl rfl ?_
      obtain ⟨q91_7, hq91_7, h⟩ := jx_bd h
      refine cs_R_95 hX (c_S_addAtom (jx_l X) G q74_6.2 x1 q91_7 hq91_7) d_R_takeAtom_91 (by decide) (Nat.le_of_ble_eq_true rfl) ?_
      refine jx_iconst (v := 1) hX d_R_takeAtom_94 (by decide) ?_
      obtain rfl := Option.some.inj h
      exact jx_zret hX d_R_takeAtom_95 (jx_01n jx_z1)
    · have h := jx_ip hc h
      refine jx_iconst (v := 0) hX d_R_takeAtom_80 (by decide) ?_
      obtain rfl := Option.some.inj h
      exact jx_zret hX d_R_takeAtom_81 (jx_01n jx_z0)

set_option maxHeartbeats 4000000 in
set_option maxRecDepth 100000 in
theorem kt_R_takeAtom_62 {G : jx_G} {X : jx_C} (hX : jx_Ok G X b_R_takeAtom "PlaneCells$Reader" (some .boolean) 3 3) (fin : Int32 × jx_S) (S : jx_S) (x1 : Int32) (h : k_R_takeAtom_62 S x1 = some fin) : jx_At G X (some (.int fin.1), jx_w G fin.2) (jx_w G S) 62 [(0, .ref (jx_ad G 2)), (1, .int x1)] [] := by
  unfold k_R_takeAtom_62 at h
  refine jx_iconst (v := 1) hX d_R_takeAtom_62 (by decide) ?_
  refine jx_goto hX d_R_takeAtom_63 rfl ?_
  exact kt_R_takeAtom_67 hX fin S x1 1 h

set_option maxHeartbeats 4000000 in
set_option maxRecDepth 100000 in
theorem c_R_takeAtom (l : Launch) (G : jx_G) (S : jx_S)  (fin : Int32 × jx_S) (h : f_R_takeAtom S = some fin) : jx_M l y_R_takeAtom b_R_takeAtom 3 (some .boolean) 3 G [.ref (jx_ad G 2)] (jx_w G S) (some (.int fin.1), jx_w G fin.2) := by
  refine jx_met (own := "PlaneCells$Reader") (by decide) rfl (Nat.le_of_ble_eq_true rfl) (fun X hX hl => ?_)
  subst hl
  refine jx_L (L2 := [(0, .ref (jx_ad G 2))]) rfl ?_
  unfold f_R_takeAtom at h
  refine jx_iconst (v := 0) hX d_R_takeAtom_0 (by decide) ?_
  refine jx_istore_n hX d_R_takeAtom_1 rfl (by decide) (L2 := [(1, .int 0), (0, .ref (jx_ad G 2))]) rfl ?_
  refine jx_sub (L2 := [(0, .ref (jx_ad G 2)), (1, .int 0)]) [1, 0] rfl ?_
  obtain ⟨z2_2, hz, h⟩ := jx_bd h
  refine lt_R_takeAtom_2 hX fin  hz ?_
  refine jx_aload_n hX d_R_takeAtom_20 0 rfl rfl ?_
  refine jx_iconst (v := 1) hX d_R_takeAtom_21 (by decide) ?_
  obtain ⟨q22_3, hq22_3, h⟩ := jx_bd h
  refine cs_R_91 hX (c_R_takeSum (jx_l X) G z2_2 1 q22_3 hq22_3) d_R_takeAtom_22 (by decide) (Nat.le_of_ble_eq_true rfl) ?_
  refine jx_if_ne hX d_R_takeAtom_25 rfl (fun hc => ?_) (fun hc => ?_)
  · have h := jx_in_ hc h
    refine jx_aload_n hX d_R_takeAtom_30 0 rfl rfl ?_
    obtain ⟨q31_4, hq31_4, h⟩ := jx_bd h
    refine cs_R_67 hX (c_R_peek (jx_l X) G q22_3.2 q31_4 hq31_4) d_R_takeAtom_31 (by decide) (Nat.le_of_ble_eq_true rfl) ?_
    refine jx_istore_n hX d_R_takeAtom_34 rfl (by decide) (L2 := [(1, .int q31_4), (0, .ref (jx_ad G 2))]) rfl ?_
    refine jx_aload_n hX d_R_takeAtom_35 1 rfl rfl ?_
    refine jx_bipush (v := 60) hX d_R_takeAtom_36 (by decide) ?_
    obtain ⟨q38_5, hq38_5, h⟩ := jx_bd h
    refine cs_R_78 hX (c_R_take (jx_l X) G q22_3.2 60 q38_5 hq38_5) d_R_takeAtom_38 (by decide) (Nat.le_of_ble_eq_true rfl) ?_
    refine jx_if_ne hX d_R_takeAtom_41 rfl (fun hc => ?_) (fun hc => ?_)
    · have h := jx_in_ hc h
      refine jx_sub (L2 := [(0, .ref (jx_ad G 2)), (1, .int q31_4)]) [1, 0] rfl ?_
      exact kt_R_takeAtom_62 hX fin q38_5.2 q31_4 h
    · have h := jx_ip hc h
      refine jx_aload_n hX d_R_takeAtom_44 1 rfl rfl ?_
      refine jx_bipush (v := 61) hX d_R_takeAtom_45 (by decide) ?_
      obtain ⟨q47_8, hq47_8, h⟩ := jx_bd h
      refine cs_R_78 hX (c_R_take (jx_l X) G q38_5.2 61 q47_8 hq47_8) d_R_takeAtom_47 (by decide) (Nat.le_of_ble_eq_true rfl) ?_
      refine jx_if_ne hX d_R_takeAtom_50 rfl (fun hc => ?_) (fun hc => ?_)
      · have h := jx_in_ hc h
        refine jx_sub (L2 := [(0, .ref (jx_ad G 2)), (1, .int q31_4)]) [1, 0] rfl ?_
        exact kt_R_takeAtom_62 hX fin q47_8.2 q31_4 h
      · have h := jx_ip hc h
        refine jx_aload_n hX d_R_takeAtom_53 1 rfl rfl ?_
        refine jx_bipush (v := 62) hX d_R_takeAtom_54 (by decide) ?_
        obtain ⟨q56_9, hq56_9, h⟩ := jx_bd h
        refine cs_R_78 hX (c_R_take (jx_l X) G q47_8.2 62 q56_9 hq56_9) d_R_takeAtom_56 (by decide) (Nat.le_of_ble_eq_true rfl) ?_
        have hj : ∀ v : Int32, v = (if q56_9.1 = 0 then 0 else 1 : Int32) → jx_At G X (some (.int fin.1), jx_w G fin.2) (jx_w G q56_9.2) 67 [(1, .int q31_4), (0, .ref (jx_ad G 2))] [.int v] := by
          intro v hv
          subst hv
          refine jx_istore_n hX d_R_takeAtom_67 rfl (by decide) (L2 := [(2, .int (if q56_9.1 = 0 then 0 else 1 : Int32)), (1, .int q31_4), (0, .ref (jx_ad G 2))]) rfl ?_
          refine jx_iload_n hX d_R_takeAtom_68 0 rfl rfl ?_
          refine jx_if_eq hX d_R_takeAtom_69 rfl (fun hc => ?_) (fun hc => ?_)
          · have h := jx_ip hc h
            refine jx_iconst (v := 0) hX d_R_takeAtom_80 (by decide) ?_
            obtain rfl := Option.some.inj h
            exact jx_zret hX d_R_takeAtom_81 (jx_01n jx_z0)
          · have h := jx_in_ hc h
            refine jx_aload_n hX d_R_takeAtom_72 2 rfl rfl ?_
            refine jx_iconst (v := (-1)) hX d_R_takeAtom_73 (by decide) ?_
            obtain ⟨q74_10, hq74_10, h⟩ := jx_bd h
            refine cs_R_91 hX (c_R_takeSum (jx_l X) G q56_9.2 (-1) q74_10 hq74_10) d_R_takeAtom_74 (by decide) (Nat.le_of_ble_eq_true rfl) ?_
            refine jx_if_ne hX d_R_takeAtom_77 rfl (fun hc => ?_) (fun hc => ?_)
            · have h := jx_in_ hc h
              refine jx_aload_n hX d_R_takeAtom_82 2 rfl rfl ?_
              refine gf_R_22 hX d_R_takeAtom_83 ?_
              refine jx_aload_n hX d_R_takeAtom_86 2 rfl rfl ?_
              refine gf_R_19 hX d_R_takeAtom_87 ?_
              refine jx_iload_n hX d_R_takeAtom_90 1 rfl rfl ?_
              obtain ⟨q91_11, hq91_11, h⟩ := jx_bd h
              refine cs_R_95 hX (c_S_addAtom (jx_l X) G q74_10.2 q31_4 q91_11 hq91_11) d_R_takeAtom_91 (by decide) (Nat.le_of_ble_eq_true rfl) ?_
              refine jx_iconst (v := 1) hX d_R_takeAtom_94 (by decide) ?_
              obtain rfl := Option.some.inj h
              exact jx_zret hX d_R_takeAtom_95 (jx_01n jx_z1)
            · have h := jx_ip hc h
              refine jx_iconst (v := 0) hX d_R_takeAtom_80 (by decide) ?_
              obtain rfl := Option.some.inj h
              exact jx_zret hX d_R_takeAtom_81 (jx_01n jx_z0)
        refine jx_if_eq hX d_R_takeAtom_59 rfl (fun hc12 => ?_) (fun hc12 => ?_)
        · refine jx_iconst (v := 0) hX d_R_takeAtom_66 (by decide) ?_
          exact hj _ (if_pos hc12).symm
        · refine jx_iconst (v := 1) hX d_R_takeAtom_62 (by decide) ?_
          refine jx_goto hX d_R_takeAtom_63 rfl ?_
          exact hj _ (if_neg hc12).symm
  · have h := jx_ip hc h
    refine jx_iconst (v := 0) hX d_R_takeAtom_28 (by decide) ?_
    obtain rfl := Option.some.inj h
    exact jx_zret hX d_R_takeAtom_29 (jx_01n jx_z0)

def b_R_release_0 (x1 : Int32) (z : jx_S) : Option ((jx_S) ⊕ (jx_S)) :=
  if (z.1 10) ≤ 0 then
    some (.inr z)
  else
    if jx_in ((z.1 10) - 1) 80 = true then
      if ((z.2.1 4) (((z.1 10) - 1)).toNatClampNeg) < x1 then
        some (.inr z)
      else
        (f_S_addStep z ((z.2.1 4) (((z.1 10) - 1)).toNatClampNeg)).bind fun q37_2 =>
          some (.inl (jx_f q37_2 10 ((q37_2.1 10) - 1)))
    else none

def f_R_release (S : jx_S) (a1 : Int32) : Option (jx_S) :=
  (jx_lp (b_R_release_0 a1) jx_N S).bind fun z0_3 =>
    some z0_3
set_option maxHeartbeats 4000000 in
set_option maxRecDepth 100000 in
theorem lt_R_release_0 {G : jx_G} {X : jx_C} (hX : jx_Ok G X b_R_release "PlaneCells$Reader" none 2 1) (fin : jx_S) (x1 : Int32) {n : Nat} {z : jx_S} {r : jx_S} (hz : jx_lp (b_R_release_0 x1) n z = some r) (hk : jx_At G X (none, jx_w G fin) (jx_w G r) 53 [(0, .ref (jx_ad G 2)), (1, .int x1)] []) : jx_At G X (none, jx_w G fin) (jx_w G z) 0 [(0, .ref (jx_ad G 2)), (1, .int x1)] [] := by
  refine jx_loop1 (b_R_release_0 x1) (fun z => jx_At G X (none, jx_w G fin) (jx_w G z) 0 [(0, .ref (jx_ad G 2)), (1, .int x1)] []) (fun z => jx_At G X (none, jx_w G fin) (jx_w G z) 53 [(0, .ref (jx_ad G 2)), (1, .int x1)] []) ?_ n z r hz hk
  intro z o h hi hx
  unfold b_R_release_0 at h
  refine jx_aload_n hX d_R_release_0 0 rfl rfl ?_
  refine gf_R_36 hX d_R_release_1 rfl ?_
  refine jx_if_le hX d_R_release_4 rfl (fun hc => ?_) (fun hc => ?_)
  · have h := jx_ip hc h
    obtain rfl := Option.some.inj h
    exact hx _ rfl
  · have h := jx_in_ hc h
    refine jx_aload_n hX d_R_release_7 0 rfl rfl ?_
    refine gf_R_15 hX d_R_release_8 ?_
    refine jx_aload_n hX d_R_release_11 0 rfl rfl ?_
    refine gf_R_36 hX d_R_release_12 rfl ?_
    refine jx_iconst (v := 1) hX d_R_release_15 (by decide) ?_
    refine jx_isub hX d_R_release_16 ?_
    obtain ⟨hg1, h⟩ := jx_gd h
    refine al_4 hX d_R_release_17 rfl hg1 ?_
    refine jx_iload_n hX d_R_release_18 1 rfl rfl ?_
    refine jx_icmp_lt hX d_R_release_19 rfl (fun hc => ?_) (fun hc => ?_)
    · have h := jx_ip hc h
      obtain rfl := Option.some.inj h
      exact hx _ rfl
    · have h := jx_in_ hc h
      refine jx_aload_n hX d_R_release_22 0 rfl rfl ?_
      refine gf_R_22 hX d_R_release_23 ?_
      refine jx_aload_n hX d_R_release_26 0 rfl rfl ?_
      refine gf_R_15 hX d_R_release_27 ?_
      refine jx_aload_n hX d_R_release_30 0 rfl rfl ?_
      refine gf_R_36 hX d_R_release_31 rfl ?_
      refine jx_iconst (v := 1) hX d_R_release_34 (by decide) ?_
      refine jx_isub hX d_R_release_35 ?_
      refine al_4 hX d_R_release_36 rfl hg1 ?_
      obtain ⟨q37_2, hq37_2, h⟩ := jx_bd h
      refine cs_R_88 hX (c_S_addStep (jx_l X) G z ((z.2.1 4) (((z.1 10) - 1)).toNatClampNeg) q37_2 hq37_2) d_R_release_37 (by decide) (Nat.le_of_ble_eq_true rfl) ?_
      refine jx_aload_n hX d_R_release_40 0 rfl rfl ?_
      refine jx_dup hX d_R_release_41 rfl ?_
      refine gf_R_36 hX d_R_release_42 rfl ?_
      refine jx_iconst (v := 1) hX d_R_release_45 (by decide) ?_
      refine jx_isub hX d_R_release_46 ?_
      refine pf_R_36 hX d_R_release_47 ?_
      refine jx_goto hX d_R_release_50 rfl ?_
      obtain rfl := Option.some.inj h
      exact hi _ rfl

set_option maxHeartbeats 4000000 in
set_option maxRecDepth 100000 in
theorem c_R_release (l : Launch) (G : jx_G) (S : jx_S) (a1 : Int32) (fin : jx_S) (h : f_R_release S a1 = some fin) : jx_M l y_R_release b_R_release 2 none 1 G [.ref (jx_ad G 2), .int a1] (jx_w G S) (none, jx_w G fin) := by
  refine jx_met (own := "PlaneCells$Reader") (by decide) rfl (Nat.le_of_ble_eq_true rfl) (fun X hX hl => ?_)
  subst hl
  refine jx_L (L2 := [(0, .ref (jx_ad G 2)), (1, .int a1)]) rfl ?_
  unfold f_R_release at h
  obtain ⟨z0_3, hz, h⟩ := jx_bd h
  refine lt_R_release_0 hX fin a1 hz ?_
  obtain rfl := Option.some.inj h
  exact jx_vret hX d_R_release_53

def b_R_takeClosings_0  (z : jx_S) : Option ((jx_S) ⊕ (jx_S)) :=
  if (z.1 11) ≤ 0 then
    some (.inr z)
  else
    (f_R_peek z).bind fun q8_1 =>
      if q8_1 = 41 then
        (f_R_release z 1).bind fun q18_2 =>
          some (.inl (jx_f (jx_f (jx_f q18_2 10 ((q18_2.1 10) - 1)) 11 ((q18_2.1 11) - 1)) 9 ((q18_2.1 9) + 1)))
      else
        some (.inr z)

def f_R_takeClosings (S : jx_S)  : Option (jx_S) :=
  (jx_lp (b_R_takeClosings_0 ) jx_N S).bind fun z0_3 =>
    some z0_3
set_option maxHeartbeats 4000000 in
set_option maxRecDepth 100000 in
theorem lt_R_takeClosings_0 {G : jx_G} {X : jx_C} (hX : jx_Ok G X b_R_takeClosings "PlaneCells$Reader" none 1 2) (fin : jx_S)  {n : Nat} {z : jx_S} {r : jx_S} (hz : jx_lp (b_R_takeClosings_0 ) n z = some r) (hk : jx_At G X (none, jx_w G fin) (jx_w G r) 54 [(0, .ref (jx_ad G 2))] []) : jx_At G X (none, jx_w G fin) (jx_w G z) 0 [(0, .ref (jx_ad G 2))] [] := by
  refine jx_loop1 (b_R_takeClosings_0 ) (fun z => jx_At G X (none, jx_w G fin) (jx_w G z) 0 [(0, .ref (jx_ad G 2))] []) (fun z => jx_At G X (none, jx_w G fin) (jx_w G z) 54 [(0, .ref (jx_ad G 2))] []) ?_ n z r hz hk
  intro z o h hi hx
  unfold b_R_takeClosings_0 at h
  refine jx_aload_n hX d_R_takeClosings_0 0 rfl rfl ?_
  refine gf_R_39 hX d_R_takeClosings_1 rfl ?_
  refine jx_if_le hX d_R_takeClosings_4 rfl (fun hc => ?_) (fun hc => ?_)
  · have h := jx_ip hc h
    obtain rfl := Option.some.inj h
    exact hx _ rfl
  · have h := jx_in_ hc h
    refine jx_aload_n hX d_R_takeClosings_7 0 rfl rfl ?_
    obtain ⟨q8_1, hq8_1, h⟩ := jx_bd h
    refine cs_R_67 hX (c_R_peek (jx_l X) G z q8_1 hq8_1) d_R_takeClosings_8 (by decide) (Nat.le_of_ble_eq_true rfl) ?_
    refine jx_bipush (v := 41) hX d_R_takeClosings_11 (by decide) ?_
    refine jx_icmp_ne hX d_R_takeClosings_13 rfl (fun hc => ?_) (fun hc => ?_)
    · have h := jx_in_ hc h
      obtain rfl := Option.some.inj h
      exact hx _ rfl
    · have h := jx_ip hc h
      refine jx_aload_n hX d_R_takeClosings_16 0 rfl rfl ?_
      refine jx_iconst (v := 1) hX d_R_takeClosings_17 (by decide) ?_
      obtain ⟨q18_2, hq18_2, h⟩ := jx_bd h
      refine cs_R_63 hX (c_R_release (jx_l X) G z 1 q18_2 hq18_2) d_R_takeClosings_18 (by decide) (Nat.le_of_ble_eq_true rfl) ?_
      refine jx_aload_n hX d_R_takeClosings_21 0 rfl rfl ?_
      refine jx_dup hX d_R_takeClosings_22 rfl ?_
      refine gf_R_36 hX d_R_takeClosings_23 rfl ?_
      refine jx_iconst (v := 1) hX d_R_takeClosings_26 (by decide) ?_
      refine jx_isub hX d_R_takeClosings_27 ?_
      refine pf_R_36 hX d_R_takeClosings_28 ?_
      refine jx_aload_n hX d_R_takeClosings_31 0 rfl rfl ?_
      refine jx_dup hX d_R_takeClosings_32 rfl ?_
      refine gf_R_39 hX d_R_takeClosings_33 (x := (q18_2.1 11)) rfl ?_
      refine jx_iconst (v := 1) hX d_R_takeClosings_36 (by decide) ?_
      refine jx_isub hX d_R_takeClosings_37 ?_
      refine pf_R_39 hX d_R_takeClosings_38 ?_
      refine jx_aload_n hX d_R_takeClosings_41 0 rfl rfl ?_
      refine jx_dup hX d_R_takeClosings_42 rfl ?_
      refine gf_R_33 hX d_R_takeClosings_43 (x := (q18_2.1 9)) rfl ?_
      refine jx_iconst (v := 1) hX d_R_takeClosings_46 (by decide) ?_
      refine jx_iadd hX d_R_takeClosings_47 ?_
      refine pf_R_33 hX d_R_takeClosings_48 ?_
      refine jx_goto hX d_R_takeClosings_51 rfl ?_
      obtain rfl := Option.some.inj h
      exact hi _ rfl

set_option maxHeartbeats 4000000 in
set_option maxRecDepth 100000 in
theorem c_R_takeClosings (l : Launch) (G : jx_G) (S : jx_S)  (fin : jx_S) (h : f_R_takeClosings S = some fin) : jx_M l y_R_takeClosings b_R_takeClosings 1 none 2 G [.ref (jx_ad G 2)] (jx_w G S) (none, jx_w G fin) := by
  refine jx_met (own := "PlaneCells$Reader") (by decide) rfl (Nat.le_of_ble_eq_true rfl) (fun X hX hl => ?_)
  subst hl
  refine jx_L (L2 := [(0, .ref (jx_ad G 2))]) rfl ?_
  unfold f_R_takeClosings at h
  obtain ⟨z0_3, hz, h⟩ := jx_bd h
  refine lt_R_takeClosings_0 hX fin  hz ?_
  obtain rfl := Option.some.inj h
  exact jx_vret hX d_R_takeClosings_54

