def b_Q_trueIn_4 (S : jx_S) (x1 : Int32) (z : Int32 × Int32) : Option ((Int32 × Int32) ⊕ (Int32)) :=
  if (S.1 3) ≤ z.2 then
    some (.inr z.1)
  else
    if jx_in z.2 80 = true then
      if ((S.2.1 2) (z.2).toNatClampNeg) < 4 then
        if ((S.2.1 2) (z.2).toNatClampNeg) = 3 then
          some (.inl ((z.1 ^^^ 1), (z.2 + 1)))
        else
          if ((S.2.1 2) (z.2).toNatClampNeg) = 2 then
            some (.inl (((z.1 >>> (1 &&& 31)) &&& (z.1 ||| (-2))), (z.2 + 1)))
          else
            some (.inl (((z.1 >>> (1 &&& 31)) ||| (z.1 &&& 1)), (z.2 + 1)))
      else
        (f_Q_signIn S x1 (((S.2.1 2) (z.2).toNatClampNeg) - 4)).bind fun q51_2 =>
          (f_S_atomIsTrue S (((S.2.1 2) (z.2).toNatClampNeg) - 4) q51_2).bind fun q54_3 =>
            some (.inl (((z.1 <<< (1 &&& 31)) ||| (if q54_3 = 0 then 0 else 1 : Int32)), (z.2 + 1)))
    else none

def f_Q_trueIn (S : jx_S) (a1 : Int32) : Option (Int32) :=
  (jx_lp (b_Q_trueIn_4 S a1) jx_N (0, 0)).bind fun z4_5 =>
    some (if (z4_5 &&& 1) = 1 then 1 else 0 : Int32)
set_option maxHeartbeats 4000000 in
set_option maxRecDepth 100000 in
theorem lt_Q_trueIn_4 {G : jx_G} {X : jx_C} (hX : jx_Ok G X b_Q_trueIn "PlaneCells$Plane" (some .boolean) 6 2) (fin : Int32) (S : jx_S) (x1 : Int32) {n : Nat} {z : Int32 × Int32} {r : Int32} (hz : jx_lp (b_Q_trueIn_4 S x1) n z = some r) (hk : jx_At G X (some (.int fin), jx_w G S) (jx_w G S) 115 [(0, .ref (jx_ad G 3)), (1, .int x1), (2, .int r)] []) : jx_At G X (some (.int fin), jx_w G S) (jx_w G S) 4 [(0, .ref (jx_ad G 3)), (1, .int x1), (2, .int z.1), (3, .int z.2)] [] := by
  refine jx_loop1 (b_Q_trueIn_4 S x1) (fun z => jx_At G X (some (.int fin), jx_w G S) (jx_w G S) 4 [(0, .ref (jx_ad G 3)), (1, .int x1), (2, .int z.1), (3, .int z.2)] []) (fun z => jx_At G X (some (.int fin), jx_w G S) (jx_w G S) 115 [(0, .ref (jx_ad G 3)), (1, .int x1), (2, .int z)] []) ?_ n z r hz hk
  intro z o h hi hx
  unfold b_Q_trueIn_4 at h
  refine jx_iload_n hX d_Q_trueIn_4 3 rfl rfl ?_
  refine jx_aload_n hX d_Q_trueIn_5 0 rfl rfl ?_
  refine gf_Q_35 hX d_Q_trueIn_6 ?_
  refine gf_Q_89 hX d_Q_trueIn_9 rfl ?_
  refine jx_icmp_ge hX d_Q_trueIn_12 rfl (fun hc => ?_) (fun hc => ?_)
  · have h := jx_ip hc h
    refine jx_sub (L2 := [(0, .ref (jx_ad G 3)), (1, .int x1), (2, .int z.1)]) [0, 1, 2] rfl ?_
    obtain rfl := Option.some.inj h
    exact hx _ rfl
  · have h := jx_in_ hc h
    refine jx_aload_n hX d_Q_trueIn_15 0 rfl rfl ?_
    refine gf_Q_35 hX d_Q_trueIn_16 ?_
    refine gf_Q_92 hX d_Q_trueIn_19 ?_
    refine jx_iload_n hX d_Q_trueIn_22 3 rfl rfl ?_
    obtain ⟨hg1, h⟩ := jx_gd h
    refine al_2 hX d_Q_trueIn_23 rfl hg1 ?_
    refine jx_istore hX d_Q_trueIn_24 (by decide) (L2 := [(4, .int ((S.2.1 2) (z.2).toNatClampNeg)), (0, .ref (jx_ad G 3)), (1, .int x1), (2, .int z.1), (3, .int z.2)]) rfl ?_
    refine jx_iload hX d_Q_trueIn_26 0 rfl ?_
    refine jx_iconst (v := 4) hX d_Q_trueIn_28 (by decide) ?_
    refine jx_icmp_lt hX d_Q_trueIn_29 rfl (fun hc => ?_) (fun hc => ?_)
    · have h := jx_ip hc h
      refine jx_iload hX d_Q_trueIn_70 0 rfl ?_
      refine jx_iconst (v := 3) hX d_Q_trueIn_72 (by decide) ?_
      refine jx_icmp_ne hX d_Q_trueIn_73 rfl (fun hc => ?_) (fun hc => ?_)
      · have h := jx_in_ hc h
        refine jx_iload hX d_Q_trueIn_83 0 rfl ?_
        refine jx_iconst (v := 2) hX d_Q_trueIn_85 (by decide) ?_
        refine jx_icmp_ne hX d_Q_trueIn_86 rfl (fun hc => ?_) (fun hc => ?_)
        · have h := jx_in_ hc h
          refine jx_iload_n hX d_Q_trueIn_101 3 rfl rfl ?_
          refine jx_iconst (v := 1) hX d_Q_trueIn_102 (by decide) ?_
          refine jx_ishr hX d_Q_trueIn_103 ?_
          refine jx_iload_n hX d_Q_trueIn_104 3 rfl rfl ?_
          refine jx_iconst (v := 1) hX d_Q_trueIn_105 (by decide) ?_
          refine jx_iand hX d_Q_trueIn_106 ?_
          refine jx_ior hX d_Q_trueIn_107 ?_
          refine jx_istore_n hX d_Q_trueIn_108 rfl (by decide) (L2 := [(2, .int ((z.1 >>> (1 &&& 31)) ||| (z.1 &&& 1))), (4, .int ((S.2.1 2) (z.2).toNatClampNeg)), (0, .ref (jx_ad G 3)), (1, .int x1), (3, .int z.2)]) rfl ?_
          refine jx_iinc (v := (z.2 + 1)) hX d_Q_trueIn_109 4 rfl (by first | rfl | decide) (by decide) (L2 := [(3, .int (z.2 + 1)), (2, .int ((z.1 >>> (1 &&& 31)) ||| (z.1 &&& 1))), (4, .int ((S.2.1 2) (z.2).toNatClampNeg)), (0, .ref (jx_ad G 3)), (1, .int x1)]) rfl ?_
          refine jx_goto hX d_Q_trueIn_112 rfl ?_
          refine jx_sub (L2 := [(0, .ref (jx_ad G 3)), (1, .int x1), (2, .int ((z.1 >>> (1 &&& 31)) ||| (z.1 &&& 1))), (3, .int (z.2 + 1))]) [3, 4, 1, 0] rfl ?_
          obtain rfl := Option.some.inj h
          exact hi _ rfl
        · have h := jx_ip hc h
          refine jx_iload_n hX d_Q_trueIn_89 3 rfl rfl ?_
          refine jx_iconst (v := 1) hX d_Q_trueIn_90 (by decide) ?_
          refine jx_ishr hX d_Q_trueIn_91 ?_
          refine jx_iload_n hX d_Q_trueIn_92 3 rfl rfl ?_
          refine jx_bipush (v := (-2)) hX d_Q_trueIn_93 (by decide) ?_
          refine jx_ior hX d_Q_trueIn_95 ?_
          refine jx_iand hX d_Q_trueIn_96 ?_
          refine jx_istore_n hX d_Q_trueIn_97 rfl (by decide) (L2 := [(2, .int ((z.1 >>> (1 &&& 31)) &&& (z.1 ||| (-2)))), (4, .int ((S.2.1 2) (z.2).toNatClampNeg)), (0, .ref (jx_ad G 3)), (1, .int x1), (3, .int z.2)]) rfl ?_
          refine jx_goto hX d_Q_trueIn_98 rfl ?_
          refine jx_iinc (v := (z.2 + 1)) hX d_Q_trueIn_109 4 rfl (by first | rfl | decide) (by decide) (L2 := [(3, .int (z.2 + 1)), (2, .int ((z.1 >>> (1 &&& 31)) &&& (z.1 ||| (-2)))), (4, .int ((S.2.1 2) (z.2).toNatClampNeg)), (0, .ref (jx_ad G 3)), (1, .int x1)]) rfl ?_
          refine jx_goto hX d_Q_trueIn_112 rfl ?_
          refine jx_sub (L2 := [(0, .ref (jx_ad G 3)), (1, .int x1), (2, .int ((z.1 >>> (1 &&& 31)) &&& (z.1 ||| (-2)))), (3, .int (z.2 + 1))]) [3, 4, 1, 0] rfl ?_
          obtain rfl := Option.some.inj h
          exact hi _ rfl
      · have h := jx_ip hc h
        refine jx_iload_n hX d_Q_trueIn_76 3 rfl rfl ?_
        refine jx_iconst (v := 1) hX d_Q_trueIn_77 (by decide) ?_
        refine jx_ixor hX d_Q_trueIn_78 ?_
        refine jx_istore_n hX d_Q_trueIn_79 rfl (by decide) (L2 := [(2, .int (z.1 ^^^ 1)), (4, .int ((S.2.1 2) (z.2).toNatClampNeg)), (0, .ref (jx_ad G 3)), (1, .int x1), (3, .int z.2)]) rfl ?_
        refine jx_goto hX d_Q_trueIn_80 rfl ?_
        refine jx_iinc (v := (z.2 + 1)) hX d_Q_trueIn_109 4 rfl (by first | rfl | decide) (by decide) (L2 := [(3, .int (z.2 + 1)), (2, .int (z.1 ^^^ 1)), (4, .int ((S.2.1 2) (z.2).toNatClampNeg)), (0, .ref (jx_ad G 3)), (1, .int x1)]) rfl ?_
        refine jx_goto hX d_Q_trueIn_112 rfl ?_
        refine jx_sub (L2 := [(0, .ref (jx_ad G 3)), (1, .int x1), (2, .int (z.1 ^^^ 1)), (3, .int (z.2 + 1))]) [3, 4, 1, 0] rfl ?_
        obtain rfl := Option.some.inj h
        exact hi _ rfl
    · have h := jx_in_ hc h
      refine jx_iload hX d_Q_trueIn_32 0 rfl ?_
      refine jx_iconst (v := 4) hX d_Q_trueIn_34 (by decide) ?_
      refine jx_isub hX d_Q_trueIn_35 ?_
      refine jx_istore hX d_Q_trueIn_36 (by decide) (L2 := [(5, .int (((S.2.1 2) (z.2).toNatClampNeg) - 4)), (4, .int ((S.2.1 2) (z.2).toNatClampNeg)), (0, .ref (jx_ad G 3)), (1, .int x1), (2, .int z.1), (3, .int z.2)]) rfl ?_
      refine jx_iload_n hX d_Q_trueIn_38 4 rfl rfl ?_
      refine jx_iconst (v := 1) hX d_Q_trueIn_39 (by decide) ?_
      refine jx_ishl hX d_Q_trueIn_40 ?_
      refine jx_aload_n hX d_Q_trueIn_41 2 rfl rfl ?_
      refine gf_Q_35 hX d_Q_trueIn_42 ?_
      refine jx_iload hX d_Q_trueIn_45 0 rfl ?_
      refine jx_aload_n hX d_Q_trueIn_47 2 rfl rfl ?_
      refine jx_iload_n hX d_Q_trueIn_48 3 rfl rfl ?_
      refine jx_iload hX d_Q_trueIn_49 0 rfl ?_
      obtain ⟨q51_2, hq51_2, h⟩ := jx_bd h
      refine cs_Q_95 hX (c_Q_signIn (jx_l X) G S x1 (((S.2.1 2) (z.2).toNatClampNeg) - 4) q51_2 hq51_2) d_Q_trueIn_51 (by decide) (Nat.le_of_ble_eq_true rfl) ?_
      obtain ⟨q54_3, hq54_3, h⟩ := jx_bd h
      refine cs_Q_98 hX (c_S_atomIsTrue (jx_l X) G S (((S.2.1 2) (z.2).toNatClampNeg) - 4) q51_2 q54_3 hq54_3) d_Q_trueIn_54 (by decide) (Nat.le_of_ble_eq_true rfl) ?_
      have hj : ∀ v : Int32, v = (if q54_3 = 0 then 0 else 1 : Int32) → jx_At G X (some (.int fin), jx_w G S) (jx_w G S) 65 [(5, .int (((S.2.1 2) (z.2).toNatClampNeg) - 4)), (4, .int ((S.2.1 2) (z.2).toNatClampNeg)), (0, .ref (jx_ad G 3)), (1, .int x1), (2, .int z.1), (3, .int z.2)] [.int v, .int (z.1 <<< (1 &&& 31))] := by
        intro v hv
        subst hv
        refine jx_ior hX d_Q_trueIn_65 ?_
        refine jx_istore_n hX d_Q_trueIn_66 rfl (by decide) (L2 := [(2, .int ((z.1 <<< (1 &&& 31)) ||| (if q54_3 = 0 then 0 else 1 : Int32))), (5, .int (((S.2.1 2) (z.2).toNatClampNeg) - 4)), (4, .int ((S.2.1 2) (z.2).toNatClampNeg)), (0, .ref (jx_ad G 3)), (1, .int x1), (3, .int z.2)]) rfl ?_
        refine jx_goto hX d_Q_trueIn_67 rfl ?_
        refine jx_iinc (v := (z.2 + 1)) hX d_Q_trueIn_109 5 rfl (by first | rfl | decide) (by decide) (L2 := [(3, .int (z.2 + 1)), (2, .int ((z.1 <<< (1 &&& 31)) ||| (if q54_3 = 0 then 0 else 1 : Int32))), (5, .int (((S.2.1 2) (z.2).toNatClampNeg) - 4)), (4, .int ((S.2.1 2) (z.2).toNatClampNeg)), (0, .ref (jx_ad G 3)), (1, .int x1)]) rfl ?_
        refine jx_goto hX d_Q_trueIn_112 rfl ?_
        refine jx_sub (L2 := [(0, .ref (jx_ad G 3)), (1, .int x1), (2, .int ((z.1 <<< (1 &&& 31)) ||| (if q54_3 = 0 then 0 else 1 : Int32))), (3, .int (z.2 + 1))]) [4, 5, 1, 0] rfl ?_
        obtain rfl := Option.some.inj h
        exact hi _ rfl
      refine jx_if_eq hX d_Q_trueIn_57 rfl (fun hc4 => ?_) (fun hc4 => ?_)
      · refine jx_iconst (v := 0) hX d_Q_trueIn_64 (by decide) ?_
        exact hj _ (if_pos hc4).symm
      · refine jx_iconst (v := 1) hX d_Q_trueIn_60 (by decide) ?_
        refine jx_goto hX d_Q_trueIn_61 rfl ?_
        exact hj _ (if_neg hc4).symm

set_option maxHeartbeats 4000000 in
set_option maxRecDepth 100000 in
theorem c_Q_trueIn (l : Launch) (G : jx_G) (S : jx_S) (a1 : Int32) (fin : Int32) (h : f_Q_trueIn S a1 = some fin) : jx_M l y_Q_trueIn b_Q_trueIn 6 (some .boolean) 2 G [.ref (jx_ad G 3), .int a1] (jx_w G S) (some (.int fin), jx_w G S) := by
  refine jx_met (own := "PlaneCells$Plane") (by decide) rfl (Nat.le_of_ble_eq_true rfl) (fun X hX hl => ?_)
  subst hl
  refine jx_L (L2 := [(0, .ref (jx_ad G 3)), (1, .int a1)]) rfl ?_
  unfold f_Q_trueIn at h
  refine jx_iconst (v := 0) hX d_Q_trueIn_0 (by decide) ?_
  refine jx_istore_n hX d_Q_trueIn_1 rfl (by decide) (L2 := [(2, .int 0), (0, .ref (jx_ad G 3)), (1, .int a1)]) rfl ?_
  refine jx_iconst (v := 0) hX d_Q_trueIn_2 (by decide) ?_
  refine jx_istore_n hX d_Q_trueIn_3 rfl (by decide) (L2 := [(3, .int 0), (2, .int 0), (0, .ref (jx_ad G 3)), (1, .int a1)]) rfl ?_
  refine jx_sub (L2 := [(0, .ref (jx_ad G 3)), (1, .int a1), (2, .int 0), (3, .int 0)]) [2, 3, 1, 0] rfl ?_
  obtain ⟨z4_5, hz, h⟩ := jx_bd h
  refine lt_Q_trueIn_4 hX fin S a1 hz ?_
  refine jx_iload_n hX d_Q_trueIn_115 2 rfl rfl ?_
  refine jx_iconst (v := 1) hX d_Q_trueIn_116 (by decide) ?_
  refine jx_iand hX d_Q_trueIn_117 ?_
  refine jx_iconst (v := 1) hX d_Q_trueIn_118 (by decide) ?_
  have hj : ∀ v : Int32, v = (if (z4_5 &&& 1) = 1 then 1 else 0 : Int32) → jx_At G X (some (.int fin), jx_w G S) (jx_w G S) 127 [(0, .ref (jx_ad G 3)), (1, .int a1), (2, .int z4_5)] [.int v] := by
    intro v hv
    subst hv
    obtain rfl := Option.some.inj h
    exact jx_zret hX d_Q_trueIn_127 (jx_01n (jx_zi jx_z1 jx_z0))
  refine jx_icmp_ne hX d_Q_trueIn_119 rfl (fun hc6 => ?_) (fun hc6 => ?_)
  · refine jx_iconst (v := 0) hX d_Q_trueIn_126 (by decide) ?_
    exact hj _ (if_neg hc6).symm
  · refine jx_iconst (v := 1) hX d_Q_trueIn_122 (by decide) ?_
    refine jx_goto hX d_Q_trueIn_123 rfl ?_
    exact hj _ (if_pos hc6).symm

def b_Q_columnHolds_2 (S : jx_S)  (z : Int32) : Option ((Int32) ⊕ ((Unit) ⊕ Int32)) :=
  if (S.1 12) ≤ z then
    some (.inr (.inl ()))
  else
    (f_Q_trueIn S z).bind fun q12_1 =>
      if q12_1 = (S.1 6) then
        some (.inl (z + 1))
      else
        some (.inr (.inr (if (S.1 6) = 0 then 1 else 0 : Int32)))

def f_Q_columnHolds (S : jx_S)  : Option (Int32) :=
  (jx_lp (b_Q_columnHolds_2 S) jx_N 0).bind (Sum.elim (fun z2_3 =>
    if jx_nb (S.1 6) = true then some (S.1 6) else none)
    (fun y => some y))
set_option maxHeartbeats 4000000 in
set_option maxRecDepth 100000 in
theorem lt_Q_columnHolds_2 {G : jx_G} {X : jx_C} (hX : jx_Ok G X b_Q_columnHolds "PlaneCells$Plane" (some .boolean) 2 3) (fin : Int32) (S : jx_S)  {n : Nat} {z : Int32} {r : (Unit) ⊕ Int32} (hz : jx_lp (b_Q_columnHolds_2 S) n z = some r) (hk : ∀ u, r = .inl u → jx_At G X (some (.int fin), jx_w G S) (jx_w G S) 47 [(0, .ref (jx_ad G 3))] []) (hy : ∀ y, r = .inr y → y = fin) : jx_At G X (some (.int fin), jx_w G S) (jx_w G S) 2 [(0, .ref (jx_ad G 3)), (1, .int z)] [] := by
  refine jx_loop2 (b_Q_columnHolds_2 S) (fun z => jx_At G X (some (.int fin), jx_w G S) (jx_w G S) 2 [(0, .ref (jx_ad G 3)), (1, .int z)] []) (fun z => jx_At G X (some (.int fin), jx_w G S) (jx_w G S) 47 [(0, .ref (jx_ad G 3))] []) fin ?_ n z r hz hk hy
  intro z o h hi hx hr
  unfold b_Q_columnHolds_2 at h
  refine jx_iload_n hX d_Q_columnHolds_2 1 rfl rfl ?_
  refine jx_aload_n hX d_Q_columnHolds_3 0 rfl rfl ?_
  refine gf_Q_66 hX d_Q_columnHolds_4 rfl ?_
  refine jx_icmp_ge hX d_Q_columnHolds_7 rfl (fun hc => ?_) (fun hc => ?_)
  · have h := jx_ip hc h
    refine jx_sub (L2 := [(0, .ref (jx_ad G 3))]) [0] rfl ?_
    obtain rfl := Option.some.inj h
    exact hx _ rfl
  · have h := jx_in_ hc h
    refine jx_aload_n hX d_Q_columnHolds_10 0 rfl rfl ?_
    refine jx_iload_n hX d_Q_columnHolds_11 1 rfl rfl ?_
    obtain ⟨q12_1, hq12_1, h⟩ := jx_bd h
    refine cs_Q_102 hX (c_Q_trueIn (jx_l X) G S z q12_1 hq12_1) d_Q_columnHolds_12 (by decide) (Nat.le_of_ble_eq_true rfl) ?_
    refine jx_aload_n hX d_Q_columnHolds_15 0 rfl rfl ?_
    refine gf_Q_35 hX d_Q_columnHolds_16 ?_
    refine gf_Q_106 hX d_Q_columnHolds_19 rfl ?_
    refine jx_icmp_eq hX d_Q_columnHolds_22 rfl (fun hc => ?_) (fun hc => ?_)
    · have h := jx_ip hc h
      refine jx_iinc (v := (z + 1)) hX d_Q_columnHolds_41 1 rfl (by first | rfl | decide) (by decide) (L2 := [(1, .int (z + 1)), (0, .ref (jx_ad G 3))]) rfl ?_
      refine jx_goto hX d_Q_columnHolds_44 rfl ?_
      refine jx_sub (L2 := [(0, .ref (jx_ad G 3)), (1, .int (z + 1))]) [1, 0] rfl ?_
      obtain rfl := Option.some.inj h
      exact hi _ rfl
    · have h := jx_in_ hc h
      refine jx_aload_n hX d_Q_columnHolds_25 0 rfl rfl ?_
      refine gf_Q_35 hX d_Q_columnHolds_26 ?_
      refine gf_Q_106 hX d_Q_columnHolds_29 rfl ?_
      have hj : ∀ v : Int32, v = (if (S.1 6) = 0 then 1 else 0 : Int32) → jx_At G X (some (.int fin), jx_w G S) (jx_w G S) 40 [(0, .ref (jx_ad G 3)), (1, .int z)] [.int v] := by
        intro v hv
        subst hv
        obtain rfl := Option.some.inj h
        obtain rfl := hr _ rfl
        exact jx_zret hX d_Q_columnHolds_40 (jx_01n (jx_zi jx_z1 jx_z0))
      refine jx_if_ne hX d_Q_columnHolds_32 rfl (fun hc2 => ?_) (fun hc2 => ?_)
      · refine jx_iconst (v := 0) hX d_Q_columnHolds_39 (by decide) ?_
        exact hj _ (if_neg hc2).symm
      · refine jx_iconst (v := 1) hX d_Q_columnHolds_35 (by decide) ?_
        refine jx_goto hX d_Q_columnHolds_36 rfl ?_
        exact hj _ (if_pos hc2).symm

set_option maxHeartbeats 4000000 in
set_option maxRecDepth 100000 in
theorem c_Q_columnHolds (l : Launch) (G : jx_G) (S : jx_S)  (fin : Int32) (h : f_Q_columnHolds S = some fin) : jx_M l y_Q_columnHolds b_Q_columnHolds 2 (some .boolean) 3 G [.ref (jx_ad G 3)] (jx_w G S) (some (.int fin), jx_w G S) := by
  refine jx_met (own := "PlaneCells$Plane") (by decide) rfl (Nat.le_of_ble_eq_true rfl) (fun X hX hl => ?_)
  subst hl
  refine jx_L (L2 := [(0, .ref (jx_ad G 3))]) rfl ?_
  unfold f_Q_columnHolds at h
  refine jx_iconst (v := 0) hX d_Q_columnHolds_0 (by decide) ?_
  refine jx_istore_n hX d_Q_columnHolds_1 rfl (by decide) (L2 := [(1, .int 0), (0, .ref (jx_ad G 3))]) rfl ?_
  refine jx_sub (L2 := [(0, .ref (jx_ad G 3)), (1, .int 0)]) [1, 0] rfl ?_
  obtain ⟨r, hz, h⟩ := jx_bd h
  refine lt_Q_columnHolds_2 hX fin S hz (fun z2_3 e => ?_) (fun y e => ?_)
  · subst e
    have h := jx_el h
    refine jx_aload_n hX d_Q_columnHolds_47 0 rfl rfl ?_
    refine gf_Q_35 hX d_Q_columnHolds_48 ?_
    refine gf_Q_106 hX d_Q_columnHolds_51 rfl ?_
    obtain ⟨hg, h⟩ := jx_gd h
    obtain rfl := Option.some.inj h
    exact jx_zret hX d_Q_columnHolds_54 (jx_nb_ok hg)
  · subst e
    have h := jx_er h
    exact Option.some.inj h

def f_R_clear (S : jx_S)  : Option (jx_S) :=
  some (jx_f (jx_f S 7 0) 8 0)
set_option maxHeartbeats 4000000 in
set_option maxRecDepth 100000 in
theorem c_R_clear (l : Launch) (G : jx_G) (S : jx_S)  (fin : jx_S) (h : f_R_clear S = some fin) : jx_M l y_R_clear b_R_clear 1 none 0 G [.ref (jx_ad G 2)] (jx_w G S) (none, jx_w G fin) := by
  refine jx_met (own := "PlaneCells$Reader") (by decide) rfl (Nat.le_of_ble_eq_true rfl) (fun X hX hl => ?_)
  subst hl
  refine jx_L (L2 := [(0, .ref (jx_ad G 2))]) rfl ?_
  unfold f_R_clear at h
  refine jx_aload_n hX d_R_clear_0 0 rfl rfl ?_
  refine jx_iconst (v := 0) hX d_R_clear_1 (by decide) ?_
  refine pf_R_26 hX d_R_clear_2 ?_
  refine jx_aload_n hX d_R_clear_5 0 rfl rfl ?_
  refine jx_iconst (v := 0) hX d_R_clear_6 (by decide) ?_
  refine pf_R_30 hX d_R_clear_7 ?_
  obtain rfl := Option.some.inj h
  exact jx_vret hX d_R_clear_10

def f_R_append (S : jx_S) (a1 : Int32) : Option (Int32 × jx_S) :=
  if a1 < 32 then
    some (0, S)
  else
    if 126 < a1 then
      some (0, S)
    else
      if (S.1 7) < 80 then
        if a1 = 32 then
          some (1, (jx_f S 7 ((S.1 7) + 1)))
        else
          if jx_in (S.1 8) 80 = true then
            some (1, (jx_f (jx_g (jx_f S 7 ((S.1 7) + 1)) 3 (upd (S.2.1 3) ((S.1 8)).toNatClampNeg (vp_nar .char a1))) 8 ((S.1 8) + 1)))
          else none
      else
        some (0, S)
set_option maxHeartbeats 4000000 in
set_option maxRecDepth 100000 in
theorem c_R_append (l : Launch) (G : jx_G) (S : jx_S) (a1 : Int32) (fin : Int32 × jx_S) (h : f_R_append S a1 = some fin) : jx_M l y_R_append b_R_append 2 (some .boolean) 0 G [.ref (jx_ad G 2), .int a1] (jx_w G S) (some (.int fin.1), jx_w G fin.2) := by
  refine jx_met (own := "PlaneCells$Reader") (by decide) rfl (Nat.le_of_ble_eq_true rfl) (fun X hX hl => ?_)
  subst hl
  refine jx_L (L2 := [(0, .ref (jx_ad G 2)), (1, .int a1)]) rfl ?_
  unfold f_R_append at h
  refine jx_iload_n hX d_R_append_0 1 rfl rfl ?_
  refine jx_bipush (v := 32) hX d_R_append_1 (by decide) ?_
  refine jx_icmp_lt hX d_R_append_3 rfl (fun hc => ?_) (fun hc => ?_)
  · have h := jx_ip hc h
    refine jx_iconst (v := 0) hX d_R_append_21 (by decide) ?_
    obtain rfl := Option.some.inj h
    exact jx_zret hX d_R_append_22 (jx_01n jx_z0)
  · have h := jx_in_ hc h
    refine jx_iload_n hX d_R_append_6 1 rfl rfl ?_
    refine jx_bipush (v := 126) hX d_R_append_7 (by decide) ?_
    refine jx_icmp_gt hX d_R_append_9 rfl (fun hc => ?_) (fun hc => ?_)
    · have h := jx_ip hc h
      refine jx_iconst (v := 0) hX d_R_append_21 (by decide) ?_
      obtain rfl := Option.some.inj h
      exact jx_zret hX d_R_append_22 (jx_01n jx_z0)
    · have h := jx_in_ hc h
      refine jx_aload_n hX d_R_append_12 0 rfl rfl ?_
      refine gf_R_26 hX d_R_append_13 rfl ?_
      refine jx_bipush (v := 80) hX d_R_append_16 (by decide) ?_
      refine jx_icmp_lt hX d_R_append_18 rfl (fun hc => ?_) (fun hc => ?_)
      · have h := jx_ip hc h
        refine jx_aload_n hX d_R_append_23 0 rfl rfl ?_
        refine jx_dup hX d_R_append_24 rfl ?_
        refine gf_R_26 hX d_R_append_25 rfl ?_
        refine jx_iconst (v := 1) hX d_R_append_28 (by decide) ?_
        refine jx_iadd hX d_R_append_29 ?_
        refine pf_R_26 hX d_R_append_30 ?_
        refine jx_iload_n hX d_R_append_33 1 rfl rfl ?_
        refine jx_bipush (v := 32) hX d_R_append_34 (by decide) ?_
        refine jx_icmp_eq hX d_R_append_36 rfl (fun hc => ?_) (fun hc => ?_)
        · have h := jx_ip hc h
          refine jx_iconst (v := 1) hX d_R_append_59 (by decide) ?_
          obtain rfl := Option.some.inj h
          exact jx_zret hX d_R_append_60 (jx_01n jx_z1)
        · have h := jx_in_ hc h
          refine jx_aload_n hX d_R_append_39 0 rfl rfl ?_
          refine gf_R_9 hX d_R_append_40 ?_
          refine jx_aload_n hX d_R_append_43 0 rfl rfl ?_
          refine gf_R_30 hX d_R_append_44 (x := (S.1 8)) rfl ?_
          refine jx_iload_n hX d_R_append_47 1 rfl rfl ?_
          obtain ⟨hg1, h⟩ := jx_gd h
          refine as_3 hX d_R_append_48 (f := (S.2.1 3)) rfl hg1 ?_
          refine jx_aload_n hX d_R_append_49 0 rfl rfl ?_
          refine jx_dup hX d_R_append_50 rfl ?_
          refine gf_R_30 hX d_R_append_51 (x := (S.1 8)) rfl ?_
          refine jx_iconst (v := 1) hX d_R_append_54 (by decide) ?_
          refine jx_iadd hX d_R_append_55 ?_
          refine pf_R_30 hX d_R_append_56 ?_
          refine jx_iconst (v := 1) hX d_R_append_59 (by decide) ?_
          obtain rfl := Option.some.inj h
          exact jx_zret hX d_R_append_60 (jx_01n jx_z1)
      · have h := jx_in_ hc h
        refine jx_iconst (v := 0) hX d_R_append_21 (by decide) ?_
        obtain rfl := Option.some.inj h
        exact jx_zret hX d_R_append_22 (jx_01n jx_z0)

def b_R_countOpenings_4 (S : jx_S)  (z : Int32 × Int32) : Option ((Int32 × Int32) ⊕ (Int32)) :=
  if (S.1 8) ≤ z.2 then
    some (.inr z.1)
  else
    if jx_in z.2 80 = true then
      if ((S.2.1 3) (z.2).toNatClampNeg) = 40 then
        some (.inl ((z.1 + 1), (z.2 + 1)))
      else
        some (.inl (z.1, (z.2 + 1)))
    else none

def f_R_countOpenings (S : jx_S)  : Option (Int32) :=
  (jx_lp (b_R_countOpenings_4 S) jx_N (0, 0)).bind fun z4_2 =>
    some z4_2
set_option maxHeartbeats 4000000 in
set_option maxRecDepth 100000 in
theorem lt_R_countOpenings_4 {G : jx_G} {X : jx_C} (hX : jx_Ok G X b_R_countOpenings "PlaneCells$Reader" (some .int) 3 0) (fin : Int32) (S : jx_S)  {n : Nat} {z : Int32 × Int32} {r : Int32} (hz : jx_lp (b_R_countOpenings_4 S) n z = some r) (hk : jx_At G X (some (.int fin), jx_w G S) (jx_w G S) 32 [(0, .ref (jx_ad G 2)), (1, .int r)] []) : jx_At G X (some (.int fin), jx_w G S) (jx_w G S) 4 [(0, .ref (jx_ad G 2)), (1, .int z.1), (2, .int z.2)] [] := by
  refine jx_loop1 (b_R_countOpenings_4 S) (fun z => jx_At G X (some (.int fin), jx_w G S) (jx_w G S) 4 [(0, .ref (jx_ad G 2)), (1, .int z.1), (2, .int z.2)] []) (fun z => jx_At G X (some (.int fin), jx_w G S) (jx_w G S) 32 [(0, .ref (jx_ad G 2)), (1, .int z)] []) ?_ n z r hz hk
  intro z o h hi hx
  unfold b_R_countOpenings_4 at h
  refine jx_iload_n hX d_R_countOpenings_4 2 rfl rfl ?_
  refine jx_aload_n hX d_R_countOpenings_5 0 rfl rfl ?_
  refine gf_R_30 hX d_R_countOpenings_6 rfl ?_
  refine jx_icmp_ge hX d_R_countOpenings_9 rfl (fun hc => ?_) (fun hc => ?_)
  · have h := jx_ip hc h
    refine jx_sub (L2 := [(0, .ref (jx_ad G 2)), (1, .int z.1)]) [0, 1] rfl ?_
    obtain rfl := Option.some.inj h
    exact hx _ rfl
  · have h := jx_in_ hc h
    refine jx_aload_n hX d_R_countOpenings_12 0 rfl rfl ?_
    refine gf_R_9 hX d_R_countOpenings_13 ?_
    refine jx_iload_n hX d_R_countOpenings_16 2 rfl rfl ?_
    obtain ⟨hg1, h⟩ := jx_gd h
    refine al_3 hX d_R_countOpenings_17 rfl hg1 ?_
    refine jx_bipush (v := 40) hX d_R_countOpenings_18 (by decide) ?_
    refine jx_icmp_ne hX d_R_countOpenings_20 rfl (fun hc => ?_) (fun hc => ?_)
    · have h := jx_in_ hc h
      refine jx_iinc (v := (z.2 + 1)) hX d_R_countOpenings_26 2 rfl (by first | rfl | decide) (by decide) (L2 := [(2, .int (z.2 + 1)), (0, .ref (jx_ad G 2)), (1, .int z.1)]) rfl ?_
      refine jx_goto hX d_R_countOpenings_29 rfl ?_
      refine jx_sub (L2 := [(0, .ref (jx_ad G 2)), (1, .int z.1), (2, .int (z.2 + 1))]) [1, 2, 0] rfl ?_
      obtain rfl := Option.some.inj h
      exact hi _ rfl
    · have h := jx_ip hc h
      refine jx_iinc (v := (z.1 + 1)) hX d_R_countOpenings_23 1 rfl (by first | rfl | decide) (by decide) (L2 := [(1, .int (z.1 + 1)), (0, .ref (jx_ad G 2)), (2, .int z.2)]) rfl ?_
      refine jx_iinc (v := (z.2 + 1)) hX d_R_countOpenings_26 2 rfl (by first | rfl | decide) (by decide) (L2 := [(2, .int (z.2 + 1)), (1, .int (z.1 + 1)), (0, .ref (jx_ad G 2))]) rfl ?_
      refine jx_goto hX d_R_countOpenings_29 rfl ?_
      refine jx_sub (L2 := [(0, .ref (jx_ad G 2)), (1, .int (z.1 + 1)), (2, .int (z.2 + 1))]) [2, 1, 0] rfl ?_
      obtain rfl := Option.some.inj h
      exact hi _ rfl

set_option maxHeartbeats 4000000 in
set_option maxRecDepth 100000 in
theorem c_R_countOpenings (l : Launch) (G : jx_G) (S : jx_S)  (fin : Int32) (h : f_R_countOpenings S = some fin) : jx_M l y_R_countOpenings b_R_countOpenings 3 (some .int) 0 G [.ref (jx_ad G 2)] (jx_w G S) (some (.int fin), jx_w G S) := by
  refine jx_met (own := "PlaneCells$Reader") (by decide) rfl (Nat.le_of_ble_eq_true rfl) (fun X hX hl => ?_)
  subst hl
  refine jx_L (L2 := [(0, .ref (jx_ad G 2))]) rfl ?_
  unfold f_R_countOpenings at h
  refine jx_iconst (v := 0) hX d_R_countOpenings_0 (by decide) ?_
  refine jx_istore_n hX d_R_countOpenings_1 rfl (by decide) (L2 := [(1, .int 0), (0, .ref (jx_ad G 2))]) rfl ?_
  refine jx_iconst (v := 0) hX d_R_countOpenings_2 (by decide) ?_
  refine jx_istore_n hX d_R_countOpenings_3 rfl (by decide) (L2 := [(2, .int 0), (1, .int 0), (0, .ref (jx_ad G 2))]) rfl ?_
  refine jx_sub (L2 := [(0, .ref (jx_ad G 2)), (1, .int 0), (2, .int 0)]) [2, 1, 0] rfl ?_
  obtain ⟨z4_2, hz, h⟩ := jx_bd h
  refine lt_R_countOpenings_4 hX fin S hz ?_
  refine jx_iload_n hX d_R_countOpenings_32 1 rfl rfl ?_
  obtain rfl := Option.some.inj h
  exact jx_iret hX d_R_countOpenings_33

def f_S_clear (S : jx_S)  : Option (jx_S) :=
  some (jx_f (jx_f S 3 0) 4 0)
set_option maxHeartbeats 4000000 in
set_option maxRecDepth 100000 in
theorem c_S_clear (l : Launch) (G : jx_G) (S : jx_S)  (fin : jx_S) (h : f_S_clear S = some fin) : jx_M l y_S_clear b_S_clear 1 none 0 G [.ref (jx_ad G 1)] (jx_w G S) (none, jx_w G fin) := by
  refine jx_met (own := "PlaneCells$Sentence") (by decide) rfl (Nat.le_of_ble_eq_true rfl) (fun X hX hl => ?_)
  subst hl
  refine jx_L (L2 := [(0, .ref (jx_ad G 1))]) rfl ?_
  unfold f_S_clear at h
  refine jx_aload_n hX d_S_clear_0 0 rfl rfl ?_
  refine jx_iconst (v := 0) hX d_S_clear_1 (by decide) ?_
  refine pf_S_22 hX d_S_clear_2 ?_
  refine jx_aload_n hX d_S_clear_5 0 rfl rfl ?_
  refine jx_iconst (v := 0) hX d_S_clear_6 (by decide) ?_
  refine pf_S_26 hX d_S_clear_7 ?_
  obtain rfl := Option.some.inj h
  exact jx_vret hX d_S_clear_10

def f_R_peek (S : jx_S)  : Option (Int32) :=
  if (S.1 8) ≤ (S.1 9) then
    some 0
  else
    if jx_in (S.1 9) 80 = true then
      if jx_nc ((S.2.1 3) ((S.1 9)).toNatClampNeg) = true then some ((S.2.1 3) ((S.1 9)).toNatClampNeg) else none
    else none
set_option maxHeartbeats 4000000 in
set_option maxRecDepth 100000 in
theorem c_R_peek (l : Launch) (G : jx_G) (S : jx_S)  (fin : Int32) (h : f_R_peek S = some fin) : jx_M l y_R_peek b_R_peek 1 (some .char) 0 G [.ref (jx_ad G 2)] (jx_w G S) (some (.int fin), jx_w G S) := by
  refine jx_met (own := "PlaneCells$Reader") (by decide) rfl (Nat.le_of_ble_eq_true rfl) (fun X hX hl => ?_)
  subst hl
  refine jx_L (L2 := [(0, .ref (jx_ad G 2))]) rfl ?_
  unfold f_R_peek at h
  refine jx_aload_n hX d_R_peek_0 0 rfl rfl ?_
  refine gf_R_33 hX d_R_peek_1 rfl ?_
  refine jx_aload_n hX d_R_peek_4 0 rfl rfl ?_
  refine gf_R_30 hX d_R_peek_5 rfl ?_
  refine jx_icmp_ge hX d_R_peek_8 rfl (fun hc => ?_) (fun hc => ?_)
  · have h := jx_ip hc h
    refine jx_iconst (v := 0) hX d_R_peek_23 (by decide) ?_
    obtain rfl := Option.some.inj h
    exact jx_zret hX d_R_peek_24 (jx_01c jx_z0)
  · have h := jx_in_ hc h
    refine jx_aload_n hX d_R_peek_11 0 rfl rfl ?_
    refine gf_R_9 hX d_R_peek_12 ?_
    refine jx_aload_n hX d_R_peek_15 0 rfl rfl ?_
    refine gf_R_33 hX d_R_peek_16 rfl ?_
    obtain ⟨hg1, h⟩ := jx_gd h
    refine al_3 hX d_R_peek_19 rfl hg1 ?_
    refine jx_goto hX d_R_peek_20 rfl ?_
    obtain ⟨hg, h⟩ := jx_gd h
    obtain rfl := Option.some.inj h
    exact jx_zret hX d_R_peek_24 (jx_nc_ok hg)

def f_R_take (S : jx_S) (a1 : Int32) : Option (Int32 × jx_S) :=
  (f_R_peek S).bind fun q1_1 =>
    if q1_1 = a1 then
      some (1, (jx_f S 9 ((S.1 9) + 1)))
    else
      some (0, S)
set_option maxHeartbeats 4000000 in
set_option maxRecDepth 100000 in
theorem c_R_take (l : Launch) (G : jx_G) (S : jx_S) (a1 : Int32) (fin : Int32 × jx_S) (h : f_R_take S a1 = some fin) : jx_M l y_R_take b_R_take 2 (some .boolean) 1 G [.ref (jx_ad G 2), .int a1] (jx_w G S) (some (.int fin.1), jx_w G fin.2) := by
  refine jx_met (own := "PlaneCells$Reader") (by decide) rfl (Nat.le_of_ble_eq_true rfl) (fun X hX hl => ?_)
  subst hl
  refine jx_L (L2 := [(0, .ref (jx_ad G 2)), (1, .int a1)]) rfl ?_
  unfold f_R_take at h
  refine jx_aload_n hX d_R_take_0 0 rfl rfl ?_
  obtain ⟨q1_1, hq1_1, h⟩ := jx_bd h
  refine cs_R_67 hX (c_R_peek (jx_l X) G S q1_1 hq1_1) d_R_take_1 (by decide) (Nat.le_of_ble_eq_true rfl) ?_
  refine jx_iload_n hX d_R_take_4 1 rfl rfl ?_
  refine jx_icmp_eq hX d_R_take_5 rfl (fun hc => ?_) (fun hc => ?_)
  · have h := jx_ip hc h
    refine jx_aload_n hX d_R_take_10 0 rfl rfl ?_
    refine jx_dup hX d_R_take_11 rfl ?_
    refine gf_R_33 hX d_R_take_12 rfl ?_
    refine jx_iconst (v := 1) hX d_R_take_15 (by decide) ?_
    refine jx_iadd hX d_R_take_16 ?_
    refine pf_R_33 hX d_R_take_17 ?_
    refine jx_iconst (v := 1) hX d_R_take_20 (by decide) ?_
    obtain rfl := Option.some.inj h
    exact jx_zret hX d_R_take_21 (jx_01n jx_z1)
  · have h := jx_in_ hc h
    refine jx_iconst (v := 0) hX d_R_take_8 (by decide) ?_
    obtain rfl := Option.some.inj h
    exact jx_zret hX d_R_take_9 (jx_01n jx_z0)

def f_R_takeQuantifier (S : jx_S)  : Option (Int32 × jx_S) :=
  (f_R_take S 65).bind fun q3_1 =>
    if q3_1.1 = 0 then
      (f_R_take q3_1.2 69).bind fun q12_2 =>
        some ((if q12_2.1 = 0 then 0 else 1 : Int32), q12_2.2)
    else
      some (1, q3_1.2)
set_option maxHeartbeats 4000000 in
set_option maxRecDepth 100000 in
theorem c_R_takeQuantifier (l : Launch) (G : jx_G) (S : jx_S)  (fin : Int32 × jx_S) (h : f_R_takeQuantifier S = some fin) : jx_M l y_R_takeQuantifier b_R_takeQuantifier 1 (some .boolean) 2 G [.ref (jx_ad G 2)] (jx_w G S) (some (.int fin.1), jx_w G fin.2) := by
  refine jx_met (own := "PlaneCells$Reader") (by decide) rfl (Nat.le_of_ble_eq_true rfl) (fun X hX hl => ?_)
  subst hl
  refine jx_L (L2 := [(0, .ref (jx_ad G 2))]) rfl ?_
  unfold f_R_takeQuantifier at h
  refine jx_aload_n hX d_R_takeQuantifier_0 0 rfl rfl ?_
  refine jx_bipush (v := 65) hX d_R_takeQuantifier_1 (by decide) ?_
  obtain ⟨q3_1, hq3_1, h⟩ := jx_bd h
  refine cs_R_78 hX (c_R_take (jx_l X) G S 65 q3_1 hq3_1) d_R_takeQuantifier_3 (by decide) (Nat.le_of_ble_eq_true rfl) ?_
  refine jx_if_ne hX d_R_takeQuantifier_6 rfl (fun hc => ?_) (fun hc => ?_)
  · have h := jx_in_ hc h
    refine jx_iconst (v := 1) hX d_R_takeQuantifier_18 (by decide) ?_
    refine jx_goto hX d_R_takeQuantifier_19 rfl ?_
    obtain rfl := Option.some.inj h
    exact jx_zret hX d_R_takeQuantifier_23 (jx_01n jx_z1)
  · have h := jx_ip hc h
    refine jx_aload_n hX d_R_takeQuantifier_9 0 rfl rfl ?_
    refine jx_bipush (v := 69) hX d_R_takeQuantifier_10 (by decide) ?_
    obtain ⟨q12_2, hq12_2, h⟩ := jx_bd h
    refine cs_R_78 hX (c_R_take (jx_l X) G q3_1.2 69 q12_2 hq12_2) d_R_takeQuantifier_12 (by decide) (Nat.le_of_ble_eq_true rfl) ?_
    have hj : ∀ v : Int32, v = (if q12_2.1 = 0 then 0 else 1 : Int32) → jx_At G X (some (.int fin.1), jx_w G fin.2) (jx_w G q12_2.2) 23 [(0, .ref (jx_ad G 2))] [.int v] := by
      intro v hv
      subst hv
      obtain rfl := Option.some.inj h
      exact jx_zret hX d_R_takeQuantifier_23 (jx_01n (jx_zi jx_z0 jx_z1))
    refine jx_if_eq hX d_R_takeQuantifier_15 rfl (fun hc3 => ?_) (fun hc3 => ?_)
    · refine jx_iconst (v := 0) hX d_R_takeQuantifier_22 (by decide) ?_
      exact hj _ (if_pos hc3).symm
    · refine jx_iconst (v := 1) hX d_R_takeQuantifier_18 (by decide) ?_
      refine jx_goto hX d_R_takeQuantifier_19 rfl ?_
      exact hj _ (if_neg hc3).symm

def f_R_takeHead (S : jx_S)  : Option (Int32 × jx_S) :=
  (f_R_peek S).bind fun q5_1 =>
    (f_R_takeQuantifier (jx_f S 5 (if q5_1 = 65 then 1 else 0 : Int32))).bind fun q22_2 =>
      if q22_2.1 = 0 then
        some (0, q22_2.2)
      else
        (f_R_take q22_2.2 120).bind fun q31_3 =>
          if q31_3.1 = 0 then
            some (0, q31_3.2)
          else
            (f_R_peek q31_3.2).bind fun q44_4 =>
              (f_R_takeQuantifier (jx_f q31_3.2 6 (if q44_4 = 65 then 1 else 0 : Int32))).bind fun q61_5 =>
                if q61_5.1 = 0 then
                  some (0, q61_5.2)
                else
                  (f_R_take q61_5.2 121).bind fun q70_6 =>
                    if q70_6.1 = 0 then
                      some (0, q70_6.2)
                    else
                      (f_R_take q70_6.2 58).bind fun q79_7 =>
                        some ((if q79_7.1 = 0 then 0 else 1 : Int32), q79_7.2)
set_option maxHeartbeats 4000000 in
set_option maxRecDepth 100000 in
theorem c_R_takeHead (l : Launch) (G : jx_G) (S : jx_S)  (fin : Int32 × jx_S) (h : f_R_takeHead S = some fin) : jx_M l y_R_takeHead b_R_takeHead 1 (some .boolean) 3 G [.ref (jx_ad G 2)] (jx_w G S) (some (.int fin.1), jx_w G fin.2) := by
  refine jx_met (own := "PlaneCells$Reader") (by decide) rfl (Nat.le_of_ble_eq_true rfl) (fun X hX hl => ?_)
  subst hl
  refine jx_L (L2 := [(0, .ref (jx_ad G 2))]) rfl ?_
  unfold f_R_takeHead at h
  refine jx_aload_n hX d_R_takeHead_0 0 rfl rfl ?_
  refine gf_R_22 hX d_R_takeHead_1 ?_
  refine jx_aload_n hX d_R_takeHead_4 0 rfl rfl ?_
  obtain ⟨q5_1, hq5_1, h⟩ := jx_bd h
  refine cs_R_67 hX (c_R_peek (jx_l X) G S q5_1 hq5_1) d_R_takeHead_5 (by decide) (Nat.le_of_ble_eq_true rfl) ?_
  refine jx_bipush (v := 65) hX d_R_takeHead_8 (by decide) ?_
  have hj : ∀ v : Int32, v = (if q5_1 = 65 then 1 else 0 : Int32) → jx_At G X (some (.int fin.1), jx_w G fin.2) (jx_w G S) 18 [(0, .ref (jx_ad G 2))] [.int v, .ref (jx_ad G 1)] := by
    intro v hv
    subst hv
    refine pf_R_71 hX d_R_takeHead_18 (jx_zi jx_z1 jx_z0) ?_
    refine jx_aload_n hX d_R_takeHead_21 0 rfl rfl ?_
    obtain ⟨q22_2, hq22_2, h⟩ := jx_bd h
    refine cs_R_75 hX (c_R_takeQuantifier (jx_l X) G (jx_f S 5 (if q5_1 = 65 then 1 else 0 : Int32)) q22_2 hq22_2) d_R_takeHead_22 (by decide) (Nat.le_of_ble_eq_true rfl) ?_
    refine jx_if_eq hX d_R_takeHead_25 rfl (fun hc => ?_) (fun hc => ?_)
    · have h := jx_ip hc h
      refine jx_iconst (v := 0) hX d_R_takeHead_37 (by decide) ?_
      obtain rfl := Option.some.inj h
      exact jx_zret hX d_R_takeHead_38 (jx_01n jx_z0)
    · have h := jx_in_ hc h
      refine jx_aload_n hX d_R_takeHead_28 0 rfl rfl ?_
      refine jx_bipush (v := 120) hX d_R_takeHead_29 (by decide) ?_
      obtain ⟨q31_3, hq31_3, h⟩ := jx_bd h
      refine cs_R_78 hX (c_R_take (jx_l X) G q22_2.2 120 q31_3 hq31_3) d_R_takeHead_31 (by decide) (Nat.le_of_ble_eq_true rfl) ?_
      refine jx_if_ne hX d_R_takeHead_34 rfl (fun hc => ?_) (fun hc => ?_)
      · have h := jx_in_ hc h
        refine jx_aload_n hX d_R_takeHead_39 0 rfl rfl ?_
        refine gf_R_22 hX d_R_takeHead_40 ?_
        refine jx_aload_n hX d_R_takeHead_43 0 rfl rfl ?_
        obtain ⟨q44_4, hq44_4, h⟩ := jx_bd h
        refine cs_R_67 hX (c_R_peek (jx_l X) G q31_3.2 q44_4 hq44_4) d_R_takeHead_44 (by decide) (Nat.le_of_ble_eq_true rfl) ?_
        refine jx_bipush (v := 65) hX d_R_takeHead_47 (by decide) ?_
        have hj : ∀ v : Int32, v = (if q44_4 = 65 then 1 else 0 : Int32) → jx_At G X (some (.int fin.1), jx_w G fin.2) (jx_w G q31_3.2) 57 [(0, .ref (jx_ad G 2))] [.int v, .ref (jx_ad G 1)] := by
          intro v hv
          subst hv
          refine pf_R_82 hX d_R_takeHead_57 (jx_zi jx_z1 jx_z0) ?_
          refine jx_aload_n hX d_R_takeHead_60 0 rfl rfl ?_
          obtain ⟨q61_5, hq61_5, h⟩ := jx_bd h
          refine cs_R_75 hX (c_R_takeQuantifier (jx_l X) G (jx_f q31_3.2 6 (if q44_4 = 65 then 1 else 0 : Int32)) q61_5 hq61_5) d_R_takeHead_61 (by decide) (Nat.le_of_ble_eq_true rfl) ?_
          refine jx_if_eq hX d_R_takeHead_64 rfl (fun hc => ?_) (fun hc => ?_)
          · have h := jx_ip hc h
            refine jx_iconst (v := 0) hX d_R_takeHead_89 (by decide) ?_
            obtain rfl := Option.some.inj h
            exact jx_zret hX d_R_takeHead_90 (jx_01n jx_z0)
          · have h := jx_in_ hc h
            refine jx_aload_n hX d_R_takeHead_67 0 rfl rfl ?_
            refine jx_bipush (v := 121) hX d_R_takeHead_68 (by decide) ?_
            obtain ⟨q70_6, hq70_6, h⟩ := jx_bd h
            refine cs_R_78 hX (c_R_take (jx_l X) G q61_5.2 121 q70_6 hq70_6) d_R_takeHead_70 (by decide) (Nat.le_of_ble_eq_true rfl) ?_
            refine jx_if_eq hX d_R_takeHead_73 rfl (fun hc => ?_) (fun hc => ?_)
            · have h := jx_ip hc h
              refine jx_iconst (v := 0) hX d_R_takeHead_89 (by decide) ?_
              obtain rfl := Option.some.inj h
              exact jx_zret hX d_R_takeHead_90 (jx_01n jx_z0)
            · have h := jx_in_ hc h
              refine jx_aload_n hX d_R_takeHead_76 0 rfl rfl ?_
              refine jx_bipush (v := 58) hX d_R_takeHead_77 (by decide) ?_
              obtain ⟨q79_7, hq79_7, h⟩ := jx_bd h
              refine cs_R_78 hX (c_R_take (jx_l X) G q70_6.2 58 q79_7 hq79_7) d_R_takeHead_79 (by decide) (Nat.le_of_ble_eq_true rfl) ?_
              have hj : ∀ v : Int32, v = (if q79_7.1 = 0 then 0 else 1 : Int32) → jx_At G X (some (.int fin.1), jx_w G fin.2) (jx_w G q79_7.2) 90 [(0, .ref (jx_ad G 2))] [.int v] := by
                intro v hv
                subst hv
                obtain rfl := Option.some.inj h
                exact jx_zret hX d_R_takeHead_90 (jx_01n (jx_zi jx_z0 jx_z1))
              refine jx_if_eq hX d_R_takeHead_82 rfl (fun hc8 => ?_) (fun hc8 => ?_)
              · refine jx_iconst (v := 0) hX d_R_takeHead_89 (by decide) ?_
                exact hj _ (if_pos hc8).symm
              · refine jx_iconst (v := 1) hX d_R_takeHead_85 (by decide) ?_
                refine jx_goto hX d_R_takeHead_86 rfl ?_
                exact hj _ (if_neg hc8).symm
        refine jx_icmp_ne hX d_R_takeHead_49 rfl (fun hc9 => ?_) (fun hc9 => ?_)
        · refine jx_iconst (v := 0) hX d_R_takeHead_56 (by decide) ?_
          exact hj _ (if_neg hc9).symm
        · refine jx_iconst (v := 1) hX d_R_takeHead_52 (by decide) ?_
          refine jx_goto hX d_R_takeHead_53 rfl ?_
          exact hj _ (if_pos hc9).symm
      · have h := jx_ip hc h
        refine jx_iconst (v := 0) hX d_R_takeHead_37 (by decide) ?_
        obtain rfl := Option.some.inj h
        exact jx_zret hX d_R_takeHead_38 (jx_01n jx_z0)
  refine jx_icmp_ne hX d_R_takeHead_10 rfl (fun hc10 => ?_) (fun hc10 => ?_)
  · refine jx_iconst (v := 0) hX d_R_takeHead_17 (by decide) ?_
    exact hj _ (if_neg hc10).symm
  · refine jx_iconst (v := 1) hX d_R_takeHead_13 (by decide) ?_
    refine jx_goto hX d_R_takeHead_14 rfl ?_
    exact hj _ (if_pos hc10).symm

def f_R_hold (S : jx_S) (a1 : Int32) : Option (jx_S) :=
  if 80 ≤ (S.1 10) then
    some S
  else
    if jx_in (S.1 10) 80 = true then
      some (jx_f (jx_g S 4 (upd (S.2.1 4) ((S.1 10)).toNatClampNeg a1)) 10 ((S.1 10) + 1))
    else none
set_option maxHeartbeats 4000000 in
set_option maxRecDepth 100000 in
theorem c_R_hold (l : Launch) (G : jx_G) (S : jx_S) (a1 : Int32) (fin : jx_S) (h : f_R_hold S a1 = some fin) : jx_M l y_R_hold b_R_hold 2 none 0 G [.ref (jx_ad G 2), .int a1] (jx_w G S) (none, jx_w G fin) := by
  refine jx_met (own := "PlaneCells$Reader") (by decide) rfl (Nat.le_of_ble_eq_true rfl) (fun X hX hl => ?_)
  subst hl
  refine jx_L (L2 := [(0, .ref (jx_ad G 2)), (1, .int a1)]) rfl ?_
  unfold f_R_hold at h
  refine jx_aload_n hX d_R_hold_0 0 rfl rfl ?_
  refine gf_R_36 hX d_R_hold_1 rfl ?_
  refine jx_bipush (v := 80) hX d_R_hold_4 (by decide) ?_
  refine jx_icmp_ge hX d_R_hold_6 rfl (fun hc => ?_) (fun hc => ?_)
  · have h := jx_ip hc h
    obtain rfl := Option.some.inj h
    exact jx_vret hX d_R_hold_29
  · have h := jx_in_ hc h
    refine jx_aload_n hX d_R_hold_9 0 rfl rfl ?_
    refine gf_R_15 hX d_R_hold_10 ?_
    refine jx_aload_n hX d_R_hold_13 0 rfl rfl ?_
    refine gf_R_36 hX d_R_hold_14 rfl ?_
    refine jx_iload_n hX d_R_hold_17 1 rfl rfl ?_
    obtain ⟨hg1, h⟩ := jx_gd h
    refine as_4 hX d_R_hold_18 rfl hg1 ?_
    refine jx_aload_n hX d_R_hold_19 0 rfl rfl ?_
    refine jx_dup hX d_R_hold_20 rfl ?_
    refine gf_R_36 hX d_R_hold_21 (x := (S.1 10)) rfl ?_
    refine jx_iconst (v := 1) hX d_R_hold_24 (by decide) ?_
    refine jx_iadd hX d_R_hold_25 ?_
    refine pf_R_36 hX d_R_hold_26 ?_
    obtain rfl := Option.some.inj h
    exact jx_vret hX d_R_hold_29

def k_R_takeOpenings_0_39 (S : jx_S) : Option ((jx_S) ⊕ (jx_S)) :=
  if jx_in (S.1 9) 80 = true then
    if ((S.2.1 3) ((S.1 9)).toNatClampNeg) = 40 then
      (f_R_hold (jx_f S 11 ((S.1 11) + 1)) 0).bind fun q65_4 =>
        some (.inl (jx_f q65_4 9 ((q65_4.1 9) + 1)))
    else
      (f_R_hold S 3).bind fun q73_3 =>
        some (.inl (jx_f q73_3 9 ((q73_3.1 9) + 1)))
  else none

def b_R_takeOpenings_0  (z : jx_S) : Option ((jx_S) ⊕ (jx_S)) :=
  if (z.1 8) ≤ (z.1 9) then
    some (.inr z)
  else
    if jx_in (z.1 9) 80 = true then
      if ((z.2.1 3) ((z.1 9)).toNatClampNeg) = 126 then
        k_R_takeOpenings_0_39 z
      else
        if ((z.2.1 3) ((z.1 9)).toNatClampNeg) = 40 then
          k_R_takeOpenings_0_39 z
        else
          some (.inr z)
    else none

def f_R_takeOpenings (S : jx_S)  : Option (jx_S) :=
  (jx_lp (b_R_takeOpenings_0 ) jx_N S).bind fun z0_5 =>
    some z0_5
set_option maxHeartbeats 4000000 in
set_option maxRecDepth 100000 in
theorem kt_R_takeOpenings_0_39 {G : jx_G} {X : jx_C} (hX : jx_Ok G X b_R_takeOpenings "PlaneCells$Reader" none 1 1) (fin : jx_S) (S : jx_S) {o : (jx_S) ⊕ (jx_S)} (h : k_R_takeOpenings_0_39 S = some o) (hi : ∀ z, o = .inl z → jx_At G X (none, jx_w G fin) (jx_w G z) 0 [(0, .ref (jx_ad G 2))] []) (hx : ∀ u, o = .inr u → jx_At G X (none, jx_w G fin) (jx_w G u) 89 [(0, .ref (jx_ad G 2))] []) : jx_At G X (none, jx_w G fin) (jx_w G S) 39 [(0, .ref (jx_ad G 2))] [] := by
  unfold k_R_takeOpenings_0_39 at h
  refine jx_aload_n hX d_R_takeOpenings_39 0 rfl rfl ?_
  refine gf_R_9 hX d_R_takeOpenings_40 ?_
  refine jx_aload_n hX d_R_takeOpenings_43 0 rfl rfl ?_
  refine gf_R_33 hX d_R_takeOpenings_44 rfl ?_
  obtain ⟨hg2, h⟩ := jx_gd h
  refine al_3 hX d_R_takeOpenings_47 rfl hg2 ?_
  refine jx_bipush (v := 40) hX d_R_takeOpenings_48 (by decide) ?_
  refine jx_icmp_ne hX d_R_takeOpenings_50 rfl (fun hc => ?_) (fun hc => ?_)
  · have h := jx_in_ hc h
    refine jx_aload_n hX d_R_takeOpenings_71 0 rfl rfl ?_
    refine jx_iconst (v := 3) hX d_R_takeOpenings_72 (by decide) ?_
    obtain ⟨q73_3, hq73_3, h⟩ := jx_bd h
    refine cs_R_85 hX (c_R_hold (jx_l X) G S 3 q73_3 hq73_3) d_R_takeOpenings_73 (by decide) (Nat.le_of_ble_eq_true rfl) ?_
    refine jx_aload_n hX d_R_takeOpenings_76 0 rfl rfl ?_
    refine jx_dup hX d_R_takeOpenings_77 rfl ?_
    refine gf_R_33 hX d_R_takeOpenings_78 rfl ?_
    refine jx_iconst (v := 1) hX d_R_takeOpenings_81 (by decide) ?_
    refine jx_iadd hX d_R_takeOpenings_82 ?_
    refine pf_R_33 hX d_R_takeOpenings_83 ?_
    refine jx_goto hX d_R_takeOpenings_86 rfl ?_
    obtain rfl := Option.some.inj h
    exact hi _ rfl
  · have h := jx_ip hc h
    refine jx_aload_n hX d_R_takeOpenings_53 0 rfl rfl ?_
    refine jx_dup hX d_R_takeOpenings_54 rfl ?_
    refine gf_R_39 hX d_R_takeOpenings_55 rfl ?_
    refine jx_iconst (v := 1) hX d_R_takeOpenings_58 (by decide) ?_
    refine jx_iadd hX d_R_takeOpenings_59 ?_
    refine pf_R_39 hX d_R_takeOpenings_60 ?_
    refine jx_aload_n hX d_R_takeOpenings_63 0 rfl rfl ?_
    refine jx_iconst (v := 0) hX d_R_takeOpenings_64 (by decide) ?_
    obtain ⟨q65_4, hq65_4, h⟩ := jx_bd h
    refine cs_R_85 hX (c_R_hold (jx_l X) G (jx_f S 11 ((S.1 11) + 1)) 0 q65_4 hq65_4) d_R_takeOpenings_65 (by decide) (Nat.le_of_ble_eq_true rfl) ?_
    refine jx_goto hX d_R_takeOpenings_68 rfl ?_
    refine jx_aload_n hX d_R_takeOpenings_76 0 rfl rfl ?_
    refine jx_dup hX d_R_takeOpenings_77 rfl ?_
    refine gf_R_33 hX d_R_takeOpenings_78 rfl ?_
    refine jx_iconst (v := 1) hX d_R_takeOpenings_81 (by decide) ?_
    refine jx_iadd hX d_R_takeOpenings_82 ?_
    refine pf_R_33 hX d_R_takeOpenings_83 ?_
    refine jx_goto hX d_R_takeOpenings_86 rfl ?_
    obtain rfl := Option.some.inj h
    exact hi _ rfl

set_option maxHeartbeats 4000000 in
set_option maxRecDepth 100000 in
theorem lt_R_takeOpenings_0 {G : jx_G} {X : jx_C} (hX : jx_Ok G X b_R_takeOpenings "PlaneCells$Reader" none 1 1) (fin : jx_S)  {n : Nat} {z : jx_S} {r : jx_S} (hz : jx_lp (b_R_takeOpenings_0 ) n z = some r) (hk : jx_At G X (none, jx_w G fin) (jx_w G r) 89 [(0, .ref (jx_ad G 2))] []) : jx_At G X (none, jx_w G fin) (jx_w G z) 0 [(0, .ref (jx_ad G 2))] [] := by
  refine jx_loop1 (b_R_takeOpenings_0 ) (fun z => jx_At G X (none, jx_w G fin) (jx_w G z) 0 [(0, .ref (jx_ad G 2))] []) (fun z => jx_At G X (none, jx_w G fin) (jx_w G z) 89 [(0, .ref (jx_ad G 2))] []) ?_ n z r hz hk
  intro z o h hi hx
  unfold b_R_takeOpenings_0 at h
  refine jx_aload_n hX d_R_takeOpenings_0 0 rfl rfl ?_
  refine gf_R_33 hX d_R_takeOpenings_1 rfl ?_
  refine jx_aload_n hX d_R_takeOpenings_4 0 rfl rfl ?_
  refine gf_R_30 hX d_R_takeOpenings_5 rfl ?_
  refine jx_icmp_ge hX d_R_takeOpenings_8 rfl (fun hc => ?_) (fun hc => ?_)
  · have h := jx_ip hc h
    obtain rfl := Option.some.inj h
    exact hx _ rfl
  · have h := jx_in_ hc h
    refine jx_aload_n hX d_R_takeOpenings_11 0 rfl rfl ?_
    refine gf_R_9 hX d_R_takeOpenings_12 ?_
    refine jx_aload_n hX d_R_takeOpenings_15 0 rfl rfl ?_
    refine gf_R_33 hX d_R_takeOpenings_16 rfl ?_
    obtain ⟨hg1, h⟩ := jx_gd h
    refine al_3 hX d_R_takeOpenings_19 rfl hg1 ?_
    refine jx_bipush (v := 126) hX d_R_takeOpenings_20 (by decide) ?_
    refine jx_icmp_eq hX d_R_takeOpenings_22 rfl (fun hc => ?_) (fun hc => ?_)
    · have h := jx_ip hc h
      exact kt_R_takeOpenings_0_39 hX fin z h hi hx
    · have h := jx_in_ hc h
      refine jx_aload_n hX d_R_takeOpenings_25 0 rfl rfl ?_
      refine gf_R_9 hX d_R_takeOpenings_26 ?_
      refine jx_aload_n hX d_R_takeOpenings_29 0 rfl rfl ?_
      refine gf_R_33 hX d_R_takeOpenings_30 rfl ?_
      refine al_3 hX d_R_takeOpenings_33 rfl hg1 ?_
      refine jx_bipush (v := 40) hX d_R_takeOpenings_34 (by decide) ?_
      refine jx_icmp_ne hX d_R_takeOpenings_36 rfl (fun hc => ?_) (fun hc => ?_)
      · have h := jx_in_ hc h
        obtain rfl := Option.some.inj h
        exact hx _ rfl
      · have h := jx_ip hc h
        exact kt_R_takeOpenings_0_39 hX fin z h hi hx

set_option maxHeartbeats 4000000 in
set_option maxRecDepth 100000 in
theorem c_R_takeOpenings (l : Launch) (G : jx_G) (S : jx_S)  (fin : jx_S) (h : f_R_takeOpenings S = some fin) : jx_M l y_R_takeOpenings b_R_takeOpenings 1 none 1 G [.ref (jx_ad G 2)] (jx_w G S) (none, jx_w G fin) := by
  refine jx_met (own := "PlaneCells$Reader") (by decide) rfl (Nat.le_of_ble_eq_true rfl) (fun X hX hl => ?_)
  subst hl
  refine jx_L (L2 := [(0, .ref (jx_ad G 2))]) rfl ?_
  unfold f_R_takeOpenings at h
  obtain ⟨z0_5, hz, h⟩ := jx_bd h
  refine lt_R_takeOpenings_0 hX fin  hz ?_
  obtain rfl := Option.some.inj h
  exact jx_vret hX d_R_takeOpenings_89

