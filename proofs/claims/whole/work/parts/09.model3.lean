def f_M_give (S : jx_S) (a1 : Int32) : Option (jx_S) :=
  if jx_in (S.1 6) 90 = true then
    some (jx_f (jx_g S 3 (upd (S.2.1 3) ((S.1 6)).toNatClampNeg a1)) 6 ((S.1 6) + 1))
  else none
set_option maxHeartbeats 4000000 in
set_option maxRecDepth 100000 in
theorem c_M_give (l : Launch) (G : jx_G) (S : jx_S) (a1 : Int32) (fin : jx_S) (h : f_M_give S a1 = some fin) : jx_M l y_M_give b_M_give 2 none 0 G [.ref (jx_ad G 18), .int a1] (jr_w G S) (none, jr_w G fin) := by
  refine jx_met (own := "PlaneCellsModel") (by decide) rfl (Nat.le_of_ble_eq_true rfl) (fun X hX hl => ?_)
  subst hl
  refine jx_L (L2 := [(0, .ref (jx_ad G 18)), (1, .int a1)]) rfl ?_
  unfold f_M_give at h
  refine jx_aload_n hX d_M_give_0 0 rfl rfl ?_
  refine gf_M_23 hX d_M_give_1 ?_
  refine jx_aload_n hX d_M_give_4 0 rfl rfl ?_
  refine gf_M_93 hX d_M_give_5 rfl ?_
  refine jx_iload_n hX d_M_give_8 1 rfl rfl ?_
  obtain ⟨hg1, h⟩ := jx_gd h
  refine as_M3 hX d_M_give_9 rfl hg1 ?_
  refine jx_aload_n hX d_M_give_10 0 rfl rfl ?_
  refine jx_dup hX d_M_give_11 rfl ?_
  refine gf_M_93 hX d_M_give_12 (x := (S.1 6)) rfl ?_
  refine jx_iconst (v := 1) hX d_M_give_15 (by decide) ?_
  refine jx_iadd hX d_M_give_16 ?_
  refine pf_M_93 hX d_M_give_17 ?_
  obtain rfl := Option.some.inj h
  exact jx_vret hX d_M_give_20

def b_M_giveAll_0 (x1 : Int32) (z : jx_S) : Option ((jx_S) ⊕ (jx_S)) :=
  if (z.1 7) ≤ 0 then
    some (.inr z)
  else
    if jx_in ((z.1 7) - 1) 90 = true then
      if ((z.2.1 4) (((z.1 7) - 1)).toNatClampNeg) < x1 then
        some (.inr z)
      else
        if ((z.2.1 4) (((z.1 7) - 1)).toNatClampNeg) = 3 then
          (f_M_give (jx_f z 7 ((z.1 7) - 1)) 12).bind fun q71_4 =>
            some (.inl q71_4)
        else
          (f_M_give (jx_f z 7 ((z.1 7) - 1)) (if ((z.2.1 4) (((z.1 7) - 1)).toNatClampNeg) = 2 then 10 else 11 : Int32)).bind fun q71_2 =>
            some (.inl q71_2)
    else none

def f_M_giveAll (S : jx_S) (a1 : Int32) : Option (jx_S) :=
  (jx_lp (b_M_giveAll_0 a1) jx_N S).bind fun z0_5 =>
    some z0_5
set_option maxHeartbeats 4000000 in
set_option maxRecDepth 100000 in
theorem lt_M_giveAll_0 {G : jx_G} {X : jx_C} (hX : jx_Ok G X b_M_giveAll "PlaneCellsModel" none 2 1) (fin : jx_S) (x1 : Int32) {n : Nat} {z : jx_S} {r : jx_S} (hz : jx_lp (b_M_giveAll_0 x1) n z = some r) (hk : jx_At G X (none, jr_w G fin) (jr_w G r) 77 [(0, .ref (jx_ad G 18)), (1, .int x1)] []) : jx_At G X (none, jr_w G fin) (jr_w G z) 0 [(0, .ref (jx_ad G 18)), (1, .int x1)] [] := by
  refine jx_loop1 (b_M_giveAll_0 x1) (fun z => jx_At G X (none, jr_w G fin) (jr_w G z) 0 [(0, .ref (jx_ad G 18)), (1, .int x1)] []) (fun z => jx_At G X (none, jr_w G fin) (jr_w G z) 77 [(0, .ref (jx_ad G 18)), (1, .int x1)] []) ?_ n z r hz hk
  intro z o h hi hx
  unfold b_M_giveAll_0 at h
  refine jx_aload_n hX d_M_giveAll_0 0 rfl rfl ?_
  refine gf_M_96 hX d_M_giveAll_1 rfl ?_
  refine jx_if_le hX d_M_giveAll_4 rfl (fun hc => ?_) (fun hc => ?_)
  · have h := jx_ip hc h
    obtain rfl := Option.some.inj h
    exact hx _ rfl
  · have h := jx_in_ hc h
    refine jx_aload_n hX d_M_giveAll_7 0 rfl rfl ?_
    refine gf_M_26 hX d_M_giveAll_8 ?_
    refine jx_aload_n hX d_M_giveAll_11 0 rfl rfl ?_
    refine gf_M_96 hX d_M_giveAll_12 rfl ?_
    refine jx_iconst (v := 1) hX d_M_giveAll_15 (by decide) ?_
    refine jx_isub hX d_M_giveAll_16 ?_
    obtain ⟨hg1, h⟩ := jx_gd h
    refine al_M4 hX d_M_giveAll_17 rfl hg1 ?_
    refine jx_iload_n hX d_M_giveAll_18 1 rfl rfl ?_
    refine jx_icmp_lt hX d_M_giveAll_19 rfl (fun hc => ?_) (fun hc => ?_)
    · have h := jx_ip hc h
      obtain rfl := Option.some.inj h
      exact hx _ rfl
    · have h := jx_in_ hc h
      refine jx_aload_n hX d_M_giveAll_22 0 rfl rfl ?_
      refine jx_dup hX d_M_giveAll_23 rfl ?_
      refine gf_M_96 hX d_M_giveAll_24 rfl ?_
      refine jx_iconst (v := 1) hX d_M_giveAll_27 (by decide) ?_
      refine jx_isub hX d_M_giveAll_28 ?_
      refine pf_M_96 hX d_M_giveAll_29 ?_
      refine jx_aload_n hX d_M_giveAll_32 0 rfl rfl ?_
      refine jx_aload_n hX d_M_giveAll_33 0 rfl rfl ?_
      refine gf_M_26 hX d_M_giveAll_34 ?_
      refine jx_aload_n hX d_M_giveAll_37 0 rfl rfl ?_
      refine gf_M_96 hX d_M_giveAll_38 (x := ((z.1 7) - 1)) rfl ?_
      refine al_M4 hX d_M_giveAll_41 (f := (z.2.1 4)) rfl hg1 ?_
      refine jx_iconst (v := 3) hX d_M_giveAll_42 (by decide) ?_
      refine jx_icmp_ne hX d_M_giveAll_43 rfl (fun hc => ?_) (fun hc => ?_)
      · have h := jx_in_ hc h
        refine jx_aload_n hX d_M_giveAll_51 0 rfl rfl ?_
        refine gf_M_26 hX d_M_giveAll_52 ?_
        refine jx_aload_n hX d_M_giveAll_55 0 rfl rfl ?_
        refine gf_M_96 hX d_M_giveAll_56 (x := ((z.1 7) - 1)) rfl ?_
        refine al_M4 hX d_M_giveAll_59 (f := (z.2.1 4)) rfl hg1 ?_
        refine jx_iconst (v := 2) hX d_M_giveAll_60 (by decide) ?_
        have hj : ∀ v : Int32, v = (if ((z.2.1 4) (((z.1 7) - 1)).toNatClampNeg) = 2 then 10 else 11 : Int32) → jx_At G X (none, jr_w G fin) (jr_w G (jx_f z 7 ((z.1 7) - 1))) 71 [(0, .ref (jx_ad G 18)), (1, .int x1)] [.int v, .ref (jx_ad G 18)] := by
          intro v hv
          subst hv
          obtain ⟨q71_2, hq71_2, h⟩ := jx_bd h
          refine cs_M_99 hX (c_M_give (jx_l X) G (jx_f z 7 ((z.1 7) - 1)) (if ((z.2.1 4) (((z.1 7) - 1)).toNatClampNeg) = 2 then 10 else 11 : Int32) q71_2 hq71_2) d_M_giveAll_71 (by decide) (Nat.le_of_ble_eq_true rfl) ?_
          refine jx_goto hX d_M_giveAll_74 rfl ?_
          obtain rfl := Option.some.inj h
          exact hi _ rfl
        refine jx_icmp_ne hX d_M_giveAll_61 rfl (fun hc3 => ?_) (fun hc3 => ?_)
        · refine jx_bipush (v := 11) hX d_M_giveAll_69 (by decide) ?_
          exact hj _ (if_neg hc3).symm
        · refine jx_bipush (v := 10) hX d_M_giveAll_64 (by decide) ?_
          refine jx_goto hX d_M_giveAll_66 rfl ?_
          exact hj _ (if_pos hc3).symm
      · have h := jx_ip hc h
        refine jx_bipush (v := 12) hX d_M_giveAll_46 (by decide) ?_
        refine jx_goto hX d_M_giveAll_48 rfl ?_
        obtain ⟨q71_4, hq71_4, h⟩ := jx_bd h
        refine cs_M_99 hX (c_M_give (jx_l X) G (jx_f z 7 ((z.1 7) - 1)) 12 q71_4 hq71_4) d_M_giveAll_71 (by decide) (Nat.le_of_ble_eq_true rfl) ?_
        refine jx_goto hX d_M_giveAll_74 rfl ?_
        obtain rfl := Option.some.inj h
        exact hi _ rfl

set_option maxHeartbeats 4000000 in
set_option maxRecDepth 100000 in
theorem c_M_giveAll (l : Launch) (G : jx_G) (S : jx_S) (a1 : Int32) (fin : jx_S) (h : f_M_giveAll S a1 = some fin) : jx_M l y_M_giveAll b_M_giveAll 2 none 1 G [.ref (jx_ad G 18), .int a1] (jr_w G S) (none, jr_w G fin) := by
  refine jx_met (own := "PlaneCellsModel") (by decide) rfl (Nat.le_of_ble_eq_true rfl) (fun X hX hl => ?_)
  subst hl
  refine jx_L (L2 := [(0, .ref (jx_ad G 18)), (1, .int a1)]) rfl ?_
  unfold f_M_giveAll at h
  obtain ⟨z0_5, hz, h⟩ := jx_bd h
  refine lt_M_giveAll_0 hX fin a1 hz ?_
  obtain rfl := Option.some.inj h
  exact jx_vret hX d_M_giveAll_77

def f_M_wait0 (S : jx_S) (a1 : Int32) : Option (jx_S) :=
  if jx_in (S.1 7) 90 = true then
    some (jx_f (jx_g S 4 (upd (S.2.1 4) ((S.1 7)).toNatClampNeg a1)) 7 ((S.1 7) + 1))
  else none
set_option maxHeartbeats 4000000 in
set_option maxRecDepth 100000 in
theorem c_M_wait0 (l : Launch) (G : jx_G) (S : jx_S) (a1 : Int32) (fin : jx_S) (h : f_M_wait0 S a1 = some fin) : jx_M l y_M_wait0 b_M_wait0 2 none 0 G [.ref (jx_ad G 18), .int a1] (jr_w G S) (none, jr_w G fin) := by
  refine jx_met (own := "PlaneCellsModel") (by decide) rfl (Nat.le_of_ble_eq_true rfl) (fun X hX hl => ?_)
  subst hl
  refine jx_L (L2 := [(0, .ref (jx_ad G 18)), (1, .int a1)]) rfl ?_
  unfold f_M_wait0 at h
  refine jx_aload_n hX d_M_wait0_0 0 rfl rfl ?_
  refine gf_M_26 hX d_M_wait0_1 ?_
  refine jx_aload_n hX d_M_wait0_4 0 rfl rfl ?_
  refine gf_M_96 hX d_M_wait0_5 rfl ?_
  refine jx_iload_n hX d_M_wait0_8 1 rfl rfl ?_
  obtain ⟨hg1, h⟩ := jx_gd h
  refine as_M4 hX d_M_wait0_9 rfl hg1 ?_
  refine jx_aload_n hX d_M_wait0_10 0 rfl rfl ?_
  refine jx_dup hX d_M_wait0_11 rfl ?_
  refine gf_M_96 hX d_M_wait0_12 (x := (S.1 7)) rfl ?_
  refine jx_iconst (v := 1) hX d_M_wait0_15 (by decide) ?_
  refine jx_iadd hX d_M_wait0_16 ?_
  refine pf_M_96 hX d_M_wait0_17 ?_
  obtain rfl := Option.some.inj h
  exact jx_vret hX d_M_wait0_20

def b_M_readFormula_17  (z : jx_S × Int32) : Option ((jx_S × Int32) ⊕ (jx_S)) :=
  if 32 ≤ z.2 then
    some (.inr z.1)
  else
    if jx_in z.2 32 = true then
      some (.inl ((jx_g z.1 2 (upd (z.1.2.1 2) (z.2).toNatClampNeg 0)), (z.2 + 1)))
    else none

def k_M_readFormula_38_116 (S : jx_S) (x1 : Int32) (x2 : Int32) : Option ((jx_S × Int32) ⊕ (jx_S × Int32)) :=
  (f_M_giveAll S (if x2 = 38 then 2 else 1 : Int32)).bind fun q128_4 =>
    (f_M_wait0 q128_4 (if x2 = 38 then 2 else 1 : Int32)).bind fun q143_5 =>
      some (.inl (q143_5, (x1 + 1)))

def b_M_readFormula_38  (z : jx_S × Int32) : Option ((jx_S × Int32) ⊕ (jx_S × Int32)) :=
  if (z.1.1 1) ≤ z.2 then
    some (.inr (z.1, z.2))
  else
    (f_M_at z.1 z.2).bind fun q48_3 =>
      if q48_3 = 126 then
        (f_M_wait0 z.1 3).bind fun q60_15 =>
          some (.inl (q60_15, (z.2 + 1)))
      else
        if q48_3 = 40 then
          (f_M_wait0 z.1 0).bind fun q74_14 =>
            some (.inl (q74_14, (z.2 + 1)))
        else
          if q48_3 = 41 then
            (f_M_giveAll z.1 1).bind fun q88_13 =>
              some (.inl ((jx_f q88_13 7 ((q88_13.1 7) - 1)), (z.2 + 1)))
          else
            if q48_3 = 38 then
              k_M_readFormula_38_116 z.1 z.2 q48_3
            else
              if q48_3 = 124 then
                k_M_readFormula_38_116 z.1 z.2 q48_3
              else
                (f_M_readSum z.1 z.2 (z.1.1 5) 1).bind fun q156_8 =>
                  (f_M_at q156_8.2 q156_8.1).bind fun q170_9 =>
                    if jx_in (q156_8.2.1 5) 8 = true then
                      (f_M_readSum (jx_g q156_8.2 9 (upd (q156_8.2.2.1 9) ((q156_8.2.1 5)).toNatClampNeg q170_9)) (q156_8.1 + 1) (q156_8.2.1 5) (-1)).bind fun q183_11 =>
                        (f_M_give q183_11.2 (q183_11.2.1 5)).bind fun q194_12 =>
                          some (.inl ((jx_f q194_12 5 ((q194_12.1 5) + 1)), ((q183_11.1 - 1) + 1)))
                    else none

def f_M_readFormula (S : jx_S)  : Option (jx_S) :=
  (jx_lp (b_M_readFormula_17 ) jx_N ((jx_f (jx_f (jx_f S 5 0) 6 0) 7 0), 0)).bind fun z17_2 =>
    (jx_lp (b_M_readFormula_38 ) jx_N (z17_2, 5)).bind fun z38_16 =>
      (f_M_giveAll z38_16.1 1).bind fun q215_17 =>
        some q215_17
set_option maxHeartbeats 4000000 in
set_option maxRecDepth 100000 in
theorem lt_M_readFormula_17 {G : jx_G} {X : jx_C} (hX : jx_Ok G X b_M_readFormula "PlaneCellsModel" none 3 2) (fin : jx_S)  {n : Nat} {z : jx_S × Int32} {r : jx_S} (hz : jx_lp (b_M_readFormula_17 ) n z = some r) (hk : jx_At G X (none, jr_w G fin) (jr_w G r) 36 [(0, .ref (jx_ad G 18))] []) : jx_At G X (none, jr_w G fin) (jr_w G z.1) 17 [(0, .ref (jx_ad G 18)), (1, .int z.2)] [] := by
  refine jx_loop1 (b_M_readFormula_17 ) (fun z => jx_At G X (none, jr_w G fin) (jr_w G z.1) 17 [(0, .ref (jx_ad G 18)), (1, .int z.2)] []) (fun z => jx_At G X (none, jr_w G fin) (jr_w G z) 36 [(0, .ref (jx_ad G 18))] []) ?_ n z r hz hk
  intro z o h hi hx
  unfold b_M_readFormula_17 at h
  refine jx_iload_n hX d_M_readFormula_17 1 rfl rfl ?_
  refine jx_bipush (v := 32) hX d_M_readFormula_18 (by decide) ?_
  refine jx_icmp_ge hX d_M_readFormula_20 rfl (fun hc => ?_) (fun hc => ?_)
  · have h := jx_ip hc h
    refine jx_sub (L2 := [(0, .ref (jx_ad G 18))]) [0] rfl ?_
    obtain rfl := Option.some.inj h
    exact hx _ rfl
  · have h := jx_in_ hc h
    refine jx_aload_n hX d_M_readFormula_23 0 rfl rfl ?_
    refine gf_M_20 hX d_M_readFormula_24 ?_
    refine jx_iload_n hX d_M_readFormula_27 1 rfl rfl ?_
    refine jx_iconst (v := 0) hX d_M_readFormula_28 (by decide) ?_
    obtain ⟨hg1, h⟩ := jx_gd h
    refine as_M2 hX d_M_readFormula_29 rfl hg1 ?_
    refine jx_iinc (v := (z.2 + 1)) hX d_M_readFormula_30 1 rfl (by first | rfl | decide) (by decide) (L2 := [(1, .int (z.2 + 1)), (0, .ref (jx_ad G 18))]) rfl ?_
    refine jx_goto hX d_M_readFormula_33 rfl ?_
    refine jx_sub (L2 := [(0, .ref (jx_ad G 18)), (1, .int (z.2 + 1))]) [1, 0] rfl ?_
    obtain rfl := Option.some.inj h
    exact hi _ rfl

set_option maxHeartbeats 4000000 in
set_option maxRecDepth 100000 in
theorem kt_M_readFormula_38_116 {G : jx_G} {X : jx_C} (hX : jx_Ok G X b_M_readFormula "PlaneCellsModel" none 3 2) (fin : jx_S) (S : jx_S) (x1 : Int32) (x2 : Int32) {o : (jx_S × Int32) ⊕ (jx_S × Int32)} (h : k_M_readFormula_38_116 S x1 x2 = some o) (hi : ∀ z, o = .inl z → jx_At G X (none, jr_w G fin) (jr_w G z.1) 38 [(0, .ref (jx_ad G 18)), (1, .int z.2)] []) (hx : ∀ u, o = .inr u → jx_At G X (none, jr_w G fin) (jr_w G u.1) 213 [(0, .ref (jx_ad G 18)), (1, .int u.2)] []) : jx_At G X (none, jr_w G fin) (jr_w G S) 116 [(0, .ref (jx_ad G 18)), (1, .int x1), (2, .int x2)] [] := by
  unfold k_M_readFormula_38_116 at h
  refine jx_aload_n hX d_M_readFormula_116 0 rfl rfl ?_
  refine jx_iload_n hX d_M_readFormula_117 2 rfl rfl ?_
  refine jx_bipush (v := 38) hX d_M_readFormula_118 (by decide) ?_
  have hj : ∀ v : Int32, v = (if x2 = 38 then 2 else 1 : Int32) → jx_At G X (none, jr_w G fin) (jr_w G S) 128 [(0, .ref (jx_ad G 18)), (1, .int x1), (2, .int x2)] [.int v, .ref (jx_ad G 18)] := by
    intro v hv
    subst hv
    obtain ⟨q128_4, hq128_4, h⟩ := jx_bd h
    refine cs_M_109 hX (c_M_giveAll (jx_l X) G S (if x2 = 38 then 2 else 1 : Int32) q128_4 hq128_4) d_M_readFormula_128 (by decide) (Nat.le_of_ble_eq_true rfl) ?_
    refine jx_aload_n hX d_M_readFormula_131 0 rfl rfl ?_
    refine jx_iload_n hX d_M_readFormula_132 2 rfl rfl ?_
    refine jx_bipush (v := 38) hX d_M_readFormula_133 (by decide) ?_
    have hj : ∀ v : Int32, v = (if x2 = 38 then 2 else 1 : Int32) → jx_At G X (none, jr_w G fin) (jr_w G q128_4) 143 [(0, .ref (jx_ad G 18)), (1, .int x1), (2, .int x2)] [.int v, .ref (jx_ad G 18)] := by
      intro v hv
      subst hv
      obtain ⟨q143_5, hq143_5, h⟩ := jx_bd h
      refine cs_M_106 hX (c_M_wait0 (jx_l X) G q128_4 (if x2 = 38 then 2 else 1 : Int32) q143_5 hq143_5) d_M_readFormula_143 (by decide) (Nat.le_of_ble_eq_true rfl) ?_
      refine jx_goto hX d_M_readFormula_146 rfl ?_
      refine jx_iinc (v := (x1 + 1)) hX d_M_readFormula_207 1 rfl (by first | rfl | decide) (by decide) (L2 := [(1, .int (x1 + 1)), (0, .ref (jx_ad G 18)), (2, .int x2)]) rfl ?_
      refine jx_goto hX d_M_readFormula_210 rfl ?_
      refine jx_sub (L2 := [(0, .ref (jx_ad G 18)), (1, .int (x1 + 1))]) [1, 0] rfl ?_
      obtain rfl := Option.some.inj h
      exact hi _ rfl
    refine jx_icmp_ne hX d_M_readFormula_135 rfl (fun hc6 => ?_) (fun hc6 => ?_)
    · refine jx_iconst (v := 1) hX d_M_readFormula_142 (by decide) ?_
      exact hj _ (if_neg hc6).symm
    · refine jx_iconst (v := 2) hX d_M_readFormula_138 (by decide) ?_
      refine jx_goto hX d_M_readFormula_139 rfl ?_
      exact hj _ (if_pos hc6).symm
  refine jx_icmp_ne hX d_M_readFormula_120 rfl (fun hc7 => ?_) (fun hc7 => ?_)
  · refine jx_iconst (v := 1) hX d_M_readFormula_127 (by decide) ?_
    exact hj _ (if_neg hc7).symm
  · refine jx_iconst (v := 2) hX d_M_readFormula_123 (by decide) ?_
    refine jx_goto hX d_M_readFormula_124 rfl ?_
    exact hj _ (if_pos hc7).symm

set_option maxHeartbeats 4000000 in
set_option maxRecDepth 100000 in
theorem lt_M_readFormula_38 {G : jx_G} {X : jx_C} (hX : jx_Ok G X b_M_readFormula "PlaneCellsModel" none 3 2) (fin : jx_S)  {n : Nat} {z : jx_S × Int32} {r : jx_S × Int32} (hz : jx_lp (b_M_readFormula_38 ) n z = some r) (hk : jx_At G X (none, jr_w G fin) (jr_w G r.1) 213 [(0, .ref (jx_ad G 18)), (1, .int r.2)] []) : jx_At G X (none, jr_w G fin) (jr_w G z.1) 38 [(0, .ref (jx_ad G 18)), (1, .int z.2)] [] := by
  refine jx_loop1 (b_M_readFormula_38 ) (fun z => jx_At G X (none, jr_w G fin) (jr_w G z.1) 38 [(0, .ref (jx_ad G 18)), (1, .int z.2)] []) (fun z => jx_At G X (none, jr_w G fin) (jr_w G z.1) 213 [(0, .ref (jx_ad G 18)), (1, .int z.2)] []) ?_ n z r hz hk
  intro z o h hi hx
  unfold b_M_readFormula_38 at h
  refine jx_iload_n hX d_M_readFormula_38 1 rfl rfl ?_
  refine jx_aload_n hX d_M_readFormula_39 0 rfl rfl ?_
  refine gf_M_61 hX d_M_readFormula_40 rfl ?_
  refine jx_icmp_ge hX d_M_readFormula_43 rfl (fun hc => ?_) (fun hc => ?_)
  · have h := jx_ip hc h
    obtain rfl := Option.some.inj h
    exact hx _ rfl
  · have h := jx_in_ hc h
    refine jx_aload_n hX d_M_readFormula_46 0 rfl rfl ?_
    refine jx_iload_n hX d_M_readFormula_47 1 rfl rfl ?_
    obtain ⟨q48_3, hq48_3, h⟩ := jx_bd h
    refine cs_M_79 hX (c_M_at (jx_l X) G z.1 z.2 q48_3 hq48_3) d_M_readFormula_48 (by decide) (Nat.le_of_ble_eq_true rfl) ?_
    refine jx_istore_n hX d_M_readFormula_51 rfl (by decide) (L2 := [(2, .int q48_3), (0, .ref (jx_ad G 18)), (1, .int z.2)]) rfl ?_
    refine jx_iload_n hX d_M_readFormula_52 0 rfl rfl ?_
    refine jx_bipush (v := 126) hX d_M_readFormula_53 (by decide) ?_
    refine jx_icmp_ne hX d_M_readFormula_55 rfl (fun hc => ?_) (fun hc => ?_)
    · have h := jx_in_ hc h
      refine jx_iload_n hX d_M_readFormula_66 0 rfl rfl ?_
      refine jx_bipush (v := 40) hX d_M_readFormula_67 (by decide) ?_
      refine jx_icmp_ne hX d_M_readFormula_69 rfl (fun hc => ?_) (fun hc => ?_)
      · have h := jx_in_ hc h
        refine jx_iload_n hX d_M_readFormula_80 0 rfl rfl ?_
        refine jx_bipush (v := 41) hX d_M_readFormula_81 (by decide) ?_
        refine jx_icmp_ne hX d_M_readFormula_83 rfl (fun hc => ?_) (fun hc => ?_)
        · have h := jx_in_ hc h
          refine jx_iload_n hX d_M_readFormula_104 0 rfl rfl ?_
          refine jx_bipush (v := 38) hX d_M_readFormula_105 (by decide) ?_
          refine jx_icmp_eq hX d_M_readFormula_107 rfl (fun hc => ?_) (fun hc => ?_)
          · have h := jx_ip hc h
            refine jx_sub (L2 := [(0, .ref (jx_ad G 18)), (1, .int z.2), (2, .int q48_3)]) [1, 2, 0] rfl ?_
            exact kt_M_readFormula_38_116 hX fin z.1 z.2 q48_3 h hi hx
          · have h := jx_in_ hc h
            refine jx_iload_n hX d_M_readFormula_110 0 rfl rfl ?_
            refine jx_bipush (v := 124) hX d_M_readFormula_111 (by decide) ?_
            refine jx_icmp_ne hX d_M_readFormula_113 rfl (fun hc => ?_) (fun hc => ?_)
            · have h := jx_in_ hc h
              refine jx_aload_n hX d_M_readFormula_149 1 rfl rfl ?_
              refine jx_iload_n hX d_M_readFormula_150 2 rfl rfl ?_
              refine jx_aload_n hX d_M_readFormula_151 1 rfl rfl ?_
              refine gf_M_103 hX d_M_readFormula_152 rfl ?_
              refine jx_iconst (v := 1) hX d_M_readFormula_155 (by decide) ?_
              obtain ⟨q156_8, hq156_8, h⟩ := jx_bd h
              refine cs_M_112 hX (c_M_readSum (jx_l X) G z.1 z.2 (z.1.1 5) 1 q156_8 hq156_8) d_M_readFormula_156 (by decide) (Nat.le_of_ble_eq_true rfl) ?_
              refine jx_istore_n hX d_M_readFormula_159 rfl (by decide) (L2 := [(1, .int q156_8.1), (2, .int q48_3), (0, .ref (jx_ad G 18))]) rfl ?_
              refine jx_aload_n hX d_M_readFormula_160 2 rfl rfl ?_
              refine gf_M_55 hX d_M_readFormula_161 ?_
              refine jx_aload_n hX d_M_readFormula_164 2 rfl rfl ?_
              refine gf_M_103 hX d_M_readFormula_165 rfl ?_
              refine jx_aload_n hX d_M_readFormula_168 2 rfl rfl ?_
              refine jx_iload_n hX d_M_readFormula_169 0 rfl rfl ?_
              obtain ⟨q170_9, hq170_9, h⟩ := jx_bd h
              refine cs_M_79 hX (c_M_at (jx_l X) G q156_8.2 q156_8.1 q170_9 hq170_9) d_M_readFormula_170 (by decide) (Nat.le_of_ble_eq_true rfl) ?_
              obtain ⟨hg10, h⟩ := jx_gd h
              refine as_M9 hX d_M_readFormula_173 rfl hg10 ?_
              refine jx_aload_n hX d_M_readFormula_174 2 rfl rfl ?_
              refine jx_iload_n hX d_M_readFormula_175 0 rfl rfl ?_
              refine jx_iconst (v := 1) hX d_M_readFormula_176 (by decide) ?_
              refine jx_iadd hX d_M_readFormula_177 ?_
              refine jx_aload_n hX d_M_readFormula_178 2 rfl rfl ?_
              refine gf_M_103 hX d_M_readFormula_179 (x := (q156_8.2.1 5)) rfl ?_
              refine jx_iconst (v := (-1)) hX d_M_readFormula_182 (by decide) ?_
              obtain ⟨q183_11, hq183_11, h⟩ := jx_bd h
              refine cs_M_112 hX (c_M_readSum (jx_l X) G (jx_g q156_8.2 9 (upd (q156_8.2.2.1 9) ((q156_8.2.1 5)).toNatClampNeg q170_9)) (q156_8.1 + 1) (q156_8.2.1 5) (-1) q183_11 hq183_11) d_M_readFormula_183 (by decide) (Nat.le_of_ble_eq_true rfl) ?_
              refine jx_iconst (v := 1) hX d_M_readFormula_186 (by decide) ?_
              refine jx_isub hX d_M_readFormula_187 ?_
              refine jx_istore_n hX d_M_readFormula_188 rfl (by decide) (L2 := [(1, .int (q183_11.1 - 1)), (2, .int q48_3), (0, .ref (jx_ad G 18))]) rfl ?_
              refine jx_aload_n hX d_M_readFormula_189 2 rfl rfl ?_
              refine jx_aload_n hX d_M_readFormula_190 2 rfl rfl ?_
              refine gf_M_103 hX d_M_readFormula_191 rfl ?_
              obtain ⟨q194_12, hq194_12, h⟩ := jx_bd h
              refine cs_M_99 hX (c_M_give (jx_l X) G q183_11.2 (q183_11.2.1 5) q194_12 hq194_12) d_M_readFormula_194 (by decide) (Nat.le_of_ble_eq_true rfl) ?_
              refine jx_aload_n hX d_M_readFormula_197 2 rfl rfl ?_
              refine jx_dup hX d_M_readFormula_198 rfl ?_
              refine gf_M_103 hX d_M_readFormula_199 rfl ?_
              refine jx_iconst (v := 1) hX d_M_readFormula_202 (by decide) ?_
              refine jx_iadd hX d_M_readFormula_203 ?_
              refine pf_M_103 hX d_M_readFormula_204 ?_
              refine jx_iinc (v := ((q183_11.1 - 1) + 1)) hX d_M_readFormula_207 0 rfl (by first | rfl | decide) (by decide) (L2 := [(1, .int ((q183_11.1 - 1) + 1)), (2, .int q48_3), (0, .ref (jx_ad G 18))]) rfl ?_
              refine jx_goto hX d_M_readFormula_210 rfl ?_
              refine jx_sub (L2 := [(0, .ref (jx_ad G 18)), (1, .int ((q183_11.1 - 1) + 1))]) [2, 0] rfl ?_
              obtain rfl := Option.some.inj h
              exact hi _ rfl
            · have h := jx_ip hc h
              refine jx_sub (L2 := [(0, .ref (jx_ad G 18)), (1, .int z.2), (2, .int q48_3)]) [1, 2, 0] rfl ?_
              exact kt_M_readFormula_38_116 hX fin z.1 z.2 q48_3 h hi hx
        · have h := jx_ip hc h
          refine jx_aload_n hX d_M_readFormula_86 1 rfl rfl ?_
          refine jx_iconst (v := 1) hX d_M_readFormula_87 (by decide) ?_
          obtain ⟨q88_13, hq88_13, h⟩ := jx_bd h
          refine cs_M_109 hX (c_M_giveAll (jx_l X) G z.1 1 q88_13 hq88_13) d_M_readFormula_88 (by decide) (Nat.le_of_ble_eq_true rfl) ?_
          refine jx_aload_n hX d_M_readFormula_91 1 rfl rfl ?_
          refine jx_dup hX d_M_readFormula_92 rfl ?_
          refine gf_M_96 hX d_M_readFormula_93 rfl ?_
          refine jx_iconst (v := 1) hX d_M_readFormula_96 (by decide) ?_
          refine jx_isub hX d_M_readFormula_97 ?_
          refine pf_M_96 hX d_M_readFormula_98 ?_
          refine jx_goto hX d_M_readFormula_101 rfl ?_
          refine jx_iinc (v := (z.2 + 1)) hX d_M_readFormula_207 2 rfl (by first | rfl | decide) (by decide) (L2 := [(1, .int (z.2 + 1)), (2, .int q48_3), (0, .ref (jx_ad G 18))]) rfl ?_
          refine jx_goto hX d_M_readFormula_210 rfl ?_
          refine jx_sub (L2 := [(0, .ref (jx_ad G 18)), (1, .int (z.2 + 1))]) [2, 0] rfl ?_
          obtain rfl := Option.some.inj h
          exact hi _ rfl
      · have h := jx_ip hc h
        refine jx_aload_n hX d_M_readFormula_72 1 rfl rfl ?_
        refine jx_iconst (v := 0) hX d_M_readFormula_73 (by decide) ?_
        obtain ⟨q74_14, hq74_14, h⟩ := jx_bd h
        refine cs_M_106 hX (c_M_wait0 (jx_l X) G z.1 0 q74_14 hq74_14) d_M_readFormula_74 (by decide) (Nat.le_of_ble_eq_true rfl) ?_
        refine jx_goto hX d_M_readFormula_77 rfl ?_
        refine jx_iinc (v := (z.2 + 1)) hX d_M_readFormula_207 2 rfl (by first | rfl | decide) (by decide) (L2 := [(1, .int (z.2 + 1)), (2, .int q48_3), (0, .ref (jx_ad G 18))]) rfl ?_
        refine jx_goto hX d_M_readFormula_210 rfl ?_
        refine jx_sub (L2 := [(0, .ref (jx_ad G 18)), (1, .int (z.2 + 1))]) [2, 0] rfl ?_
        obtain rfl := Option.some.inj h
        exact hi _ rfl
    · have h := jx_ip hc h
      refine jx_aload_n hX d_M_readFormula_58 1 rfl rfl ?_
      refine jx_iconst (v := 3) hX d_M_readFormula_59 (by decide) ?_
      obtain ⟨q60_15, hq60_15, h⟩ := jx_bd h
      refine cs_M_106 hX (c_M_wait0 (jx_l X) G z.1 3 q60_15 hq60_15) d_M_readFormula_60 (by decide) (Nat.le_of_ble_eq_true rfl) ?_
      refine jx_goto hX d_M_readFormula_63 rfl ?_
      refine jx_iinc (v := (z.2 + 1)) hX d_M_readFormula_207 2 rfl (by first | rfl | decide) (by decide) (L2 := [(1, .int (z.2 + 1)), (2, .int q48_3), (0, .ref (jx_ad G 18))]) rfl ?_
      refine jx_goto hX d_M_readFormula_210 rfl ?_
      refine jx_sub (L2 := [(0, .ref (jx_ad G 18)), (1, .int (z.2 + 1))]) [2, 0] rfl ?_
      obtain rfl := Option.some.inj h
      exact hi _ rfl

set_option maxHeartbeats 4000000 in
set_option maxRecDepth 100000 in
theorem c_M_readFormula (l : Launch) (G : jx_G) (S : jx_S)  (fin : jx_S) (h : f_M_readFormula S = some fin) : jx_M l y_M_readFormula b_M_readFormula 3 none 2 G [.ref (jx_ad G 18)] (jr_w G S) (none, jr_w G fin) := by
  refine jx_met (own := "PlaneCellsModel") (by decide) rfl (Nat.le_of_ble_eq_true rfl) (fun X hX hl => ?_)
  subst hl
  refine jx_L (L2 := [(0, .ref (jx_ad G 18))]) rfl ?_
  unfold f_M_readFormula at h
  refine jx_aload_n hX d_M_readFormula_0 0 rfl rfl ?_
  refine jx_iconst (v := 0) hX d_M_readFormula_1 (by decide) ?_
  refine pf_M_103 hX d_M_readFormula_2 ?_
  refine jx_aload_n hX d_M_readFormula_5 0 rfl rfl ?_
  refine jx_iconst (v := 0) hX d_M_readFormula_6 (by decide) ?_
  refine pf_M_93 hX d_M_readFormula_7 ?_
  refine jx_aload_n hX d_M_readFormula_10 0 rfl rfl ?_
  refine jx_iconst (v := 0) hX d_M_readFormula_11 (by decide) ?_
  refine pf_M_96 hX d_M_readFormula_12 ?_
  refine jx_iconst (v := 0) hX d_M_readFormula_15 (by decide) ?_
  refine jx_istore_n hX d_M_readFormula_16 rfl (by decide) (L2 := [(1, .int 0), (0, .ref (jx_ad G 18))]) rfl ?_
  refine jx_sub (L2 := [(0, .ref (jx_ad G 18)), (1, .int 0)]) [1, 0] rfl ?_
  obtain ⟨z17_2, hz, h⟩ := jx_bd h
  refine lt_M_readFormula_17 hX fin  hz ?_
  refine jx_iconst (v := 5) hX d_M_readFormula_36 (by decide) ?_
  refine jx_istore_n hX d_M_readFormula_37 rfl (by decide) (L2 := [(1, .int 5), (0, .ref (jx_ad G 18))]) rfl ?_
  refine jx_sub (L2 := [(0, .ref (jx_ad G 18)), (1, .int 5)]) [1, 0] rfl ?_
  obtain ⟨z38_16, hz, h⟩ := jx_bd h
  refine lt_M_readFormula_38 hX fin  hz ?_
  refine jx_aload_n hX d_M_readFormula_213 0 rfl rfl ?_
  refine jx_iconst (v := 1) hX d_M_readFormula_214 (by decide) ?_
  obtain ⟨q215_17, hq215_17, h⟩ := jx_bd h
  refine cs_M_109 hX (c_M_giveAll (jx_l X) G z38_16.1 1 q215_17 hq215_17) d_M_readFormula_215 (by decide) (Nat.le_of_ble_eq_true rfl) ?_
  obtain rfl := Option.some.inj h
  exact jx_vret hX d_M_readFormula_218

def f_M_sgn (a1 : Int64) : Option (Int32) :=
  some (if (lg_cmp a1 0) ≤ 0 then (if 0 ≤ (lg_cmp a1 0) then 0 else (-1) : Int32) else 1 : Int32)
set_option maxHeartbeats 4000000 in
set_option maxRecDepth 100000 in
theorem c_M_sgn (l : Launch) (G : jx_G) (S : jx_S) (a1 : Int64) (fin : Int32) (h : f_M_sgn a1 = some fin) : jx_M l y_M_sgn b_M_sgn 2 (some .int) 0 G [.long a1] (jr_w G S) (some (.int fin), jr_w G S) := by
  refine jx_met (own := "PlaneCellsModel") (by decide) rfl (Nat.le_of_ble_eq_true rfl) (fun X hX hl => ?_)
  subst hl
  refine jx_L (L2 := [(0, .long a1)]) rfl ?_
  unfold f_M_sgn at h
  refine jx_lload_n hX d_M_sgn_0 0 rfl rfl ?_
  refine jx_lconst (v := 0) hX d_M_sgn_1 (by decide) ?_
  refine jx_lcmp hX d_M_sgn_2 ?_
  have hj : ∀ v : Int32, v = (if (lg_cmp a1 0) ≤ 0 then (if 0 ≤ (lg_cmp a1 0) then 0 else (-1) : Int32) else 1 : Int32) → jx_At G X (some (.int fin), jr_w G S) (jr_w G S) 21 [(0, .long a1)] [.int v] := by
    intro v hv
    subst hv
    obtain rfl := Option.some.inj h
    exact jx_iret hX d_M_sgn_21
  refine jx_if_le hX d_M_sgn_3 rfl (fun hc1 => ?_) (fun hc1 => ?_)
  · refine jx_lload_n hX d_M_sgn_10 0 rfl rfl ?_
    refine jx_lconst (v := 0) hX d_M_sgn_11 (by decide) ?_
    refine jx_lcmp hX d_M_sgn_12 ?_
    refine jx_if_ge hX d_M_sgn_13 rfl (fun hc2 => ?_) (fun hc2 => ?_)
    · refine jx_iconst (v := 0) hX d_M_sgn_20 (by decide) ?_
      exact hj _ ((if_pos hc1).trans (if_pos hc2)).symm
    · refine jx_iconst (v := (-1)) hX d_M_sgn_16 (by decide) ?_
      refine jx_goto hX d_M_sgn_17 rfl ?_
      exact hj _ ((if_pos hc1).trans (if_neg hc2)).symm
  · refine jx_iconst (v := 1) hX d_M_sgn_6 (by decide) ?_
    refine jx_goto hX d_M_sgn_7 rfl ?_
    exact hj _ (if_neg hc1).symm

def k_M_signOf_21 (x0 : Int64) (x2 : Int64) (x4 : Int64) (x6 : Int32) (y0 : Int32) : Option (Int32) :=
  if x6 = y0 then
    some x6
  else
    if y0 = 0 then
      some x6
    else
      if x6 = 0 then
        some y0
      else
        some (if (lg_cmp (x0 * x0) ((x2 * x2) * x4)) ≤ 0 then (if 0 ≤ (lg_cmp (x0 * x0) ((x2 * x2) * x4)) then 0 else y0 : Int32) else x6 : Int32)

def f_M_signOf (a1 : Int64) (a2 : Int64) (a3 : Int64) : Option (Int32) :=
  (f_M_sgn a1).bind fun q1_1 =>
    if (lg_cmp a3 0) = 0 then
      k_M_signOf_21 a1 a2 a3 q1_1 0
    else
      (f_M_sgn a2).bind fun q18_2 =>
        k_M_signOf_21 a1 a2 a3 q1_1 q18_2
set_option maxHeartbeats 4000000 in
set_option maxRecDepth 100000 in
theorem kt_M_signOf_21 {G : jx_G} {X : jx_C} (hX : jx_Ok G X b_M_signOf "PlaneCellsModel" (some .int) 12 1) (fin : Int32) (S : jx_S) (x0 : Int64) (x2 : Int64) (x4 : Int64) (x6 : Int32) (y0 : Int32) (h : k_M_signOf_21 x0 x2 x4 x6 y0 = some fin) : jx_At G X (some (.int fin), jr_w G S) (jr_w G S) 21 [(0, .long x0), (2, .long x2), (4, .long x4), (6, .int x6)] [.int y0] := by
  unfold k_M_signOf_21 at h
  refine jx_istore hX d_M_signOf_21 (by decide) (L2 := [(7, .int y0), (0, .long x0), (2, .long x2), (4, .long x4), (6, .int x6)]) rfl ?_
  refine jx_iload hX d_M_signOf_23 4 rfl ?_
  refine jx_iload hX d_M_signOf_25 0 rfl ?_
  refine jx_icmp_eq hX d_M_signOf_27 rfl (fun hc => ?_) (fun hc => ?_)
  · have h := jx_ip hc h
    refine jx_iload hX d_M_signOf_35 4 rfl ?_
    obtain rfl := Option.some.inj h
    exact jx_iret hX d_M_signOf_37
  · have h := jx_in_ hc h
    refine jx_iload hX d_M_signOf_30 0 rfl ?_
    refine jx_if_ne hX d_M_signOf_32 rfl (fun hc => ?_) (fun hc => ?_)
    · have h := jx_in_ hc h
      refine jx_iload hX d_M_signOf_38 4 rfl ?_
      refine jx_if_ne hX d_M_signOf_40 rfl (fun hc => ?_) (fun hc => ?_)
      · have h := jx_in_ hc h
        refine jx_lload_n hX d_M_signOf_46 1 rfl rfl ?_
        refine jx_lload_n hX d_M_signOf_47 1 rfl rfl ?_
        refine jx_lmul hX d_M_signOf_48 ?_
        refine jx_lstore hX d_M_signOf_49 (by decide) (L2 := [(8, .long (x0 * x0)), (7, .int y0), (0, .long x0), (2, .long x2), (4, .long x4), (6, .int x6)]) rfl ?_
        refine jx_lload_n hX d_M_signOf_51 3 rfl rfl ?_
        refine jx_lload_n hX d_M_signOf_52 3 rfl rfl ?_
        refine jx_lmul hX d_M_signOf_53 ?_
        refine jx_lload hX d_M_signOf_54 4 rfl ?_
        refine jx_lmul hX d_M_signOf_56 ?_
        refine jx_lstore hX d_M_signOf_57 (by decide) (L2 := [(10, .long ((x2 * x2) * x4)), (8, .long (x0 * x0)), (7, .int y0), (0, .long x0), (2, .long x2), (4, .long x4), (6, .int x6)]) rfl ?_
        refine jx_lload hX d_M_signOf_59 1 rfl ?_
        refine jx_lload hX d_M_signOf_61 0 rfl ?_
        refine jx_lcmp hX d_M_signOf_63 ?_
        have hj : ∀ v : Int32, v = (if (lg_cmp (x0 * x0) ((x2 * x2) * x4)) ≤ 0 then (if 0 ≤ (lg_cmp (x0 * x0) ((x2 * x2) * x4)) then 0 else y0 : Int32) else x6 : Int32) → jx_At G X (some (.int fin), jr_w G S) (jr_w G S) 86 [(10, .long ((x2 * x2) * x4)), (8, .long (x0 * x0)), (7, .int y0), (0, .long x0), (2, .long x2), (4, .long x4), (6, .int x6)] [.int v] := by
          intro v hv
          subst hv
          obtain rfl := Option.some.inj h
          exact jx_iret hX d_M_signOf_86
        refine jx_if_le hX d_M_signOf_64 rfl (fun hc3 => ?_) (fun hc3 => ?_)
        · refine jx_lload hX d_M_signOf_72 1 rfl ?_
          refine jx_lload hX d_M_signOf_74 0 rfl ?_
          refine jx_lcmp hX d_M_signOf_76 ?_
          refine jx_if_ge hX d_M_signOf_77 rfl (fun hc4 => ?_) (fun hc4 => ?_)
          · refine jx_iconst (v := 0) hX d_M_signOf_85 (by decide) ?_
            exact hj _ ((if_pos hc3).trans (if_pos hc4)).symm
          · refine jx_iload hX d_M_signOf_80 2 rfl ?_
            refine jx_goto hX d_M_signOf_82 rfl ?_
            exact hj _ ((if_pos hc3).trans (if_neg hc4)).symm
        · refine jx_iload hX d_M_signOf_67 6 rfl ?_
          refine jx_goto hX d_M_signOf_69 rfl ?_
          exact hj _ (if_neg hc3).symm
      · have h := jx_ip hc h
        refine jx_iload hX d_M_signOf_43 0 rfl ?_
        obtain rfl := Option.some.inj h
        exact jx_iret hX d_M_signOf_45
    · have h := jx_ip hc h
      refine jx_iload hX d_M_signOf_35 4 rfl ?_
      obtain rfl := Option.some.inj h
      exact jx_iret hX d_M_signOf_37

set_option maxHeartbeats 4000000 in
set_option maxRecDepth 100000 in
theorem c_M_signOf (l : Launch) (G : jx_G) (S : jx_S) (a1 : Int64) (a2 : Int64) (a3 : Int64) (fin : Int32) (h : f_M_signOf a1 a2 a3 = some fin) : jx_M l y_M_signOf b_M_signOf 12 (some .int) 1 G [.long a1, .long a2, .long a3] (jr_w G S) (some (.int fin), jr_w G S) := by
  refine jx_met (own := "PlaneCellsModel") (by decide) rfl (Nat.le_of_ble_eq_true rfl) (fun X hX hl => ?_)
  subst hl
  refine jx_L (L2 := [(0, .long a1), (2, .long a2), (4, .long a3)]) rfl ?_
  unfold f_M_signOf at h
  refine jx_lload_n hX d_M_signOf_0 0 rfl rfl ?_
  obtain ⟨q1_1, hq1_1, h⟩ := jx_bd h
  refine cs_M_115 hX (c_M_sgn (jx_l X) G S a1 q1_1 hq1_1) d_M_signOf_1 (by decide) (Nat.le_of_ble_eq_true rfl) ?_
  refine jx_istore hX d_M_signOf_4 (by decide) (L2 := [(6, .int q1_1), (0, .long a1), (2, .long a2), (4, .long a3)]) rfl ?_
  refine jx_lload hX d_M_signOf_6 3 rfl ?_
  refine jx_lconst (v := 0) hX d_M_signOf_8 (by decide) ?_
  refine jx_lcmp hX d_M_signOf_9 ?_
  refine jx_if_ne hX d_M_signOf_10 rfl (fun hc => ?_) (fun hc => ?_)
  · have h := jx_in_ hc h
    refine jx_lload_n hX d_M_signOf_17 2 rfl rfl ?_
    obtain ⟨q18_2, hq18_2, h⟩ := jx_bd h
    refine cs_M_115 hX (c_M_sgn (jx_l X) G S a2 q18_2 hq18_2) d_M_signOf_18 (by decide) (Nat.le_of_ble_eq_true rfl) ?_
    refine jx_sub (L2 := [(0, .long a1), (2, .long a2), (4, .long a3), (6, .int q1_1)]) [1, 2, 3, 0] rfl ?_
    exact kt_M_signOf_21 hX fin S a1 a2 a3 q1_1 q18_2 h
  · have h := jx_ip hc h
    refine jx_iconst (v := 0) hX d_M_signOf_13 (by decide) ?_
    refine jx_goto hX d_M_signOf_14 rfl ?_
    refine jx_sub (L2 := [(0, .long a1), (2, .long a2), (4, .long a3), (6, .int q1_1)]) [1, 2, 3, 0] rfl ?_
    exact kt_M_signOf_21 hX fin S a1 a2 a3 q1_1 0 h

def f_M_signAt (S : jx_S) (a1 : Int32) (a2 : Int64) (a3 : Int64) (a4 : Int64) : Option (Int32) :=
  if jx_in a1 80 = true then
    if (lg_cmp ((S.2.2 0) (a1).toNatClampNeg) 0) = 0 then
      (f_M_sgn ((((a2 * ((S.2.2 2) (a1).toNatClampNeg)) * ((S.2.2 2) (a1).toNatClampNeg)) - ((a3 * ((S.2.2 2) (a1).toNatClampNeg)) * ((S.2.2 1) (a1).toNatClampNeg))) + ((a4 * ((S.2.2 1) (a1).toNatClampNeg)) * ((S.2.2 1) (a1).toNatClampNeg)))).bind fun q56_3 =>
        some q56_3
    else
      (f_M_signOf (((a2 * ((((S.2.2 1) (a1).toNatClampNeg) * ((S.2.2 1) (a1).toNatClampNeg)) + ((((S.2.2 1) (a1).toNatClampNeg) * ((S.2.2 1) (a1).toNatClampNeg)) - ((4 * ((S.2.2 0) (a1).toNatClampNeg)) * ((S.2.2 2) (a1).toNatClampNeg))))) - (((2 * ((S.2.2 0) (a1).toNatClampNeg)) * ((S.2.2 1) (a1).toNatClampNeg)) * a3)) + (((4 * ((S.2.2 0) (a1).toNatClampNeg)) * ((S.2.2 0) (a1).toNatClampNeg)) * a4)) ((((S.2.1 6) (a1).toNatClampNeg)).toInt64 * (((2 * ((S.2.2 0) (a1).toNatClampNeg)) * a3) - ((2 * a2) * ((S.2.2 1) (a1).toNatClampNeg)))) ((((S.2.2 1) (a1).toNatClampNeg) * ((S.2.2 1) (a1).toNatClampNeg)) - ((4 * ((S.2.2 0) (a1).toNatClampNeg)) * ((S.2.2 2) (a1).toNatClampNeg)))).bind fun q149_2 =>
        some q149_2
  else none
set_option maxHeartbeats 4000000 in
set_option maxRecDepth 100000 in
theorem c_M_signAt (l : Launch) (G : jx_G) (S : jx_S) (a1 : Int32) (a2 : Int64) (a3 : Int64) (a4 : Int64) (fin : Int32) (h : f_M_signAt S a1 a2 a3 a4 = some fin) : jx_M l y_M_signAt b_M_signAt 20 (some .int) 2 G [.ref (jx_ad G 18), .int a1, .long a2, .long a3, .long a4] (jr_w G S) (some (.int fin), jr_w G S) := by
  refine jx_met (own := "PlaneCellsModel") (by decide) rfl (Nat.le_of_ble_eq_true rfl) (fun X hX hl => ?_)
  subst hl
  refine jx_L (L2 := [(0, .ref (jx_ad G 18)), (1, .int a1), (2, .long a2), (4, .long a3), (6, .long a4)]) rfl ?_
  unfold f_M_signAt at h
  refine jx_aload_n hX d_M_signAt_0 0 rfl rfl ?_
  refine gf_M_33 hX d_M_signAt_1 ?_
  refine jx_iload_n hX d_M_signAt_4 1 rfl rfl ?_
  obtain ⟨hg1, h⟩ := jx_gd h
  refine al_ML0 hX d_M_signAt_5 rfl hg1 ?_
  refine jx_lstore hX d_M_signAt_6 (by decide) (L2 := [(8, .long ((S.2.2 0) (a1).toNatClampNeg)), (0, .ref (jx_ad G 18)), (1, .int a1), (2, .long a2), (4, .long a3), (6, .long a4)]) rfl ?_
  refine jx_aload_n hX d_M_signAt_8 1 rfl rfl ?_
  refine gf_M_37 hX d_M_signAt_9 ?_
  refine jx_iload_n hX d_M_signAt_12 2 rfl rfl ?_
  refine al_ML1 hX d_M_signAt_13 rfl hg1 ?_
  refine jx_lstore hX d_M_signAt_14 (by decide) (L2 := [(10, .long ((S.2.2 1) (a1).toNatClampNeg)), (8, .long ((S.2.2 0) (a1).toNatClampNeg)), (0, .ref (jx_ad G 18)), (1, .int a1), (2, .long a2), (4, .long a3), (6, .long a4)]) rfl ?_
  refine jx_aload_n hX d_M_signAt_16 2 rfl rfl ?_
  refine gf_M_40 hX d_M_signAt_17 ?_
  refine jx_iload_n hX d_M_signAt_20 3 rfl rfl ?_
  refine al_ML2 hX d_M_signAt_21 rfl hg1 ?_
  refine jx_lstore hX d_M_signAt_22 (by decide) (L2 := [(12, .long ((S.2.2 2) (a1).toNatClampNeg)), (10, .long ((S.2.2 1) (a1).toNatClampNeg)), (8, .long ((S.2.2 0) (a1).toNatClampNeg)), (0, .ref (jx_ad G 18)), (1, .int a1), (2, .long a2), (4, .long a3), (6, .long a4)]) rfl ?_
  refine jx_lload hX d_M_signAt_24 2 rfl ?_
  refine jx_lconst (v := 0) hX d_M_signAt_26 (by decide) ?_
  refine jx_lcmp hX d_M_signAt_27 ?_
  refine jx_if_ne hX d_M_signAt_28 rfl (fun hc => ?_) (fun hc => ?_)
  · have h := jx_in_ hc h
    refine jx_lload hX d_M_signAt_60 1 rfl ?_
    refine jx_lload hX d_M_signAt_62 1 rfl ?_
    refine jx_lmul hX d_M_signAt_64 ?_
    refine jx_ldc2 (v := 4) hX (wm_602) d_M_signAt_65 ?_
    refine jx_lload hX d_M_signAt_68 2 rfl ?_
    refine jx_lmul hX d_M_signAt_70 ?_
    refine jx_lload hX d_M_signAt_71 0 rfl ?_
    refine jx_lmul hX d_M_signAt_73 ?_
    refine jx_lsub hX d_M_signAt_74 ?_
    refine jx_lstore hX d_M_signAt_75 (by decide) (L2 := [(14, .long ((((S.2.2 1) (a1).toNatClampNeg) * ((S.2.2 1) (a1).toNatClampNeg)) - ((4 * ((S.2.2 0) (a1).toNatClampNeg)) * ((S.2.2 2) (a1).toNatClampNeg)))), (12, .long ((S.2.2 2) (a1).toNatClampNeg)), (10, .long ((S.2.2 1) (a1).toNatClampNeg)), (8, .long ((S.2.2 0) (a1).toNatClampNeg)), (0, .ref (jx_ad G 18)), (1, .int a1), (2, .long a2), (4, .long a3), (6, .long a4)]) rfl ?_
    refine jx_lload_n hX d_M_signAt_77 6 rfl rfl ?_
    refine jx_lload hX d_M_signAt_78 2 rfl ?_
    refine jx_lload hX d_M_signAt_80 2 rfl ?_
    refine jx_lmul hX d_M_signAt_82 ?_
    refine jx_lload hX d_M_signAt_83 0 rfl ?_
    refine jx_ladd hX d_M_signAt_85 ?_
    refine jx_lmul hX d_M_signAt_86 ?_
    refine jx_ldc2 (v := 2) hX (wm_618) d_M_signAt_87 ?_
    refine jx_lload hX d_M_signAt_90 3 rfl ?_
    refine jx_lmul hX d_M_signAt_92 ?_
    refine jx_lload hX d_M_signAt_93 2 rfl ?_
    refine jx_lmul hX d_M_signAt_95 ?_
    refine jx_lload hX d_M_signAt_96 7 rfl ?_
    refine jx_lmul hX d_M_signAt_98 ?_
    refine jx_lsub hX d_M_signAt_99 ?_
    refine jx_ldc2 (v := 4) hX (wm_602) d_M_signAt_100 ?_
    refine jx_lload hX d_M_signAt_103 3 rfl ?_
    refine jx_lmul hX d_M_signAt_105 ?_
    refine jx_lload hX d_M_signAt_106 3 rfl ?_
    refine jx_lmul hX d_M_signAt_108 ?_
    refine jx_lload hX d_M_signAt_109 8 rfl ?_
    refine jx_lmul hX d_M_signAt_111 ?_
    refine jx_ladd hX d_M_signAt_112 ?_
    refine jx_lstore hX d_M_signAt_113 (by decide) (L2 := [(16, .long (((a2 * ((((S.2.2 1) (a1).toNatClampNeg) * ((S.2.2 1) (a1).toNatClampNeg)) + ((((S.2.2 1) (a1).toNatClampNeg) * ((S.2.2 1) (a1).toNatClampNeg)) - ((4 * ((S.2.2 0) (a1).toNatClampNeg)) * ((S.2.2 2) (a1).toNatClampNeg))))) - (((2 * ((S.2.2 0) (a1).toNatClampNeg)) * ((S.2.2 1) (a1).toNatClampNeg)) * a3)) + (((4 * ((S.2.2 0) (a1).toNatClampNeg)) * ((S.2.2 0) (a1).toNatClampNeg)) * a4))), (14, .long ((((S.2.2 1) (a1).toNatClampNeg) * ((S.2.2 1) (a1).toNatClampNeg)) - ((4 * ((S.2.2 0) (a1).toNatClampNeg)) * ((S.2.2 2) (a1).toNatClampNeg)))), (12, .long ((S.2.2 2) (a1).toNatClampNeg)), (10, .long ((S.2.2 1) (a1).toNatClampNeg)), (8, .long ((S.2.2 0) (a1).toNatClampNeg)), (0, .ref (jx_ad G 18)), (1, .int a1), (2, .long a2), (4, .long a3), (6, .long a4)]) rfl ?_
    refine jx_ldc2 (v := 2) hX (wm_618) d_M_signAt_115 ?_
    refine jx_lload hX d_M_signAt_118 4 rfl ?_
    refine jx_lmul hX d_M_signAt_120 ?_
    refine jx_lload hX d_M_signAt_121 8 rfl ?_
    refine jx_lmul hX d_M_signAt_123 ?_
    refine jx_ldc2 (v := 2) hX (wm_618) d_M_signAt_124 ?_
    refine jx_lload_n hX d_M_signAt_127 7 rfl rfl ?_
    refine jx_lmul hX d_M_signAt_128 ?_
    refine jx_lload hX d_M_signAt_129 3 rfl ?_
    refine jx_lmul hX d_M_signAt_131 ?_
    refine jx_lsub hX d_M_signAt_132 ?_
    refine jx_lstore hX d_M_signAt_133 (by decide) (L2 := [(18, .long (((2 * ((S.2.2 0) (a1).toNatClampNeg)) * a3) - ((2 * a2) * ((S.2.2 1) (a1).toNatClampNeg)))), (16, .long (((a2 * ((((S.2.2 1) (a1).toNatClampNeg) * ((S.2.2 1) (a1).toNatClampNeg)) + ((((S.2.2 1) (a1).toNatClampNeg) * ((S.2.2 1) (a1).toNatClampNeg)) - ((4 * ((S.2.2 0) (a1).toNatClampNeg)) * ((S.2.2 2) (a1).toNatClampNeg))))) - (((2 * ((S.2.2 0) (a1).toNatClampNeg)) * ((S.2.2 1) (a1).toNatClampNeg)) * a3)) + (((4 * ((S.2.2 0) (a1).toNatClampNeg)) * ((S.2.2 0) (a1).toNatClampNeg)) * a4))), (14, .long ((((S.2.2 1) (a1).toNatClampNeg) * ((S.2.2 1) (a1).toNatClampNeg)) - ((4 * ((S.2.2 0) (a1).toNatClampNeg)) * ((S.2.2 2) (a1).toNatClampNeg)))), (12, .long ((S.2.2 2) (a1).toNatClampNeg)), (10, .long ((S.2.2 1) (a1).toNatClampNeg)), (8, .long ((S.2.2 0) (a1).toNatClampNeg)), (0, .ref (jx_ad G 18)), (1, .int a1), (2, .long a2), (4, .long a3), (6, .long a4)]) rfl ?_
    refine jx_lload hX d_M_signAt_135 1 rfl ?_
    refine jx_aload_n hX d_M_signAt_137 6 rfl rfl ?_
    refine gf_M_43 hX d_M_signAt_138 ?_
    refine jx_iload_n hX d_M_signAt_141 7 rfl rfl ?_
    refine al_M6 hX d_M_signAt_142 rfl hg1 ?_
    refine jx_i2l hX d_M_signAt_143 rfl ?_
    refine jx_lload hX d_M_signAt_144 0 rfl ?_
    refine jx_lmul hX d_M_signAt_146 ?_
    refine jx_lload hX d_M_signAt_147 2 rfl ?_
    obtain ⟨q149_2, hq149_2, h⟩ := jx_bd h
    refine cs_M_123 hX (c_M_signOf (jx_l X) G S (((a2 * ((((S.2.2 1) (a1).toNatClampNeg) * ((S.2.2 1) (a1).toNatClampNeg)) + ((((S.2.2 1) (a1).toNatClampNeg) * ((S.2.2 1) (a1).toNatClampNeg)) - ((4 * ((S.2.2 0) (a1).toNatClampNeg)) * ((S.2.2 2) (a1).toNatClampNeg))))) - (((2 * ((S.2.2 0) (a1).toNatClampNeg)) * ((S.2.2 1) (a1).toNatClampNeg)) * a3)) + (((4 * ((S.2.2 0) (a1).toNatClampNeg)) * ((S.2.2 0) (a1).toNatClampNeg)) * a4)) ((((S.2.1 6) (a1).toNatClampNeg)).toInt64 * (((2 * ((S.2.2 0) (a1).toNatClampNeg)) * a3) - ((2 * a2) * ((S.2.2 1) (a1).toNatClampNeg)))) ((((S.2.2 1) (a1).toNatClampNeg) * ((S.2.2 1) (a1).toNatClampNeg)) - ((4 * ((S.2.2 0) (a1).toNatClampNeg)) * ((S.2.2 2) (a1).toNatClampNeg))) q149_2 hq149_2) d_M_signAt_149 (by decide) (Nat.le_of_ble_eq_true rfl) ?_
    obtain rfl := Option.some.inj h
    exact jx_iret hX d_M_signAt_152
  · have h := jx_ip hc h
    refine jx_lload_n hX d_M_signAt_31 5 rfl rfl ?_
    refine jx_lload hX d_M_signAt_32 0 rfl ?_
    refine jx_lmul hX d_M_signAt_34 ?_
    refine jx_lload hX d_M_signAt_35 0 rfl ?_
    refine jx_lmul hX d_M_signAt_37 ?_
    refine jx_lload hX d_M_signAt_38 6 rfl ?_
    refine jx_lload hX d_M_signAt_40 0 rfl ?_
    refine jx_lmul hX d_M_signAt_42 ?_
    refine jx_lload hX d_M_signAt_43 1 rfl ?_
    refine jx_lmul hX d_M_signAt_45 ?_
    refine jx_lsub hX d_M_signAt_46 ?_
    refine jx_lload hX d_M_signAt_47 7 rfl ?_
    refine jx_lload hX d_M_signAt_49 1 rfl ?_
    refine jx_lmul hX d_M_signAt_51 ?_
    refine jx_lload hX d_M_signAt_52 1 rfl ?_
    refine jx_lmul hX d_M_signAt_54 ?_
    refine jx_ladd hX d_M_signAt_55 ?_
    obtain ⟨q56_3, hq56_3, h⟩ := jx_bd h
    refine cs_M_115 hX (c_M_sgn (jx_l X) G S ((((a2 * ((S.2.2 2) (a1).toNatClampNeg)) * ((S.2.2 2) (a1).toNatClampNeg)) - ((a3 * ((S.2.2 2) (a1).toNatClampNeg)) * ((S.2.2 1) (a1).toNatClampNeg))) + ((a4 * ((S.2.2 1) (a1).toNatClampNeg)) * ((S.2.2 1) (a1).toNatClampNeg))) q56_3 hq56_3) d_M_signAt_56 (by decide) (Nat.le_of_ble_eq_true rfl) ?_
    obtain rfl := Option.some.inj h
    exact jx_iret hX d_M_signAt_59

def f_M_signBehind (S : jx_S) (a1 : Int32) (a2 : Int64) (a3 : Int64) (a4 : Int64) : Option (Int32) :=
  if 0 ≤ a1 then
    (f_M_signAt S a1 a2 a3 a4).bind fun q46_1 =>
      if q46_1 = 0 then
        (f_M_signAt S a1 0 (2 * a2) a3).bind fun q66_3 =>
          if q66_3 = 0 then
            (f_M_sgn a2).bind fun q77_4 =>
              some q77_4
          else
            some q66_3
      else
        if q46_1 = 0 then
          (f_M_sgn a2).bind fun q77_2 =>
            some q77_2
        else
          some q46_1
  else
    if (lg_cmp a2 0) = 0 then
      if (lg_cmp a3 0) = 0 then
        (f_M_sgn a4).bind fun q35_5 =>
          some q35_5
      else
        (f_M_sgn a3).bind fun q26_6 =>
          some (-q26_6)
    else
      (f_M_sgn a2).bind fun q11_7 =>
        some q11_7
set_option maxHeartbeats 4000000 in
set_option maxRecDepth 100000 in
theorem c_M_signBehind (l : Launch) (G : jx_G) (S : jx_S) (a1 : Int32) (a2 : Int64) (a3 : Int64) (a4 : Int64) (fin : Int32) (h : f_M_signBehind S a1 a2 a3 a4 = some fin) : jx_M l y_M_signBehind b_M_signBehind 9 (some .int) 3 G [.ref (jx_ad G 18), .int a1, .long a2, .long a3, .long a4] (jr_w G S) (some (.int fin), jr_w G S) := by
  refine jx_met (own := "PlaneCellsModel") (by decide) rfl (Nat.le_of_ble_eq_true rfl) (fun X hX hl => ?_)
  subst hl
  refine jx_L (L2 := [(0, .ref (jx_ad G 18)), (1, .int a1), (2, .long a2), (4, .long a3), (6, .long a4)]) rfl ?_
  unfold f_M_signBehind at h
  refine jx_iload_n hX d_M_signBehind_0 1 rfl rfl ?_
  refine jx_if_ge hX d_M_signBehind_1 rfl (fun hc => ?_) (fun hc => ?_)
  · have h := jx_ip hc h
    refine jx_aload_n hX d_M_signBehind_39 0 rfl rfl ?_
    refine jx_iload_n hX d_M_signBehind_40 1 rfl rfl ?_
    refine jx_lload_n hX d_M_signBehind_41 2 rfl rfl ?_
    refine jx_lload hX d_M_signBehind_42 3 rfl ?_
    refine jx_lload hX d_M_signBehind_44 4 rfl ?_
    obtain ⟨q46_1, hq46_1, h⟩ := jx_bd h
    refine cs_M_127 hX (c_M_signAt (jx_l X) G S a1 a2 a3 a4 q46_1 hq46_1) d_M_signBehind_46 (by decide) (Nat.le_of_ble_eq_true rfl) ?_
    refine jx_istore hX d_M_signBehind_49 (by decide) (L2 := [(8, .int q46_1), (0, .ref (jx_ad G 18)), (1, .int a1), (2, .long a2), (4, .long a3), (6, .long a4)]) rfl ?_
    refine jx_iload hX d_M_signBehind_51 0 rfl ?_
    refine jx_if_ne hX d_M_signBehind_53 rfl (fun hc => ?_) (fun hc => ?_)
    · have h := jx_in_ hc h
      refine jx_iload hX d_M_signBehind_71 0 rfl ?_
      refine jx_if_ne hX d_M_signBehind_73 rfl (fun hc => ?_) (fun hc => ?_)
      · have h := jx_in_ hc h
        refine jx_iload hX d_M_signBehind_83 0 rfl ?_
        obtain rfl := Option.some.inj h
        exact jx_iret hX d_M_signBehind_85
      · have h := jx_ip hc h
        refine jx_lload_n hX d_M_signBehind_76 3 rfl rfl ?_
        obtain ⟨q77_2, hq77_2, h⟩ := jx_bd h
        refine cs_M_115 hX (c_M_sgn (jx_l X) G S a2 q77_2 hq77_2) d_M_signBehind_77 (by decide) (Nat.le_of_ble_eq_true rfl) ?_
        refine jx_goto hX d_M_signBehind_80 rfl ?_
        obtain rfl := Option.some.inj h
        exact jx_iret hX d_M_signBehind_85
    · have h := jx_ip hc h
      refine jx_aload_n hX d_M_signBehind_56 1 rfl rfl ?_
      refine jx_iload_n hX d_M_signBehind_57 2 rfl rfl ?_
      refine jx_lconst (v := 0) hX d_M_signBehind_58 (by decide) ?_
      refine jx_ldc2 (v := 2) hX (wm_618) d_M_signBehind_59 ?_
      refine jx_lload_n hX d_M_signBehind_62 3 rfl rfl ?_
      refine jx_lmul hX d_M_signBehind_63 ?_
      refine jx_lload hX d_M_signBehind_64 4 rfl ?_
      obtain ⟨q66_3, hq66_3, h⟩ := jx_bd h
      refine cs_M_127 hX (c_M_signAt (jx_l X) G S a1 0 (2 * a2) a3 q66_3 hq66_3) d_M_signBehind_66 (by decide) (Nat.le_of_ble_eq_true rfl) ?_
      refine jx_istore hX d_M_signBehind_69 (by decide) (L2 := [(8, .int q66_3), (0, .ref (jx_ad G 18)), (1, .int a1), (2, .long a2), (4, .long a3), (6, .long a4)]) rfl ?_
      refine jx_iload hX d_M_signBehind_71 0 rfl ?_
      refine jx_if_ne hX d_M_signBehind_73 rfl (fun hc => ?_) (fun hc => ?_)
      · have h := jx_in_ hc h
        refine jx_iload hX d_M_signBehind_83 0 rfl ?_
        obtain rfl := Option.some.inj h
        exact jx_iret hX d_M_signBehind_85
      · have h := jx_ip hc h
        refine jx_lload_n hX d_M_signBehind_76 3 rfl rfl ?_
        obtain ⟨q77_4, hq77_4, h⟩ := jx_bd h
        refine cs_M_115 hX (c_M_sgn (jx_l X) G S a2 q77_4 hq77_4) d_M_signBehind_77 (by decide) (Nat.le_of_ble_eq_true rfl) ?_
        refine jx_goto hX d_M_signBehind_80 rfl ?_
        obtain rfl := Option.some.inj h
        exact jx_iret hX d_M_signBehind_85
  · have h := jx_in_ hc h
    refine jx_lload_n hX d_M_signBehind_4 2 rfl rfl ?_
    refine jx_lconst (v := 0) hX d_M_signBehind_5 (by decide) ?_
    refine jx_lcmp hX d_M_signBehind_6 ?_
    refine jx_if_eq hX d_M_signBehind_7 rfl (fun hc => ?_) (fun hc => ?_)
    · have h := jx_ip hc h
      refine jx_lload hX d_M_signBehind_17 3 rfl ?_
      refine jx_lconst (v := 0) hX d_M_signBehind_19 (by decide) ?_
      refine jx_lcmp hX d_M_signBehind_20 ?_
      refine jx_if_eq hX d_M_signBehind_21 rfl (fun hc => ?_) (fun hc => ?_)
      · have h := jx_ip hc h
        refine jx_lload hX d_M_signBehind_33 4 rfl ?_
        obtain ⟨q35_5, hq35_5, h⟩ := jx_bd h
        refine cs_M_115 hX (c_M_sgn (jx_l X) G S a4 q35_5 hq35_5) d_M_signBehind_35 (by decide) (Nat.le_of_ble_eq_true rfl) ?_
        obtain rfl := Option.some.inj h
        exact jx_iret hX d_M_signBehind_38
      · have h := jx_in_ hc h
        refine jx_lload hX d_M_signBehind_24 3 rfl ?_
        obtain ⟨q26_6, hq26_6, h⟩ := jx_bd h
        refine cs_M_115 hX (c_M_sgn (jx_l X) G S a3 q26_6 hq26_6) d_M_signBehind_26 (by decide) (Nat.le_of_ble_eq_true rfl) ?_
        refine jx_ineg hX d_M_signBehind_29 ?_
        refine jx_goto hX d_M_signBehind_30 rfl ?_
        obtain rfl := Option.some.inj h
        exact jx_iret hX d_M_signBehind_38
    · have h := jx_in_ hc h
      refine jx_lload_n hX d_M_signBehind_10 2 rfl rfl ?_
      obtain ⟨q11_7, hq11_7, h⟩ := jx_bd h
      refine cs_M_115 hX (c_M_sgn (jx_l X) G S a2 q11_7 hq11_7) d_M_signBehind_11 (by decide) (Nat.le_of_ble_eq_true rfl) ?_
      refine jx_goto hX d_M_signBehind_14 rfl ?_
      obtain rfl := Option.some.inj h
      exact jx_iret hX d_M_signBehind_38

