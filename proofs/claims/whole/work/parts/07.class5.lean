def f_R_takeJoint (S : jx_S)  : Option (Int32 × jx_S) :=
  (f_R_peek S).bind fun q1_1 =>
    (f_R_take S 38).bind fun q18_2 =>
      if q18_2.1 = 0 then
        (f_R_take q18_2.2 124).bind fun q27_5 =>
          if q27_5.1 = 0 then
            some (0, q27_5.2)
          else
            (f_R_release q27_5.2 (if q1_1 = 38 then 2 else 1 : Int32)).bind fun q37_6 =>
              (f_R_hold q37_6 (if q1_1 = 38 then 2 else 1 : Int32)).bind fun q42_7 =>
                some (1, q42_7)
      else
        (f_R_release q18_2.2 (if q1_1 = 38 then 2 else 1 : Int32)).bind fun q37_3 =>
          (f_R_hold q37_3 (if q1_1 = 38 then 2 else 1 : Int32)).bind fun q42_4 =>
            some (1, q42_4)
set_option maxHeartbeats 4000000 in
set_option maxRecDepth 100000 in
theorem c_R_takeJoint (l : Launch) (G : jx_G) (S : jx_S)  (fin : Int32 × jx_S) (h : f_R_takeJoint S = some fin) : jx_M l y_R_takeJoint b_R_takeJoint 2 (some .boolean) 2 G [.ref (jx_ad G 2)] (jx_w G S) (some (.int fin.1), jx_w G fin.2) := by
  refine jx_met (own := "PlaneCells$Reader") (by decide) rfl (Nat.le_of_ble_eq_true rfl) (fun X hX hl => ?_)
  subst hl
  refine jx_L (L2 := [(0, .ref (jx_ad G 2))]) rfl ?_
  unfold f_R_takeJoint at h
  refine jx_aload_n hX d_R_takeJoint_0 0 rfl rfl ?_
  obtain ⟨q1_1, hq1_1, h⟩ := jx_bd h
  refine cs_R_67 hX (c_R_peek (jx_l X) G S q1_1 hq1_1) d_R_takeJoint_1 (by decide) (Nat.le_of_ble_eq_true rfl) ?_
  refine jx_bipush (v := 38) hX d_R_takeJoint_4 (by decide) ?_
  have hj : ∀ v : Int32, v = (if q1_1 = 38 then 2 else 1 : Int32) → jx_At G X (some (.int fin.1), jx_w G fin.2) (jx_w G S) 14 [(0, .ref (jx_ad G 2))] [.int v] := by
    intro v hv
    subst hv
    refine jx_istore_n hX d_R_takeJoint_14 rfl (by decide) (L2 := [(1, .int (if q1_1 = 38 then 2 else 1 : Int32)), (0, .ref (jx_ad G 2))]) rfl ?_
    refine jx_aload_n hX d_R_takeJoint_15 1 rfl rfl ?_
    refine jx_bipush (v := 38) hX d_R_takeJoint_16 (by decide) ?_
    obtain ⟨q18_2, hq18_2, h⟩ := jx_bd h
    refine cs_R_78 hX (c_R_take (jx_l X) G S 38 q18_2 hq18_2) d_R_takeJoint_18 (by decide) (Nat.le_of_ble_eq_true rfl) ?_
    refine jx_if_ne hX d_R_takeJoint_21 rfl (fun hc => ?_) (fun hc => ?_)
    · have h := jx_in_ hc h
      refine jx_aload_n hX d_R_takeJoint_35 1 rfl rfl ?_
      refine jx_iload_n hX d_R_takeJoint_36 0 rfl rfl ?_
      obtain ⟨q37_3, hq37_3, h⟩ := jx_bd h
      refine cs_R_63 hX (c_R_release (jx_l X) G q18_2.2 (if q1_1 = 38 then 2 else 1 : Int32) q37_3 hq37_3) d_R_takeJoint_37 (by decide) (Nat.le_of_ble_eq_true rfl) ?_
      refine jx_aload_n hX d_R_takeJoint_40 1 rfl rfl ?_
      refine jx_iload_n hX d_R_takeJoint_41 0 rfl rfl ?_
      obtain ⟨q42_4, hq42_4, h⟩ := jx_bd h
      refine cs_R_85 hX (c_R_hold (jx_l X) G q37_3 (if q1_1 = 38 then 2 else 1 : Int32) q42_4 hq42_4) d_R_takeJoint_42 (by decide) (Nat.le_of_ble_eq_true rfl) ?_
      refine jx_iconst (v := 1) hX d_R_takeJoint_45 (by decide) ?_
      obtain rfl := Option.some.inj h
      exact jx_zret hX d_R_takeJoint_46 (jx_01n jx_z1)
    · have h := jx_ip hc h
      refine jx_aload_n hX d_R_takeJoint_24 1 rfl rfl ?_
      refine jx_bipush (v := 124) hX d_R_takeJoint_25 (by decide) ?_
      obtain ⟨q27_5, hq27_5, h⟩ := jx_bd h
      refine cs_R_78 hX (c_R_take (jx_l X) G q18_2.2 124 q27_5 hq27_5) d_R_takeJoint_27 (by decide) (Nat.le_of_ble_eq_true rfl) ?_
      refine jx_if_ne hX d_R_takeJoint_30 rfl (fun hc => ?_) (fun hc => ?_)
      · have h := jx_in_ hc h
        refine jx_aload_n hX d_R_takeJoint_35 1 rfl rfl ?_
        refine jx_iload_n hX d_R_takeJoint_36 0 rfl rfl ?_
        obtain ⟨q37_6, hq37_6, h⟩ := jx_bd h
        refine cs_R_63 hX (c_R_release (jx_l X) G q27_5.2 (if q1_1 = 38 then 2 else 1 : Int32) q37_6 hq37_6) d_R_takeJoint_37 (by decide) (Nat.le_of_ble_eq_true rfl) ?_
        refine jx_aload_n hX d_R_takeJoint_40 1 rfl rfl ?_
        refine jx_iload_n hX d_R_takeJoint_41 0 rfl rfl ?_
        obtain ⟨q42_7, hq42_7, h⟩ := jx_bd h
        refine cs_R_85 hX (c_R_hold (jx_l X) G q37_6 (if q1_1 = 38 then 2 else 1 : Int32) q42_7 hq42_7) d_R_takeJoint_42 (by decide) (Nat.le_of_ble_eq_true rfl) ?_
        refine jx_iconst (v := 1) hX d_R_takeJoint_45 (by decide) ?_
        obtain rfl := Option.some.inj h
        exact jx_zret hX d_R_takeJoint_46 (jx_01n jx_z1)
      · have h := jx_ip hc h
        refine jx_iconst (v := 0) hX d_R_takeJoint_33 (by decide) ?_
        obtain rfl := Option.some.inj h
        exact jx_zret hX d_R_takeJoint_34 (jx_01n jx_z0)
  refine jx_icmp_ne hX d_R_takeJoint_6 rfl (fun hc8 => ?_) (fun hc8 => ?_)
  · refine jx_iconst (v := 1) hX d_R_takeJoint_13 (by decide) ?_
    exact hj _ (if_neg hc8).symm
  · refine jx_iconst (v := 2) hX d_R_takeJoint_9 (by decide) ?_
    refine jx_goto hX d_R_takeJoint_10 rfl ?_
    exact hj _ (if_pos hc8).symm

def b_R_readSentence_33  (z : jx_S × Int32) : Option ((jx_S × Int32) ⊕ ((jx_S) ⊕ (Int32 × jx_S))) :=
  if (z.1.1 8) ≤ z.2 then
    some (.inr (.inl z.1))
  else
    (f_R_takeOpenings z.1).bind fun q42_3 =>
      (f_R_takeAtom q42_3).bind fun q46_4 =>
        if q46_4.1 = 0 then
          some (.inr (.inr (0, q46_4.2)))
        else
          (f_R_takeClosings q46_4.2).bind fun q55_5 =>
            (f_R_takeJoint q55_5).bind fun q59_6 =>
              if q59_6.1 = 0 then
                (f_R_release q59_6.2 1).bind fun q67_7 =>
                  some (.inr (.inr ((if (q67_7.1 9) = (q67_7.1 8) then (if (q67_7.1 11) = 0 then 1 else 0 : Int32) else 0 : Int32), q67_7)))
              else
                some (.inl (q59_6.2, (z.2 + 1)))

def f_R_readSentence (S : jx_S)  : Option (Int32 × jx_S) :=
  (f_S_clear (jx_f (jx_f (jx_f S 9 0) 10 0) 11 0)).bind fun q19_1 =>
    (f_R_takeHead q19_1).bind fun q23_2 =>
      if q23_2.1 = 0 then
        some (0, q23_2.2)
      else
        (jx_lp (b_R_readSentence_33 ) jx_N (q23_2.2, 0)).bind (Sum.elim (fun z33_10 =>
          some (0, z33_10))
          (fun y => some y))
set_option maxHeartbeats 4000000 in
set_option maxRecDepth 100000 in
theorem lt_R_readSentence_33 {G : jx_G} {X : jx_C} (hX : jx_Ok G X b_R_readSentence "PlaneCells$Reader" (some .boolean) 2 4) (fin : Int32 × jx_S)  {n : Nat} {z : jx_S × Int32} {r : (jx_S) ⊕ (Int32 × jx_S)} (hz : jx_lp (b_R_readSentence_33 ) n z = some r) (hk : ∀ u, r = .inl u → jx_At G X (some (.int fin.1), jx_w G fin.2) (jx_w G u) 100 [(0, .ref (jx_ad G 2))] []) (hy : ∀ y, r = .inr y → y = fin) : jx_At G X (some (.int fin.1), jx_w G fin.2) (jx_w G z.1) 33 [(0, .ref (jx_ad G 2)), (1, .int z.2)] [] := by
  refine jx_loop2 (b_R_readSentence_33 ) (fun z => jx_At G X (some (.int fin.1), jx_w G fin.2) (jx_w G z.1) 33 [(0, .ref (jx_ad G 2)), (1, .int z.2)] []) (fun z => jx_At G X (some (.int fin.1), jx_w G fin.2) (jx_w G z) 100 [(0, .ref (jx_ad G 2))] []) fin ?_ n z r hz hk hy
  intro z o h hi hx hr
  unfold b_R_readSentence_33 at h
  refine jx_iload_n hX d_R_readSentence_33 1 rfl rfl ?_
  refine jx_aload_n hX d_R_readSentence_34 0 rfl rfl ?_
  refine gf_R_30 hX d_R_readSentence_35 rfl ?_
  refine jx_icmp_ge hX d_R_readSentence_38 rfl (fun hc => ?_) (fun hc => ?_)
  · have h := jx_ip hc h
    refine jx_sub (L2 := [(0, .ref (jx_ad G 2))]) [0] rfl ?_
    obtain rfl := Option.some.inj h
    exact hx _ rfl
  · have h := jx_in_ hc h
    refine jx_aload_n hX d_R_readSentence_41 0 rfl rfl ?_
    obtain ⟨q42_3, hq42_3, h⟩ := jx_bd h
    refine cs_R_51 hX (c_R_takeOpenings (jx_l X) G z.1 q42_3 hq42_3) d_R_readSentence_42 (by decide) (Nat.le_of_ble_eq_true rfl) ?_
    refine jx_aload_n hX d_R_readSentence_45 0 rfl rfl ?_
    obtain ⟨q46_4, hq46_4, h⟩ := jx_bd h
    refine cs_R_54 hX (c_R_takeAtom (jx_l X) G q42_3 q46_4 hq46_4) d_R_readSentence_46 (by decide) (Nat.le_of_ble_eq_true rfl) ?_
    refine jx_if_ne hX d_R_readSentence_49 rfl (fun hc => ?_) (fun hc => ?_)
    · have h := jx_in_ hc h
      refine jx_aload_n hX d_R_readSentence_54 0 rfl rfl ?_
      obtain ⟨q55_5, hq55_5, h⟩ := jx_bd h
      refine cs_R_57 hX (c_R_takeClosings (jx_l X) G q46_4.2 q55_5 hq55_5) d_R_readSentence_55 (by decide) (Nat.le_of_ble_eq_true rfl) ?_
      refine jx_aload_n hX d_R_readSentence_58 0 rfl rfl ?_
      obtain ⟨q59_6, hq59_6, h⟩ := jx_bd h
      refine cs_R_60 hX (c_R_takeJoint (jx_l X) G q55_5 q59_6 hq59_6) d_R_readSentence_59 (by decide) (Nat.le_of_ble_eq_true rfl) ?_
      refine jx_if_ne hX d_R_readSentence_62 rfl (fun hc => ?_) (fun hc => ?_)
      · have h := jx_in_ hc h
        refine jx_iinc (v := (z.2 + 1)) hX d_R_readSentence_94 1 rfl (by first | rfl | decide) (by decide) (L2 := [(1, .int (z.2 + 1)), (0, .ref (jx_ad G 2))]) rfl ?_
        refine jx_goto hX d_R_readSentence_97 rfl ?_
        refine jx_sub (L2 := [(0, .ref (jx_ad G 2)), (1, .int (z.2 + 1))]) [1, 0] rfl ?_
        obtain rfl := Option.some.inj h
        exact hi _ rfl
      · have h := jx_ip hc h
        refine jx_aload_n hX d_R_readSentence_65 0 rfl rfl ?_
        refine jx_iconst (v := 1) hX d_R_readSentence_66 (by decide) ?_
        obtain ⟨q67_7, hq67_7, h⟩ := jx_bd h
        refine cs_R_63 hX (c_R_release (jx_l X) G q59_6.2 1 q67_7 hq67_7) d_R_readSentence_67 (by decide) (Nat.le_of_ble_eq_true rfl) ?_
        refine jx_aload_n hX d_R_readSentence_70 0 rfl rfl ?_
        refine gf_R_33 hX d_R_readSentence_71 rfl ?_
        refine jx_aload_n hX d_R_readSentence_74 0 rfl rfl ?_
        refine gf_R_30 hX d_R_readSentence_75 rfl ?_
        have hj : ∀ v : Int32, v = (if (q67_7.1 9) = (q67_7.1 8) then (if (q67_7.1 11) = 0 then 1 else 0 : Int32) else 0 : Int32) → jx_At G X (some (.int fin.1), jx_w G fin.2) (jx_w G q67_7) 93 [(0, .ref (jx_ad G 2)), (1, .int z.2)] [.int v] := by
          intro v hv
          subst hv
          obtain rfl := Option.some.inj h
          obtain rfl := hr _ rfl
          exact jx_zret hX d_R_readSentence_93 (jx_01n (jx_zi (jx_zi jx_z1 jx_z0) jx_z0))
        refine jx_icmp_ne hX d_R_readSentence_78 rfl (fun hc8 => ?_) (fun hc8 => ?_)
        · refine jx_iconst (v := 0) hX d_R_readSentence_92 (by decide) ?_
          exact hj _ (if_neg hc8).symm
        · refine jx_aload_n hX d_R_readSentence_81 0 rfl rfl ?_
          refine gf_R_39 hX d_R_readSentence_82 rfl ?_
          refine jx_if_ne hX d_R_readSentence_85 rfl (fun hc9 => ?_) (fun hc9 => ?_)
          · refine jx_iconst (v := 0) hX d_R_readSentence_92 (by decide) ?_
            exact hj _ ((if_pos hc8).trans (if_neg hc9)).symm
          · refine jx_iconst (v := 1) hX d_R_readSentence_88 (by decide) ?_
            refine jx_goto hX d_R_readSentence_89 rfl ?_
            exact hj _ ((if_pos hc8).trans (if_pos hc9)).symm
    · have h := jx_ip hc h
      refine jx_iconst (v := 0) hX d_R_readSentence_52 (by decide) ?_
      obtain rfl := Option.some.inj h
      obtain rfl := hr _ rfl
      exact jx_zret hX d_R_readSentence_53 (jx_01n jx_z0)

set_option maxHeartbeats 4000000 in
set_option maxRecDepth 100000 in
theorem c_R_readSentence (l : Launch) (G : jx_G) (S : jx_S)  (fin : Int32 × jx_S) (h : f_R_readSentence S = some fin) : jx_M l y_R_readSentence b_R_readSentence 2 (some .boolean) 4 G [.ref (jx_ad G 2)] (jx_w G S) (some (.int fin.1), jx_w G fin.2) := by
  refine jx_met (own := "PlaneCells$Reader") (by decide) rfl (Nat.le_of_ble_eq_true rfl) (fun X hX hl => ?_)
  subst hl
  refine jx_L (L2 := [(0, .ref (jx_ad G 2))]) rfl ?_
  unfold f_R_readSentence at h
  refine jx_aload_n hX d_R_readSentence_0 0 rfl rfl ?_
  refine jx_iconst (v := 0) hX d_R_readSentence_1 (by decide) ?_
  refine pf_R_33 hX d_R_readSentence_2 ?_
  refine jx_aload_n hX d_R_readSentence_5 0 rfl rfl ?_
  refine jx_iconst (v := 0) hX d_R_readSentence_6 (by decide) ?_
  refine pf_R_36 hX d_R_readSentence_7 ?_
  refine jx_aload_n hX d_R_readSentence_10 0 rfl rfl ?_
  refine jx_iconst (v := 0) hX d_R_readSentence_11 (by decide) ?_
  refine pf_R_39 hX d_R_readSentence_12 ?_
  refine jx_aload_n hX d_R_readSentence_15 0 rfl rfl ?_
  refine gf_R_22 hX d_R_readSentence_16 ?_
  obtain ⟨q19_1, hq19_1, h⟩ := jx_bd h
  refine cs_R_42 hX (c_S_clear (jx_l X) G (jx_f (jx_f (jx_f S 9 0) 10 0) 11 0) q19_1 hq19_1) d_R_readSentence_19 (by decide) (Nat.le_of_ble_eq_true rfl) ?_
  refine jx_aload_n hX d_R_readSentence_22 0 rfl rfl ?_
  obtain ⟨q23_2, hq23_2, h⟩ := jx_bd h
  refine cs_R_47 hX (c_R_takeHead (jx_l X) G q19_1 q23_2 hq23_2) d_R_readSentence_23 (by decide) (Nat.le_of_ble_eq_true rfl) ?_
  refine jx_if_ne hX d_R_readSentence_26 rfl (fun hc => ?_) (fun hc => ?_)
  · have h := jx_in_ hc h
    refine jx_iconst (v := 0) hX d_R_readSentence_31 (by decide) ?_
    refine jx_istore_n hX d_R_readSentence_32 rfl (by decide) (L2 := [(1, .int 0), (0, .ref (jx_ad G 2))]) rfl ?_
    refine jx_sub (L2 := [(0, .ref (jx_ad G 2)), (1, .int 0)]) [1, 0] rfl ?_
    obtain ⟨r, hz, h⟩ := jx_bd h
    refine lt_R_readSentence_33 hX fin  hz (fun z33_10 e => ?_) (fun y e => ?_)
    · subst e
      have h := jx_el h
      refine jx_iconst (v := 0) hX d_R_readSentence_100 (by decide) ?_
      obtain rfl := Option.some.inj h
      exact jx_zret hX d_R_readSentence_101 (jx_01n jx_z0)
    · subst e
      have h := jx_er h
      exact Option.some.inj h
  · have h := jx_ip hc h
    refine jx_iconst (v := 0) hX d_R_readSentence_29 (by decide) ?_
    obtain rfl := Option.some.inj h
    exact jx_zret hX d_R_readSentence_30 (jx_01n jx_z0)

def b_S_fits_13 (S : jx_S)  (z : Int32) : Option ((Int32) ⊕ ((Unit) ⊕ Int32)) :=
  if ((S.1 4) * 4) ≤ z then
    some (.inr (.inl ()))
  else
    if jx_in z 32 = true then
      if ((S.2.1 0) (z).toNatClampNeg) < (-5) then
        some (.inr (.inr 0))
      else
        if ((S.2.1 0) (z).toNatClampNeg) ≤ 5 then
          some (.inl (z + 1))
        else
          some (.inr (.inr 0))
    else none

def f_S_fits (S : jx_S)  : Option (Int32) :=
  if (S.1 4) ≤ 8 then
    (jx_lp (b_S_fits_13 S) jx_N 0).bind (Sum.elim (fun z13_2 =>
      some 1)
      (fun y => some y))
  else
    some 0
set_option maxHeartbeats 4000000 in
set_option maxRecDepth 100000 in
theorem lt_S_fits_13 {G : jx_G} {X : jx_C} (hX : jx_Ok G X b_S_fits "PlaneCells$Sentence" (some .boolean) 2 0) (fin : Int32) (S : jx_S)  {n : Nat} {z : Int32} {r : (Unit) ⊕ Int32} (hz : jx_lp (b_S_fits_13 S) n z = some r) (hk : ∀ u, r = .inl u → jx_At G X (some (.int fin), jx_w G S) (jx_w G S) 52 [(0, .ref (jx_ad G 1))] []) (hy : ∀ y, r = .inr y → y = fin) : jx_At G X (some (.int fin), jx_w G S) (jx_w G S) 13 [(0, .ref (jx_ad G 1)), (1, .int z)] [] := by
  refine jx_loop2 (b_S_fits_13 S) (fun z => jx_At G X (some (.int fin), jx_w G S) (jx_w G S) 13 [(0, .ref (jx_ad G 1)), (1, .int z)] []) (fun z => jx_At G X (some (.int fin), jx_w G S) (jx_w G S) 52 [(0, .ref (jx_ad G 1))] []) fin ?_ n z r hz hk hy
  intro z o h hi hx hr
  unfold b_S_fits_13 at h
  refine jx_iload_n hX d_S_fits_13 1 rfl rfl ?_
  refine jx_aload_n hX d_S_fits_14 0 rfl rfl ?_
  refine gf_S_26 hX d_S_fits_15 rfl ?_
  refine jx_iconst (v := 4) hX d_S_fits_18 (by decide) ?_
  refine jx_imul hX d_S_fits_19 ?_
  refine jx_icmp_ge hX d_S_fits_20 rfl (fun hc => ?_) (fun hc => ?_)
  · have h := jx_ip hc h
    refine jx_sub (L2 := [(0, .ref (jx_ad G 1))]) [0] rfl ?_
    obtain rfl := Option.some.inj h
    exact hx _ rfl
  · have h := jx_in_ hc h
    refine jx_aload_n hX d_S_fits_23 0 rfl rfl ?_
    refine gf_S_9 hX d_S_fits_24 ?_
    refine jx_iload_n hX d_S_fits_27 1 rfl rfl ?_
    obtain ⟨hg1, h⟩ := jx_gd h
    refine al_0 hX d_S_fits_28 rfl hg1 ?_
    refine jx_bipush (v := (-5)) hX d_S_fits_29 (by decide) ?_
    refine jx_icmp_lt hX d_S_fits_31 rfl (fun hc => ?_) (fun hc => ?_)
    · have h := jx_ip hc h
      refine jx_iconst (v := 0) hX d_S_fits_44 (by decide) ?_
      obtain rfl := Option.some.inj h
      obtain rfl := hr _ rfl
      exact jx_zret hX d_S_fits_45 (jx_01n jx_z0)
    · have h := jx_in_ hc h
      refine jx_aload_n hX d_S_fits_34 0 rfl rfl ?_
      refine gf_S_9 hX d_S_fits_35 ?_
      refine jx_iload_n hX d_S_fits_38 1 rfl rfl ?_
      refine al_0 hX d_S_fits_39 rfl hg1 ?_
      refine jx_iconst (v := 5) hX d_S_fits_40 (by decide) ?_
      refine jx_icmp_le hX d_S_fits_41 rfl (fun hc => ?_) (fun hc => ?_)
      · have h := jx_ip hc h
        refine jx_iinc (v := (z + 1)) hX d_S_fits_46 1 rfl (by first | rfl | decide) (by decide) (L2 := [(1, .int (z + 1)), (0, .ref (jx_ad G 1))]) rfl ?_
        refine jx_goto hX d_S_fits_49 rfl ?_
        refine jx_sub (L2 := [(0, .ref (jx_ad G 1)), (1, .int (z + 1))]) [1, 0] rfl ?_
        obtain rfl := Option.some.inj h
        exact hi _ rfl
      · have h := jx_in_ hc h
        refine jx_iconst (v := 0) hX d_S_fits_44 (by decide) ?_
        obtain rfl := Option.some.inj h
        obtain rfl := hr _ rfl
        exact jx_zret hX d_S_fits_45 (jx_01n jx_z0)

set_option maxHeartbeats 4000000 in
set_option maxRecDepth 100000 in
theorem c_S_fits (l : Launch) (G : jx_G) (S : jx_S)  (fin : Int32) (h : f_S_fits S = some fin) : jx_M l y_S_fits b_S_fits 2 (some .boolean) 0 G [.ref (jx_ad G 1)] (jx_w G S) (some (.int fin), jx_w G S) := by
  refine jx_met (own := "PlaneCells$Sentence") (by decide) rfl (Nat.le_of_ble_eq_true rfl) (fun X hX hl => ?_)
  subst hl
  refine jx_L (L2 := [(0, .ref (jx_ad G 1))]) rfl ?_
  unfold f_S_fits at h
  refine jx_aload_n hX d_S_fits_0 0 rfl rfl ?_
  refine gf_S_26 hX d_S_fits_1 rfl ?_
  refine jx_bipush (v := 8) hX d_S_fits_4 (by decide) ?_
  refine jx_icmp_le hX d_S_fits_6 rfl (fun hc => ?_) (fun hc => ?_)
  · have h := jx_ip hc h
    refine jx_iconst (v := 0) hX d_S_fits_11 (by decide) ?_
    refine jx_istore_n hX d_S_fits_12 rfl (by decide) (L2 := [(1, .int 0), (0, .ref (jx_ad G 1))]) rfl ?_
    refine jx_sub (L2 := [(0, .ref (jx_ad G 1)), (1, .int 0)]) [1, 0] rfl ?_
    obtain ⟨r, hz, h⟩ := jx_bd h
    refine lt_S_fits_13 hX fin S hz (fun z13_2 e => ?_) (fun y e => ?_)
    · subst e
      have h := jx_el h
      refine jx_iconst (v := 1) hX d_S_fits_52 (by decide) ?_
      obtain rfl := Option.some.inj h
      exact jx_zret hX d_S_fits_53 (jx_01n jx_z1)
    · subst e
      have h := jx_er h
      exact Option.some.inj h
  · have h := jx_in_ hc h
    refine jx_iconst (v := 0) hX d_S_fits_9 (by decide) ?_
    obtain rfl := Option.some.inj h
    exact jx_zret hX d_S_fits_10 (jx_01n jx_z0)

def f_P_write (S : jx_S) (a1 : Int32) : Option (Int32 × jx_S) :=
  (f_R_append S a1).bind fun q5_1 =>
    if jx_nb q5_1.1 = true then some (q5_1.1, q5_1.2) else none
set_option maxHeartbeats 4000000 in
set_option maxRecDepth 100000 in
theorem c_P_write (l : Launch) (G : jx_G) (S : jx_S) (a1 : Int32) (fin : Int32 × jx_S) (h : f_P_write S a1 = some fin) : jx_M l y_P_write b_P_write 2 (some .boolean) 1 G [.ref (jx_ad G 0), .int a1] (jx_w G S) (some (.int fin.1), jx_w G fin.2) := by
  refine jx_met (own := "PlaneCells") (by decide) rfl (Nat.le_of_ble_eq_true rfl) (fun X hX hl => ?_)
  subst hl
  refine jx_L (L2 := [(0, .ref (jx_ad G 0)), (1, .int a1)]) rfl ?_
  unfold f_P_write at h
  refine jx_aload_n hX d_P_write_0 0 rfl rfl ?_
  refine gf_P_21 hX d_P_write_1 ?_
  refine jx_iload_n hX d_P_write_4 1 rfl rfl ?_
  obtain ⟨q5_1, hq5_1, h⟩ := jx_bd h
  refine cs_P_42 hX (c_R_append (jx_l X) G S a1 q5_1 hq5_1) d_P_write_5 (by decide) (Nat.le_of_ble_eq_true rfl) ?_
  obtain ⟨hg, h⟩ := jx_gd h
  obtain rfl := Option.some.inj h
  exact jx_zret hX d_P_write_8 (jx_nb_ok hg)

def f_P_readText (S : jx_S)  : Option (Int32 × jx_S) :=
  (f_R_countOpenings (jx_f S 0 (-1))).bind fun q9_1 =>
    if q9_1 ≤ 8 then
      (f_R_readSentence (jx_f S 0 (-1))).bind fun q24_2 =>
        if q24_2.1 = 0 then
          some ((-1), (jx_f q24_2.2 0 (q24_2.2.1 9)))
        else
          (f_S_fits q24_2.2).bind fun q47_3 =>
            some ((if q47_3 = 0 then (-2) else 0 : Int32), q24_2.2)
    else
      some ((-2), (jx_f S 0 (-1)))
set_option maxHeartbeats 4000000 in
set_option maxRecDepth 100000 in
theorem c_P_readText (l : Launch) (G : jx_G) (S : jx_S)  (fin : Int32 × jx_S) (h : f_P_readText S = some fin) : jx_M l y_P_readText b_P_readText 1 (some .int) 5 G [.ref (jx_ad G 0)] (jx_w G S) (some (.int fin.1), jx_w G fin.2) := by
  refine jx_met (own := "PlaneCells") (by decide) rfl (Nat.le_of_ble_eq_true rfl) (fun X hX hl => ?_)
  subst hl
  refine jx_L (L2 := [(0, .ref (jx_ad G 0))]) rfl ?_
  unfold f_P_readText at h
  refine jx_aload_n hX d_P_readText_0 0 rfl rfl ?_
  refine jx_iconst (v := (-1)) hX d_P_readText_1 (by decide) ?_
  refine pf_P_32 hX d_P_readText_2 ?_
  refine jx_aload_n hX d_P_readText_5 0 rfl rfl ?_
  refine gf_P_21 hX d_P_readText_6 ?_
  obtain ⟨q9_1, hq9_1, h⟩ := jx_bd h
  refine cs_P_72 hX (c_R_countOpenings (jx_l X) G (jx_f S 0 (-1)) q9_1 hq9_1) d_P_readText_9 (by decide) (Nat.le_of_ble_eq_true rfl) ?_
  refine jx_bipush (v := 8) hX d_P_readText_12 (by decide) ?_
  refine jx_icmp_le hX d_P_readText_14 rfl (fun hc => ?_) (fun hc => ?_)
  · have h := jx_ip hc h
    refine jx_aload_n hX d_P_readText_20 0 rfl rfl ?_
    refine gf_P_21 hX d_P_readText_21 ?_
    obtain ⟨q24_2, hq24_2, h⟩ := jx_bd h
    refine cs_P_75 hX (c_R_readSentence (jx_l X) G (jx_f S 0 (-1)) q24_2 hq24_2) d_P_readText_24 (by decide) (Nat.le_of_ble_eq_true rfl) ?_
    refine jx_if_ne hX d_P_readText_27 rfl (fun hc => ?_) (fun hc => ?_)
    · have h := jx_in_ hc h
      refine jx_aload_n hX d_P_readText_43 0 rfl rfl ?_
      refine gf_P_12 hX d_P_readText_44 ?_
      obtain ⟨q47_3, hq47_3, h⟩ := jx_bd h
      refine cs_P_81 hX (c_S_fits (jx_l X) G q24_2.2 q47_3 hq47_3) d_P_readText_47 (by decide) (Nat.le_of_ble_eq_true rfl) ?_
      have hj : ∀ v : Int32, v = (if q47_3 = 0 then (-2) else 0 : Int32) → jx_At G X (some (.int fin.1), jx_w G fin.2) (jx_w G q24_2.2) 59 [(0, .ref (jx_ad G 0))] [.int v] := by
        intro v hv
        subst hv
        obtain rfl := Option.some.inj h
        exact jx_iret hX d_P_readText_59
      refine jx_if_eq hX d_P_readText_50 rfl (fun hc4 => ?_) (fun hc4 => ?_)
      · refine jx_bipush (v := (-2)) hX d_P_readText_57 (by decide) ?_
        exact hj _ (if_pos hc4).symm
      · refine jx_iconst (v := 0) hX d_P_readText_53 (by decide) ?_
        refine jx_goto hX d_P_readText_54 rfl ?_
        exact hj _ (if_neg hc4).symm
    · have h := jx_ip hc h
      refine jx_aload_n hX d_P_readText_30 0 rfl rfl ?_
      refine jx_aload_n hX d_P_readText_31 0 rfl rfl ?_
      refine gf_P_21 hX d_P_readText_32 ?_
      refine gf_P_78 hX d_P_readText_35 rfl ?_
      refine pf_P_32 hX d_P_readText_38 ?_
      refine jx_iconst (v := (-1)) hX d_P_readText_41 (by decide) ?_
      obtain rfl := Option.some.inj h
      exact jx_iret hX d_P_readText_42
  · have h := jx_in_ hc h
    refine jx_bipush (v := (-2)) hX d_P_readText_17 (by decide) ?_
    obtain rfl := Option.some.inj h
    exact jx_iret hX d_P_readText_19

def b_P_decide_55 (x1 : Int32) (z : jx_S × Int32) : Option ((jx_S × Int32) ⊕ (jx_S)) :=
  if (z.1.1 1) ≤ z.2 then
    some (.inr z.1)
  else
    if 0 ≤ (z.1.1 2) then
      some (.inr z.1)
    else
      (f_Q_enter z.1 z.2).bind fun q75_5 =>
        (f_Q_columnHolds q75_5).bind fun q82_6 =>
          if q82_6 = (q75_5.1 5) then
            some (.inl (q75_5, (z.2 + 1)))
          else
            some (.inl ((jx_f q75_5 2 z.2), (z.2 + 1)))

def f_P_decide (S : jx_S)  : Option (Int32 × jx_S) :=
  (f_P_readText S).bind fun q1_1 =>
    (f_R_clear q1_1.2).bind fun q9_2 =>
      if 0 ≤ q1_1.1 then
        (f_Q_cut (jx_f (jx_f q9_2 1 0) 2 (-1))).bind fun q39_3 =>
          (f_Q_countColumns q39_3).bind fun q47_4 =>
            (jx_lp (b_P_decide_55 q1_1.1) jx_N ((jx_f q39_3 1 q47_4), 0)).bind fun z55_7 =>
              some ((if (z55_7.1 5) = (if 0 ≤ (z55_7.1 2) then 0 else 1 : Int32) then 1 else 0 : Int32), z55_7)
      else
        (f_S_clear (jx_f (jx_f q9_2 1 0) 2 (-1))).bind fun q30_10 =>
          some (q1_1.1, q30_10)
set_option maxHeartbeats 4000000 in
set_option maxRecDepth 100000 in
theorem lt_P_decide_55 {G : jx_G} {X : jx_C} (hX : jx_Ok G X b_P_decide "PlaneCells" (some .int) 3 6) (fin : Int32 × jx_S) (x1 : Int32) {n : Nat} {z : jx_S × Int32} {r : jx_S} (hz : jx_lp (b_P_decide_55 x1) n z = some r) (hk : jx_At G X (some (.int fin.1), jx_w G fin.2) (jx_w G r) 106 [(0, .ref (jx_ad G 0)), (1, .int x1)] []) : jx_At G X (some (.int fin.1), jx_w G fin.2) (jx_w G z.1) 55 [(0, .ref (jx_ad G 0)), (1, .int x1), (2, .int z.2)] [] := by
  refine jx_loop1 (b_P_decide_55 x1) (fun z => jx_At G X (some (.int fin.1), jx_w G fin.2) (jx_w G z.1) 55 [(0, .ref (jx_ad G 0)), (1, .int x1), (2, .int z.2)] []) (fun z => jx_At G X (some (.int fin.1), jx_w G fin.2) (jx_w G z) 106 [(0, .ref (jx_ad G 0)), (1, .int x1)] []) ?_ n z r hz hk
  intro z o h hi hx
  unfold b_P_decide_55 at h
  refine jx_iload_n hX d_P_decide_55 2 rfl rfl ?_
  refine jx_aload_n hX d_P_decide_56 0 rfl rfl ?_
  refine gf_P_36 hX d_P_decide_57 rfl ?_
  refine jx_icmp_ge hX d_P_decide_60 rfl (fun hc => ?_) (fun hc => ?_)
  · have h := jx_ip hc h
    refine jx_sub (L2 := [(0, .ref (jx_ad G 0)), (1, .int x1)]) [0, 1] rfl ?_
    obtain rfl := Option.some.inj h
    exact hx _ rfl
  · have h := jx_in_ hc h
    refine jx_aload_n hX d_P_decide_63 0 rfl rfl ?_
    refine gf_P_39 hX d_P_decide_64 rfl ?_
    refine jx_if_ge hX d_P_decide_67 rfl (fun hc => ?_) (fun hc => ?_)
    · have h := jx_ip hc h
      refine jx_sub (L2 := [(0, .ref (jx_ad G 0)), (1, .int x1)]) [0, 1] rfl ?_
      obtain rfl := Option.some.inj h
      exact hx _ rfl
    · have h := jx_in_ hc h
      refine jx_aload_n hX d_P_decide_70 0 rfl rfl ?_
      refine gf_P_28 hX d_P_decide_71 ?_
      refine jx_iload_n hX d_P_decide_74 2 rfl rfl ?_
      obtain ⟨q75_5, hq75_5, h⟩ := jx_bd h
      refine cs_P_60 hX (c_Q_enter (jx_l X) G z.1 z.2 q75_5 hq75_5) d_P_decide_75 (by decide) (Nat.le_of_ble_eq_true rfl) ?_
      refine jx_aload_n hX d_P_decide_78 0 rfl rfl ?_
      refine gf_P_28 hX d_P_decide_79 ?_
      obtain ⟨q82_6, hq82_6, h⟩ := jx_bd h
      refine cs_P_64 hX (c_Q_columnHolds (jx_l X) G q75_5 q82_6 hq82_6) d_P_decide_82 (by decide) (Nat.le_of_ble_eq_true rfl) ?_
      refine jx_aload_n hX d_P_decide_85 0 rfl rfl ?_
      refine gf_P_12 hX d_P_decide_86 ?_
      refine gf_P_68 hX d_P_decide_89 rfl ?_
      refine jx_icmp_eq hX d_P_decide_92 rfl (fun hc => ?_) (fun hc => ?_)
      · have h := jx_ip hc h
        refine jx_iinc (v := (z.2 + 1)) hX d_P_decide_100 2 rfl (by first | rfl | decide) (by decide) (L2 := [(2, .int (z.2 + 1)), (0, .ref (jx_ad G 0)), (1, .int x1)]) rfl ?_
        refine jx_goto hX d_P_decide_103 rfl ?_
        refine jx_sub (L2 := [(0, .ref (jx_ad G 0)), (1, .int x1), (2, .int (z.2 + 1))]) [1, 2, 0] rfl ?_
        obtain rfl := Option.some.inj h
        exact hi _ rfl
      · have h := jx_in_ hc h
        refine jx_aload_n hX d_P_decide_95 0 rfl rfl ?_
        refine jx_iload_n hX d_P_decide_96 2 rfl rfl ?_
        refine pf_P_39 hX d_P_decide_97 ?_
        refine jx_iinc (v := (z.2 + 1)) hX d_P_decide_100 2 rfl (by first | rfl | decide) (by decide) (L2 := [(2, .int (z.2 + 1)), (0, .ref (jx_ad G 0)), (1, .int x1)]) rfl ?_
        refine jx_goto hX d_P_decide_103 rfl ?_
        refine jx_sub (L2 := [(0, .ref (jx_ad G 0)), (1, .int x1), (2, .int (z.2 + 1))]) [1, 2, 0] rfl ?_
        obtain rfl := Option.some.inj h
        exact hi _ rfl

set_option maxHeartbeats 4000000 in
set_option maxRecDepth 100000 in
theorem c_P_decide (l : Launch) (G : jx_G) (S : jx_S)  (fin : Int32 × jx_S) (h : f_P_decide S = some fin) : jx_M l y_P_decide b_P_decide 3 (some .int) 6 G [.ref (jx_ad G 0)] (jx_w G S) (some (.int fin.1), jx_w G fin.2) := by
  refine jx_met (own := "PlaneCells") (by decide) rfl (Nat.le_of_ble_eq_true rfl) (fun X hX hl => ?_)
  subst hl
  refine jx_L (L2 := [(0, .ref (jx_ad G 0))]) rfl ?_
  unfold f_P_decide at h
  refine jx_aload_n hX d_P_decide_0 0 rfl rfl ?_
  obtain ⟨q1_1, hq1_1, h⟩ := jx_bd h
  refine cs_P_46 hX (c_P_readText (jx_l X) G S q1_1 hq1_1) d_P_decide_1 (by decide) (Nat.le_of_ble_eq_true rfl) ?_
  refine jx_istore_n hX d_P_decide_4 rfl (by decide) (L2 := [(1, .int q1_1.1), (0, .ref (jx_ad G 0))]) rfl ?_
  refine jx_aload_n hX d_P_decide_5 1 rfl rfl ?_
  refine gf_P_21 hX d_P_decide_6 ?_
  obtain ⟨q9_2, hq9_2, h⟩ := jx_bd h
  refine cs_P_50 hX (c_R_clear (jx_l X) G q1_1.2 q9_2 hq9_2) d_P_decide_9 (by decide) (Nat.le_of_ble_eq_true rfl) ?_
  refine jx_aload_n hX d_P_decide_12 1 rfl rfl ?_
  refine jx_iconst (v := 0) hX d_P_decide_13 (by decide) ?_
  refine pf_P_36 hX d_P_decide_14 ?_
  refine jx_aload_n hX d_P_decide_17 1 rfl rfl ?_
  refine jx_iconst (v := (-1)) hX d_P_decide_18 (by decide) ?_
  refine pf_P_39 hX d_P_decide_19 ?_
  refine jx_iload_n hX d_P_decide_22 0 rfl rfl ?_
  refine jx_if_ge hX d_P_decide_23 rfl (fun hc => ?_) (fun hc => ?_)
  · have h := jx_ip hc h
    refine jx_aload_n hX d_P_decide_35 1 rfl rfl ?_
    refine gf_P_28 hX d_P_decide_36 ?_
    obtain ⟨q39_3, hq39_3, h⟩ := jx_bd h
    refine cs_P_54 hX (c_Q_cut (jx_l X) G (jx_f (jx_f q9_2 1 0) 2 (-1)) q39_3 hq39_3) d_P_decide_39 (by decide) (Nat.le_of_ble_eq_true rfl) ?_
    refine jx_aload_n hX d_P_decide_42 1 rfl rfl ?_
    refine jx_aload_n hX d_P_decide_43 1 rfl rfl ?_
    refine gf_P_28 hX d_P_decide_44 ?_
    obtain ⟨q47_4, hq47_4, h⟩ := jx_bd h
    refine cs_P_57 hX (c_Q_countColumns (jx_l X) G q39_3 q47_4 hq47_4) d_P_decide_47 (by decide) (Nat.le_of_ble_eq_true rfl) ?_
    refine pf_P_36 hX d_P_decide_50 ?_
    refine jx_iconst (v := 0) hX d_P_decide_53 (by decide) ?_
    refine jx_istore_n hX d_P_decide_54 rfl (by decide) (L2 := [(2, .int 0), (1, .int q1_1.1), (0, .ref (jx_ad G 0))]) rfl ?_
    refine jx_sub (L2 := [(0, .ref (jx_ad G 0)), (1, .int q1_1.1), (2, .int 0)]) [2, 1, 0] rfl ?_
    obtain ⟨z55_7, hz, h⟩ := jx_bd h
    refine lt_P_decide_55 hX fin q1_1.1 hz ?_
    refine jx_aload_n hX d_P_decide_106 0 rfl rfl ?_
    refine gf_P_12 hX d_P_decide_107 ?_
    refine gf_P_68 hX d_P_decide_110 rfl ?_
    refine jx_aload_n hX d_P_decide_113 0 rfl rfl ?_
    refine gf_P_39 hX d_P_decide_114 rfl ?_
    have hj : ∀ v : Int32, v = (if 0 ≤ (z55_7.1 2) then 0 else 1 : Int32) → jx_At G X (some (.int fin.1), jx_w G fin.2) (jx_w G z55_7) 125 [(0, .ref (jx_ad G 0)), (1, .int q1_1.1)] [.int v, .int (z55_7.1 5)] := by
      intro v hv
      subst hv
      have hj : ∀ v : Int32, v = (if (z55_7.1 5) = (if 0 ≤ (z55_7.1 2) then 0 else 1 : Int32) then 1 else 0 : Int32) → jx_At G X (some (.int fin.1), jx_w G fin.2) (jx_w G z55_7) 133 [(0, .ref (jx_ad G 0)), (1, .int q1_1.1)] [.int v] := by
        intro v hv
        subst hv
        obtain rfl := Option.some.inj h
        exact jx_iret hX d_P_decide_133
      refine jx_icmp_ne hX d_P_decide_125 rfl (fun hc8 => ?_) (fun hc8 => ?_)
      · refine jx_iconst (v := 0) hX d_P_decide_132 (by decide) ?_
        exact hj _ (if_neg hc8).symm
      · refine jx_iconst (v := 1) hX d_P_decide_128 (by decide) ?_
        refine jx_goto hX d_P_decide_129 rfl ?_
        exact hj _ (if_pos hc8).symm
    refine jx_if_ge hX d_P_decide_117 rfl (fun hc9 => ?_) (fun hc9 => ?_)
    · refine jx_iconst (v := 0) hX d_P_decide_124 (by decide) ?_
      exact hj _ (if_pos hc9).symm
    · refine jx_iconst (v := 1) hX d_P_decide_120 (by decide) ?_
      refine jx_goto hX d_P_decide_121 rfl ?_
      exact hj _ (if_neg hc9).symm
  · have h := jx_in_ hc h
    refine jx_aload_n hX d_P_decide_26 1 rfl rfl ?_
    refine gf_P_12 hX d_P_decide_27 ?_
    obtain ⟨q30_10, hq30_10, h⟩ := jx_bd h
    refine cs_P_53 hX (c_S_clear (jx_l X) G (jx_f (jx_f q9_2 1 0) 2 (-1)) q30_10 hq30_10) d_P_decide_30 (by decide) (Nat.le_of_ble_eq_true rfl) ?_
    refine jx_iload_n hX d_P_decide_33 0 rfl rfl ?_
    obtain rfl := Option.some.inj h
    exact jx_iret hX d_P_decide_34

def f_P_place (S : jx_S)  : Option (Int32) :=
  some (S.1 0)
set_option maxHeartbeats 4000000 in
set_option maxRecDepth 100000 in
theorem c_P_place (l : Launch) (G : jx_G) (S : jx_S)  (fin : Int32) (h : f_P_place S = some fin) : jx_M l y_P_place b_P_place 1 (some .int) 0 G [.ref (jx_ad G 0)] (jx_w G S) (some (.int fin), jx_w G S) := by
  refine jx_met (own := "PlaneCells") (by decide) rfl (Nat.le_of_ble_eq_true rfl) (fun X hX hl => ?_)
  subst hl
  refine jx_L (L2 := [(0, .ref (jx_ad G 0))]) rfl ?_
  unfold f_P_place at h
  refine jx_aload_n hX d_P_place_0 0 rfl rfl ?_
  refine gf_P_32 hX d_P_place_1 rfl ?_
  obtain rfl := Option.some.inj h
  exact jx_iret hX d_P_place_4

def f_P_polynomials (S : jx_S)  : Option (Int32) :=
  some (S.1 4)
set_option maxHeartbeats 4000000 in
set_option maxRecDepth 100000 in
theorem c_P_polynomials (l : Launch) (G : jx_G) (S : jx_S)  (fin : Int32) (h : f_P_polynomials S = some fin) : jx_M l y_P_polynomials b_P_polynomials 1 (some .int) 0 G [.ref (jx_ad G 0)] (jx_w G S) (some (.int fin), jx_w G S) := by
  refine jx_met (own := "PlaneCells") (by decide) rfl (Nat.le_of_ble_eq_true rfl) (fun X hX hl => ?_)
  subst hl
  refine jx_L (L2 := [(0, .ref (jx_ad G 0))]) rfl ?_
  unfold f_P_polynomials at h
  refine jx_aload_n hX d_P_polynomials_0 0 rfl rfl ?_
  refine gf_P_12 hX d_P_polynomials_1 ?_
  refine gf_P_84 hX d_P_polynomials_4 rfl ?_
  obtain rfl := Option.some.inj h
  exact jx_iret hX d_P_polynomials_7

def f_P_hasPolynomial (S : jx_S) (a1 : Int32) : Option (Int32) :=
  some (if a1 < 0 then 0 else (if (S.1 4) ≤ a1 then 0 else 1 : Int32) : Int32)
set_option maxHeartbeats 4000000 in
set_option maxRecDepth 100000 in
theorem c_P_hasPolynomial (l : Launch) (G : jx_G) (S : jx_S) (a1 : Int32) (fin : Int32) (h : f_P_hasPolynomial S a1 = some fin) : jx_M l y_P_hasPolynomial b_P_hasPolynomial 2 (some .boolean) 0 G [.ref (jx_ad G 0), .int a1] (jx_w G S) (some (.int fin), jx_w G S) := by
  refine jx_met (own := "PlaneCells") (by decide) rfl (Nat.le_of_ble_eq_true rfl) (fun X hX hl => ?_)
  subst hl
  refine jx_L (L2 := [(0, .ref (jx_ad G 0)), (1, .int a1)]) rfl ?_
  unfold f_P_hasPolynomial at h
  refine jx_iload_n hX d_P_hasPolynomial_0 1 rfl rfl ?_
  have hj : ∀ v : Int32, v = (if a1 < 0 then 0 else (if (S.1 4) ≤ a1 then 0 else 1 : Int32) : Int32) → jx_At G X (some (.int fin), jx_w G S) (jx_w G S) 20 [(0, .ref (jx_ad G 0)), (1, .int a1)] [.int v] := by
    intro v hv
    subst hv
    obtain rfl := Option.some.inj h
    exact jx_zret hX d_P_hasPolynomial_20 (jx_01n (jx_zi jx_z0 (jx_zi jx_z0 jx_z1)))
  refine jx_if_lt hX d_P_hasPolynomial_1 rfl (fun hc1 => ?_) (fun hc1 => ?_)
  · refine jx_iconst (v := 0) hX d_P_hasPolynomial_19 (by decide) ?_
    exact hj _ (if_pos hc1).symm
  · refine jx_iload_n hX d_P_hasPolynomial_4 1 rfl rfl ?_
    refine jx_aload_n hX d_P_hasPolynomial_5 0 rfl rfl ?_
    refine gf_P_12 hX d_P_hasPolynomial_6 ?_
    refine gf_P_84 hX d_P_hasPolynomial_9 rfl ?_
    refine jx_icmp_ge hX d_P_hasPolynomial_12 rfl (fun hc2 => ?_) (fun hc2 => ?_)
    · refine jx_iconst (v := 0) hX d_P_hasPolynomial_19 (by decide) ?_
      exact hj _ ((if_neg hc1).trans (if_pos hc2)).symm
    · refine jx_iconst (v := 1) hX d_P_hasPolynomial_15 (by decide) ?_
      refine jx_goto hX d_P_hasPolynomial_16 rfl ?_
      exact hj _ ((if_neg hc1).trans (if_neg hc2)).symm

def f_P_coefficient (S : jx_S) (a1 : Int32) (a2 : Int32) : Option (Int32) :=
  (f_P_hasPolynomial S a1).bind fun q2_1 =>
    if q2_1 = 0 then
      some 9
    else
      if a2 < 0 then
        some 9
      else
        if a2 < 4 then
          (f_S_number S a1 a2).bind fun q26_2 =>
            some q26_2
        else
          some 9
set_option maxHeartbeats 4000000 in
set_option maxRecDepth 100000 in
theorem c_P_coefficient (l : Launch) (G : jx_G) (S : jx_S) (a1 : Int32) (a2 : Int32) (fin : Int32) (h : f_P_coefficient S a1 a2 = some fin) : jx_M l y_P_coefficient b_P_coefficient 3 (some .int) 1 G [.ref (jx_ad G 0), .int a1, .int a2] (jx_w G S) (some (.int fin), jx_w G S) := by
  refine jx_met (own := "PlaneCells") (by decide) rfl (Nat.le_of_ble_eq_true rfl) (fun X hX hl => ?_)
  subst hl
  refine jx_L (L2 := [(0, .ref (jx_ad G 0)), (1, .int a1), (2, .int a2)]) rfl ?_
  unfold f_P_coefficient at h
  refine jx_aload_n hX d_P_coefficient_0 0 rfl rfl ?_
  refine jx_iload_n hX d_P_coefficient_1 1 rfl rfl ?_
  obtain ⟨q2_1, hq2_1, h⟩ := jx_bd h
  refine cs_P_87 hX (c_P_hasPolynomial (jx_l X) G S a1 q2_1 hq2_1) d_P_coefficient_2 (by decide) (Nat.le_of_ble_eq_true rfl) ?_
  refine jx_if_eq hX d_P_coefficient_5 rfl (fun hc => ?_) (fun hc => ?_)
  · have h := jx_ip hc h
    refine jx_bipush (v := 9) hX d_P_coefficient_17 (by decide) ?_
    obtain rfl := Option.some.inj h
    exact jx_iret hX d_P_coefficient_19
  · have h := jx_in_ hc h
    refine jx_iload_n hX d_P_coefficient_8 2 rfl rfl ?_
    refine jx_if_lt hX d_P_coefficient_9 rfl (fun hc => ?_) (fun hc => ?_)
    · have h := jx_ip hc h
      refine jx_bipush (v := 9) hX d_P_coefficient_17 (by decide) ?_
      obtain rfl := Option.some.inj h
      exact jx_iret hX d_P_coefficient_19
    · have h := jx_in_ hc h
      refine jx_iload_n hX d_P_coefficient_12 2 rfl rfl ?_
      refine jx_iconst (v := 4) hX d_P_coefficient_13 (by decide) ?_
      refine jx_icmp_lt hX d_P_coefficient_14 rfl (fun hc => ?_) (fun hc => ?_)
      · have h := jx_ip hc h
        refine jx_aload_n hX d_P_coefficient_20 0 rfl rfl ?_
        refine gf_P_12 hX d_P_coefficient_21 ?_
        refine jx_iload_n hX d_P_coefficient_24 1 rfl rfl ?_
        refine jx_iload_n hX d_P_coefficient_25 2 rfl rfl ?_
        obtain ⟨q26_2, hq26_2, h⟩ := jx_bd h
        refine cs_P_91 hX (c_S_number (jx_l X) G S a1 a2 q26_2 hq26_2) d_P_coefficient_26 (by decide) (Nat.le_of_ble_eq_true rfl) ?_
        obtain rfl := Option.some.inj h
        exact jx_iret hX d_P_coefficient_29
      · have h := jx_in_ hc h
        refine jx_bipush (v := 9) hX d_P_coefficient_17 (by decide) ?_
        obtain rfl := Option.some.inj h
        exact jx_iret hX d_P_coefficient_19

def f_P_columns (S : jx_S)  : Option (Int32) :=
  some (S.1 1)
set_option maxHeartbeats 4000000 in
set_option maxRecDepth 100000 in
theorem c_P_columns (l : Launch) (G : jx_G) (S : jx_S)  (fin : Int32) (h : f_P_columns S = some fin) : jx_M l y_P_columns b_P_columns 1 (some .int) 0 G [.ref (jx_ad G 0)] (jx_w G S) (some (.int fin), jx_w G S) := by
  refine jx_met (own := "PlaneCells") (by decide) rfl (Nat.le_of_ble_eq_true rfl) (fun X hX hl => ?_)
  subst hl
  refine jx_L (L2 := [(0, .ref (jx_ad G 0))]) rfl ?_
  unfold f_P_columns at h
  refine jx_aload_n hX d_P_columns_0 0 rfl rfl ?_
  refine gf_P_36 hX d_P_columns_1 rfl ?_
  obtain rfl := Option.some.inj h
  exact jx_iret hX d_P_columns_4

def f_P_hasColumn (S : jx_S) (a1 : Int32) : Option (Int32) :=
  some (if a1 < 0 then 0 else (if (S.1 1) ≤ a1 then 0 else 1 : Int32) : Int32)
set_option maxHeartbeats 4000000 in
set_option maxRecDepth 100000 in
theorem c_P_hasColumn (l : Launch) (G : jx_G) (S : jx_S) (a1 : Int32) (fin : Int32) (h : f_P_hasColumn S a1 = some fin) : jx_M l y_P_hasColumn b_P_hasColumn 2 (some .boolean) 0 G [.ref (jx_ad G 0), .int a1] (jx_w G S) (some (.int fin), jx_w G S) := by
  refine jx_met (own := "PlaneCells") (by decide) rfl (Nat.le_of_ble_eq_true rfl) (fun X hX hl => ?_)
  subst hl
  refine jx_L (L2 := [(0, .ref (jx_ad G 0)), (1, .int a1)]) rfl ?_
  unfold f_P_hasColumn at h
  refine jx_iload_n hX d_P_hasColumn_0 1 rfl rfl ?_
  have hj : ∀ v : Int32, v = (if a1 < 0 then 0 else (if (S.1 1) ≤ a1 then 0 else 1 : Int32) : Int32) → jx_At G X (some (.int fin), jx_w G S) (jx_w G S) 17 [(0, .ref (jx_ad G 0)), (1, .int a1)] [.int v] := by
    intro v hv
    subst hv
    obtain rfl := Option.some.inj h
    exact jx_zret hX d_P_hasColumn_17 (jx_01n (jx_zi jx_z0 (jx_zi jx_z0 jx_z1)))
  refine jx_if_lt hX d_P_hasColumn_1 rfl (fun hc1 => ?_) (fun hc1 => ?_)
  · refine jx_iconst (v := 0) hX d_P_hasColumn_16 (by decide) ?_
    exact hj _ (if_pos hc1).symm
  · refine jx_iload_n hX d_P_hasColumn_4 1 rfl rfl ?_
    refine jx_aload_n hX d_P_hasColumn_5 0 rfl rfl ?_
    refine gf_P_36 hX d_P_hasColumn_6 rfl ?_
    refine jx_icmp_ge hX d_P_hasColumn_9 rfl (fun hc2 => ?_) (fun hc2 => ?_)
    · refine jx_iconst (v := 0) hX d_P_hasColumn_16 (by decide) ?_
      exact hj _ ((if_neg hc1).trans (if_pos hc2)).symm
    · refine jx_iconst (v := 1) hX d_P_hasColumn_12 (by decide) ?_
      refine jx_goto hX d_P_hasColumn_13 rfl ?_
      exact hj _ ((if_neg hc1).trans (if_neg hc2)).symm

def f_P_enterColumn (S : jx_S) (a1 : Int32) : Option (Int32 × jx_S) :=
  (f_P_hasColumn S a1).bind fun q2_1 =>
    if q2_1 = 0 then
      some (0, S)
    else
      (f_Q_enter S a1).bind fun q15_2 =>
        some (1, q15_2)
set_option maxHeartbeats 4000000 in
set_option maxRecDepth 100000 in
theorem c_P_enterColumn (l : Launch) (G : jx_G) (S : jx_S) (a1 : Int32) (fin : Int32 × jx_S) (h : f_P_enterColumn S a1 = some fin) : jx_M l y_P_enterColumn b_P_enterColumn 2 (some .boolean) 5 G [.ref (jx_ad G 0), .int a1] (jx_w G S) (some (.int fin.1), jx_w G fin.2) := by
  refine jx_met (own := "PlaneCells") (by decide) rfl (Nat.le_of_ble_eq_true rfl) (fun X hX hl => ?_)
  subst hl
  refine jx_L (L2 := [(0, .ref (jx_ad G 0)), (1, .int a1)]) rfl ?_
  unfold f_P_enterColumn at h
  refine jx_aload_n hX d_P_enterColumn_0 0 rfl rfl ?_
  refine jx_iload_n hX d_P_enterColumn_1 1 rfl rfl ?_
  obtain ⟨q2_1, hq2_1, h⟩ := jx_bd h
  refine cs_P_110 hX (c_P_hasColumn (jx_l X) G S a1 q2_1 hq2_1) d_P_enterColumn_2 (by decide) (Nat.le_of_ble_eq_true rfl) ?_
  refine jx_if_ne hX d_P_enterColumn_5 rfl (fun hc => ?_) (fun hc => ?_)
  · have h := jx_in_ hc h
    refine jx_aload_n hX d_P_enterColumn_10 0 rfl rfl ?_
    refine gf_P_28 hX d_P_enterColumn_11 ?_
    refine jx_iload_n hX d_P_enterColumn_14 1 rfl rfl ?_
    obtain ⟨q15_2, hq15_2, h⟩ := jx_bd h
    refine cs_P_60 hX (c_Q_enter (jx_l X) G S a1 q15_2 hq15_2) d_P_enterColumn_15 (by decide) (Nat.le_of_ble_eq_true rfl) ?_
    refine jx_iconst (v := 1) hX d_P_enterColumn_18 (by decide) ?_
    obtain rfl := Option.some.inj h
    exact jx_zret hX d_P_enterColumn_19 (jx_01n jx_z1)
  · have h := jx_ip hc h
    refine jx_iconst (v := 0) hX d_P_enterColumn_8 (by decide) ?_
    obtain rfl := Option.some.inj h
    exact jx_zret hX d_P_enterColumn_9 (jx_01n jx_z0)

def f_P_cells (S : jx_S) (a1 : Int32) : Option (Int32 × jx_S) :=
  (f_P_enterColumn S a1).bind fun q2_1 =>
    some ((if q2_1.1 = 0 then 0 else (q2_1.2.1 12) : Int32), q2_1.2)
set_option maxHeartbeats 4000000 in
set_option maxRecDepth 100000 in
theorem c_P_cells (l : Launch) (G : jx_G) (S : jx_S) (a1 : Int32) (fin : Int32 × jx_S) (h : f_P_cells S a1 = some fin) : jx_M l y_P_cells b_P_cells 2 (some .int) 6 G [.ref (jx_ad G 0), .int a1] (jx_w G S) (some (.int fin.1), jx_w G fin.2) := by
  refine jx_met (own := "PlaneCells") (by decide) rfl (Nat.le_of_ble_eq_true rfl) (fun X hX hl => ?_)
  subst hl
  refine jx_L (L2 := [(0, .ref (jx_ad G 0)), (1, .int a1)]) rfl ?_
  unfold f_P_cells at h
  refine jx_aload_n hX d_P_cells_0 0 rfl rfl ?_
  refine jx_iload_n hX d_P_cells_1 1 rfl rfl ?_
  obtain ⟨q2_1, hq2_1, h⟩ := jx_bd h
  refine cs_P_95 hX (c_P_enterColumn (jx_l X) G S a1 q2_1 hq2_1) d_P_cells_2 (by decide) (Nat.le_of_ble_eq_true rfl) ?_
  have hj : ∀ v : Int32, v = (if q2_1.1 = 0 then 0 else (q2_1.2.1 12) : Int32) → jx_At G X (some (.int fin.1), jx_w G fin.2) (jx_w G q2_1.2) 19 [(0, .ref (jx_ad G 0)), (1, .int a1)] [.int v] := by
    intro v hv
    subst hv
    obtain rfl := Option.some.inj h
    exact jx_iret hX d_P_cells_19
  refine jx_if_eq hX d_P_cells_5 rfl (fun hc2 => ?_) (fun hc2 => ?_)
  · refine jx_iconst (v := 0) hX d_P_cells_18 (by decide) ?_
    exact hj _ (if_pos hc2).symm
  · refine jx_aload_n hX d_P_cells_8 0 rfl rfl ?_
    refine gf_P_28 hX d_P_cells_9 ?_
    refine gf_P_98 hX d_P_cells_12 rfl ?_
    refine jx_goto hX d_P_cells_15 rfl ?_
    exact hj _ (if_neg hc2).symm

def f_P_hasCell (S : jx_S) (a1 : Int32) : Option (Int32) :=
  some (if a1 < 0 then 0 else (if (S.1 12) ≤ a1 then 0 else 1 : Int32) : Int32)
set_option maxHeartbeats 4000000 in
set_option maxRecDepth 100000 in
theorem c_P_hasCell (l : Launch) (G : jx_G) (S : jx_S) (a1 : Int32) (fin : Int32) (h : f_P_hasCell S a1 = some fin) : jx_M l y_P_hasCell b_P_hasCell 2 (some .boolean) 0 G [.ref (jx_ad G 0), .int a1] (jx_w G S) (some (.int fin), jx_w G S) := by
  refine jx_met (own := "PlaneCells") (by decide) rfl (Nat.le_of_ble_eq_true rfl) (fun X hX hl => ?_)
  subst hl
  refine jx_L (L2 := [(0, .ref (jx_ad G 0)), (1, .int a1)]) rfl ?_
  unfold f_P_hasCell at h
  refine jx_iload_n hX d_P_hasCell_0 1 rfl rfl ?_
  have hj : ∀ v : Int32, v = (if a1 < 0 then 0 else (if (S.1 12) ≤ a1 then 0 else 1 : Int32) : Int32) → jx_At G X (some (.int fin), jx_w G S) (jx_w G S) 20 [(0, .ref (jx_ad G 0)), (1, .int a1)] [.int v] := by
    intro v hv
    subst hv
    obtain rfl := Option.some.inj h
    exact jx_zret hX d_P_hasCell_20 (jx_01n (jx_zi jx_z0 (jx_zi jx_z0 jx_z1)))
  refine jx_if_lt hX d_P_hasCell_1 rfl (fun hc1 => ?_) (fun hc1 => ?_)
  · refine jx_iconst (v := 0) hX d_P_hasCell_19 (by decide) ?_
    exact hj _ (if_pos hc1).symm
  · refine jx_iload_n hX d_P_hasCell_4 1 rfl rfl ?_
    refine jx_aload_n hX d_P_hasCell_5 0 rfl rfl ?_
    refine gf_P_28 hX d_P_hasCell_6 ?_
    refine gf_P_98 hX d_P_hasCell_9 rfl ?_
    refine jx_icmp_ge hX d_P_hasCell_12 rfl (fun hc2 => ?_) (fun hc2 => ?_)
    · refine jx_iconst (v := 0) hX d_P_hasCell_19 (by decide) ?_
      exact hj _ ((if_neg hc1).trans (if_pos hc2)).symm
    · refine jx_iconst (v := 1) hX d_P_hasCell_15 (by decide) ?_
      refine jx_goto hX d_P_hasCell_16 rfl ?_
      exact hj _ ((if_neg hc1).trans (if_neg hc2)).symm

