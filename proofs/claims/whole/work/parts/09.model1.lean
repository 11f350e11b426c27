def f_M_write (S : jx_S) (a1 : Int32) : Option (Int32 × jx_S) :=
  if a1 < 32 then
    some (0, S)
  else
    if 126 < a1 then
      some (0, S)
    else
      if (S.1 0) = 80 then
        some (0, S)
      else
        if jx_in (S.1 0) 80 = true then
          some (1, (jx_f (jx_g S 0 (upd (S.2.1 0) ((S.1 0)).toNatClampNeg a1)) 0 ((S.1 0) + 1)))
        else none
set_option maxHeartbeats 4000000 in
set_option maxRecDepth 100000 in
theorem c_M_write (l : Launch) (G : jx_G) (S : jx_S) (a1 : Int32) (fin : Int32 × jx_S) (h : f_M_write S a1 = some fin) : jx_M l y_M_write b_M_write 2 (some .boolean) 0 G [.ref (jx_ad G 18), .int a1] (jr_w G S) (some (.int fin.1), jr_w G fin.2) := by
  refine jx_met (own := "PlaneCellsModel") (by decide) rfl (Nat.le_of_ble_eq_true rfl) (fun X hX hl => ?_)
  subst hl
  refine jx_L (L2 := [(0, .ref (jx_ad G 18)), (1, .int a1)]) rfl ?_
  unfold f_M_write at h
  refine jx_iload_n hX d_M_write_0 1 rfl rfl ?_
  refine jx_bipush (v := 32) hX d_M_write_1 (by decide) ?_
  refine jx_icmp_lt hX d_M_write_3 rfl (fun hc => ?_) (fun hc => ?_)
  · have h := jx_ip hc h
    refine jx_iconst (v := 0) hX d_M_write_21 (by decide) ?_
    obtain rfl := Option.some.inj h
    exact jx_zret hX d_M_write_22 (jx_01n jx_z0)
  · have h := jx_in_ hc h
    refine jx_iload_n hX d_M_write_6 1 rfl rfl ?_
    refine jx_bipush (v := 126) hX d_M_write_7 (by decide) ?_
    refine jx_icmp_gt hX d_M_write_9 rfl (fun hc => ?_) (fun hc => ?_)
    · have h := jx_ip hc h
      refine jx_iconst (v := 0) hX d_M_write_21 (by decide) ?_
      obtain rfl := Option.some.inj h
      exact jx_zret hX d_M_write_22 (jx_01n jx_z0)
    · have h := jx_in_ hc h
      refine jx_aload_n hX d_M_write_12 0 rfl rfl ?_
      refine gf_M_58 hX d_M_write_13 rfl ?_
      refine jx_bipush (v := 80) hX d_M_write_16 (by decide) ?_
      refine jx_icmp_ne hX d_M_write_18 rfl (fun hc => ?_) (fun hc => ?_)
      · have h := jx_in_ hc h
        refine jx_aload_n hX d_M_write_23 0 rfl rfl ?_
        refine gf_M_7 hX d_M_write_24 ?_
        refine jx_aload_n hX d_M_write_27 0 rfl rfl ?_
        refine gf_M_58 hX d_M_write_28 rfl ?_
        refine jx_iload_n hX d_M_write_31 1 rfl rfl ?_
        obtain ⟨hg1, h⟩ := jx_gd h
        refine as_M0 hX d_M_write_32 rfl hg1 ?_
        refine jx_aload_n hX d_M_write_33 0 rfl rfl ?_
        refine jx_dup hX d_M_write_34 rfl ?_
        refine gf_M_58 hX d_M_write_35 (x := (S.1 0)) rfl ?_
        refine jx_iconst (v := 1) hX d_M_write_38 (by decide) ?_
        refine jx_iadd hX d_M_write_39 ?_
        refine pf_M_58 hX d_M_write_40 ?_
        refine jx_iconst (v := 1) hX d_M_write_43 (by decide) ?_
        obtain rfl := Option.some.inj h
        exact jx_zret hX d_M_write_44 (jx_01n jx_z1)
      · have h := jx_ip hc h
        refine jx_iconst (v := 0) hX d_M_write_21 (by decide) ?_
        obtain rfl := Option.some.inj h
        exact jx_zret hX d_M_write_22 (jx_01n jx_z0)

def f_M_at (S : jx_S) (a1 : Int32) : Option (Int32) :=
  if (S.1 1) ≤ a1 then
    some 0
  else
    if jx_in a1 80 = true then
      some ((S.2.1 1) (a1).toNatClampNeg)
    else none
set_option maxHeartbeats 4000000 in
set_option maxRecDepth 100000 in
theorem c_M_at (l : Launch) (G : jx_G) (S : jx_S) (a1 : Int32) (fin : Int32) (h : f_M_at S a1 = some fin) : jx_M l y_M_at b_M_at 2 (some .int) 0 G [.ref (jx_ad G 18), .int a1] (jr_w G S) (some (.int fin), jr_w G S) := by
  refine jx_met (own := "PlaneCellsModel") (by decide) rfl (Nat.le_of_ble_eq_true rfl) (fun X hX hl => ?_)
  subst hl
  refine jx_L (L2 := [(0, .ref (jx_ad G 18)), (1, .int a1)]) rfl ?_
  unfold f_M_at at h
  refine jx_iload_n hX d_M_at_0 1 rfl rfl ?_
  refine jx_aload_n hX d_M_at_1 0 rfl rfl ?_
  refine gf_M_61 hX d_M_at_2 rfl ?_
  refine jx_icmp_ge hX d_M_at_5 rfl (fun hc => ?_) (fun hc => ?_)
  · have h := jx_ip hc h
    refine jx_iconst (v := 0) hX d_M_at_17 (by decide) ?_
    obtain rfl := Option.some.inj h
    exact jx_iret hX d_M_at_18
  · have h := jx_in_ hc h
    refine jx_aload_n hX d_M_at_8 0 rfl rfl ?_
    refine gf_M_13 hX d_M_at_9 ?_
    refine jx_iload_n hX d_M_at_12 1 rfl rfl ?_
    obtain ⟨hg1, h⟩ := jx_gd h
    refine al_M1 hX d_M_at_13 rfl hg1 ?_
    refine jx_goto hX d_M_at_14 rfl ?_
    obtain rfl := Option.some.inj h
    exact jx_iret hX d_M_at_18

def f_M_isDigit (a1 : Int32) : Option (Int32) :=
  some (if a1 < 48 then 0 else (if 57 < a1 then 0 else 1 : Int32) : Int32)
set_option maxHeartbeats 4000000 in
set_option maxRecDepth 100000 in
theorem c_M_isDigit (l : Launch) (G : jx_G) (S : jx_S) (a1 : Int32) (fin : Int32) (h : f_M_isDigit a1 = some fin) : jx_M l y_M_isDigit b_M_isDigit 1 (some .boolean) 0 G [.int a1] (jr_w G S) (some (.int fin), jr_w G S) := by
  refine jx_met (own := "PlaneCellsModel") (by decide) rfl (Nat.le_of_ble_eq_true rfl) (fun X hX hl => ?_)
  subst hl
  refine jx_L (L2 := [(0, .int a1)]) rfl ?_
  unfold f_M_isDigit at h
  refine jx_iload_n hX d_M_isDigit_0 0 rfl rfl ?_
  refine jx_bipush (v := 48) hX d_M_isDigit_1 (by decide) ?_
  have hj : ∀ v : Int32, v = (if a1 < 48 then 0 else (if 57 < a1 then 0 else 1 : Int32) : Int32) → jx_At G X (some (.int fin), jr_w G S) (jr_w G S) 17 [(0, .int a1)] [.int v] := by
    intro v hv
    subst hv
    obtain rfl := Option.some.inj h
    exact jx_zret hX d_M_isDigit_17 (jx_01n (jx_zi jx_z0 (jx_zi jx_z0 jx_z1)))
  refine jx_icmp_lt hX d_M_isDigit_3 rfl (fun hc1 => ?_) (fun hc1 => ?_)
  · refine jx_iconst (v := 0) hX d_M_isDigit_16 (by decide) ?_
    exact hj _ (if_pos hc1).symm
  · refine jx_iload_n hX d_M_isDigit_6 0 rfl rfl ?_
    refine jx_bipush (v := 57) hX d_M_isDigit_7 (by decide) ?_
    refine jx_icmp_gt hX d_M_isDigit_9 rfl (fun hc2 => ?_) (fun hc2 => ?_)
    · refine jx_iconst (v := 0) hX d_M_isDigit_16 (by decide) ?_
      exact hj _ ((if_neg hc1).trans (if_pos hc2)).symm
    · refine jx_iconst (v := 1) hX d_M_isDigit_12 (by decide) ?_
      refine jx_goto hX d_M_isDigit_13 rfl ?_
      exact hj _ ((if_neg hc1).trans (if_neg hc2)).symm

def k_M_term_29 (x0 : Int32) (x1 : Int32) (x2 : Int32) : Option (Int32) :=
  (f_M_isDigit x1).bind fun q30_1 =>
    some (if q30_1 = 0 then (if x1 = 120 then (x2 + 3) else (if x1 = 121 then (x2 + 4) else (-1) : Int32) : Int32) else (x2 + 2) : Int32)

def f_M_term (a1 : Int32) (a2 : Int32) : Option (Int32) :=
  if a2 = 45 then
    if a1 = (if 12 ≤ a1 then 12 else 6 : Int32) then
      some ((if 12 ≤ a1 then 12 else 6 : Int32) + 1)
    else
      k_M_term_29 a1 a2 (if 12 ≤ a1 then 12 else 6 : Int32)
  else
    k_M_term_29 a1 a2 (if 12 ≤ a1 then 12 else 6 : Int32)
set_option maxHeartbeats 4000000 in
set_option maxRecDepth 100000 in
theorem kt_M_term_29 {G : jx_G} {X : jx_C} (hX : jx_Ok G X b_M_term "PlaneCellsModel" (some .int) 3 1) (fin : Int32) (S : jx_S) (x0 : Int32) (x1 : Int32) (x2 : Int32) (h : k_M_term_29 x0 x1 x2 = some fin) : jx_At G X (some (.int fin), jr_w G S) (jr_w G S) 29 [(0, .int x0), (1, .int x1), (2, .int x2)] [] := by
  unfold k_M_term_29 at h
  refine jx_iload_n hX d_M_term_29 1 rfl rfl ?_
  obtain ⟨q30_1, hq30_1, h⟩ := jx_bd h
  refine cs_M_75 hX (c_M_isDigit (jx_l X) G S x1 q30_1 hq30_1) d_M_term_30 (by decide) (Nat.le_of_ble_eq_true rfl) ?_
  have hj : ∀ v : Int32, v = (if q30_1 = 0 then (if x1 = 120 then (x2 + 3) else (if x1 = 121 then (x2 + 4) else (-1) : Int32) : Int32) else (x2 + 2) : Int32) → jx_At G X (some (.int fin), jr_w G S) (jr_w G S) 67 [(0, .int x0), (1, .int x1), (2, .int x2)] [.int v] := by
    intro v hv
    subst hv
    obtain rfl := Option.some.inj h
    exact jx_iret hX d_M_term_67
  refine jx_if_eq hX d_M_term_33 rfl (fun hc2 => ?_) (fun hc2 => ?_)
  · refine jx_iload_n hX d_M_term_42 1 rfl rfl ?_
    refine jx_bipush (v := 120) hX d_M_term_43 (by decide) ?_
    refine jx_icmp_ne hX d_M_term_45 rfl (fun hc3 => ?_) (fun hc3 => ?_)
    · refine jx_iload_n hX d_M_term_54 1 rfl rfl ?_
      refine jx_bipush (v := 121) hX d_M_term_55 (by decide) ?_
      refine jx_icmp_ne hX d_M_term_57 rfl (fun hc4 => ?_) (fun hc4 => ?_)
      · refine jx_iconst (v := (-1)) hX d_M_term_66 (by decide) ?_
        exact hj _ ((if_pos hc2).trans ((if_neg hc3).trans (if_neg hc4))).symm
      · refine jx_iload_n hX d_M_term_60 2 rfl rfl ?_
        refine jx_iconst (v := 4) hX d_M_term_61 (by decide) ?_
        refine jx_iadd hX d_M_term_62 ?_
        refine jx_goto hX d_M_term_63 rfl ?_
        exact hj _ ((if_pos hc2).trans ((if_neg hc3).trans (if_pos hc4))).symm
    · refine jx_iload_n hX d_M_term_48 2 rfl rfl ?_
      refine jx_iconst (v := 3) hX d_M_term_49 (by decide) ?_
      refine jx_iadd hX d_M_term_50 ?_
      refine jx_goto hX d_M_term_51 rfl ?_
      exact hj _ ((if_pos hc2).trans (if_pos hc3)).symm
  · refine jx_iload_n hX d_M_term_36 2 rfl rfl ?_
    refine jx_iconst (v := 2) hX d_M_term_37 (by decide) ?_
    refine jx_iadd hX d_M_term_38 ?_
    refine jx_goto hX d_M_term_39 rfl ?_
    exact hj _ (if_neg hc2).symm

set_option maxHeartbeats 4000000 in
set_option maxRecDepth 100000 in
theorem c_M_term (l : Launch) (G : jx_G) (S : jx_S) (a1 : Int32) (a2 : Int32) (fin : Int32) (h : f_M_term a1 a2 = some fin) : jx_M l y_M_term b_M_term 3 (some .int) 1 G [.int a1, .int a2] (jr_w G S) (some (.int fin), jr_w G S) := by
  refine jx_met (own := "PlaneCellsModel") (by decide) rfl (Nat.le_of_ble_eq_true rfl) (fun X hX hl => ?_)
  subst hl
  refine jx_L (L2 := [(0, .int a1), (1, .int a2)]) rfl ?_
  unfold f_M_term at h
  refine jx_iload_n hX d_M_term_0 0 rfl rfl ?_
  refine jx_bipush (v := 12) hX d_M_term_1 (by decide) ?_
  have hj : ∀ v : Int32, v = (if 12 ≤ a1 then 12 else 6 : Int32) → jx_At G X (some (.int fin), jr_w G S) (jr_w G S) 13 [(0, .int a1), (1, .int a2)] [.int v] := by
    intro v hv
    subst hv
    refine jx_istore_n hX d_M_term_13 rfl (by decide) (L2 := [(2, .int (if 12 ≤ a1 then 12 else 6 : Int32)), (0, .int a1), (1, .int a2)]) rfl ?_
    refine jx_iload_n hX d_M_term_14 2 rfl rfl ?_
    refine jx_bipush (v := 45) hX d_M_term_15 (by decide) ?_
    refine jx_icmp_ne hX d_M_term_17 rfl (fun hc => ?_) (fun hc => ?_)
    · have h := jx_in_ hc h
      refine jx_sub (L2 := [(0, .int a1), (1, .int a2), (2, .int (if 12 ≤ a1 then 12 else 6 : Int32))]) [1, 2, 0] rfl ?_
      exact kt_M_term_29 hX fin S a1 a2 (if 12 ≤ a1 then 12 else 6 : Int32) h
    · have h := jx_ip hc h
      refine jx_iload_n hX d_M_term_20 1 rfl rfl ?_
      refine jx_iload_n hX d_M_term_21 0 rfl rfl ?_
      refine jx_icmp_ne hX d_M_term_22 rfl (fun hc => ?_) (fun hc => ?_)
      · have h := jx_in_ hc h
        refine jx_sub (L2 := [(0, .int a1), (1, .int a2), (2, .int (if 12 ≤ a1 then 12 else 6 : Int32))]) [1, 2, 0] rfl ?_
        exact kt_M_term_29 hX fin S a1 a2 (if 12 ≤ a1 then 12 else 6 : Int32) h
      · have h := jx_ip hc h
        refine jx_iload_n hX d_M_term_25 0 rfl rfl ?_
        refine jx_iconst (v := 1) hX d_M_term_26 (by decide) ?_
        refine jx_iadd hX d_M_term_27 ?_
        obtain rfl := Option.some.inj h
        exact jx_iret hX d_M_term_28
  refine jx_icmp_ge hX d_M_term_3 rfl (fun hc5 => ?_) (fun hc5 => ?_)
  · refine jx_bipush (v := 12) hX d_M_term_11 (by decide) ?_
    exact hj _ (if_pos hc5).symm
  · refine jx_bipush (v := 6) hX d_M_term_6 (by decide) ?_
    refine jx_goto hX d_M_term_8 rfl ?_
    exact hj _ (if_neg hc5).symm

def f_M_behind (a1 : Int32) (a2 : Int32) : Option (Int32) :=
  some (if a1 = 38 then 5 else (if a1 = 124 then 5 else (if a1 = 41 then (if a2 ≤ 0 then (-1) else 18 : Int32) else (-1) : Int32) : Int32) : Int32)
set_option maxHeartbeats 4000000 in
set_option maxRecDepth 100000 in
theorem c_M_behind (l : Launch) (G : jx_G) (S : jx_S) (a1 : Int32) (a2 : Int32) (fin : Int32) (h : f_M_behind a1 a2 = some fin) : jx_M l y_M_behind b_M_behind 2 (some .int) 0 G [.int a1, .int a2] (jr_w G S) (some (.int fin), jr_w G S) := by
  refine jx_met (own := "PlaneCellsModel") (by decide) rfl (Nat.le_of_ble_eq_true rfl) (fun X hX hl => ?_)
  subst hl
  refine jx_L (L2 := [(0, .int a1), (1, .int a2)]) rfl ?_
  unfold f_M_behind at h
  refine jx_iload_n hX d_M_behind_0 0 rfl rfl ?_
  refine jx_bipush (v := 38) hX d_M_behind_1 (by decide) ?_
  have hj : ∀ v : Int32, v = (if a1 = 38 then 5 else (if a1 = 124 then 5 else (if a1 = 41 then (if a2 ≤ 0 then (-1) else 18 : Int32) else (-1) : Int32) : Int32) : Int32) → jx_At G X (some (.int fin), jr_w G S) (jr_w G S) 32 [(0, .int a1), (1, .int a2)] [.int v] := by
    intro v hv
    subst hv
    obtain rfl := Option.some.inj h
    exact jx_iret hX d_M_behind_32
  refine jx_icmp_eq hX d_M_behind_3 rfl (fun hc1 => ?_) (fun hc1 => ?_)
  · refine jx_iconst (v := 5) hX d_M_behind_12 (by decide) ?_
    refine jx_goto hX d_M_behind_13 rfl ?_
    exact hj _ (if_pos hc1).symm
  · refine jx_iload_n hX d_M_behind_6 0 rfl rfl ?_
    refine jx_bipush (v := 124) hX d_M_behind_7 (by decide) ?_
    refine jx_icmp_ne hX d_M_behind_9 rfl (fun hc2 => ?_) (fun hc2 => ?_)
    · refine jx_iload_n hX d_M_behind_16 0 rfl rfl ?_
      refine jx_bipush (v := 41) hX d_M_behind_17 (by decide) ?_
      refine jx_icmp_ne hX d_M_behind_19 rfl (fun hc3 => ?_) (fun hc3 => ?_)
      · refine jx_iconst (v := (-1)) hX d_M_behind_31 (by decide) ?_
        exact hj _ ((if_neg hc1).trans ((if_neg hc2).trans (if_neg hc3))).symm
      · refine jx_iload_n hX d_M_behind_22 1 rfl rfl ?_
        refine jx_if_le hX d_M_behind_23 rfl (fun hc4 => ?_) (fun hc4 => ?_)
        · refine jx_iconst (v := (-1)) hX d_M_behind_31 (by decide) ?_
          exact hj _ ((if_neg hc1).trans ((if_neg hc2).trans ((if_pos hc3).trans (if_pos hc4)))).symm
        · refine jx_bipush (v := 18) hX d_M_behind_26 (by decide) ?_
          refine jx_goto hX d_M_behind_28 rfl ?_
          exact hj _ ((if_neg hc1).trans ((if_neg hc2).trans ((if_pos hc3).trans (if_neg hc4)))).symm
    · refine jx_iconst (v := 5) hX d_M_behind_12 (by decide) ?_
      refine jx_goto hX d_M_behind_13 rfl ?_
      exact hj _ ((if_neg hc1).trans (if_pos hc2)).symm

def k_M_inSum_93 (x0 : Int32) (x1 : Int32) (x2 : Int32) (x3 : Int32) (x4 : Int32) : Option (Int32) :=
  if x1 = 43 then
    some (x3 + 1)
  else
    if x1 = 45 then
      some (x3 + 1)
    else
      if x3 = 12 then
        (f_M_behind x1 x2).bind fun q117_4 =>
          some q117_4
      else
        some (if x1 = 60 then 12 else (if x1 = 61 then 12 else (if x1 = 62 then 12 else (-1) : Int32) : Int32) : Int32)

def k_M_inSum_77 (x0 : Int32) (x1 : Int32) (x2 : Int32) (x3 : Int32) (x4 : Int32) : Option (Int32) :=
  if x4 = 4 then
    if x1 = 120 then
      some (x3 + 5)
    else
      k_M_inSum_93 x0 x1 x2 x3 x4
  else
    k_M_inSum_93 x0 x1 x2 x3 x4

def k_M_inSum_65 (x0 : Int32) (x1 : Int32) (x2 : Int32) (x3 : Int32) (x4 : Int32) : Option (Int32) :=
  if x4 = 3 then
    if x1 = 121 then
      some (x3 + 5)
    else
      k_M_inSum_77 x0 x1 x2 x3 x4
  else
    k_M_inSum_77 x0 x1 x2 x3 x4

def k_M_inSum_49 (x0 : Int32) (x1 : Int32) (x2 : Int32) (x3 : Int32) (x4 : Int32) : Option (Int32) :=
  some (if x1 = 120 then (x3 + 3) else (x3 + 4) : Int32)

def f_M_inSum (a1 : Int32) (a2 : Int32) (a3 : Int32) : Option (Int32) :=
  if 2 ≤ (a1 - (if 12 ≤ a1 then 12 else 6 : Int32)) then
    if (a1 - (if 12 ≤ a1 then 12 else 6 : Int32)) = 2 then
      if a2 = 120 then
        k_M_inSum_49 a1 a2 a3 (if 12 ≤ a1 then 12 else 6 : Int32) (a1 - (if 12 ≤ a1 then 12 else 6 : Int32))
      else
        if a2 = 121 then
          k_M_inSum_49 a1 a2 a3 (if 12 ≤ a1 then 12 else 6 : Int32) (a1 - (if 12 ≤ a1 then 12 else 6 : Int32))
        else
          k_M_inSum_65 a1 a2 a3 (if 12 ≤ a1 then 12 else 6 : Int32) (a1 - (if 12 ≤ a1 then 12 else 6 : Int32))
    else
      k_M_inSum_65 a1 a2 a3 (if 12 ≤ a1 then 12 else 6 : Int32) (a1 - (if 12 ≤ a1 then 12 else 6 : Int32))
  else
    (f_M_term a1 a2).bind fun q27_6 =>
      some q27_6
set_option maxHeartbeats 4000000 in
set_option maxRecDepth 100000 in
theorem kt_M_inSum_93 {G : jx_G} {X : jx_C} (hX : jx_Ok G X b_M_inSum "PlaneCellsModel" (some .int) 5 2) (fin : Int32) (S : jx_S) (x0 : Int32) (x1 : Int32) (x2 : Int32) (x3 : Int32) (x4 : Int32) (h : k_M_inSum_93 x0 x1 x2 x3 x4 = some fin) : jx_At G X (some (.int fin), jr_w G S) (jr_w G S) 93 [(0, .int x0), (1, .int x1), (2, .int x2), (3, .int x3), (4, .int x4)] [] := by
  unfold k_M_inSum_93 at h
  refine jx_iload_n hX d_M_inSum_93 1 rfl rfl ?_
  refine jx_bipush (v := 43) hX d_M_inSum_94 (by decide) ?_
  refine jx_icmp_eq hX d_M_inSum_96 rfl (fun hc => ?_) (fun hc => ?_)
  · have h := jx_ip hc h
    refine jx_iload_n hX d_M_inSum_105 3 rfl rfl ?_
    refine jx_iconst (v := 1) hX d_M_inSum_106 (by decide) ?_
    refine jx_iadd hX d_M_inSum_107 ?_
    obtain rfl := Option.some.inj h
    exact jx_iret hX d_M_inSum_108
  · have h := jx_in_ hc h
    refine jx_iload_n hX d_M_inSum_99 1 rfl rfl ?_
    refine jx_bipush (v := 45) hX d_M_inSum_100 (by decide) ?_
    refine jx_icmp_ne hX d_M_inSum_102 rfl (fun hc => ?_) (fun hc => ?_)
    · have h := jx_in_ hc h
      refine jx_iload_n hX d_M_inSum_109 3 rfl rfl ?_
      refine jx_bipush (v := 12) hX d_M_inSum_110 (by decide) ?_
      refine jx_icmp_ne hX d_M_inSum_112 rfl (fun hc => ?_) (fun hc => ?_)
      · have h := jx_in_ hc h
        refine jx_iload_n hX d_M_inSum_121 1 rfl rfl ?_
        refine jx_bipush (v := 60) hX d_M_inSum_122 (by decide) ?_
        have hj : ∀ v : Int32, v = (if x1 = 60 then 12 else (if x1 = 61 then 12 else (if x1 = 62 then 12 else (-1) : Int32) : Int32) : Int32) → jx_At G X (some (.int fin), jr_w G S) (jr_w G S) 145 [(0, .int x0), (1, .int x1), (2, .int x2), (3, .int x3), (4, .int x4)] [.int v] := by
          intro v hv
          subst hv
          obtain rfl := Option.some.inj h
          exact jx_iret hX d_M_inSum_145
        refine jx_icmp_eq hX d_M_inSum_124 rfl (fun hc1 => ?_) (fun hc1 => ?_)
        · refine jx_bipush (v := 12) hX d_M_inSum_139 (by decide) ?_
          refine jx_goto hX d_M_inSum_141 rfl ?_
          exact hj _ (if_pos hc1).symm
        · refine jx_iload_n hX d_M_inSum_127 1 rfl rfl ?_
          refine jx_bipush (v := 61) hX d_M_inSum_128 (by decide) ?_
          refine jx_icmp_eq hX d_M_inSum_130 rfl (fun hc2 => ?_) (fun hc2 => ?_)
          · refine jx_bipush (v := 12) hX d_M_inSum_139 (by decide) ?_
            refine jx_goto hX d_M_inSum_141 rfl ?_
            exact hj _ ((if_neg hc1).trans (if_pos hc2)).symm
          · refine jx_iload_n hX d_M_inSum_133 1 rfl rfl ?_
            refine jx_bipush (v := 62) hX d_M_inSum_134 (by decide) ?_
            refine jx_icmp_ne hX d_M_inSum_136 rfl (fun hc3 => ?_) (fun hc3 => ?_)
            · refine jx_iconst (v := (-1)) hX d_M_inSum_144 (by decide) ?_
              exact hj _ ((if_neg hc1).trans ((if_neg hc2).trans (if_neg hc3))).symm
            · refine jx_bipush (v := 12) hX d_M_inSum_139 (by decide) ?_
              refine jx_goto hX d_M_inSum_141 rfl ?_
              exact hj _ ((if_neg hc1).trans ((if_neg hc2).trans (if_pos hc3))).symm
      · have h := jx_ip hc h
        refine jx_iload_n hX d_M_inSum_115 1 rfl rfl ?_
        refine jx_iload_n hX d_M_inSum_116 2 rfl rfl ?_
        obtain ⟨q117_4, hq117_4, h⟩ := jx_bd h
        refine cs_M_68 hX (c_M_behind (jx_l X) G S x1 x2 q117_4 hq117_4) d_M_inSum_117 (by decide) (Nat.le_of_ble_eq_true rfl) ?_
        obtain rfl := Option.some.inj h
        exact jx_iret hX d_M_inSum_120
    · have h := jx_ip hc h
      refine jx_iload_n hX d_M_inSum_105 3 rfl rfl ?_
      refine jx_iconst (v := 1) hX d_M_inSum_106 (by decide) ?_
      refine jx_iadd hX d_M_inSum_107 ?_
      obtain rfl := Option.some.inj h
      exact jx_iret hX d_M_inSum_108

set_option maxHeartbeats 4000000 in
set_option maxRecDepth 100000 in
theorem kt_M_inSum_77 {G : jx_G} {X : jx_C} (hX : jx_Ok G X b_M_inSum "PlaneCellsModel" (some .int) 5 2) (fin : Int32) (S : jx_S) (x0 : Int32) (x1 : Int32) (x2 : Int32) (x3 : Int32) (x4 : Int32) (h : k_M_inSum_77 x0 x1 x2 x3 x4 = some fin) : jx_At G X (some (.int fin), jr_w G S) (jr_w G S) 77 [(0, .int x0), (1, .int x1), (2, .int x2), (3, .int x3), (4, .int x4)] [] := by
  unfold k_M_inSum_77 at h
  refine jx_iload hX d_M_inSum_77 4 rfl ?_
  refine jx_iconst (v := 4) hX d_M_inSum_79 (by decide) ?_
  refine jx_icmp_ne hX d_M_inSum_80 rfl (fun hc => ?_) (fun hc => ?_)
  · have h := jx_in_ hc h
    exact kt_M_inSum_93 hX fin S x0 x1 x2 x3 x4 h
  · have h := jx_ip hc h
    refine jx_iload_n hX d_M_inSum_83 1 rfl rfl ?_
    refine jx_bipush (v := 120) hX d_M_inSum_84 (by decide) ?_
    refine jx_icmp_ne hX d_M_inSum_86 rfl (fun hc => ?_) (fun hc => ?_)
    · have h := jx_in_ hc h
      exact kt_M_inSum_93 hX fin S x0 x1 x2 x3 x4 h
    · have h := jx_ip hc h
      refine jx_iload_n hX d_M_inSum_89 3 rfl rfl ?_
      refine jx_iconst (v := 5) hX d_M_inSum_90 (by decide) ?_
      refine jx_iadd hX d_M_inSum_91 ?_
      obtain rfl := Option.some.inj h
      exact jx_iret hX d_M_inSum_92

set_option maxHeartbeats 4000000 in
set_option maxRecDepth 100000 in
theorem kt_M_inSum_65 {G : jx_G} {X : jx_C} (hX : jx_Ok G X b_M_inSum "PlaneCellsModel" (some .int) 5 2) (fin : Int32) (S : jx_S) (x0 : Int32) (x1 : Int32) (x2 : Int32) (x3 : Int32) (x4 : Int32) (h : k_M_inSum_65 x0 x1 x2 x3 x4 = some fin) : jx_At G X (some (.int fin), jr_w G S) (jr_w G S) 65 [(0, .int x0), (1, .int x1), (2, .int x2), (3, .int x3), (4, .int x4)] [] := by
  unfold k_M_inSum_65 at h
  refine jx_iload hX d_M_inSum_65 4 rfl ?_
  refine jx_iconst (v := 3) hX d_M_inSum_67 (by decide) ?_
  refine jx_icmp_ne hX d_M_inSum_68 rfl (fun hc => ?_) (fun hc => ?_)
  · have h := jx_in_ hc h
    exact kt_M_inSum_77 hX fin S x0 x1 x2 x3 x4 h
  · have h := jx_ip hc h
    refine jx_iload_n hX d_M_inSum_71 1 rfl rfl ?_
    refine jx_bipush (v := 121) hX d_M_inSum_72 (by decide) ?_
    refine jx_icmp_eq hX d_M_inSum_74 rfl (fun hc => ?_) (fun hc => ?_)
    · have h := jx_ip hc h
      refine jx_iload_n hX d_M_inSum_89 3 rfl rfl ?_
      refine jx_iconst (v := 5) hX d_M_inSum_90 (by decide) ?_
      refine jx_iadd hX d_M_inSum_91 ?_
      obtain rfl := Option.some.inj h
      exact jx_iret hX d_M_inSum_92
    · have h := jx_in_ hc h
      exact kt_M_inSum_77 hX fin S x0 x1 x2 x3 x4 h

set_option maxHeartbeats 4000000 in
set_option maxRecDepth 100000 in
theorem kt_M_inSum_49 {G : jx_G} {X : jx_C} (hX : jx_Ok G X b_M_inSum "PlaneCellsModel" (some .int) 5 2) (fin : Int32) (S : jx_S) (x0 : Int32) (x1 : Int32) (x2 : Int32) (x3 : Int32) (x4 : Int32) (h : k_M_inSum_49 x0 x1 x2 x3 x4 = some fin) : jx_At G X (some (.int fin), jr_w G S) (jr_w G S) 49 [(0, .int x0), (1, .int x1), (2, .int x2), (3, .int x3), (4, .int x4)] [] := by
  unfold k_M_inSum_49 at h
  refine jx_iload_n hX d_M_inSum_49 1 rfl rfl ?_
  refine jx_bipush (v := 120) hX d_M_inSum_50 (by decide) ?_
  have hj : ∀ v : Int32, v = (if x1 = 120 then (x3 + 3) else (x3 + 4) : Int32) → jx_At G X (some (.int fin), jr_w G S) (jr_w G S) 64 [(0, .int x0), (1, .int x1), (2, .int x2), (3, .int x3), (4, .int x4)] [.int v] := by
    intro v hv
    subst hv
    obtain rfl := Option.some.inj h
    exact jx_iret hX d_M_inSum_64
  refine jx_icmp_ne hX d_M_inSum_52 rfl (fun hc5 => ?_) (fun hc5 => ?_)
  · refine jx_iload_n hX d_M_inSum_61 3 rfl rfl ?_
    refine jx_iconst (v := 4) hX d_M_inSum_62 (by decide) ?_
    refine jx_iadd hX d_M_inSum_63 ?_
    exact hj _ (if_neg hc5).symm
  · refine jx_iload_n hX d_M_inSum_55 3 rfl rfl ?_
    refine jx_iconst (v := 3) hX d_M_inSum_56 (by decide) ?_
    refine jx_iadd hX d_M_inSum_57 ?_
    refine jx_goto hX d_M_inSum_58 rfl ?_
    exact hj _ (if_pos hc5).symm

set_option maxHeartbeats 4000000 in
set_option maxRecDepth 100000 in
theorem c_M_inSum (l : Launch) (G : jx_G) (S : jx_S) (a1 : Int32) (a2 : Int32) (a3 : Int32) (fin : Int32) (h : f_M_inSum a1 a2 a3 = some fin) : jx_M l y_M_inSum b_M_inSum 5 (some .int) 2 G [.int a1, .int a2, .int a3] (jr_w G S) (some (.int fin), jr_w G S) := by
  refine jx_met (own := "PlaneCellsModel") (by decide) rfl (Nat.le_of_ble_eq_true rfl) (fun X hX hl => ?_)
  subst hl
  refine jx_L (L2 := [(0, .int a1), (1, .int a2), (2, .int a3)]) rfl ?_
  unfold f_M_inSum at h
  refine jx_iload_n hX d_M_inSum_0 0 rfl rfl ?_
  refine jx_bipush (v := 12) hX d_M_inSum_1 (by decide) ?_
  have hj : ∀ v : Int32, v = (if 12 ≤ a1 then 12 else 6 : Int32) → jx_At G X (some (.int fin), jr_w G S) (jr_w G S) 13 [(0, .int a1), (1, .int a2), (2, .int a3)] [.int v] := by
    intro v hv
    subst hv
    refine jx_istore_n hX d_M_inSum_13 rfl (by decide) (L2 := [(3, .int (if 12 ≤ a1 then 12 else 6 : Int32)), (0, .int a1), (1, .int a2), (2, .int a3)]) rfl ?_
    refine jx_iload_n hX d_M_inSum_14 1 rfl rfl ?_
    refine jx_iload_n hX d_M_inSum_15 0 rfl rfl ?_
    refine jx_isub hX d_M_inSum_16 ?_
    refine jx_istore hX d_M_inSum_17 (by decide) (L2 := [(4, .int (a1 - (if 12 ≤ a1 then 12 else 6 : Int32))), (3, .int (if 12 ≤ a1 then 12 else 6 : Int32)), (0, .int a1), (1, .int a2), (2, .int a3)]) rfl ?_
    refine jx_iload hX d_M_inSum_19 0 rfl ?_
    refine jx_iconst (v := 2) hX d_M_inSum_21 (by decide) ?_
    refine jx_icmp_ge hX d_M_inSum_22 rfl (fun hc => ?_) (fun hc => ?_)
    · have h := jx_ip hc h
      refine jx_iload hX d_M_inSum_31 0 rfl ?_
      refine jx_iconst (v := 2) hX d_M_inSum_33 (by decide) ?_
      refine jx_icmp_ne hX d_M_inSum_34 rfl (fun hc => ?_) (fun hc => ?_)
      · have h := jx_in_ hc h
        refine jx_sub (L2 := [(0, .int a1), (1, .int a2), (2, .int a3), (3, .int (if 12 ≤ a1 then 12 else 6 : Int32)), (4, .int (a1 - (if 12 ≤ a1 then 12 else 6 : Int32)))]) [2, 3, 4, 1, 0] rfl ?_
        exact kt_M_inSum_65 hX fin S a1 a2 a3 (if 12 ≤ a1 then 12 else 6 : Int32) (a1 - (if 12 ≤ a1 then 12 else 6 : Int32)) h
      · have h := jx_ip hc h
        refine jx_iload_n hX d_M_inSum_37 3 rfl rfl ?_
        refine jx_bipush (v := 120) hX d_M_inSum_38 (by decide) ?_
        refine jx_icmp_eq hX d_M_inSum_40 rfl (fun hc => ?_) (fun hc => ?_)
        · have h := jx_ip hc h
          refine jx_sub (L2 := [(0, .int a1), (1, .int a2), (2, .int a3), (3, .int (if 12 ≤ a1 then 12 else 6 : Int32)), (4, .int (a1 - (if 12 ≤ a1 then 12 else 6 : Int32)))]) [2, 3, 4, 1, 0] rfl ?_
          exact kt_M_inSum_49 hX fin S a1 a2 a3 (if 12 ≤ a1 then 12 else 6 : Int32) (a1 - (if 12 ≤ a1 then 12 else 6 : Int32)) h
        · have h := jx_in_ hc h
          refine jx_iload_n hX d_M_inSum_43 3 rfl rfl ?_
          refine jx_bipush (v := 121) hX d_M_inSum_44 (by decide) ?_
          refine jx_icmp_ne hX d_M_inSum_46 rfl (fun hc => ?_) (fun hc => ?_)
          · have h := jx_in_ hc h
            refine jx_sub (L2 := [(0, .int a1), (1, .int a2), (2, .int a3), (3, .int (if 12 ≤ a1 then 12 else 6 : Int32)), (4, .int (a1 - (if 12 ≤ a1 then 12 else 6 : Int32)))]) [2, 3, 4, 1, 0] rfl ?_
            exact kt_M_inSum_65 hX fin S a1 a2 a3 (if 12 ≤ a1 then 12 else 6 : Int32) (a1 - (if 12 ≤ a1 then 12 else 6 : Int32)) h
          · have h := jx_ip hc h
            refine jx_sub (L2 := [(0, .int a1), (1, .int a2), (2, .int a3), (3, .int (if 12 ≤ a1 then 12 else 6 : Int32)), (4, .int (a1 - (if 12 ≤ a1 then 12 else 6 : Int32)))]) [2, 3, 4, 1, 0] rfl ?_
            exact kt_M_inSum_49 hX fin S a1 a2 a3 (if 12 ≤ a1 then 12 else 6 : Int32) (a1 - (if 12 ≤ a1 then 12 else 6 : Int32)) h
    · have h := jx_in_ hc h
      refine jx_iload_n hX d_M_inSum_25 2 rfl rfl ?_
      refine jx_iload_n hX d_M_inSum_26 3 rfl rfl ?_
      obtain ⟨q27_6, hq27_6, h⟩ := jx_bd h
      refine cs_M_64 hX (c_M_term (jx_l X) G S a1 a2 q27_6 hq27_6) d_M_inSum_27 (by decide) (Nat.le_of_ble_eq_true rfl) ?_
      obtain rfl := Option.some.inj h
      exact jx_iret hX d_M_inSum_30
  refine jx_icmp_ge hX d_M_inSum_3 rfl (fun hc7 => ?_) (fun hc7 => ?_)
  · refine jx_bipush (v := 12) hX d_M_inSum_11 (by decide) ?_
    exact hj _ (if_pos hc7).symm
  · refine jx_bipush (v := 6) hX d_M_inSum_6 (by decide) ?_
    refine jx_goto hX d_M_inSum_8 rfl ?_
    exact hj _ (if_neg hc7).symm

def f_M_after (a1 : Int32) (a2 : Int32) (a3 : Int32) : Option (Int32) :=
  if a1 = 0 then
    some (if a2 = 69 then 1 else (if a2 = 65 then 1 else (-1) : Int32) : Int32)
  else
    if a1 = 1 then
      some (if a2 = 120 then 2 else (-1) : Int32)
    else
      if a1 = 2 then
        some (if a2 = 69 then 3 else (if a2 = 65 then 3 else (-1) : Int32) : Int32)
      else
        if a1 = 3 then
          some (if a2 = 121 then 4 else (-1) : Int32)
        else
          if a1 = 4 then
            some (if a2 = 58 then 5 else (-1) : Int32)
          else
            if a1 = 5 then
              if a2 = 126 then
                some 5
              else
                if a2 = 40 then
                  some 5
                else
                  (f_M_term 6 a2).bind fun q183_14 =>
                    some q183_14
            else
              if a1 = 18 then
                (f_M_behind a2 a3).bind fun q189_16 =>
                  some q189_16
              else
                (f_M_inSum a1 a2 a3).bind fun q196_17 =>
                  some q196_17
set_option maxHeartbeats 4000000 in
set_option maxRecDepth 100000 in
theorem c_M_after (l : Launch) (G : jx_G) (S : jx_S) (a1 : Int32) (a2 : Int32) (a3 : Int32) (fin : Int32) (h : f_M_after a1 a2 a3 = some fin) : jx_M l y_M_after b_M_after 3 (some .int) 3 G [.int a1, .int a2, .int a3] (jr_w G S) (some (.int fin), jr_w G S) := by
  refine jx_met (own := "PlaneCellsModel") (by decide) rfl (Nat.le_of_ble_eq_true rfl) (fun X hX hl => ?_)
  subst hl
  refine jx_L (L2 := [(0, .int a1), (1, .int a2), (2, .int a3)]) rfl ?_
  unfold f_M_after at h
  refine jx_iload_n hX d_M_after_0 0 rfl rfl ?_
  by_cases hs1 : a1 = 0
  · have h := jx_ip hs1 h
    refine jx_tin hX d_M_after_1 (j := 0) (by rw [hs1]; rfl) (by rw [hs1]; decide) (by rw [hs1]; decide) rfl rfl ?_
    refine jx_iload_n hX d_M_after_92 1 rfl rfl ?_
    refine jx_bipush (v := 69) hX d_M_after_93 (by decide) ?_
    have hj : ∀ v : Int32, v = (if a2 = 69 then 1 else (if a2 = 65 then 1 else (-1) : Int32) : Int32) → jx_At G X (some (.int fin), jr_w G S) (jr_w G S) 109 [(0, .int a1), (1, .int a2), (2, .int a3)] [.int v] := by
      intro v hv
      subst hv
      obtain rfl := Option.some.inj h
      exact jx_iret hX d_M_after_109
    refine jx_icmp_eq hX d_M_after_95 rfl (fun hc2 => ?_) (fun hc2 => ?_)
    · refine jx_iconst (v := 1) hX d_M_after_104 (by decide) ?_
      refine jx_goto hX d_M_after_105 rfl ?_
      exact hj _ (if_pos hc2).symm
    · refine jx_iload_n hX d_M_after_98 1 rfl rfl ?_
      refine jx_bipush (v := 65) hX d_M_after_99 (by decide) ?_
      refine jx_icmp_ne hX d_M_after_101 rfl (fun hc3 => ?_) (fun hc3 => ?_)
      · refine jx_iconst (v := (-1)) hX d_M_after_108 (by decide) ?_
        exact hj _ ((if_neg hc2).trans (if_neg hc3)).symm
      · refine jx_iconst (v := 1) hX d_M_after_104 (by decide) ?_
        refine jx_goto hX d_M_after_105 rfl ?_
        exact hj _ ((if_neg hc2).trans (if_pos hc3)).symm
  · have h := jx_in_ hs1 h
    by_cases hs4 : a1 = 1
    · have h := jx_ip hs4 h
      refine jx_tin hX d_M_after_1 (j := 1) (by rw [hs4]; rfl) (by rw [hs4]; decide) (by rw [hs4]; decide) rfl rfl ?_
      refine jx_iload_n hX d_M_after_110 1 rfl rfl ?_
      refine jx_bipush (v := 120) hX d_M_after_111 (by decide) ?_
      have hj : ∀ v : Int32, v = (if a2 = 120 then 2 else (-1) : Int32) → jx_At G X (some (.int fin), jr_w G S) (jr_w G S) 121 [(0, .int a1), (1, .int a2), (2, .int a3)] [.int v] := by
        intro v hv
        subst hv
        obtain rfl := Option.some.inj h
        exact jx_iret hX d_M_after_121
      refine jx_icmp_ne hX d_M_after_113 rfl (fun hc5 => ?_) (fun hc5 => ?_)
      · refine jx_iconst (v := (-1)) hX d_M_after_120 (by decide) ?_
        exact hj _ (if_neg hc5).symm
      · refine jx_iconst (v := 2) hX d_M_after_116 (by decide) ?_
        refine jx_goto hX d_M_after_117 rfl ?_
        exact hj _ (if_pos hc5).symm
    · have h := jx_in_ hs4 h
      by_cases hs6 : a1 = 2
      · have h := jx_ip hs6 h
        refine jx_tin hX d_M_after_1 (j := 2) (by rw [hs6]; rfl) (by rw [hs6]; decide) (by rw [hs6]; decide) rfl rfl ?_
        refine jx_iload_n hX d_M_after_122 1 rfl rfl ?_
        refine jx_bipush (v := 69) hX d_M_after_123 (by decide) ?_
        have hj : ∀ v : Int32, v = (if a2 = 69 then 3 else (if a2 = 65 then 3 else (-1) : Int32) : Int32) → jx_At G X (some (.int fin), jr_w G S) (jr_w G S) 139 [(0, .int a1), (1, .int a2), (2, .int a3)] [.int v] := by
          intro v hv
          subst hv
          obtain rfl := Option.some.inj h
          exact jx_iret hX d_M_after_139
        refine jx_icmp_eq hX d_M_after_125 rfl (fun hc7 => ?_) (fun hc7 => ?_)
        · refine jx_iconst (v := 3) hX d_M_after_134 (by decide) ?_
          refine jx_goto hX d_M_after_135 rfl ?_
          exact hj _ (if_pos hc7).symm
        · refine jx_iload_n hX d_M_after_128 1 rfl rfl ?_
          refine jx_bipush (v := 65) hX d_M_after_129 (by decide) ?_
          refine jx_icmp_ne hX d_M_after_131 rfl (fun hc8 => ?_) (fun hc8 => ?_)
          · refine jx_iconst (v := (-1)) hX d_M_after_138 (by decide) ?_
            exact hj _ ((if_neg hc7).trans (if_neg hc8)).symm
          · refine jx_iconst (v := 3) hX d_M_after_134 (by decide) ?_
            refine jx_goto hX d_M_after_135 rfl ?_
            exact hj _ ((if_neg hc7).trans (if_pos hc8)).symm
      · have h := jx_in_ hs6 h
        by_cases hs9 : a1 = 3
        · have h := jx_ip hs9 h
          refine jx_tin hX d_M_after_1 (j := 3) (by rw [hs9]; rfl) (by rw [hs9]; decide) (by rw [hs9]; decide) rfl rfl ?_
          refine jx_iload_n hX d_M_after_140 1 rfl rfl ?_
          refine jx_bipush (v := 121) hX d_M_after_141 (by decide) ?_
          have hj : ∀ v : Int32, v = (if a2 = 121 then 4 else (-1) : Int32) → jx_At G X (some (.int fin), jr_w G S) (jr_w G S) 151 [(0, .int a1), (1, .int a2), (2, .int a3)] [.int v] := by
            intro v hv
            subst hv
            obtain rfl := Option.some.inj h
            exact jx_iret hX d_M_after_151
          refine jx_icmp_ne hX d_M_after_143 rfl (fun hc10 => ?_) (fun hc10 => ?_)
          · refine jx_iconst (v := (-1)) hX d_M_after_150 (by decide) ?_
            exact hj _ (if_neg hc10).symm
          · refine jx_iconst (v := 4) hX d_M_after_146 (by decide) ?_
            refine jx_goto hX d_M_after_147 rfl ?_
            exact hj _ (if_pos hc10).symm
        · have h := jx_in_ hs9 h
          by_cases hs11 : a1 = 4
          · have h := jx_ip hs11 h
            refine jx_tin hX d_M_after_1 (j := 4) (by rw [hs11]; rfl) (by rw [hs11]; decide) (by rw [hs11]; decide) rfl rfl ?_
            refine jx_iload_n hX d_M_after_152 1 rfl rfl ?_
            refine jx_bipush (v := 58) hX d_M_after_153 (by decide) ?_
            have hj : ∀ v : Int32, v = (if a2 = 58 then 5 else (-1) : Int32) → jx_At G X (some (.int fin), jr_w G S) (jr_w G S) 163 [(0, .int a1), (1, .int a2), (2, .int a3)] [.int v] := by
              intro v hv
              subst hv
              obtain rfl := Option.some.inj h
              exact jx_iret hX d_M_after_163
            refine jx_icmp_ne hX d_M_after_155 rfl (fun hc12 => ?_) (fun hc12 => ?_)
            · refine jx_iconst (v := (-1)) hX d_M_after_162 (by decide) ?_
              exact hj _ (if_neg hc12).symm
            · refine jx_iconst (v := 5) hX d_M_after_158 (by decide) ?_
              refine jx_goto hX d_M_after_159 rfl ?_
              exact hj _ (if_pos hc12).symm
          · have h := jx_in_ hs11 h
            by_cases hs13 : a1 = 5
            · have h := jx_ip hs13 h
              refine jx_tin hX d_M_after_1 (j := 5) (by rw [hs13]; rfl) (by rw [hs13]; decide) (by rw [hs13]; decide) rfl rfl ?_
              refine jx_iload_n hX d_M_after_164 1 rfl rfl ?_
              refine jx_bipush (v := 126) hX d_M_after_165 (by decide) ?_
              refine jx_icmp_eq hX d_M_after_167 rfl (fun hc => ?_) (fun hc => ?_)
              · have h := jx_ip hc h
                refine jx_iconst (v := 5) hX d_M_after_176 (by decide) ?_
                refine jx_goto hX d_M_after_177 rfl ?_
                obtain rfl := Option.some.inj h
                exact jx_iret hX d_M_after_186
              · have h := jx_in_ hc h
                refine jx_iload_n hX d_M_after_170 1 rfl rfl ?_
                refine jx_bipush (v := 40) hX d_M_after_171 (by decide) ?_
                refine jx_icmp_ne hX d_M_after_173 rfl (fun hc => ?_) (fun hc => ?_)
                · have h := jx_in_ hc h
                  refine jx_bipush (v := 6) hX d_M_after_180 (by decide) ?_
                  refine jx_iload_n hX d_M_after_182 1 rfl rfl ?_
                  obtain ⟨q183_14, hq183_14, h⟩ := jx_bd h
                  refine cs_M_64 hX (c_M_term (jx_l X) G S 6 a2 q183_14 hq183_14) d_M_after_183 (by decide) (Nat.le_of_ble_eq_true rfl) ?_
                  obtain rfl := Option.some.inj h
                  exact jx_iret hX d_M_after_186
                · have h := jx_ip hc h
                  refine jx_iconst (v := 5) hX d_M_after_176 (by decide) ?_
                  refine jx_goto hX d_M_after_177 rfl ?_
                  obtain rfl := Option.some.inj h
                  exact jx_iret hX d_M_after_186
            · have h := jx_in_ hs13 h
              by_cases hs15 : a1 = 18
              · have h := jx_ip hs15 h
                refine jx_tin hX d_M_after_1 (j := 18) (by rw [hs15]; rfl) (by rw [hs15]; decide) (by rw [hs15]; decide) rfl rfl ?_
                refine jx_iload_n hX d_M_after_187 1 rfl rfl ?_
                refine jx_iload_n hX d_M_after_188 2 rfl rfl ?_
                obtain ⟨q189_16, hq189_16, h⟩ := jx_bd h
                refine cs_M_68 hX (c_M_behind (jx_l X) G S a2 a3 q189_16 hq189_16) d_M_after_189 (by decide) (Nat.le_of_ble_eq_true rfl) ?_
                obtain rfl := Option.some.inj h
                exact jx_iret hX d_M_after_192
              · have h := jx_in_ hs15 h
                refine jx_tdf hX d_M_after_1 (fun h1 h2 => ?_) rfl ?_
                · have f0 : a1.toInt ≠ 0 := fun q => hs1 (Int32.toInt_inj.mp q)
                  have f1 : a1.toInt ≠ 1 := fun q => hs4 (Int32.toInt_inj.mp q)
                  have f2 : a1.toInt ≠ 2 := fun q => hs6 (Int32.toInt_inj.mp q)
                  have f3 : a1.toInt ≠ 3 := fun q => hs9 (Int32.toInt_inj.mp q)
                  have f4 : a1.toInt ≠ 4 := fun q => hs11 (Int32.toInt_inj.mp q)
                  have f5 : a1.toInt ≠ 5 := fun q => hs13 (Int32.toInt_inj.mp q)
                  have f6 : a1.toInt ≠ 18 := fun q => hs15 (Int32.toInt_inj.mp q)
                  rcases (by omega : a1.toInt = 6 ∨ a1.toInt = 7 ∨ a1.toInt = 8 ∨ a1.toInt = 9 ∨ a1.toInt = 10 ∨ a1.toInt = 11 ∨ a1.toInt = 12 ∨ a1.toInt = 13 ∨ a1.toInt = 14 ∨ a1.toInt = 15 ∨ a1.toInt = 16 ∨ a1.toInt = 17) with e | e | e | e | e | e | e | e | e | e | e | e <;> (rw [e]; rfl)
                · refine jx_iload_n hX d_M_after_193 0 rfl rfl ?_
                  refine jx_iload_n hX d_M_after_194 1 rfl rfl ?_
                  refine jx_iload_n hX d_M_after_195 2 rfl rfl ?_
                  obtain ⟨q196_17, hq196_17, h⟩ := jx_bd h
                  refine cs_M_71 hX (c_M_inSum (jx_l X) G S a1 a2 a3 q196_17 hq196_17) d_M_after_196 (by decide) (Nat.le_of_ble_eq_true rfl) ?_
                  obtain rfl := Option.some.inj h
                  exact jx_iret hX d_M_after_199

def f_M_mayEnd (S : jx_S) (a1 : Int32) (a2 : Int32) : Option (Int32) :=
  some (if a2 = 0 then (if a1 = 18 then 1 else (if a1 ≤ 13 then 0 else (if 18 ≤ a1 then 0 else 1 : Int32) : Int32) : Int32) else 0 : Int32)
set_option maxHeartbeats 4000000 in
set_option maxRecDepth 100000 in
theorem c_M_mayEnd (l : Launch) (G : jx_G) (S : jx_S) (a1 : Int32) (a2 : Int32) (fin : Int32) (h : f_M_mayEnd S a1 a2 = some fin) : jx_M l y_M_mayEnd b_M_mayEnd 3 (some .boolean) 0 G [.ref (jx_ad G 18), .int a1, .int a2] (jr_w G S) (some (.int fin), jr_w G S) := by
  refine jx_met (own := "PlaneCellsModel") (by decide) rfl (Nat.le_of_ble_eq_true rfl) (fun X hX hl => ?_)
  subst hl
  refine jx_L (L2 := [(0, .ref (jx_ad G 18)), (1, .int a1), (2, .int a2)]) rfl ?_
  unfold f_M_mayEnd at h
  refine jx_iload_n hX d_M_mayEnd_0 2 rfl rfl ?_
  have hj : ∀ v : Int32, v = (if a2 = 0 then (if a1 = 18 then 1 else (if a1 ≤ 13 then 0 else (if 18 ≤ a1 then 0 else 1 : Int32) : Int32) : Int32) else 0 : Int32) → jx_At G X (some (.int fin), jr_w G S) (jr_w G S) 27 [(0, .ref (jx_ad G 18)), (1, .int a1), (2, .int a2)] [.int v] := by
    intro v hv
    subst hv
    obtain rfl := Option.some.inj h
    exact jx_zret hX d_M_mayEnd_27 (jx_01n (jx_zi (jx_zi jx_z1 (jx_zi jx_z0 (jx_zi jx_z0 jx_z1))) jx_z0))
  refine jx_if_ne hX d_M_mayEnd_1 rfl (fun hc1 => ?_) (fun hc1 => ?_)
  · refine jx_iconst (v := 0) hX d_M_mayEnd_26 (by decide) ?_
    exact hj _ (if_neg hc1).symm
  · refine jx_iload_n hX d_M_mayEnd_4 1 rfl rfl ?_
    refine jx_bipush (v := 18) hX d_M_mayEnd_5 (by decide) ?_
    refine jx_icmp_eq hX d_M_mayEnd_7 rfl (fun hc2 => ?_) (fun hc2 => ?_)
    · refine jx_iconst (v := 1) hX d_M_mayEnd_22 (by decide) ?_
      refine jx_goto hX d_M_mayEnd_23 rfl ?_
      exact hj _ ((if_pos hc1).trans (if_pos hc2)).symm
    · refine jx_iload_n hX d_M_mayEnd_10 1 rfl rfl ?_
      refine jx_bipush (v := 13) hX d_M_mayEnd_11 (by decide) ?_
      refine jx_icmp_le hX d_M_mayEnd_13 rfl (fun hc3 => ?_) (fun hc3 => ?_)
      · refine jx_iconst (v := 0) hX d_M_mayEnd_26 (by decide) ?_
        exact hj _ ((if_pos hc1).trans ((if_neg hc2).trans (if_pos hc3))).symm
      · refine jx_iload_n hX d_M_mayEnd_16 1 rfl rfl ?_
        refine jx_bipush (v := 18) hX d_M_mayEnd_17 (by decide) ?_
        refine jx_icmp_ge hX d_M_mayEnd_19 rfl (fun hc4 => ?_) (fun hc4 => ?_)
        · refine jx_iconst (v := 0) hX d_M_mayEnd_26 (by decide) ?_
          exact hj _ ((if_pos hc1).trans ((if_neg hc2).trans ((if_neg hc3).trans (if_pos hc4)))).symm
        · refine jx_iconst (v := 1) hX d_M_mayEnd_22 (by decide) ?_
          refine jx_goto hX d_M_mayEnd_23 rfl ?_
          exact hj _ ((if_pos hc1).trans ((if_neg hc2).trans ((if_neg hc3).trans (if_neg hc4)))).symm

def b_M_illAt_6 (S : jx_S)  (z : Int32 × Int32 × Int32) : Option ((Int32 × Int32 × Int32) ⊕ ((Int32 × Int32) ⊕ Int32)) :=
  if (S.1 1) ≤ z.2.2 then
    some (.inr (.inl (z.1, z.2.1)))
  else
    (f_M_at S z.2.2).bind fun q17_1 =>
      (f_M_after z.1 q17_1 z.2.1).bind fun q21_2 =>
        if 0 ≤ q21_2 then
          (f_M_at S z.2.2).bind fun q33_3 =>
            if q33_3 = 40 then
              (f_M_at S z.2.2).bind fun q46_5 =>
                if q46_5 = 41 then
                  some (.inl (q21_2, ((z.2.1 + 1) + (-1)), (z.2.2 + 1)))
                else
                  some (.inl (q21_2, (z.2.1 + 1), (z.2.2 + 1)))
            else
              (f_M_at S z.2.2).bind fun q46_4 =>
                if q46_4 = 41 then
                  some (.inl (q21_2, (z.2.1 + (-1)), (z.2.2 + 1)))
                else
                  some (.inl (q21_2, z.2.1, (z.2.2 + 1)))
        else
          some (.inr (.inr z.2.2))

def f_M_illAt (S : jx_S)  : Option (Int32) :=
  (jx_lp (b_M_illAt_6 S) jx_N (0, 0, 0)).bind (Sum.elim (fun z6_6 =>
    (f_M_mayEnd S z6_6.1 z6_6.2).bind fun q66_7 =>
      some (if q66_7 = 0 then (S.1 1) else (-1) : Int32))
    (fun y => some y))
set_option maxHeartbeats 4000000 in
set_option maxRecDepth 100000 in
theorem lt_M_illAt_6 {G : jx_G} {X : jx_C} (hX : jx_Ok G X b_M_illAt "PlaneCellsModel" (some .int) 4 4) (fin : Int32) (S : jx_S)  {n : Nat} {z : Int32 × Int32 × Int32} {r : (Int32 × Int32) ⊕ Int32} (hz : jx_lp (b_M_illAt_6 S) n z = some r) (hk : ∀ u, r = .inl u → jx_At G X (some (.int fin), jr_w G S) (jr_w G S) 63 [(0, .ref (jx_ad G 18)), (1, .int u.1), (2, .int u.2)] []) (hy : ∀ y, r = .inr y → y = fin) : jx_At G X (some (.int fin), jr_w G S) (jr_w G S) 6 [(0, .ref (jx_ad G 18)), (1, .int z.1), (2, .int z.2.1), (3, .int z.2.2)] [] := by
  refine jx_loop2 (b_M_illAt_6 S) (fun z => jx_At G X (some (.int fin), jr_w G S) (jr_w G S) 6 [(0, .ref (jx_ad G 18)), (1, .int z.1), (2, .int z.2.1), (3, .int z.2.2)] []) (fun z => jx_At G X (some (.int fin), jr_w G S) (jr_w G S) 63 [(0, .ref (jx_ad G 18)), (1, .int z.1), (2, .int z.2)] []) fin ?_ n z r hz hk hy
  intro z o h hi hx hr
  unfold b_M_illAt_6 at h
  refine jx_iload_n hX d_M_illAt_6 3 rfl rfl ?_
  refine jx_aload_n hX d_M_illAt_7 0 rfl rfl ?_
  refine gf_M_61 hX d_M_illAt_8 rfl ?_
  refine jx_icmp_ge hX d_M_illAt_11 rfl (fun hc => ?_) (fun hc => ?_)
  · have h := jx_ip hc h
    refine jx_sub (L2 := [(0, .ref (jx_ad G 18)), (1, .int z.1), (2, .int z.2.1)]) [0, 1, 2] rfl ?_
    obtain rfl := Option.some.inj h
    exact hx _ rfl
  · have h := jx_in_ hc h
    refine jx_iload_n hX d_M_illAt_14 1 rfl rfl ?_
    refine jx_aload_n hX d_M_illAt_15 0 rfl rfl ?_
    refine jx_iload_n hX d_M_illAt_16 3 rfl rfl ?_
    obtain ⟨q17_1, hq17_1, h⟩ := jx_bd h
    refine cs_M_79 hX (c_M_at (jx_l X) G S z.2.2 q17_1 hq17_1) d_M_illAt_17 (by decide) (Nat.le_of_ble_eq_true rfl) ?_
    refine jx_iload_n hX d_M_illAt_20 2 rfl rfl ?_
    obtain ⟨q21_2, hq21_2, h⟩ := jx_bd h
    refine cs_M_83 hX (c_M_after (jx_l X) G S z.1 q17_1 z.2.1 q21_2 hq21_2) d_M_illAt_21 (by decide) (Nat.le_of_ble_eq_true rfl) ?_
    refine jx_istore_n hX d_M_illAt_24 rfl (by decide) (L2 := [(1, .int q21_2), (0, .ref (jx_ad G 18)), (2, .int z.2.1), (3, .int z.2.2)]) rfl ?_
    refine jx_iload_n hX d_M_illAt_25 0 rfl rfl ?_
    refine jx_if_ge hX d_M_illAt_26 rfl (fun hc => ?_) (fun hc => ?_)
    · have h := jx_ip hc h
      refine jx_aload_n hX d_M_illAt_31 1 rfl rfl ?_
      refine jx_iload_n hX d_M_illAt_32 3 rfl rfl ?_
      obtain ⟨q33_3, hq33_3, h⟩ := jx_bd h
      refine cs_M_79 hX (c_M_at (jx_l X) G S z.2.2 q33_3 hq33_3) d_M_illAt_33 (by decide) (Nat.le_of_ble_eq_true rfl) ?_
      refine jx_bipush (v := 40) hX d_M_illAt_36 (by decide) ?_
      refine jx_icmp_ne hX d_M_illAt_38 rfl (fun hc => ?_) (fun hc => ?_)
      · have h := jx_in_ hc h
        refine jx_aload_n hX d_M_illAt_44 1 rfl rfl ?_
        refine jx_iload_n hX d_M_illAt_45 3 rfl rfl ?_
        obtain ⟨q46_4, hq46_4, h⟩ := jx_bd h
        refine cs_M_79 hX (c_M_at (jx_l X) G S z.2.2 q46_4 hq46_4) d_M_illAt_46 (by decide) (Nat.le_of_ble_eq_true rfl) ?_
        refine jx_bipush (v := 41) hX d_M_illAt_49 (by decide) ?_
        refine jx_icmp_ne hX d_M_illAt_51 rfl (fun hc => ?_) (fun hc => ?_)
        · have h := jx_in_ hc h
          refine jx_iinc (v := (z.2.2 + 1)) hX d_M_illAt_57 3 rfl (by first | rfl | decide) (by decide) (L2 := [(3, .int (z.2.2 + 1)), (1, .int q21_2), (0, .ref (jx_ad G 18)), (2, .int z.2.1)]) rfl ?_
          refine jx_goto hX d_M_illAt_60 rfl ?_
          refine jx_sub (L2 := [(0, .ref (jx_ad G 18)), (1, .int q21_2), (2, .int z.2.1), (3, .int (z.2.2 + 1))]) [2, 1, 3, 0] rfl ?_
          obtain rfl := Option.some.inj h
          exact hi _ rfl
        · have h := jx_ip hc h
          refine jx_iinc (v := (z.2.1 + (-1))) hX d_M_illAt_54 2 rfl (by first | rfl | decide) (by decide) (L2 := [(2, .int (z.2.1 + (-1))), (1, .int q21_2), (0, .ref (jx_ad G 18)), (3, .int z.2.2)]) rfl ?_
          refine jx_iinc (v := (z.2.2 + 1)) hX d_M_illAt_57 3 rfl (by first | rfl | decide) (by decide) (L2 := [(3, .int (z.2.2 + 1)), (2, .int (z.2.1 + (-1))), (1, .int q21_2), (0, .ref (jx_ad G 18))]) rfl ?_
          refine jx_goto hX d_M_illAt_60 rfl ?_
          refine jx_sub (L2 := [(0, .ref (jx_ad G 18)), (1, .int q21_2), (2, .int (z.2.1 + (-1))), (3, .int (z.2.2 + 1))]) [3, 2, 1, 0] rfl ?_
          obtain rfl := Option.some.inj h
          exact hi _ rfl
      · have h := jx_ip hc h
        refine jx_iinc (v := (z.2.1 + 1)) hX d_M_illAt_41 2 rfl (by first | rfl | decide) (by decide) (L2 := [(2, .int (z.2.1 + 1)), (1, .int q21_2), (0, .ref (jx_ad G 18)), (3, .int z.2.2)]) rfl ?_
        refine jx_aload_n hX d_M_illAt_44 2 rfl rfl ?_
        refine jx_iload_n hX d_M_illAt_45 3 rfl rfl ?_
        obtain ⟨q46_5, hq46_5, h⟩ := jx_bd h
        refine cs_M_79 hX (c_M_at (jx_l X) G S z.2.2 q46_5 hq46_5) d_M_illAt_46 (by decide) (Nat.le_of_ble_eq_true rfl) ?_
        refine jx_bipush (v := 41) hX d_M_illAt_49 (by decide) ?_
        refine jx_icmp_ne hX d_M_illAt_51 rfl (fun hc => ?_) (fun hc => ?_)
        · have h := jx_in_ hc h
          refine jx_iinc (v := (z.2.2 + 1)) hX d_M_illAt_57 3 rfl (by first | rfl | decide) (by decide) (L2 := [(3, .int (z.2.2 + 1)), (2, .int (z.2.1 + 1)), (1, .int q21_2), (0, .ref (jx_ad G 18))]) rfl ?_
          refine jx_goto hX d_M_illAt_60 rfl ?_
          refine jx_sub (L2 := [(0, .ref (jx_ad G 18)), (1, .int q21_2), (2, .int (z.2.1 + 1)), (3, .int (z.2.2 + 1))]) [3, 2, 1, 0] rfl ?_
          obtain rfl := Option.some.inj h
          exact hi _ rfl
        · have h := jx_ip hc h
          refine jx_iinc (v := ((z.2.1 + 1) + (-1))) hX d_M_illAt_54 0 rfl (by first | rfl | decide) (by decide) (L2 := [(2, .int ((z.2.1 + 1) + (-1))), (1, .int q21_2), (0, .ref (jx_ad G 18)), (3, .int z.2.2)]) rfl ?_
          refine jx_iinc (v := (z.2.2 + 1)) hX d_M_illAt_57 3 rfl (by first | rfl | decide) (by decide) (L2 := [(3, .int (z.2.2 + 1)), (2, .int ((z.2.1 + 1) + (-1))), (1, .int q21_2), (0, .ref (jx_ad G 18))]) rfl ?_
          refine jx_goto hX d_M_illAt_60 rfl ?_
          refine jx_sub (L2 := [(0, .ref (jx_ad G 18)), (1, .int q21_2), (2, .int ((z.2.1 + 1) + (-1))), (3, .int (z.2.2 + 1))]) [3, 2, 1, 0] rfl ?_
          obtain rfl := Option.some.inj h
          exact hi _ rfl
    · have h := jx_in_ hc h
      refine jx_iload_n hX d_M_illAt_29 3 rfl rfl ?_
      obtain rfl := Option.some.inj h
      obtain rfl := hr _ rfl
      exact jx_iret hX d_M_illAt_30

set_option maxHeartbeats 4000000 in
set_option maxRecDepth 100000 in
theorem c_M_illAt (l : Launch) (G : jx_G) (S : jx_S)  (fin : Int32) (h : f_M_illAt S = some fin) : jx_M l y_M_illAt b_M_illAt 4 (some .int) 4 G [.ref (jx_ad G 18)] (jr_w G S) (some (.int fin), jr_w G S) := by
  refine jx_met (own := "PlaneCellsModel") (by decide) rfl (Nat.le_of_ble_eq_true rfl) (fun X hX hl => ?_)
  subst hl
  refine jx_L (L2 := [(0, .ref (jx_ad G 18))]) rfl ?_
  unfold f_M_illAt at h
  refine jx_iconst (v := 0) hX d_M_illAt_0 (by decide) ?_
  refine jx_istore_n hX d_M_illAt_1 rfl (by decide) (L2 := [(1, .int 0), (0, .ref (jx_ad G 18))]) rfl ?_
  refine jx_iconst (v := 0) hX d_M_illAt_2 (by decide) ?_
  refine jx_istore_n hX d_M_illAt_3 rfl (by decide) (L2 := [(2, .int 0), (1, .int 0), (0, .ref (jx_ad G 18))]) rfl ?_
  refine jx_iconst (v := 0) hX d_M_illAt_4 (by decide) ?_
  refine jx_istore_n hX d_M_illAt_5 rfl (by decide) (L2 := [(3, .int 0), (2, .int 0), (1, .int 0), (0, .ref (jx_ad G 18))]) rfl ?_
  refine jx_sub (L2 := [(0, .ref (jx_ad G 18)), (1, .int 0), (2, .int 0), (3, .int 0)]) [3, 2, 1, 0] rfl ?_
  obtain ⟨r, hz, h⟩ := jx_bd h
  refine lt_M_illAt_6 hX fin S hz (fun z6_6 e => ?_) (fun y e => ?_)
  · subst e
    have h := jx_el h
    refine jx_aload_n hX d_M_illAt_63 0 rfl rfl ?_
    refine jx_iload_n hX d_M_illAt_64 1 rfl rfl ?_
    refine jx_iload_n hX d_M_illAt_65 2 rfl rfl ?_
    obtain ⟨q66_7, hq66_7, h⟩ := jx_bd h
    refine cs_M_86 hX (c_M_mayEnd (jx_l X) G S z6_6.1 z6_6.2 q66_7 hq66_7) d_M_illAt_66 (by decide) (Nat.le_of_ble_eq_true rfl) ?_
    have hj : ∀ v : Int32, v = (if q66_7 = 0 then (S.1 1) else (-1) : Int32) → jx_At G X (some (.int fin), jr_w G S) (jr_w G S) 80 [(0, .ref (jx_ad G 18)), (1, .int z6_6.1), (2, .int z6_6.2)] [.int v] := by
      intro v hv
      subst hv
      obtain rfl := Option.some.inj h
      exact jx_iret hX d_M_illAt_80
    refine jx_if_eq hX d_M_illAt_69 rfl (fun hc8 => ?_) (fun hc8 => ?_)
    · refine jx_aload_n hX d_M_illAt_76 0 rfl rfl ?_
      refine gf_M_61 hX d_M_illAt_77 rfl ?_
      exact hj _ (if_pos hc8).symm
    · refine jx_iconst (v := (-1)) hX d_M_illAt_72 (by decide) ?_
      refine jx_goto hX d_M_illAt_73 rfl ?_
      exact hj _ (if_neg hc8).symm
  · subst e
    have h := jx_er h
    exact Option.some.inj h

