abbrev b_F_init : ByteArray := prog_3_method_1_code
def y_F_init : MethodName := ⟨"PlaneCells$Form", "<init>", "()V"⟩
abbrev b_S_init : ByteArray := prog_6_method_1_code
def y_S_init : MethodName := ⟨"PlaneCells$Sentence", "<init>", "()V"⟩
abbrev b_C_init : ByteArray := prog_2_method_1_code
def y_C_init : MethodName := ⟨"PlaneCells$CriticalNumbers", "<init>", "()V"⟩
abbrev b_R_init : ByteArray := prog_5_method_1_code
def y_R_init : MethodName := ⟨"PlaneCells$Reader", "<init>", "(LPlaneCells$Sentence;)V"⟩
abbrev b_Q_init : ByteArray := prog_4_method_1_code
def y_Q_init : MethodName := ⟨"PlaneCells$Plane", "<init>", "(LPlaneCells$Sentence;)V"⟩
abbrev b_P_init : ByteArray := prog_1_method_1_code
def y_P_init : MethodName := ⟨"PlaneCells", "<init>", "()V"⟩
abbrev b_M_init : ByteArray := prog_8_method_1_code
def y_M_init : MethodName := ⟨"PlaneCellsModel", "<init>", "()V"⟩
theorem wm_17 : (Cond.methodLink "PlaneCells" 3 objectInit) ∈ jx_W := jx_mem 17 (by decide +kernel) rfl
theorem wm_20 : (Cond.classLink "PlaneCells" 9 "PlaneCells$Sentence") ∈ jx_W := jx_mem 20 (by decide +kernel) rfl
theorem wm_21 : (Cond.instantiable "PlaneCells$Sentence" 7) ∈ jx_W := jx_mem 21 (by decide +kernel) rfl
theorem wm_22 : (Cond.methodLinkNest "PlaneCells" 11 ⟨"PlaneCells$Sentence", "<init>", "()V"⟩ "PlaneCells") ∈ jx_Z := jx_memZ 22 (by decide +kernel) rfl
theorem wm_23 : (Cond.instanceMethod ⟨"PlaneCells$Sentence", "<init>", "()V"⟩) ∈ jx_W := jx_mem 23 (by decide +kernel) rfl
set_option maxRecDepth 20000 in
theorem wm_24 : (Cond.code y_S_init b_S_init 1 none) ∈ jx_W := jx_mem 24 rfl rfl
theorem wm_25 : (Cond.methodLink "PlaneCells$Sentence" 3 objectInit) ∈ jx_W := jx_mem 25 (by decide +kernel) rfl
theorem wm_56 : (Cond.classLink "PlaneCells" 16 "PlaneCells$Reader") ∈ jx_W := jx_mem 56 (by decide +kernel) rfl
theorem wm_57 : (Cond.instantiable "PlaneCells$Reader" 9) ∈ jx_W := jx_mem 57 (by decide +kernel) rfl
theorem wm_58 : (Cond.methodLink "PlaneCells" 18 ⟨"PlaneCells$Reader", "<init>", "(LPlaneCells$Sentence;)V"⟩) ∈ jx_W := jx_mem 58 (by decide +kernel) rfl
theorem wm_59 : (Cond.instanceMethod ⟨"PlaneCells$Reader", "<init>", "(LPlaneCells$Sentence;)V"⟩) ∈ jx_W := jx_mem 59 (by decide +kernel) rfl
set_option maxRecDepth 20000 in
theorem wm_60 : (Cond.code y_R_init b_R_init 2 none) ∈ jx_W := jx_mem 60 rfl rfl
theorem wm_61 : (Cond.methodLink "PlaneCells$Reader" 3 objectInit) ∈ jx_W := jx_mem 61 (by decide +kernel) rfl
theorem wm_91 : (Cond.classLink "PlaneCells" 25 "PlaneCells$Plane") ∈ jx_W := jx_mem 91 (by decide +kernel) rfl
theorem wm_92 : (Cond.instantiable "PlaneCells$Plane" 7) ∈ jx_W := jx_mem 92 (by decide +kernel) rfl
theorem wm_93 : (Cond.methodLink "PlaneCells" 27 ⟨"PlaneCells$Plane", "<init>", "(LPlaneCells$Sentence;)V"⟩) ∈ jx_W := jx_mem 93 (by decide +kernel) rfl
theorem wm_94 : (Cond.instanceMethod ⟨"PlaneCells$Plane", "<init>", "(LPlaneCells$Sentence;)V"⟩) ∈ jx_W := jx_mem 94 (by decide +kernel) rfl
set_option maxRecDepth 20000 in
theorem wm_95 : (Cond.code y_Q_init b_Q_init 2 none) ∈ jx_W := jx_mem 95 rfl rfl
theorem wm_96 : (Cond.methodLink "PlaneCells$Plane" 3 objectInit) ∈ jx_W := jx_mem 96 (by decide +kernel) rfl
theorem wm_97 : (Cond.classLink "PlaneCells$Plane" 9 "PlaneCells$CriticalNumbers") ∈ jx_W := jx_mem 97 (by decide +kernel) rfl
theorem wm_98 : (Cond.instantiable "PlaneCells$CriticalNumbers" 4) ∈ jx_W := jx_mem 98 (by decide +kernel) rfl
theorem wm_99 : (Cond.methodLinkNest "PlaneCells$Plane" 11 ⟨"PlaneCells$CriticalNumbers", "<init>", "()V"⟩ "PlaneCells") ∈ jx_Z := jx_memZ 99 (by decide +kernel) rfl
theorem wm_100 : (Cond.instanceMethod ⟨"PlaneCells$CriticalNumbers", "<init>", "()V"⟩) ∈ jx_W := jx_mem 100 (by decide +kernel) rfl
set_option maxRecDepth 20000 in
theorem wm_101 : (Cond.code y_C_init b_C_init 1 none) ∈ jx_W := jx_mem 101 rfl rfl
theorem wm_102 : (Cond.methodLink "PlaneCells$CriticalNumbers" 3 objectInit) ∈ jx_W := jx_mem 102 (by decide +kernel) rfl
theorem wm_117 : (Cond.classLink "PlaneCells$Plane" 18 "PlaneCells$Form") ∈ jx_W := jx_mem 117 (by decide +kernel) rfl
theorem wm_118 : (Cond.instantiable "PlaneCells$Form" 3) ∈ jx_W := jx_mem 118 (by decide +kernel) rfl
theorem wm_119 : (Cond.methodLinkNest "PlaneCells$Plane" 20 ⟨"PlaneCells$Form", "<init>", "()V"⟩ "PlaneCells") ∈ jx_Z := jx_memZ 119 (by decide +kernel) rfl
theorem wm_120 : (Cond.instanceMethod ⟨"PlaneCells$Form", "<init>", "()V"⟩) ∈ jx_W := jx_mem 120 (by decide +kernel) rfl
set_option maxRecDepth 20000 in
theorem wm_121 : (Cond.code y_F_init b_F_init 1 none) ∈ jx_W := jx_mem 121 rfl rfl
theorem wm_122 : (Cond.methodLink "PlaneCells$Form" 1 objectInit) ∈ jx_W := jx_mem 122 (by decide +kernel) rfl
theorem wm_444 : (Cond.methodLink "PlaneCellsModel" 1 objectInit) ∈ jx_W := jx_mem 444 (by decide +kernel) rfl
theorem d_F_init_0 : decode b_F_init 0 = .ok (.aload_n 0, 1) := by decide +kernel
theorem d_F_init_1 : decode b_F_init 1 = .ok (.invokespecial 1, 3) := by decide +kernel
theorem d_F_init_4 : decode b_F_init 4 = .ok (.return_, 1) := by decide +kernel
set_option maxHeartbeats 4000000 in
set_option maxRecDepth 100000 in
theorem c_F_init (l : Launch) (G : jx_G) (h : Nat) : jc_K l y_F_init b_F_init 1 1 0 0 G [.ref h] [(h, .inr (5, [.int 0, .int 0, .int 0]))] (fun w1 => w1 = [(h, .inr (5, [.int 0, .int 0, .int 0]))]) := by
  refine jc_met (own := "PlaneCells$Form") (by decide) rfl rfl (Nat.le_of_ble_eq_true rfl) (fun X hX hI hl => ?_)
  refine jc_L (L2 := [(0, .ref h)]) rfl ?_
  refine jc_aload_n hX d_F_init_0 0 rfl rfl ?_
  refine jc_obj hX wm_122 d_F_init_1 (by decide) (Nat.le_of_ble_eq_true rfl) ?_
  exact jc_vret hX hI (rfl) d_F_init_4

theorem d_S_init_0 : decode b_S_init 0 = .ok (.aload_n 0, 1) := by decide +kernel
theorem d_S_init_1 : decode b_S_init 1 = .ok (.invokespecial 3, 3) := by decide +kernel
theorem d_S_init_4 : decode b_S_init 4 = .ok (.aload_n 0, 1) := by decide +kernel
theorem d_S_init_5 : decode b_S_init 5 = .ok (.bipush 32, 2) := by decide +kernel
theorem d_S_init_7 : decode b_S_init 7 = .ok (.newarray .int, 2) := by decide +kernel
theorem d_S_init_9 : decode b_S_init 9 = .ok (.putfield 9, 3) := by decide +kernel
theorem d_S_init_12 : decode b_S_init 12 = .ok (.aload_n 0, 1) := by decide +kernel
theorem d_S_init_13 : decode b_S_init 13 = .ok (.bipush 8, 2) := by decide +kernel
theorem d_S_init_15 : decode b_S_init 15 = .ok (.newarray .char, 2) := by decide +kernel
theorem d_S_init_17 : decode b_S_init 17 = .ok (.putfield 15, 3) := by decide +kernel
theorem d_S_init_20 : decode b_S_init 20 = .ok (.aload_n 0, 1) := by decide +kernel
theorem d_S_init_21 : decode b_S_init 21 = .ok (.bipush 80, 2) := by decide +kernel
theorem d_S_init_23 : decode b_S_init 23 = .ok (.newarray .int, 2) := by decide +kernel
theorem d_S_init_25 : decode b_S_init 25 = .ok (.putfield 19, 3) := by decide +kernel
theorem d_S_init_28 : decode b_S_init 28 = .ok (.return_, 1) := by decide +kernel
set_option maxHeartbeats 4000000 in
set_option maxRecDepth 100000 in
theorem c_S_init (l : Launch) (G : jx_G) (h : Nat) : jc_K l y_S_init b_S_init 1 1 3 120 G [.ref h] [(h, .inr (1, [.null, .null, .null, .int 0, .int 0, .int 0, .int 0]))] (fun w1 => ∃ q7 q15 q23 : Nat, w1 = [(h, .inr (1, [.ref q7, .ref q15, .ref q23, .int 0, .int 0, .int 0, .int 0])), (q7, .inl (jx_ca G 0, 32, .inl (fun _ => 0))), (q15, .inl (jx_ca G 1, 8, .inl (fun _ => 0))), (q23, .inl (jx_ca G 0, 80, .inl (fun _ => 0)))]) := by
  refine jc_met (own := "PlaneCells$Sentence") (by decide) rfl rfl (Nat.le_of_ble_eq_true rfl) (fun X hX hI hl => ?_)
  refine jc_L (L2 := [(0, .ref h)]) rfl ?_
  refine jc_aload_n hX d_S_init_0 0 rfl rfl ?_
  refine jc_obj hX wm_25 d_S_init_1 (by decide) (Nat.le_of_ble_eq_true rfl) ?_
  refine jc_aload_n hX d_S_init_4 0 rfl rfl ?_
  refine jc_bipush (v := 32) hX d_S_init_5 (by decide) ?_
  refine jc_newi (N := 32) hX d_S_init_7 (by decide) (by decide) (by decide) (by decide) (by decide) (fun q7 => ?_)
  refine jc_w (w2 := [(h, .inr (1, [.null, .null, .null, .int 0, .int 0, .int 0, .int 0])), (q7, .inl (jx_ca G 0, 32, .inl (fun _ => 0)))]) rfl ?_
  refine jc_putF hX hI jn_in_S jn_t_S jn_tok_S jn_nm_S 0 rfl rfl 0 (by decide) rfl rfl wm_26 rfl rfl rfl rfl (Nat.le_of_ble_eq_true rfl) (w2 := [(h, .inr (1, [.ref q7, .null, .null, .int 0, .int 0, .int 0, .int 0])), (q7, .inl (jx_ca G 0, 32, .inl (fun _ => 0)))]) rfl d_S_init_9 ?_
  refine jc_aload_n hX d_S_init_12 0 rfl rfl ?_
  refine jc_bipush (v := 8) hX d_S_init_13 (by decide) ?_
  refine jc_newc (N := 8) hX d_S_init_15 (by decide) (by decide) (by decide) (by decide) (by decide) (fun q15 => ?_)
  refine jc_w (w2 := [(h, .inr (1, [.ref q7, .null, .null, .int 0, .int 0, .int 0, .int 0])), (q7, .inl (jx_ca G 0, 32, .inl (fun _ => 0))), (q15, .inl (jx_ca G 1, 8, .inl (fun _ => 0)))]) rfl ?_
  refine jc_putF hX hI jn_in_S jn_t_S jn_tok_S jn_nm_S 0 rfl rfl 1 (by decide) rfl rfl wm_27 rfl rfl rfl rfl (Nat.le_of_ble_eq_true rfl) (w2 := [(h, .inr (1, [.ref q7, .ref q15, .null, .int 0, .int 0, .int 0, .int 0])), (q7, .inl (jx_ca G 0, 32, .inl (fun _ => 0))), (q15, .inl (jx_ca G 1, 8, .inl (fun _ => 0)))]) rfl d_S_init_17 ?_
  refine jc_aload_n hX d_S_init_20 0 rfl rfl ?_
  refine jc_bipush (v := 80) hX d_S_init_21 (by decide) ?_
  refine jc_newi (N := 80) hX d_S_init_23 (by decide) (by decide) (by decide) (by decide) (by decide) (fun q23 => ?_)
  refine jc_w (w2 := [(h, .inr (1, [.ref q7, .ref q15, .null, .int 0, .int 0, .int 0, .int 0])), (q7, .inl (jx_ca G 0, 32, .inl (fun _ => 0))), (q15, .inl (jx_ca G 1, 8, .inl (fun _ => 0))), (q23, .inl (jx_ca G 0, 80, .inl (fun _ => 0)))]) rfl ?_
  refine jc_putF hX hI jn_in_S jn_t_S jn_tok_S jn_nm_S 0 rfl rfl 2 (by decide) rfl rfl wm_28 rfl rfl rfl rfl (Nat.le_of_ble_eq_true rfl) (w2 := [(h, .inr (1, [.ref q7, .ref q15, .ref q23, .int 0, .int 0, .int 0, .int 0])), (q7, .inl (jx_ca G 0, 32, .inl (fun _ => 0))), (q15, .inl (jx_ca G 1, 8, .inl (fun _ => 0))), (q23, .inl (jx_ca G 0, 80, .inl (fun _ => 0)))]) rfl d_S_init_25 ?_
  exact jc_vret hX hI (⟨q7, q15, q23, rfl⟩) d_S_init_28

theorem d_C_init_0 : decode b_C_init 0 = .ok (.aload_n 0, 1) := by decide +kernel
theorem d_C_init_1 : decode b_C_init 1 = .ok (.invokespecial 3, 3) := by decide +kernel
theorem d_C_init_4 : decode b_C_init 4 = .ok (.aload_n 0, 1) := by decide +kernel
theorem d_C_init_5 : decode b_C_init 5 = .ok (.bipush 72, 2) := by decide +kernel
theorem d_C_init_7 : decode b_C_init 7 = .ok (.newarray .int, 2) := by decide +kernel
theorem d_C_init_9 : decode b_C_init 9 = .ok (.putfield 9, 3) := by decide +kernel
theorem d_C_init_12 : decode b_C_init 12 = .ok (.aload_n 0, 1) := by decide +kernel
theorem d_C_init_13 : decode b_C_init 13 = .ok (.bipush 72, 2) := by decide +kernel
theorem d_C_init_15 : decode b_C_init 15 = .ok (.newarray .int, 2) := by decide +kernel
theorem d_C_init_17 : decode b_C_init 17 = .ok (.putfield 15, 3) := by decide +kernel
theorem d_C_init_20 : decode b_C_init 20 = .ok (.aload_n 0, 1) := by decide +kernel
theorem d_C_init_21 : decode b_C_init 21 = .ok (.bipush 72, 2) := by decide +kernel
theorem d_C_init_23 : decode b_C_init 23 = .ok (.newarray .int, 2) := by decide +kernel
theorem d_C_init_25 : decode b_C_init 25 = .ok (.putfield 18, 3) := by decide +kernel
theorem d_C_init_28 : decode b_C_init 28 = .ok (.return_, 1) := by decide +kernel
set_option maxHeartbeats 4000000 in
set_option maxRecDepth 100000 in
theorem c_C_init (l : Launch) (G : jx_G) (h : Nat) : jc_K l y_C_init b_C_init 1 1 3 216 G [.ref h] [(h, .inr (4, [.null, .null, .null, .int 0]))] (fun w1 => ∃ q7 q15 q23 : Nat, w1 = [(h, .inr (4, [.ref q7, .ref q15, .ref q23, .int 0])), (q7, .inl (jx_ca G 0, 72, .inl (fun _ => 0))), (q15, .inl (jx_ca G 0, 72, .inl (fun _ => 0))), (q23, .inl (jx_ca G 0, 72, .inl (fun _ => 0)))]) := by
  refine jc_met (own := "PlaneCells$CriticalNumbers") (by decide) rfl rfl (Nat.le_of_ble_eq_true rfl) (fun X hX hI hl => ?_)
  refine jc_L (L2 := [(0, .ref h)]) rfl ?_
  refine jc_aload_n hX d_C_init_0 0 rfl rfl ?_
  refine jc_obj hX wm_102 d_C_init_1 (by decide) (Nat.le_of_ble_eq_true rfl) ?_
  refine jc_aload_n hX d_C_init_4 0 rfl rfl ?_
  refine jc_bipush (v := 72) hX d_C_init_5 (by decide) ?_
  refine jc_newi (N := 72) hX d_C_init_7 (by decide) (by decide) (by decide) (by decide) (by decide) (fun q7 => ?_)
  refine jc_w (w2 := [(h, .inr (4, [.null, .null, .null, .int 0])), (q7, .inl (jx_ca G 0, 72, .inl (fun _ => 0)))]) rfl ?_
  refine jc_putF hX hI jn_in_C jn_t_C jn_tok_C jn_nm_C 0 rfl rfl 0 (by decide) rfl rfl wm_103 rfl rfl rfl rfl (Nat.le_of_ble_eq_true rfl) (w2 := [(h, .inr (4, [.ref q7, .null, .null, .int 0])), (q7, .inl (jx_ca G 0, 72, .inl (fun _ => 0)))]) rfl d_C_init_9 ?_
  refine jc_aload_n hX d_C_init_12 0 rfl rfl ?_
  refine jc_bipush (v := 72) hX d_C_init_13 (by decide) ?_
  refine jc_newi (N := 72) hX d_C_init_15 (by decide) (by decide) (by decide) (by decide) (by decide) (fun q15 => ?_)
  refine jc_w (w2 := [(h, .inr (4, [.ref q7, .null, .null, .int 0])), (q7, .inl (jx_ca G 0, 72, .inl (fun _ => 0))), (q15, .inl (jx_ca G 0, 72, .inl (fun _ => 0)))]) rfl ?_
  refine jc_putF hX hI jn_in_C jn_t_C jn_tok_C jn_nm_C 0 rfl rfl 1 (by decide) rfl rfl wm_104 rfl rfl rfl rfl (Nat.le_of_ble_eq_true rfl) (w2 := [(h, .inr (4, [.ref q7, .ref q15, .null, .int 0])), (q7, .inl (jx_ca G 0, 72, .inl (fun _ => 0))), (q15, .inl (jx_ca G 0, 72, .inl (fun _ => 0)))]) rfl d_C_init_17 ?_
  refine jc_aload_n hX d_C_init_20 0 rfl rfl ?_
  refine jc_bipush (v := 72) hX d_C_init_21 (by decide) ?_
  refine jc_newi (N := 72) hX d_C_init_23 (by decide) (by decide) (by decide) (by decide) (by decide) (fun q23 => ?_)
  refine jc_w (w2 := [(h, .inr (4, [.ref q7, .ref q15, .null, .int 0])), (q7, .inl (jx_ca G 0, 72, .inl (fun _ => 0))), (q15, .inl (jx_ca G 0, 72, .inl (fun _ => 0))), (q23, .inl (jx_ca G 0, 72, .inl (fun _ => 0)))]) rfl ?_
  refine jc_putF hX hI jn_in_C jn_t_C jn_tok_C jn_nm_C 0 rfl rfl 2 (by decide) rfl rfl wm_105 rfl rfl rfl rfl (Nat.le_of_ble_eq_true rfl) (w2 := [(h, .inr (4, [.ref q7, .ref q15, .ref q23, .int 0])), (q7, .inl (jx_ca G 0, 72, .inl (fun _ => 0))), (q15, .inl (jx_ca G 0, 72, .inl (fun _ => 0))), (q23, .inl (jx_ca G 0, 72, .inl (fun _ => 0)))]) rfl d_C_init_25 ?_
  exact jc_vret hX hI (⟨q7, q15, q23, rfl⟩) d_C_init_28

theorem d_R_init_0 : decode b_R_init 0 = .ok (.aload_n 0, 1) := by decide +kernel
theorem d_R_init_1 : decode b_R_init 1 = .ok (.invokespecial 3, 3) := by decide +kernel
theorem d_R_init_4 : decode b_R_init 4 = .ok (.aload_n 0, 1) := by decide +kernel
theorem d_R_init_5 : decode b_R_init 5 = .ok (.bipush 80, 2) := by decide +kernel
theorem d_R_init_7 : decode b_R_init 7 = .ok (.newarray .char, 2) := by decide +kernel
theorem d_R_init_9 : decode b_R_init 9 = .ok (.putfield 9, 3) := by decide +kernel
theorem d_R_init_12 : decode b_R_init 12 = .ok (.aload_n 0, 1) := by decide +kernel
theorem d_R_init_13 : decode b_R_init 13 = .ok (.bipush 80, 2) := by decide +kernel
theorem d_R_init_15 : decode b_R_init 15 = .ok (.newarray .int, 2) := by decide +kernel
theorem d_R_init_17 : decode b_R_init 17 = .ok (.putfield 15, 3) := by decide +kernel
theorem d_R_init_20 : decode b_R_init 20 = .ok (.aload_n 0, 1) := by decide +kernel
theorem d_R_init_21 : decode b_R_init 21 = .ok (.iconst 4, 1) := by decide +kernel
theorem d_R_init_22 : decode b_R_init 22 = .ok (.newarray .int, 2) := by decide +kernel
theorem d_R_init_24 : decode b_R_init 24 = .ok (.putfield 19, 3) := by decide +kernel
theorem d_R_init_27 : decode b_R_init 27 = .ok (.aload_n 0, 1) := by decide +kernel
theorem d_R_init_28 : decode b_R_init 28 = .ok (.aload_n 1, 1) := by decide +kernel
theorem d_R_init_29 : decode b_R_init 29 = .ok (.putfield 22, 3) := by decide +kernel
theorem d_R_init_32 : decode b_R_init 32 = .ok (.return_, 1) := by decide +kernel
set_option maxHeartbeats 4000000 in
set_option maxRecDepth 100000 in
theorem c_R_init (l : Launch) (G : jx_G) (h : Nat) (p1 : Nat) : jc_K l y_R_init b_R_init 2 1 3 164 G [.ref h, .ref p1] [(h, .inr (2, [.null, .null, .null, .null, .int 0, .int 0, .int 0, .int 0, .int 0]))] (fun w1 => ∃ q7 q15 q22 : Nat, w1 = [(h, .inr (2, [.ref p1, .ref q7, .ref q15, .ref q22, .int 0, .int 0, .int 0, .int 0, .int 0])), (q7, .inl (jx_ca G 1, 80, .inl (fun _ => 0))), (q15, .inl (jx_ca G 0, 80, .inl (fun _ => 0))), (q22, .inl (jx_ca G 0, 4, .inl (fun _ => 0)))]) := by
  refine jc_met (own := "PlaneCells$Reader") (by decide) rfl rfl (Nat.le_of_ble_eq_true rfl) (fun X hX hI hl => ?_)
  refine jc_L (L2 := [(0, .ref h), (1, .ref p1)]) rfl ?_
  refine jc_aload_n hX d_R_init_0 0 rfl rfl ?_
  refine jc_obj hX wm_61 d_R_init_1 (by decide) (Nat.le_of_ble_eq_true rfl) ?_
  refine jc_aload_n hX d_R_init_4 0 rfl rfl ?_
  refine jc_bipush (v := 80) hX d_R_init_5 (by decide) ?_
  refine jc_newc (N := 80) hX d_R_init_7 (by decide) (by decide) (by decide) (by decide) (by decide) (fun q7 => ?_)
  refine jc_w (w2 := [(h, .inr (2, [.null, .null, .null, .null, .int 0, .int 0, .int 0, .int 0, .int 0])), (q7, .inl (jx_ca G 1, 80, .inl (fun _ => 0)))]) rfl ?_
  refine jc_putF hX hI jn_in_R jn_t_R jn_tok_R jn_nm_R 0 rfl rfl 1 (by decide) rfl rfl wm_63 rfl rfl rfl rfl (Nat.le_of_ble_eq_true rfl) (w2 := [(h, .inr (2, [.null, .ref q7, .null, .null, .int 0, .int 0, .int 0, .int 0, .int 0])), (q7, .inl (jx_ca G 1, 80, .inl (fun _ => 0)))]) rfl d_R_init_9 ?_
  refine jc_aload_n hX d_R_init_12 0 rfl rfl ?_
  refine jc_bipush (v := 80) hX d_R_init_13 (by decide) ?_
  refine jc_newi (N := 80) hX d_R_init_15 (by decide) (by decide) (by decide) (by decide) (by decide) (fun q15 => ?_)
  refine jc_w (w2 := [(h, .inr (2, [.null, .ref q7, .null, .null, .int 0, .int 0, .int 0, .int 0, .int 0])), (q7, .inl (jx_ca G 1, 80, .inl (fun _ => 0))), (q15, .inl (jx_ca G 0, 80, .inl (fun _ => 0)))]) rfl ?_
  refine jc_putF hX hI jn_in_R jn_t_R jn_tok_R jn_nm_R 0 rfl rfl 2 (by decide) rfl rfl wm_64 rfl rfl rfl rfl (Nat.le_of_ble_eq_true rfl) (w2 := [(h, .inr (2, [.null, .ref q7, .ref q15, .null, .int 0, .int 0, .int 0, .int 0, .int 0])), (q7, .inl (jx_ca G 1, 80, .inl (fun _ => 0))), (q15, .inl (jx_ca G 0, 80, .inl (fun _ => 0)))]) rfl d_R_init_17 ?_
  refine jc_aload_n hX d_R_init_20 0 rfl rfl ?_
  refine jc_iconst (v := 4) hX d_R_init_21 (by decide) ?_
  refine jc_newi (N := 4) hX d_R_init_22 (by decide) (by decide) (by decide) (by decide) (by decide) (fun q22 => ?_)
  refine jc_w (w2 := [(h, .inr (2, [.null, .ref q7, .ref q15, .null, .int 0, .int 0, .int 0, .int 0, .int 0])), (q7, .inl (jx_ca G 1, 80, .inl (fun _ => 0))), (q15, .inl (jx_ca G 0, 80, .inl (fun _ => 0))), (q22, .inl (jx_ca G 0, 4, .inl (fun _ => 0)))]) rfl ?_
  refine jc_putF hX hI jn_in_R jn_t_R jn_tok_R jn_nm_R 0 rfl rfl 3 (by decide) rfl rfl wm_65 rfl rfl rfl rfl (Nat.le_of_ble_eq_true rfl) (w2 := [(h, .inr (2, [.null, .ref q7, .ref q15, .ref q22, .int 0, .int 0, .int 0, .int 0, .int 0])), (q7, .inl (jx_ca G 1, 80, .inl (fun _ => 0))), (q15, .inl (jx_ca G 0, 80, .inl (fun _ => 0))), (q22, .inl (jx_ca G 0, 4, .inl (fun _ => 0)))]) rfl d_R_init_24 ?_
  refine jc_aload_n hX d_R_init_27 0 rfl rfl ?_
  refine jc_aload_n hX d_R_init_28 1 rfl rfl ?_
  refine jc_putF hX hI jn_in_R jn_t_R jn_tok_R jn_nm_R 0 rfl rfl 0 (by decide) rfl rfl wm_62 rfl rfl rfl rfl (Nat.le_of_ble_eq_true rfl) (w2 := [(h, .inr (2, [.ref p1, .ref q7, .ref q15, .ref q22, .int 0, .int 0, .int 0, .int 0, .int 0])), (q7, .inl (jx_ca G 1, 80, .inl (fun _ => 0))), (q15, .inl (jx_ca G 0, 80, .inl (fun _ => 0))), (q22, .inl (jx_ca G 0, 4, .inl (fun _ => 0)))]) rfl d_R_init_29 ?_
  exact jc_vret hX hI (⟨q7, q15, q22, rfl⟩) d_R_init_32

theorem d_Q_init_0 : decode b_Q_init 0 = .ok (.aload_n 0, 1) := by decide +kernel
theorem d_Q_init_1 : decode b_Q_init 1 = .ok (.invokespecial 3, 3) := by decide +kernel
theorem d_Q_init_4 : decode b_Q_init 4 = .ok (.aload_n 0, 1) := by decide +kernel
theorem d_Q_init_5 : decode b_Q_init 5 = .ok (.new 9, 3) := by decide +kernel
theorem d_Q_init_8 : decode b_Q_init 8 = .ok (.dup, 1) := by decide +kernel
theorem d_Q_init_9 : decode b_Q_init 9 = .ok (.invokespecial 11, 3) := by decide +kernel
theorem d_Q_init_12 : decode b_Q_init 12 = .ok (.putfield 12, 3) := by decide +kernel
theorem d_Q_init_15 : decode b_Q_init 15 = .ok (.aload_n 0, 1) := by decide +kernel
theorem d_Q_init_16 : decode b_Q_init 16 = .ok (.new 18, 3) := by decide +kernel
theorem d_Q_init_19 : decode b_Q_init 19 = .ok (.dup, 1) := by decide +kernel
theorem d_Q_init_20 : decode b_Q_init 20 = .ok (.invokespecial 20, 3) := by decide +kernel
theorem d_Q_init_23 : decode b_Q_init 23 = .ok (.putfield 21, 3) := by decide +kernel
theorem d_Q_init_26 : decode b_Q_init 26 = .ok (.aload_n 0, 1) := by decide +kernel
theorem d_Q_init_27 : decode b_Q_init 27 = .ok (.bipush 8, 2) := by decide +kernel
theorem d_Q_init_29 : decode b_Q_init 29 = .ok (.newarray .int, 2) := by decide +kernel
theorem d_Q_init_31 : decode b_Q_init 31 = .ok (.putfield 25, 3) := by decide +kernel
theorem d_Q_init_34 : decode b_Q_init 34 = .ok (.aload_n 0, 1) := by decide +kernel
theorem d_Q_init_35 : decode b_Q_init 35 = .ok (.bipush 8, 2) := by decide +kernel
theorem d_Q_init_37 : decode b_Q_init 37 = .ok (.newarray .int, 2) := by decide +kernel
theorem d_Q_init_39 : decode b_Q_init 39 = .ok (.putfield 29, 3) := by decide +kernel
theorem d_Q_init_42 : decode b_Q_init 42 = .ok (.aload_n 0, 1) := by decide +kernel
theorem d_Q_init_43 : decode b_Q_init 43 = .ok (.bipush 8, 2) := by decide +kernel
theorem d_Q_init_45 : decode b_Q_init 45 = .ok (.newarray .int, 2) := by decide +kernel
theorem d_Q_init_47 : decode b_Q_init 47 = .ok (.putfield 32, 3) := by decide +kernel
theorem d_Q_init_50 : decode b_Q_init 50 = .ok (.aload_n 0, 1) := by decide +kernel
theorem d_Q_init_51 : decode b_Q_init 51 = .ok (.aload_n 1, 1) := by decide +kernel
theorem d_Q_init_52 : decode b_Q_init 52 = .ok (.putfield 35, 3) := by decide +kernel
theorem d_Q_init_55 : decode b_Q_init 55 = .ok (.return_, 1) := by decide +kernel
set_option maxHeartbeats 4000000 in
set_option maxRecDepth 100000 in
theorem c_Q_init (l : Launch) (G : jx_G) (h : Nat) (p1 : Nat) : jc_K l y_Q_init b_Q_init 2 2 8 247 G [.ref h, .ref p1] [(h, .inr (3, [.null, .null, .null, .null, .null, .null, .int 0]))] (fun w1 => ∃ q5 q5_q7 q5_q15 q5_q23 q16 q29 q37 q45 : Nat, w1 = [(h, .inr (3, [.ref p1, .ref q5, .ref q16, .ref q29, .ref q37, .ref q45, .int 0])), (q5, .inr (4, [.ref q5_q7, .ref q5_q15, .ref q5_q23, .int 0])), (q5_q7, .inl (jx_ca G 0, 72, .inl (fun _ => 0))), (q5_q15, .inl (jx_ca G 0, 72, .inl (fun _ => 0))), (q5_q23, .inl (jx_ca G 0, 72, .inl (fun _ => 0))), (q16, .inr (5, [.int 0, .int 0, .int 0])), (q29, .inl (jx_ca G 0, 8, .inl (fun _ => 0))), (q37, .inl (jx_ca G 0, 8, .inl (fun _ => 0))), (q45, .inl (jx_ca G 0, 8, .inl (fun _ => 0)))]) := by
  refine jc_met (own := "PlaneCells$Plane") (by decide) rfl rfl (Nat.le_of_ble_eq_true rfl) (fun X hX hI hl => ?_)
  refine jc_L (L2 := [(0, .ref h), (1, .ref p1)]) rfl ?_
  refine jc_aload_n hX d_Q_init_0 0 rfl rfl ?_
  refine jc_obj hX wm_96 d_Q_init_1 (by decide) (Nat.le_of_ble_eq_true rfl) ?_
  refine jc_aload_n hX d_Q_init_4 0 rfl rfl ?_
  refine jc_new (ci := 4) (fs := [.null, .null, .null, .int 0]) hX jn_in_C jn_t_C jn_tok_C wm_97 wm_98 wm_5 rfl (fun j hj => by rcases (show j = 0 ∨ j = 1 ∨ j = 2 ∨ j = 3 by omega) with rfl | rfl | rfl | rfl <;> rfl) (by decide) (by decide) d_Q_init_5 (fun q5 => ?_)
  refine jc_w (w2 := [(h, .inr (3, [.null, .null, .null, .null, .null, .null, .int 0])), (q5, .inr (4, [.null, .null, .null, .int 0]))]) rfl ?_
  refine jc_dup hX d_Q_init_8 rfl ?_
  refine jc_callN (n := 0) (wr := [(h, .inr (3, [.null, .null, .null, .null, .null, .null, .int 0]))]) (As := []) hX (c_C_init (jx_l X) G q5) wm_101 wm_5 wm_99 wm_100 rfl (by decide) rfl rfl d_Q_init_9 (by decide) (by decide) (Nat.le_of_ble_eq_true rfl) (fun w1 hw => ?_)
  obtain ⟨q5_q7, q5_q15, q5_q23, rfl⟩ := hw
  refine jc_w (w2 := [(h, .inr (3, [.null, .null, .null, .null, .null, .null, .int 0])), (q5, .inr (4, [.ref q5_q7, .ref q5_q15, .ref q5_q23, .int 0])), (q5_q7, .inl (jx_ca G 0, 72, .inl (fun _ => 0))), (q5_q15, .inl (jx_ca G 0, 72, .inl (fun _ => 0))), (q5_q23, .inl (jx_ca G 0, 72, .inl (fun _ => 0)))]) rfl ?_
  refine jc_putF hX hI jn_in_Q jn_t_Q jn_tok_Q jn_nm_Q 0 rfl rfl 1 (by decide) rfl rfl wm_137 rfl rfl rfl rfl (Nat.le_of_ble_eq_true rfl) (w2 := [(h, .inr (3, [.null, .ref q5, .null, .null, .null, .null, .int 0])), (q5, .inr (4, [.ref q5_q7, .ref q5_q15, .ref q5_q23, .int 0])), (q5_q7, .inl (jx_ca G 0, 72, .inl (fun _ => 0))), (q5_q15, .inl (jx_ca G 0, 72, .inl (fun _ => 0))), (q5_q23, .inl (jx_ca G 0, 72, .inl (fun _ => 0)))]) rfl d_Q_init_12 ?_
  refine jc_aload_n hX d_Q_init_15 0 rfl rfl ?_
  refine jc_new (ci := 5) (fs := [.int 0, .int 0, .int 0]) hX jn_in_F jn_t_F jn_tok_F wm_117 wm_118 wm_6 rfl (fun j hj => by rcases (show j = 0 ∨ j = 1 ∨ j = 2 by omega) with rfl | rfl | rfl <;> rfl) (by decide) (by decide) d_Q_init_16 (fun q16 => ?_)
  refine jc_w (w2 := [(h, .inr (3, [.null, .ref q5, .null, .null, .null, .null, .int 0])), (q5, .inr (4, [.ref q5_q7, .ref q5_q15, .ref q5_q23, .int 0])), (q5_q7, .inl (jx_ca G 0, 72, .inl (fun _ => 0))), (q5_q15, .inl (jx_ca G 0, 72, .inl (fun _ => 0))), (q5_q23, .inl (jx_ca G 0, 72, .inl (fun _ => 0))), (q16, .inr (5, [.int 0, .int 0, .int 0]))]) rfl ?_
  refine jc_dup hX d_Q_init_19 rfl ?_
  refine jc_callN (n := 0) (wr := [(h, .inr (3, [.null, .ref q5, .null, .null, .null, .null, .int 0])), (q5, .inr (4, [.ref q5_q7, .ref q5_q15, .ref q5_q23, .int 0])), (q5_q7, .inl (jx_ca G 0, 72, .inl (fun _ => 0))), (q5_q15, .inl (jx_ca G 0, 72, .inl (fun _ => 0))), (q5_q23, .inl (jx_ca G 0, 72, .inl (fun _ => 0)))]) (As := []) hX (c_F_init (jx_l X) G q16) wm_121 wm_6 wm_119 wm_120 rfl (by decide) rfl rfl d_Q_init_20 (by decide) (by decide) (Nat.le_of_ble_eq_true rfl) (fun w1 hw => ?_)
  subst hw
  refine jc_w (w2 := [(h, .inr (3, [.null, .ref q5, .null, .null, .null, .null, .int 0])), (q5, .inr (4, [.ref q5_q7, .ref q5_q15, .ref q5_q23, .int 0])), (q5_q7, .inl (jx_ca G 0, 72, .inl (fun _ => 0))), (q5_q15, .inl (jx_ca G 0, 72, .inl (fun _ => 0))), (q5_q23, .inl (jx_ca G 0, 72, .inl (fun _ => 0))), (q16, .inr (5, [.int 0, .int 0, .int 0]))]) rfl ?_
  refine jc_putF hX hI jn_in_Q jn_t_Q jn_tok_Q jn_nm_Q 0 rfl rfl 2 (by decide) rfl rfl wm_139 rfl rfl rfl rfl (Nat.le_of_ble_eq_true rfl) (w2 := [(h, .inr (3, [.null, .ref q5, .ref q16, .null, .null, .null, .int 0])), (q5, .inr (4, [.ref q5_q7, .ref q5_q15, .ref q5_q23, .int 0])), (q5_q7, .inl (jx_ca G 0, 72, .inl (fun _ => 0))), (q5_q15, .inl (jx_ca G 0, 72, .inl (fun _ => 0))), (q5_q23, .inl (jx_ca G 0, 72, .inl (fun _ => 0))), (q16, .inr (5, [.int 0, .int 0, .int 0]))]) rfl d_Q_init_23 ?_
  refine jc_aload_n hX d_Q_init_26 0 rfl rfl ?_
  refine jc_bipush (v := 8) hX d_Q_init_27 (by decide) ?_
  refine jc_newi (N := 8) hX d_Q_init_29 (by decide) (by decide) (by decide) (by decide) (by decide) (fun q29 => ?_)
  refine jc_w (w2 := [(h, .inr (3, [.null, .ref q5, .ref q16, .null, .null, .null, .int 0])), (q5, .inr (4, [.ref q5_q7, .ref q5_q15, .ref q5_q23, .int 0])), (q5_q7, .inl (jx_ca G 0, 72, .inl (fun _ => 0))), (q5_q15, .inl (jx_ca G 0, 72, .inl (fun _ => 0))), (q5_q23, .inl (jx_ca G 0, 72, .inl (fun _ => 0))), (q16, .inr (5, [.int 0, .int 0, .int 0])), (q29, .inl (jx_ca G 0, 8, .inl (fun _ => 0)))]) rfl ?_
  refine jc_putF hX hI jn_in_Q jn_t_Q jn_tok_Q jn_nm_Q 0 rfl rfl 3 (by decide) rfl rfl wm_140 rfl rfl rfl rfl (Nat.le_of_ble_eq_true rfl) (w2 := [(h, .inr (3, [.null, .ref q5, .ref q16, .ref q29, .null, .null, .int 0])), (q5, .inr (4, [.ref q5_q7, .ref q5_q15, .ref q5_q23, .int 0])), (q5_q7, .inl (jx_ca G 0, 72, .inl (fun _ => 0))), (q5_q15, .inl (jx_ca G 0, 72, .inl (fun _ => 0))), (q5_q23, .inl (jx_ca G 0, 72, .inl (fun _ => 0))), (q16, .inr (5, [.int 0, .int 0, .int 0])), (q29, .inl (jx_ca G 0, 8, .inl (fun _ => 0)))]) rfl d_Q_init_31 ?_
  refine jc_aload_n hX d_Q_init_34 0 rfl rfl ?_
  refine jc_bipush (v := 8) hX d_Q_init_35 (by decide) ?_
  refine jc_newi (N := 8) hX d_Q_init_37 (by decide) (by decide) (by decide) (by decide) (by decide) (fun q37 => ?_)
  refine jc_w (w2 := [(h, .inr (3, [.null, .ref q5, .ref q16, .ref q29, .null, .null, .int 0])), (q5, .inr (4, [.ref q5_q7, .ref q5_q15, .ref q5_q23, .int 0])), (q5_q7, .inl (jx_ca G 0, 72, .inl (fun _ => 0))), (q5_q15, .inl (jx_ca G 0, 72, .inl (fun _ => 0))), (q5_q23, .inl (jx_ca G 0, 72, .inl (fun _ => 0))), (q16, .inr (5, [.int 0, .int 0, .int 0])), (q29, .inl (jx_ca G 0, 8, .inl (fun _ => 0))), (q37, .inl (jx_ca G 0, 8, .inl (fun _ => 0)))]) rfl ?_
  refine jc_putF hX hI jn_in_Q jn_t_Q jn_tok_Q jn_nm_Q 0 rfl rfl 4 (by decide) rfl rfl wm_141 rfl rfl rfl rfl (Nat.le_of_ble_eq_true rfl) (w2 := [(h, .inr (3, [.null, .ref q5, .ref q16, .ref q29, .ref q37, .null, .int 0])), (q5, .inr (4, [.ref q5_q7, .ref q5_q15, .ref q5_q23, .int 0])), (q5_q7, .inl (jx_ca G 0, 72, .inl (fun _ => 0))), (q5_q15, .inl (jx_ca G 0, 72, .inl (fun _ => 0))), (q5_q23, .inl (jx_ca G 0, 72, .inl (fun _ => 0))), (q16, .inr (5, [.int 0, .int 0, .int 0])), (q29, .inl (jx_ca G 0, 8, .inl (fun _ => 0))), (q37, .inl (jx_ca G 0, 8, .inl (fun _ => 0)))]) rfl d_Q_init_39 ?_
  refine jc_aload_n hX d_Q_init_42 0 rfl rfl ?_
  refine jc_bipush (v := 8) hX d_Q_init_43 (by decide) ?_
  refine jc_newi (N := 8) hX d_Q_init_45 (by decide) (by decide) (by decide) (by decide) (by decide) (fun q45 => ?_)
  refine jc_w (w2 := [(h, .inr (3, [.null, .ref q5, .ref q16, .ref q29, .ref q37, .null, .int 0])), (q5, .inr (4, [.ref q5_q7, .ref q5_q15, .ref q5_q23, .int 0])), (q5_q7, .inl (jx_ca G 0, 72, .inl (fun _ => 0))), (q5_q15, .inl (jx_ca G 0, 72, .inl (fun _ => 0))), (q5_q23, .inl (jx_ca G 0, 72, .inl (fun _ => 0))), (q16, .inr (5, [.int 0, .int 0, .int 0])), (q29, .inl (jx_ca G 0, 8, .inl (fun _ => 0))), (q37, .inl (jx_ca G 0, 8, .inl (fun _ => 0))), (q45, .inl (jx_ca G 0, 8, .inl (fun _ => 0)))]) rfl ?_
  refine jc_putF hX hI jn_in_Q jn_t_Q jn_tok_Q jn_nm_Q 0 rfl rfl 5 (by decide) rfl rfl wm_142 rfl rfl rfl rfl (Nat.le_of_ble_eq_true rfl) (w2 := [(h, .inr (3, [.null, .ref q5, .ref q16, .ref q29, .ref q37, .ref q45, .int 0])), (q5, .inr (4, [.ref q5_q7, .ref q5_q15, .ref q5_q23, .int 0])), (q5_q7, .inl (jx_ca G 0, 72, .inl (fun _ => 0))), (q5_q15, .inl (jx_ca G 0, 72, .inl (fun _ => 0))), (q5_q23, .inl (jx_ca G 0, 72, .inl (fun _ => 0))), (q16, .inr (5, [.int 0, .int 0, .int 0])), (q29, .inl (jx_ca G 0, 8, .inl (fun _ => 0))), (q37, .inl (jx_ca G 0, 8, .inl (fun _ => 0))), (q45, .inl (jx_ca G 0, 8, .inl (fun _ => 0)))]) rfl d_Q_init_47 ?_
  refine jc_aload_n hX d_Q_init_50 0 rfl rfl ?_
  refine jc_aload_n hX d_Q_init_51 1 rfl rfl ?_
  refine jc_putF hX hI jn_in_Q jn_t_Q jn_tok_Q jn_nm_Q 0 rfl rfl 0 (by decide) rfl rfl wm_136 rfl rfl rfl rfl (Nat.le_of_ble_eq_true rfl) (w2 := [(h, .inr (3, [.ref p1, .ref q5, .ref q16, .ref q29, .ref q37, .ref q45, .int 0])), (q5, .inr (4, [.ref q5_q7, .ref q5_q15, .ref q5_q23, .int 0])), (q5_q7, .inl (jx_ca G 0, 72, .inl (fun _ => 0))), (q5_q15, .inl (jx_ca G 0, 72, .inl (fun _ => 0))), (q5_q23, .inl (jx_ca G 0, 72, .inl (fun _ => 0))), (q16, .inr (5, [.int 0, .int 0, .int 0])), (q29, .inl (jx_ca G 0, 8, .inl (fun _ => 0))), (q37, .inl (jx_ca G 0, 8, .inl (fun _ => 0))), (q45, .inl (jx_ca G 0, 8, .inl (fun _ => 0)))]) rfl d_Q_init_52 ?_
  exact jc_vret hX hI (⟨q5, q5_q7, q5_q15, q5_q23, q16, q29, q37, q45, rfl⟩) d_Q_init_55

theorem d_P_init_0 : decode b_P_init 0 = .ok (.aload_n 0, 1) := by decide +kernel
theorem d_P_init_1 : decode b_P_init 1 = .ok (.invokespecial 3, 3) := by decide +kernel
theorem d_P_init_4 : decode b_P_init 4 = .ok (.aload_n 0, 1) := by decide +kernel
theorem d_P_init_5 : decode b_P_init 5 = .ok (.new 9, 3) := by decide +kernel
theorem d_P_init_8 : decode b_P_init 8 = .ok (.dup, 1) := by decide +kernel
theorem d_P_init_9 : decode b_P_init 9 = .ok (.invokespecial 11, 3) := by decide +kernel
theorem d_P_init_12 : decode b_P_init 12 = .ok (.putfield 12, 3) := by decide +kernel
theorem d_P_init_15 : decode b_P_init 15 = .ok (.aload_n 0, 1) := by decide +kernel
theorem d_P_init_16 : decode b_P_init 16 = .ok (.new 16, 3) := by decide +kernel
theorem d_P_init_19 : decode b_P_init 19 = .ok (.dup, 1) := by decide +kernel
theorem d_P_init_20 : decode b_P_init 20 = .ok (.aload_n 0, 1) := by decide +kernel
theorem d_P_init_21 : decode b_P_init 21 = .ok (.getfield 12, 3) := by decide +kernel
theorem d_P_init_24 : decode b_P_init 24 = .ok (.invokespecial 18, 3) := by decide +kernel
theorem d_P_init_27 : decode b_P_init 27 = .ok (.putfield 21, 3) := by decide +kernel
theorem d_P_init_30 : decode b_P_init 30 = .ok (.aload_n 0, 1) := by decide +kernel
theorem d_P_init_31 : decode b_P_init 31 = .ok (.new 25, 3) := by decide +kernel
theorem d_P_init_34 : decode b_P_init 34 = .ok (.dup, 1) := by decide +kernel
theorem d_P_init_35 : decode b_P_init 35 = .ok (.aload_n 0, 1) := by decide +kernel
theorem d_P_init_36 : decode b_P_init 36 = .ok (.getfield 12, 3) := by decide +kernel
theorem d_P_init_39 : decode b_P_init 39 = .ok (.invokespecial 27, 3) := by decide +kernel
theorem d_P_init_42 : decode b_P_init 42 = .ok (.putfield 28, 3) := by decide +kernel
theorem d_P_init_45 : decode b_P_init 45 = .ok (.aload_n 0, 1) := by decide +kernel
theorem d_P_init_46 : decode b_P_init 46 = .ok (.iconst (-1), 1) := by decide +kernel
theorem d_P_init_47 : decode b_P_init 47 = .ok (.putfield 32, 3) := by decide +kernel
theorem d_P_init_50 : decode b_P_init 50 = .ok (.aload_n 0, 1) := by decide +kernel
theorem d_P_init_51 : decode b_P_init 51 = .ok (.iconst 0, 1) := by decide +kernel
theorem d_P_init_52 : decode b_P_init 52 = .ok (.putfield 36, 3) := by decide +kernel
theorem d_P_init_55 : decode b_P_init 55 = .ok (.aload_n 0, 1) := by decide +kernel
theorem d_P_init_56 : decode b_P_init 56 = .ok (.iconst (-1), 1) := by decide +kernel
theorem d_P_init_57 : decode b_P_init 57 = .ok (.putfield 39, 3) := by decide +kernel
theorem d_P_init_60 : decode b_P_init 60 = .ok (.return_, 1) := by decide +kernel
set_option maxHeartbeats 4000000 in
set_option maxRecDepth 100000 in
theorem c_P_init (l : Launch) (G : jx_G) (h : Nat) : jc_K l y_P_init b_P_init 1 3 17 554 G [.ref h] [(h, .inr (0, [.null, .null, .null, .int 0, .int 0, .int 0]))] (fun w1 => ∃ q5 q5_q7 q5_q15 q5_q23 q16 q16_q7 q16_q15 q16_q22 q31 q31_q5 q31_q5_q7 q31_q5_q15 q31_q5_q23 q31_q16 q31_q29 q31_q37 q31_q45 : Nat, w1 = [(h, .inr (0, [.ref q5, .ref q16, .ref q31, .int (-1), .int 0, .int (-1)])), (q5, .inr (1, [.ref q5_q7, .ref q5_q15, .ref q5_q23, .int 0, .int 0, .int 0, .int 0])), (q5_q7, .inl (jx_ca G 0, 32, .inl (fun _ => 0))), (q5_q15, .inl (jx_ca G 1, 8, .inl (fun _ => 0))), (q5_q23, .inl (jx_ca G 0, 80, .inl (fun _ => 0))), (q16, .inr (2, [.ref q5, .ref q16_q7, .ref q16_q15, .ref q16_q22, .int 0, .int 0, .int 0, .int 0, .int 0])), (q16_q7, .inl (jx_ca G 1, 80, .inl (fun _ => 0))), (q16_q15, .inl (jx_ca G 0, 80, .inl (fun _ => 0))), (q16_q22, .inl (jx_ca G 0, 4, .inl (fun _ => 0))), (q31, .inr (3, [.ref q5, .ref q31_q5, .ref q31_q16, .ref q31_q29, .ref q31_q37, .ref q31_q45, .int 0])), (q31_q5, .inr (4, [.ref q31_q5_q7, .ref q31_q5_q15, .ref q31_q5_q23, .int 0])), (q31_q5_q7, .inl (jx_ca G 0, 72, .inl (fun _ => 0))), (q31_q5_q15, .inl (jx_ca G 0, 72, .inl (fun _ => 0))), (q31_q5_q23, .inl (jx_ca G 0, 72, .inl (fun _ => 0))), (q31_q16, .inr (5, [.int 0, .int 0, .int 0])), (q31_q29, .inl (jx_ca G 0, 8, .inl (fun _ => 0))), (q31_q37, .inl (jx_ca G 0, 8, .inl (fun _ => 0))), (q31_q45, .inl (jx_ca G 0, 8, .inl (fun _ => 0)))]) := by
  refine jc_met (own := "PlaneCells") (by decide) rfl rfl (Nat.le_of_ble_eq_true rfl) (fun X hX hI hl => ?_)
  refine jc_L (L2 := [(0, .ref h)]) rfl ?_
  refine jc_aload_n hX d_P_init_0 0 rfl rfl ?_
  refine jc_obj hX wm_17 d_P_init_1 (by decide) (Nat.le_of_ble_eq_true rfl) ?_
  refine jc_aload_n hX d_P_init_4 0 rfl rfl ?_
  refine jc_new (ci := 1) (fs := [.null, .null, .null, .int 0, .int 0, .int 0, .int 0]) hX jn_in_S jn_t_S jn_tok_S wm_20 wm_21 wm_2 rfl (fun j hj => by rcases (show j = 0 ∨ j = 1 ∨ j = 2 ∨ j = 3 ∨ j = 4 ∨ j = 5 ∨ j = 6 by omega) with rfl | rfl | rfl | rfl | rfl | rfl | rfl <;> rfl) (by decide) (by decide) d_P_init_5 (fun q5 => ?_)
  refine jc_w (w2 := [(h, .inr (0, [.null, .null, .null, .int 0, .int 0, .int 0])), (q5, .inr (1, [.null, .null, .null, .int 0, .int 0, .int 0, .int 0]))]) rfl ?_
  refine jc_dup hX d_P_init_8 rfl ?_
  refine jc_callN (n := 0) (wr := [(h, .inr (0, [.null, .null, .null, .int 0, .int 0, .int 0]))]) (As := []) hX (c_S_init (jx_l X) G q5) wm_24 wm_2 wm_22 wm_23 rfl (by decide) rfl rfl d_P_init_9 (by decide) (by decide) (Nat.le_of_ble_eq_true rfl) (fun w1 hw => ?_)
  obtain ⟨q5_q7, q5_q15, q5_q23, rfl⟩ := hw
  refine jc_w (w2 := [(h, .inr (0, [.null, .null, .null, .int 0, .int 0, .int 0])), (q5, .inr (1, [.ref q5_q7, .ref q5_q15, .ref q5_q23, .int 0, .int 0, .int 0, .int 0])), (q5_q7, .inl (jx_ca G 0, 32, .inl (fun _ => 0))), (q5_q15, .inl (jx_ca G 1, 8, .inl (fun _ => 0))), (q5_q23, .inl (jx_ca G 0, 80, .inl (fun _ => 0)))]) rfl ?_
  refine jc_putF hX hI jn_in_P jn_t_P jn_tok_P jn_nm_P 0 rfl rfl 0 (by decide) rfl rfl wm_160 rfl rfl rfl rfl (Nat.le_of_ble_eq_true rfl) (w2 := [(h, .inr (0, [.ref q5, .null, .null, .int 0, .int 0, .int 0])), (q5, .inr (1, [.ref q5_q7, .ref q5_q15, .ref q5_q23, .int 0, .int 0, .int 0, .int 0])), (q5_q7, .inl (jx_ca G 0, 32, .inl (fun _ => 0))), (q5_q15, .inl (jx_ca G 1, 8, .inl (fun _ => 0))), (q5_q23, .inl (jx_ca G 0, 80, .inl (fun _ => 0)))]) rfl d_P_init_12 ?_
  refine jc_aload_n hX d_P_init_15 0 rfl rfl ?_
  refine jc_new (ci := 2) (fs := [.null, .null, .null, .null, .int 0, .int 0, .int 0, .int 0, .int 0]) hX jn_in_R jn_t_R jn_tok_R wm_56 wm_57 wm_3 rfl (fun j hj => by rcases (show j = 0 ∨ j = 1 ∨ j = 2 ∨ j = 3 ∨ j = 4 ∨ j = 5 ∨ j = 6 ∨ j = 7 ∨ j = 8 by omega) with rfl | rfl | rfl | rfl | rfl | rfl | rfl | rfl | rfl <;> rfl) (by decide) (by decide) d_P_init_16 (fun q16 => ?_)
  refine jc_w (w2 := [(h, .inr (0, [.ref q5, .null, .null, .int 0, .int 0, .int 0])), (q5, .inr (1, [.ref q5_q7, .ref q5_q15, .ref q5_q23, .int 0, .int 0, .int 0, .int 0])), (q5_q7, .inl (jx_ca G 0, 32, .inl (fun _ => 0))), (q5_q15, .inl (jx_ca G 1, 8, .inl (fun _ => 0))), (q5_q23, .inl (jx_ca G 0, 80, .inl (fun _ => 0))), (q16, .inr (2, [.null, .null, .null, .null, .int 0, .int 0, .int 0, .int 0, .int 0]))]) rfl ?_
  refine jc_dup hX d_P_init_19 rfl ?_
  refine jc_aload_n hX d_P_init_20 0 rfl rfl ?_
  refine jc_get hX jn_in_P 0 rfl rfl 0 (by decide) rfl wm_160 rfl d_P_init_21 ?_
  refine jc_callI (n := 1) (wr := [(h, .inr (0, [.ref q5, .null, .null, .int 0, .int 0, .int 0])), (q5, .inr (1, [.ref q5_q7, .ref q5_q15, .ref q5_q23, .int 0, .int 0, .int 0, .int 0])), (q5_q7, .inl (jx_ca G 0, 32, .inl (fun _ => 0))), (q5_q15, .inl (jx_ca G 1, 8, .inl (fun _ => 0))), (q5_q23, .inl (jx_ca G 0, 80, .inl (fun _ => 0)))]) (As := [.ref q5]) hX (c_R_init (jx_l X) G q16 q5) wm_60 wm_3 wm_58 wm_59 rfl (by decide) rfl rfl d_P_init_24 (by decide) (by decide) (Nat.le_of_ble_eq_true rfl) (fun w1 hw => ?_)
  obtain ⟨q16_q7, q16_q15, q16_q22, rfl⟩ := hw
  refine jc_w (w2 := [(h, .inr (0, [.ref q5, .null, .null, .int 0, .int 0, .int 0])), (q5, .inr (1, [.ref q5_q7, .ref q5_q15, .ref q5_q23, .int 0, .int 0, .int 0, .int 0])), (q5_q7, .inl (jx_ca G 0, 32, .inl (fun _ => 0))), (q5_q15, .inl (jx_ca G 1, 8, .inl (fun _ => 0))), (q5_q23, .inl (jx_ca G 0, 80, .inl (fun _ => 0))), (q16, .inr (2, [.ref q5, .ref q16_q7, .ref q16_q15, .ref q16_q22, .int 0, .int 0, .int 0, .int 0, .int 0])), (q16_q7, .inl (jx_ca G 1, 80, .inl (fun _ => 0))), (q16_q15, .inl (jx_ca G 0, 80, .inl (fun _ => 0))), (q16_q22, .inl (jx_ca G 0, 4, .inl (fun _ => 0)))]) rfl ?_
  refine jc_putF hX hI jn_in_P jn_t_P jn_tok_P jn_nm_P 0 rfl rfl 1 (by decide) rfl rfl wm_161 rfl rfl rfl rfl (Nat.le_of_ble_eq_true rfl) (w2 := [(h, .inr (0, [.ref q5, .ref q16, .null, .int 0, .int 0, .int 0])), (q5, .inr (1, [.ref q5_q7, .ref q5_q15, .ref q5_q23, .int 0, .int 0, .int 0, .int 0])), (q5_q7, .inl (jx_ca G 0, 32, .inl (fun _ => 0))), (q5_q15, .inl (jx_ca G 1, 8, .inl (fun _ => 0))), (q5_q23, .inl (jx_ca G 0, 80, .inl (fun _ => 0))), (q16, .inr (2, [.ref q5, .ref q16_q7, .ref q16_q15, .ref q16_q22, .int 0, .int 0, .int 0, .int 0, .int 0])), (q16_q7, .inl (jx_ca G 1, 80, .inl (fun _ => 0))), (q16_q15, .inl (jx_ca G 0, 80, .inl (fun _ => 0))), (q16_q22, .inl (jx_ca G 0, 4, .inl (fun _ => 0)))]) rfl d_P_init_27 ?_
  refine jc_aload_n hX d_P_init_30 0 rfl rfl ?_
  refine jc_new (ci := 3) (fs := [.null, .null, .null, .null, .null, .null, .int 0]) hX jn_in_Q jn_t_Q jn_tok_Q wm_91 wm_92 wm_4 rfl (fun j hj => by rcases (show j = 0 ∨ j = 1 ∨ j = 2 ∨ j = 3 ∨ j = 4 ∨ j = 5 ∨ j = 6 by omega) with rfl | rfl | rfl | rfl | rfl | rfl | rfl <;> rfl) (by decide) (by decide) d_P_init_31 (fun q31 => ?_)
  refine jc_w (w2 := [(h, .inr (0, [.ref q5, .ref q16, .null, .int 0, .int 0, .int 0])), (q5, .inr (1, [.ref q5_q7, .ref q5_q15, .ref q5_q23, .int 0, .int 0, .int 0, .int 0])), (q5_q7, .inl (jx_ca G 0, 32, .inl (fun _ => 0))), (q5_q15, .inl (jx_ca G 1, 8, .inl (fun _ => 0))), (q5_q23, .inl (jx_ca G 0, 80, .inl (fun _ => 0))), (q16, .inr (2, [.ref q5, .ref q16_q7, .ref q16_q15, .ref q16_q22, .int 0, .int 0, .int 0, .int 0, .int 0])), (q16_q7, .inl (jx_ca G 1, 80, .inl (fun _ => 0))), (q16_q15, .inl (jx_ca G 0, 80, .inl (fun _ => 0))), (q16_q22, .inl (jx_ca G 0, 4, .inl (fun _ => 0))), (q31, .inr (3, [.null, .null, .null, .null, .null, .null, .int 0]))]) rfl ?_
  refine jc_dup hX d_P_init_34 rfl ?_
  refine jc_aload_n hX d_P_init_35 0 rfl rfl ?_
  refine jc_get hX jn_in_P 0 rfl rfl 0 (by decide) rfl wm_160 rfl d_P_init_36 ?_
  refine jc_callI (n := 1) (wr := [(h, .inr (0, [.ref q5, .ref q16, .null, .int 0, .int 0, .int 0])), (q5, .inr (1, [.ref q5_q7, .ref q5_q15, .ref q5_q23, .int 0, .int 0, .int 0, .int 0])), (q5_q7, .inl (jx_ca G 0, 32, .inl (fun _ => 0))), (q5_q15, .inl (jx_ca G 1, 8, .inl (fun _ => 0))), (q5_q23, .inl (jx_ca G 0, 80, .inl (fun _ => 0))), (q16, .inr (2, [.ref q5, .ref q16_q7, .ref q16_q15, .ref q16_q22, .int 0, .int 0, .int 0, .int 0, .int 0])), (q16_q7, .inl (jx_ca G 1, 80, .inl (fun _ => 0))), (q16_q15, .inl (jx_ca G 0, 80, .inl (fun _ => 0))), (q16_q22, .inl (jx_ca G 0, 4, .inl (fun _ => 0)))]) (As := [.ref q5]) hX (c_Q_init (jx_l X) G q31 q5) wm_95 wm_4 wm_93 wm_94 rfl (by decide) rfl rfl d_P_init_39 (by decide) (by decide) (Nat.le_of_ble_eq_true rfl) (fun w1 hw => ?_)
  obtain ⟨q31_q5, q31_q5_q7, q31_q5_q15, q31_q5_q23, q31_q16, q31_q29, q31_q37, q31_q45, rfl⟩ := hw
  refine jc_w (w2 := [(h, .inr (0, [.ref q5, .ref q16, .null, .int 0, .int 0, .int 0])), (q5, .inr (1, [.ref q5_q7, .ref q5_q15, .ref q5_q23, .int 0, .int 0, .int 0, .int 0])), (q5_q7, .inl (jx_ca G 0, 32, .inl (fun _ => 0))), (q5_q15, .inl (jx_ca G 1, 8, .inl (fun _ => 0))), (q5_q23, .inl (jx_ca G 0, 80, .inl (fun _ => 0))), (q16, .inr (2, [.ref q5, .ref q16_q7, .ref q16_q15, .ref q16_q22, .int 0, .int 0, .int 0, .int 0, .int 0])), (q16_q7, .inl (jx_ca G 1, 80, .inl (fun _ => 0))), (q16_q15, .inl (jx_ca G 0, 80, .inl (fun _ => 0))), (q16_q22, .inl (jx_ca G 0, 4, .inl (fun _ => 0))), (q31, .inr (3, [.ref q5, .ref q31_q5, .ref q31_q16, .ref q31_q29, .ref q31_q37, .ref q31_q45, .int 0])), (q31_q5, .inr (4, [.ref q31_q5_q7, .ref q31_q5_q15, .ref q31_q5_q23, .int 0])), (q31_q5_q7, .inl (jx_ca G 0, 72, .inl (fun _ => 0))), (q31_q5_q15, .inl (jx_ca G 0, 72, .inl (fun _ => 0))), (q31_q5_q23, .inl (jx_ca G 0, 72, .inl (fun _ => 0))), (q31_q16, .inr (5, [.int 0, .int 0, .int 0])), (q31_q29, .inl (jx_ca G 0, 8, .inl (fun _ => 0))), (q31_q37, .inl (jx_ca G 0, 8, .inl (fun _ => 0))), (q31_q45, .inl (jx_ca G 0, 8, .inl (fun _ => 0)))]) rfl ?_
  refine jc_putF hX hI jn_in_P jn_t_P jn_tok_P jn_nm_P 0 rfl rfl 2 (by decide) rfl rfl wm_162 rfl rfl rfl rfl (Nat.le_of_ble_eq_true rfl) (w2 := [(h, .inr (0, [.ref q5, .ref q16, .ref q31, .int 0, .int 0, .int 0])), (q5, .inr (1, [.ref q5_q7, .ref q5_q15, .ref q5_q23, .int 0, .int 0, .int 0, .int 0])), (q5_q7, .inl (jx_ca G 0, 32, .inl (fun _ => 0))), (q5_q15, .inl (jx_ca G 1, 8, .inl (fun _ => 0))), (q5_q23, .inl (jx_ca G 0, 80, .inl (fun _ => 0))), (q16, .inr (2, [.ref q5, .ref q16_q7, .ref q16_q15, .ref q16_q22, .int 0, .int 0, .int 0, .int 0, .int 0])), (q16_q7, .inl (jx_ca G 1, 80, .inl (fun _ => 0))), (q16_q15, .inl (jx_ca G 0, 80, .inl (fun _ => 0))), (q16_q22, .inl (jx_ca G 0, 4, .inl (fun _ => 0))), (q31, .inr (3, [.ref q5, .ref q31_q5, .ref q31_q16, .ref q31_q29, .ref q31_q37, .ref q31_q45, .int 0])), (q31_q5, .inr (4, [.ref q31_q5_q7, .ref q31_q5_q15, .ref q31_q5_q23, .int 0])), (q31_q5_q7, .inl (jx_ca G 0, 72, .inl (fun _ => 0))), (q31_q5_q15, .inl (jx_ca G 0, 72, .inl (fun _ => 0))), (q31_q5_q23, .inl (jx_ca G 0, 72, .inl (fun _ => 0))), (q31_q16, .inr (5, [.int 0, .int 0, .int 0])), (q31_q29, .inl (jx_ca G 0, 8, .inl (fun _ => 0))), (q31_q37, .inl (jx_ca G 0, 8, .inl (fun _ => 0))), (q31_q45, .inl (jx_ca G 0, 8, .inl (fun _ => 0)))]) rfl d_P_init_42 ?_
  refine jc_aload_n hX d_P_init_45 0 rfl rfl ?_
  refine jc_iconst (v := (-1)) hX d_P_init_46 (by decide) ?_
  refine jc_put hX jn_in_P jn_t_P jn_tok_P jn_nm_P 0 rfl rfl 3 (by decide) rfl wm_163 rfl rfl rfl rfl (Nat.le_of_ble_eq_true rfl) (w2 := [(h, .inr (0, [.ref q5, .ref q16, .ref q31, .int (-1), .int 0, .int 0])), (q5, .inr (1, [.ref q5_q7, .ref q5_q15, .ref q5_q23, .int 0, .int 0, .int 0, .int 0])), (q5_q7, .inl (jx_ca G 0, 32, .inl (fun _ => 0))), (q5_q15, .inl (jx_ca G 1, 8, .inl (fun _ => 0))), (q5_q23, .inl (jx_ca G 0, 80, .inl (fun _ => 0))), (q16, .inr (2, [.ref q5, .ref q16_q7, .ref q16_q15, .ref q16_q22, .int 0, .int 0, .int 0, .int 0, .int 0])), (q16_q7, .inl (jx_ca G 1, 80, .inl (fun _ => 0))), (q16_q15, .inl (jx_ca G 0, 80, .inl (fun _ => 0))), (q16_q22, .inl (jx_ca G 0, 4, .inl (fun _ => 0))), (q31, .inr (3, [.ref q5, .ref q31_q5, .ref q31_q16, .ref q31_q29, .ref q31_q37, .ref q31_q45, .int 0])), (q31_q5, .inr (4, [.ref q31_q5_q7, .ref q31_q5_q15, .ref q31_q5_q23, .int 0])), (q31_q5_q7, .inl (jx_ca G 0, 72, .inl (fun _ => 0))), (q31_q5_q15, .inl (jx_ca G 0, 72, .inl (fun _ => 0))), (q31_q5_q23, .inl (jx_ca G 0, 72, .inl (fun _ => 0))), (q31_q16, .inr (5, [.int 0, .int 0, .int 0])), (q31_q29, .inl (jx_ca G 0, 8, .inl (fun _ => 0))), (q31_q37, .inl (jx_ca G 0, 8, .inl (fun _ => 0))), (q31_q45, .inl (jx_ca G 0, 8, .inl (fun _ => 0)))]) rfl d_P_init_47 ?_
  refine jc_aload_n hX d_P_init_50 0 rfl rfl ?_
  refine jc_iconst (v := 0) hX d_P_init_51 (by decide) ?_
  refine jc_put hX jn_in_P jn_t_P jn_tok_P jn_nm_P 0 rfl rfl 4 (by decide) rfl wm_164 rfl rfl rfl rfl (Nat.le_of_ble_eq_true rfl) (w2 := [(h, .inr (0, [.ref q5, .ref q16, .ref q31, .int (-1), .int 0, .int 0])), (q5, .inr (1, [.ref q5_q7, .ref q5_q15, .ref q5_q23, .int 0, .int 0, .int 0, .int 0])), (q5_q7, .inl (jx_ca G 0, 32, .inl (fun _ => 0))), (q5_q15, .inl (jx_ca G 1, 8, .inl (fun _ => 0))), (q5_q23, .inl (jx_ca G 0, 80, .inl (fun _ => 0))), (q16, .inr (2, [.ref q5, .ref q16_q7, .ref q16_q15, .ref q16_q22, .int 0, .int 0, .int 0, .int 0, .int 0])), (q16_q7, .inl (jx_ca G 1, 80, .inl (fun _ => 0))), (q16_q15, .inl (jx_ca G 0, 80, .inl (fun _ => 0))), (q16_q22, .inl (jx_ca G 0, 4, .inl (fun _ => 0))), (q31, .inr (3, [.ref q5, .ref q31_q5, .ref q31_q16, .ref q31_q29, .ref q31_q37, .ref q31_q45, .int 0])), (q31_q5, .inr (4, [.ref q31_q5_q7, .ref q31_q5_q15, .ref q31_q5_q23, .int 0])), (q31_q5_q7, .inl (jx_ca G 0, 72, .inl (fun _ => 0))), (q31_q5_q15, .inl (jx_ca G 0, 72, .inl (fun _ => 0))), (q31_q5_q23, .inl (jx_ca G 0, 72, .inl (fun _ => 0))), (q31_q16, .inr (5, [.int 0, .int 0, .int 0])), (q31_q29, .inl (jx_ca G 0, 8, .inl (fun _ => 0))), (q31_q37, .inl (jx_ca G 0, 8, .inl (fun _ => 0))), (q31_q45, .inl (jx_ca G 0, 8, .inl (fun _ => 0)))]) rfl d_P_init_52 ?_
  refine jc_aload_n hX d_P_init_55 0 rfl rfl ?_
  refine jc_iconst (v := (-1)) hX d_P_init_56 (by decide) ?_
  refine jc_put hX jn_in_P jn_t_P jn_tok_P jn_nm_P 0 rfl rfl 5 (by decide) rfl wm_165 rfl rfl rfl rfl (Nat.le_of_ble_eq_true rfl) (w2 := [(h, .inr (0, [.ref q5, .ref q16, .ref q31, .int (-1), .int 0, .int (-1)])), (q5, .inr (1, [.ref q5_q7, .ref q5_q15, .ref q5_q23, .int 0, .int 0, .int 0, .int 0])), (q5_q7, .inl (jx_ca G 0, 32, .inl (fun _ => 0))), (q5_q15, .inl (jx_ca G 1, 8, .inl (fun _ => 0))), (q5_q23, .inl (jx_ca G 0, 80, .inl (fun _ => 0))), (q16, .inr (2, [.ref q5, .ref q16_q7, .ref q16_q15, .ref q16_q22, .int 0, .int 0, .int 0, .int 0, .int 0])), (q16_q7, .inl (jx_ca G 1, 80, .inl (fun _ => 0))), (q16_q15, .inl (jx_ca G 0, 80, .inl (fun _ => 0))), (q16_q22, .inl (jx_ca G 0, 4, .inl (fun _ => 0))), (q31, .inr (3, [.ref q5, .ref q31_q5, .ref q31_q16, .ref q31_q29, .ref q31_q37, .ref q31_q45, .int 0])), (q31_q5, .inr (4, [.ref q31_q5_q7, .ref q31_q5_q15, .ref q31_q5_q23, .int 0])), (q31_q5_q7, .inl (jx_ca G 0, 72, .inl (fun _ => 0))), (q31_q5_q15, .inl (jx_ca G 0, 72, .inl (fun _ => 0))), (q31_q5_q23, .inl (jx_ca G 0, 72, .inl (fun _ => 0))), (q31_q16, .inr (5, [.int 0, .int 0, .int 0])), (q31_q29, .inl (jx_ca G 0, 8, .inl (fun _ => 0))), (q31_q37, .inl (jx_ca G 0, 8, .inl (fun _ => 0))), (q31_q45, .inl (jx_ca G 0, 8, .inl (fun _ => 0)))]) rfl d_P_init_57 ?_
  exact jc_vret hX hI (⟨q5, q5_q7, q5_q15, q5_q23, q16, q16_q7, q16_q15, q16_q22, q31, q31_q5, q31_q5_q7, q31_q5_q15, q31_q5_q23, q31_q16, q31_q29, q31_q37, q31_q45, rfl⟩) d_P_init_60

theorem d_M_init_0 : decode b_M_init 0 = .ok (.aload_n 0, 1) := by decide +kernel
theorem d_M_init_1 : decode b_M_init 1 = .ok (.invokespecial 1, 3) := by decide +kernel
theorem d_M_init_4 : decode b_M_init 4 = .ok (.aload_n 0, 1) := by decide +kernel
theorem d_M_init_5 : decode b_M_init 5 = .ok (.bipush 80, 2) := by decide +kernel
theorem d_M_init_7 : decode b_M_init 7 = .ok (.newarray .int, 2) := by decide +kernel
theorem d_M_init_9 : decode b_M_init 9 = .ok (.putfield 7, 3) := by decide +kernel
theorem d_M_init_12 : decode b_M_init 12 = .ok (.aload_n 0, 1) := by decide +kernel
theorem d_M_init_13 : decode b_M_init 13 = .ok (.bipush 80, 2) := by decide +kernel
theorem d_M_init_15 : decode b_M_init 15 = .ok (.newarray .int, 2) := by decide +kernel
theorem d_M_init_17 : decode b_M_init 17 = .ok (.putfield 13, 3) := by decide +kernel
theorem d_M_init_20 : decode b_M_init 20 = .ok (.aload_n 0, 1) := by decide +kernel
theorem d_M_init_21 : decode b_M_init 21 = .ok (.iconst (-1), 1) := by decide +kernel
theorem d_M_init_22 : decode b_M_init 22 = .ok (.putfield 16, 3) := by decide +kernel
theorem d_M_init_25 : decode b_M_init 25 = .ok (.aload_n 0, 1) := by decide +kernel
theorem d_M_init_26 : decode b_M_init 26 = .ok (.bipush 32, 2) := by decide +kernel
theorem d_M_init_28 : decode b_M_init 28 = .ok (.newarray .int, 2) := by decide +kernel
theorem d_M_init_30 : decode b_M_init 30 = .ok (.putfield 20, 3) := by decide +kernel
theorem d_M_init_33 : decode b_M_init 33 = .ok (.aload_n 0, 1) := by decide +kernel
theorem d_M_init_34 : decode b_M_init 34 = .ok (.bipush 90, 2) := by decide +kernel
theorem d_M_init_36 : decode b_M_init 36 = .ok (.newarray .int, 2) := by decide +kernel
theorem d_M_init_38 : decode b_M_init 38 = .ok (.putfield 23, 3) := by decide +kernel
theorem d_M_init_41 : decode b_M_init 41 = .ok (.aload_n 0, 1) := by decide +kernel
theorem d_M_init_42 : decode b_M_init 42 = .ok (.bipush 90, 2) := by decide +kernel
theorem d_M_init_44 : decode b_M_init 44 = .ok (.newarray .int, 2) := by decide +kernel
theorem d_M_init_46 : decode b_M_init 46 = .ok (.putfield 26, 3) := by decide +kernel
theorem d_M_init_49 : decode b_M_init 49 = .ok (.aload_n 0, 1) := by decide +kernel
theorem d_M_init_50 : decode b_M_init 50 = .ok (.bipush 90, 2) := by decide +kernel
theorem d_M_init_52 : decode b_M_init 52 = .ok (.newarray .boolean, 2) := by decide +kernel
theorem d_M_init_54 : decode b_M_init 54 = .ok (.putfield 29, 3) := by decide +kernel
theorem d_M_init_57 : decode b_M_init 57 = .ok (.aload_n 0, 1) := by decide +kernel
theorem d_M_init_58 : decode b_M_init 58 = .ok (.bipush 80, 2) := by decide +kernel
theorem d_M_init_60 : decode b_M_init 60 = .ok (.newarray .long, 2) := by decide +kernel
theorem d_M_init_62 : decode b_M_init 62 = .ok (.putfield 33, 3) := by decide +kernel
theorem d_M_init_65 : decode b_M_init 65 = .ok (.aload_n 0, 1) := by decide +kernel
theorem d_M_init_66 : decode b_M_init 66 = .ok (.bipush 80, 2) := by decide +kernel
theorem d_M_init_68 : decode b_M_init 68 = .ok (.newarray .long, 2) := by decide +kernel
theorem d_M_init_70 : decode b_M_init 70 = .ok (.putfield 37, 3) := by decide +kernel
theorem d_M_init_73 : decode b_M_init 73 = .ok (.aload_n 0, 1) := by decide +kernel
theorem d_M_init_74 : decode b_M_init 74 = .ok (.bipush 80, 2) := by decide +kernel
theorem d_M_init_76 : decode b_M_init 76 = .ok (.newarray .long, 2) := by decide +kernel
theorem d_M_init_78 : decode b_M_init 78 = .ok (.putfield 40, 3) := by decide +kernel
theorem d_M_init_81 : decode b_M_init 81 = .ok (.aload_n 0, 1) := by decide +kernel
theorem d_M_init_82 : decode b_M_init 82 = .ok (.bipush 80, 2) := by decide +kernel
theorem d_M_init_84 : decode b_M_init 84 = .ok (.newarray .int, 2) := by decide +kernel
theorem d_M_init_86 : decode b_M_init 86 = .ok (.putfield 43, 3) := by decide +kernel
theorem d_M_init_89 : decode b_M_init 89 = .ok (.aload_n 0, 1) := by decide +kernel
theorem d_M_init_90 : decode b_M_init 90 = .ok (.iconst (-1), 1) := by decide +kernel
theorem d_M_init_91 : decode b_M_init 91 = .ok (.putfield 46, 3) := by decide +kernel
theorem d_M_init_94 : decode b_M_init 94 = .ok (.aload_n 0, 1) := by decide +kernel
theorem d_M_init_95 : decode b_M_init 95 = .ok (.bipush 8, 2) := by decide +kernel
theorem d_M_init_97 : decode b_M_init 97 = .ok (.newarray .int, 2) := by decide +kernel
theorem d_M_init_99 : decode b_M_init 99 = .ok (.putfield 49, 3) := by decide +kernel
theorem d_M_init_102 : decode b_M_init 102 = .ok (.aload_n 0, 1) := by decide +kernel
theorem d_M_init_103 : decode b_M_init 103 = .ok (.bipush 8, 2) := by decide +kernel
theorem d_M_init_105 : decode b_M_init 105 = .ok (.newarray .int, 2) := by decide +kernel
theorem d_M_init_107 : decode b_M_init 107 = .ok (.putfield 52, 3) := by decide +kernel
theorem d_M_init_110 : decode b_M_init 110 = .ok (.aload_n 0, 1) := by decide +kernel
theorem d_M_init_111 : decode b_M_init 111 = .ok (.bipush 8, 2) := by decide +kernel
theorem d_M_init_113 : decode b_M_init 113 = .ok (.newarray .int, 2) := by decide +kernel
theorem d_M_init_115 : decode b_M_init 115 = .ok (.putfield 55, 3) := by decide +kernel
theorem d_M_init_118 : decode b_M_init 118 = .ok (.return_, 1) := by decide +kernel
set_option maxHeartbeats 4000000 in
set_option maxRecDepth 100000 in
theorem c_M_init (l : Launch) (G : jx_G) (h : Nat) : jc_K l y_M_init b_M_init 1 1 13 806 G [.ref h] [(h, .inr (6, [.int 0, .null, .int 0, .null, .int 0, .int 0, .int 0, .int 0, .null, .int 0, .null, .int 0, .null, .null, .int 0, .null, .null, .null, .null, .int 0, .int 0, .null, .null, .int 0, .null]))] (fun w1 => ∃ q7 q15 q28 q36 q44 q52 q60 q68 q76 q84 q97 q105 q113 : Nat, w1 = [(h, .inr (6, [.int 0, .ref q7, .int 0, .ref q15, .int (-1), .int 0, .int 0, .int 0, .ref q28, .int 0, .ref q36, .int 0, .ref q44, .ref q52, .int 0, .ref q60, .ref q68, .ref q76, .ref q84, .int (-1), .int 0, .ref q97, .ref q105, .int 0, .ref q113])), (q7, .inl (jx_ca G 0, 80, .inl (fun _ => 0))), (q15, .inl (jx_ca G 0, 80, .inl (fun _ => 0))), (q28, .inl (jx_ca G 0, 32, .inl (fun _ => 0))), (q36, .inl (jx_ca G 0, 90, .inl (fun _ => 0))), (q44, .inl (jx_ca G 0, 90, .inl (fun _ => 0))), (q52, .inl (jx_ca G 2, 90, .inl (fun _ => 0))), (q60, .inl (jx_ca G 3, 80, .inr (.inl (fun _ => 0)))), (q68, .inl (jx_ca G 3, 80, .inr (.inl (fun _ => 0)))), (q76, .inl (jx_ca G 3, 80, .inr (.inl (fun _ => 0)))), (q84, .inl (jx_ca G 0, 80, .inl (fun _ => 0))), (q97, .inl (jx_ca G 0, 8, .inl (fun _ => 0))), (q105, .inl (jx_ca G 0, 8, .inl (fun _ => 0))), (q113, .inl (jx_ca G 0, 8, .inl (fun _ => 0)))]) := by
  refine jc_met (own := "PlaneCellsModel") (by decide) rfl rfl (Nat.le_of_ble_eq_true rfl) (fun X hX hI hl => ?_)
  refine jc_L (L2 := [(0, .ref h)]) rfl ?_
  refine jc_aload_n hX d_M_init_0 0 rfl rfl ?_
  refine jc_obj hX wm_444 d_M_init_1 (by decide) (Nat.le_of_ble_eq_true rfl) ?_
  refine jc_aload_n hX d_M_init_4 0 rfl rfl ?_
  refine jc_bipush (v := 80) hX d_M_init_5 (by decide) ?_
  refine jc_newi (N := 80) hX d_M_init_7 (by decide) (by decide) (by decide) (by decide) (by decide) (fun q7 => ?_)
  refine jc_w (w2 := [(h, .inr (6, [.int 0, .null, .int 0, .null, .int 0, .int 0, .int 0, .int 0, .null, .int 0, .null, .int 0, .null, .null, .int 0, .null, .null, .null, .null, .int 0, .int 0, .null, .null, .int 0, .null])), (q7, .inl (jx_ca G 0, 80, .inl (fun _ => 0)))]) rfl ?_
  refine jc_put hX jn_in_M jn_t_M jn_tok_M jn_nm_M 0 rfl rfl 1 (by decide) rfl wm_446 rfl rfl rfl rfl (Nat.le_of_ble_eq_true rfl) (w2 := [(h, .inr (6, [.int 0, .ref q7, .int 0, .null, .int 0, .int 0, .int 0, .int 0, .null, .int 0, .null, .int 0, .null, .null, .int 0, .null, .null, .null, .null, .int 0, .int 0, .null, .null, .int 0, .null])), (q7, .inl (jx_ca G 0, 80, .inl (fun _ => 0)))]) rfl d_M_init_9 ?_
  refine jc_aload_n hX d_M_init_12 0 rfl rfl ?_
  refine jc_bipush (v := 80) hX d_M_init_13 (by decide) ?_
  refine jc_newi (N := 80) hX d_M_init_15 (by decide) (by decide) (by decide) (by decide) (by decide) (fun q15 => ?_)
  refine jc_w (w2 := [(h, .inr (6, [.int 0, .ref q7, .int 0, .null, .int 0, .int 0, .int 0, .int 0, .null, .int 0, .null, .int 0, .null, .null, .int 0, .null, .null, .null, .null, .int 0, .int 0, .null, .null, .int 0, .null])), (q7, .inl (jx_ca G 0, 80, .inl (fun _ => 0))), (q15, .inl (jx_ca G 0, 80, .inl (fun _ => 0)))]) rfl ?_
  refine jc_put hX jn_in_M jn_t_M jn_tok_M jn_nm_M 0 rfl rfl 3 (by decide) rfl wm_448 rfl rfl rfl rfl (Nat.le_of_ble_eq_true rfl) (w2 := [(h, .inr (6, [.int 0, .ref q7, .int 0, .ref q15, .int 0, .int 0, .int 0, .int 0, .null, .int 0, .null, .int 0, .null, .null, .int 0, .null, .null, .null, .null, .int 0, .int 0, .null, .null, .int 0, .null])), (q7, .inl (jx_ca G 0, 80, .inl (fun _ => 0))), (q15, .inl (jx_ca G 0, 80, .inl (fun _ => 0)))]) rfl d_M_init_17 ?_
  refine jc_aload_n hX d_M_init_20 0 rfl rfl ?_
  refine jc_iconst (v := (-1)) hX d_M_init_21 (by decide) ?_
  refine jc_put hX jn_in_M jn_t_M jn_tok_M jn_nm_M 0 rfl rfl 4 (by decide) rfl wm_449 rfl rfl rfl rfl (Nat.le_of_ble_eq_true rfl) (w2 := [(h, .inr (6, [.int 0, .ref q7, .int 0, .ref q15, .int (-1), .int 0, .int 0, .int 0, .null, .int 0, .null, .int 0, .null, .null, .int 0, .null, .null, .null, .null, .int 0, .int 0, .null, .null, .int 0, .null])), (q7, .inl (jx_ca G 0, 80, .inl (fun _ => 0))), (q15, .inl (jx_ca G 0, 80, .inl (fun _ => 0)))]) rfl d_M_init_22 ?_
  refine jc_aload_n hX d_M_init_25 0 rfl rfl ?_
  refine jc_bipush (v := 32) hX d_M_init_26 (by decide) ?_
  refine jc_newi (N := 32) hX d_M_init_28 (by decide) (by decide) (by decide) (by decide) (by decide) (fun q28 => ?_)
  refine jc_w (w2 := [(h, .inr (6, [.int 0, .ref q7, .int 0, .ref q15, .int (-1), .int 0, .int 0, .int 0, .null, .int 0, .null, .int 0, .null, .null, .int 0, .null, .null, .null, .null, .int 0, .int 0, .null, .null, .int 0, .null])), (q7, .inl (jx_ca G 0, 80, .inl (fun _ => 0))), (q15, .inl (jx_ca G 0, 80, .inl (fun _ => 0))), (q28, .inl (jx_ca G 0, 32, .inl (fun _ => 0)))]) rfl ?_
  refine jc_put hX jn_in_M jn_t_M jn_tok_M jn_nm_M 0 rfl rfl 8 (by decide) rfl wm_453 rfl rfl rfl rfl (Nat.le_of_ble_eq_true rfl) (w2 := [(h, .inr (6, [.int 0, .ref q7, .int 0, .ref q15, .int (-1), .int 0, .int 0, .int 0, .ref q28, .int 0, .null, .int 0, .null, .null, .int 0, .null, .null, .null, .null, .int 0, .int 0, .null, .null, .int 0, .null])), (q7, .inl (jx_ca G 0, 80, .inl (fun _ => 0))), (q15, .inl (jx_ca G 0, 80, .inl (fun _ => 0))), (q28, .inl (jx_ca G 0, 32, .inl (fun _ => 0)))]) rfl d_M_init_30 ?_
  refine jc_aload_n hX d_M_init_33 0 rfl rfl ?_
  refine jc_bipush (v := 90) hX d_M_init_34 (by decide) ?_
  refine jc_newi (N := 90) hX d_M_init_36 (by decide) (by decide) (by decide) (by decide) (by decide) (fun q36 => ?_)
  refine jc_w (w2 := [(h, .inr (6, [.int 0, .ref q7, .int 0, .ref q15, .int (-1), .int 0, .int 0, .int 0, .ref q28, .int 0, .null, .int 0, .null, .null, .int 0, .null, .null, .null, .null, .int 0, .int 0, .null, .null, .int 0, .null])), (q7, .inl (jx_ca G 0, 80, .inl (fun _ => 0))), (q15, .inl (jx_ca G 0, 80, .inl (fun _ => 0))), (q28, .inl (jx_ca G 0, 32, .inl (fun _ => 0))), (q36, .inl (jx_ca G 0, 90, .inl (fun _ => 0)))]) rfl ?_
  refine jc_put hX jn_in_M jn_t_M jn_tok_M jn_nm_M 0 rfl rfl 10 (by decide) rfl wm_455 rfl rfl rfl rfl (Nat.le_of_ble_eq_true rfl) (w2 := [(h, .inr (6, [.int 0, .ref q7, .int 0, .ref q15, .int (-1), .int 0, .int 0, .int 0, .ref q28, .int 0, .ref q36, .int 0, .null, .null, .int 0, .null, .null, .null, .null, .int 0, .int 0, .null, .null, .int 0, .null])), (q7, .inl (jx_ca G 0, 80, .inl (fun _ => 0))), (q15, .inl (jx_ca G 0, 80, .inl (fun _ => 0))), (q28, .inl (jx_ca G 0, 32, .inl (fun _ => 0))), (q36, .inl (jx_ca G 0, 90, .inl (fun _ => 0)))]) rfl d_M_init_38 ?_
  refine jc_aload_n hX d_M_init_41 0 rfl rfl ?_
  refine jc_bipush (v := 90) hX d_M_init_42 (by decide) ?_
  refine jc_newi (N := 90) hX d_M_init_44 (by decide) (by decide) (by decide) (by decide) (by decide) (fun q44 => ?_)
  refine jc_w (w2 := [(h, .inr (6, [.int 0, .ref q7, .int 0, .ref q15, .int (-1), .int 0, .int 0, .int 0, .ref q28, .int 0, .ref q36, .int 0, .null, .null, .int 0, .null, .null, .null, .null, .int 0, .int 0, .null, .null, .int 0, .null])), (q7, .inl (jx_ca G 0, 80, .inl (fun _ => 0))), (q15, .inl (jx_ca G 0, 80, .inl (fun _ => 0))), (q28, .inl (jx_ca G 0, 32, .inl (fun _ => 0))), (q36, .inl (jx_ca G 0, 90, .inl (fun _ => 0))), (q44, .inl (jx_ca G 0, 90, .inl (fun _ => 0)))]) rfl ?_
  refine jc_put hX jn_in_M jn_t_M jn_tok_M jn_nm_M 0 rfl rfl 12 (by decide) rfl wm_457 rfl rfl rfl rfl (Nat.le_of_ble_eq_true rfl) (w2 := [(h, .inr (6, [.int 0, .ref q7, .int 0, .ref q15, .int (-1), .int 0, .int 0, .int 0, .ref q28, .int 0, .ref q36, .int 0, .ref q44, .null, .int 0, .null, .null, .null, .null, .int 0, .int 0, .null, .null, .int 0, .null])), (q7, .inl (jx_ca G 0, 80, .inl (fun _ => 0))), (q15, .inl (jx_ca G 0, 80, .inl (fun _ => 0))), (q28, .inl (jx_ca G 0, 32, .inl (fun _ => 0))), (q36, .inl (jx_ca G 0, 90, .inl (fun _ => 0))), (q44, .inl (jx_ca G 0, 90, .inl (fun _ => 0)))]) rfl d_M_init_46 ?_
  refine jc_aload_n hX d_M_init_49 0 rfl rfl ?_
  refine jc_bipush (v := 90) hX d_M_init_50 (by decide) ?_
  refine jc_newz (N := 90) hX d_M_init_52 (by decide) (by decide) (by decide) (by decide) (by decide) (fun q52 => ?_)
  refine jc_w (w2 := [(h, .inr (6, [.int 0, .ref q7, .int 0, .ref q15, .int (-1), .int 0, .int 0, .int 0, .ref q28, .int 0, .ref q36, .int 0, .ref q44, .null, .int 0, .null, .null, .null, .null, .int 0, .int 0, .null, .null, .int 0, .null])), (q7, .inl (jx_ca G 0, 80, .inl (fun _ => 0))), (q15, .inl (jx_ca G 0, 80, .inl (fun _ => 0))), (q28, .inl (jx_ca G 0, 32, .inl (fun _ => 0))), (q36, .inl (jx_ca G 0, 90, .inl (fun _ => 0))), (q44, .inl (jx_ca G 0, 90, .inl (fun _ => 0))), (q52, .inl (jx_ca G 2, 90, .inl (fun _ => 0)))]) rfl ?_
  refine jc_put hX jn_in_M jn_t_M jn_tok_M jn_nm_M 0 rfl rfl 13 (by decide) rfl wm_458 rfl rfl rfl rfl (Nat.le_of_ble_eq_true rfl) (w2 := [(h, .inr (6, [.int 0, .ref q7, .int 0, .ref q15, .int (-1), .int 0, .int 0, .int 0, .ref q28, .int 0, .ref q36, .int 0, .ref q44, .ref q52, .int 0, .null, .null, .null, .null, .int 0, .int 0, .null, .null, .int 0, .null])), (q7, .inl (jx_ca G 0, 80, .inl (fun _ => 0))), (q15, .inl (jx_ca G 0, 80, .inl (fun _ => 0))), (q28, .inl (jx_ca G 0, 32, .inl (fun _ => 0))), (q36, .inl (jx_ca G 0, 90, .inl (fun _ => 0))), (q44, .inl (jx_ca G 0, 90, .inl (fun _ => 0))), (q52, .inl (jx_ca G 2, 90, .inl (fun _ => 0)))]) rfl d_M_init_54 ?_
  refine jc_aload_n hX d_M_init_57 0 rfl rfl ?_
  refine jc_bipush (v := 80) hX d_M_init_58 (by decide) ?_
  refine jc_newj (N := 80) hX d_M_init_60 (by decide) (by decide) (by decide) (by decide) (by decide) (fun q60 => ?_)
  refine jc_w (w2 := [(h, .inr (6, [.int 0, .ref q7, .int 0, .ref q15, .int (-1), .int 0, .int 0, .int 0, .ref q28, .int 0, .ref q36, .int 0, .ref q44, .ref q52, .int 0, .null, .null, .null, .null, .int 0, .int 0, .null, .null, .int 0, .null])), (q7, .inl (jx_ca G 0, 80, .inl (fun _ => 0))), (q15, .inl (jx_ca G 0, 80, .inl (fun _ => 0))), (q28, .inl (jx_ca G 0, 32, .inl (fun _ => 0))), (q36, .inl (jx_ca G 0, 90, .inl (fun _ => 0))), (q44, .inl (jx_ca G 0, 90, .inl (fun _ => 0))), (q52, .inl (jx_ca G 2, 90, .inl (fun _ => 0))), (q60, .inl (jx_ca G 3, 80, .inr (.inl (fun _ => 0))))]) rfl ?_
  refine jc_put hX jn_in_M jn_t_M jn_tok_M jn_nm_M 0 rfl rfl 15 (by decide) rfl wm_460 rfl rfl rfl rfl (Nat.le_of_ble_eq_true rfl) (w2 := [(h, .inr (6, [.int 0, .ref q7, .int 0, .ref q15, .int (-1), .int 0, .int 0, .int 0, .ref q28, .int 0, .ref q36, .int 0, .ref q44, .ref q52, .int 0, .ref q60, .null, .null, .null, .int 0, .int 0, .null, .null, .int 0, .null])), (q7, .inl (jx_ca G 0, 80, .inl (fun _ => 0))), (q15, .inl (jx_ca G 0, 80, .inl (fun _ => 0))), (q28, .inl (jx_ca G 0, 32, .inl (fun _ => 0))), (q36, .inl (jx_ca G 0, 90, .inl (fun _ => 0))), (q44, .inl (jx_ca G 0, 90, .inl (fun _ => 0))), (q52, .inl (jx_ca G 2, 90, .inl (fun _ => 0))), (q60, .inl (jx_ca G 3, 80, .inr (.inl (fun _ => 0))))]) rfl d_M_init_62 ?_
  refine jc_aload_n hX d_M_init_65 0 rfl rfl ?_
  refine jc_bipush (v := 80) hX d_M_init_66 (by decide) ?_
  refine jc_newj (N := 80) hX d_M_init_68 (by decide) (by decide) (by decide) (by decide) (by decide) (fun q68 => ?_)
  refine jc_w (w2 := [(h, .inr (6, [.int 0, .ref q7, .int 0, .ref q15, .int (-1), .int 0, .int 0, .int 0, .ref q28, .int 0, .ref q36, .int 0, .ref q44, .ref q52, .int 0, .ref q60, .null, .null, .null, .int 0, .int 0, .null, .null, .int 0, .null])), (q7, .inl (jx_ca G 0, 80, .inl (fun _ => 0))), (q15, .inl (jx_ca G 0, 80, .inl (fun _ => 0))), (q28, .inl (jx_ca G 0, 32, .inl (fun _ => 0))), (q36, .inl (jx_ca G 0, 90, .inl (fun _ => 0))), (q44, .inl (jx_ca G 0, 90, .inl (fun _ => 0))), (q52, .inl (jx_ca G 2, 90, .inl (fun _ => 0))), (q60, .inl (jx_ca G 3, 80, .inr (.inl (fun _ => 0)))), (q68, .inl (jx_ca G 3, 80, .inr (.inl (fun _ => 0))))]) rfl ?_
  refine jc_put hX jn_in_M jn_t_M jn_tok_M jn_nm_M 0 rfl rfl 16 (by decide) rfl wm_461 rfl rfl rfl rfl (Nat.le_of_ble_eq_true rfl) (w2 := [(h, .inr (6, [.int 0, .ref q7, .int 0, .ref q15, .int (-1), .int 0, .int 0, .int 0, .ref q28, .int 0, .ref q36, .int 0, .ref q44, .ref q52, .int 0, .ref q60, .ref q68, .null, .null, .int 0, .int 0, .null, .null, .int 0, .null])), (q7, .inl (jx_ca G 0, 80, .inl (fun _ => 0))), (q15, .inl (jx_ca G 0, 80, .inl (fun _ => 0))), (q28, .inl (jx_ca G 0, 32, .inl (fun _ => 0))), (q36, .inl (jx_ca G 0, 90, .inl (fun _ => 0))), (q44, .inl (jx_ca G 0, 90, .inl (fun _ => 0))), (q52, .inl (jx_ca G 2, 90, .inl (fun _ => 0))), (q60, .inl (jx_ca G 3, 80, .inr (.inl (fun _ => 0)))), (q68, .inl (jx_ca G 3, 80, .inr (.inl (fun _ => 0))))]) rfl d_M_init_70 ?_
  refine jc_aload_n hX d_M_init_73 0 rfl rfl ?_
  refine jc_bipush (v := 80) hX d_M_init_74 (by decide) ?_
  refine jc_newj (N := 80) hX d_M_init_76 (by decide) (by decide) (by decide) (by decide) (by decide) (fun q76 => ?_)
  refine jc_w (w2 := [(h, .inr (6, [.int 0, .ref q7, .int 0, .ref q15, .int (-1), .int 0, .int 0, .int 0, .ref q28, .int 0, .ref q36, .int 0, .ref q44, .ref q52, .int 0, .ref q60, .ref q68, .null, .null, .int 0, .int 0, .null, .null, .int 0, .null])), (q7, .inl (jx_ca G 0, 80, .inl (fun _ => 0))), (q15, .inl (jx_ca G 0, 80, .inl (fun _ => 0))), (q28, .inl (jx_ca G 0, 32, .inl (fun _ => 0))), (q36, .inl (jx_ca G 0, 90, .inl (fun _ => 0))), (q44, .inl (jx_ca G 0, 90, .inl (fun _ => 0))), (q52, .inl (jx_ca G 2, 90, .inl (fun _ => 0))), (q60, .inl (jx_ca G 3, 80, .inr (.inl (fun _ => 0)))), (q68, .inl (jx_ca G 3, 80, .inr (.inl (fun _ => 0)))), (q76, .inl (jx_ca G 3, 80, .inr (.inl (fun _ => 0))))]) rfl ?_
  refine jc_put hX jn_in_M jn_t_M jn_tok_M jn_nm_M 0 rfl rfl 17 (by decide) rfl wm_462 rfl rfl rfl rfl (Nat.le_of_ble_eq_true rfl) (w2 := [(h, .inr (6, [.int 0, .ref q7, .int 0, .ref q15, .int (-1), .int 0, .int 0, .int 0, .ref q28, .int 0, .ref q36, .int 0, .ref q44, .ref q52, .int 0, .ref q60, .ref q68, .ref q76, .null, .int 0, .int 0, .null, .null, .int 0, .null])), (q7, .inl (jx_ca G 0, 80, .inl (fun _ => 0))), (q15, .inl (jx_ca G 0, 80, .inl (fun _ => 0))), (q28, .inl (jx_ca G 0, 32, .inl (fun _ => 0))), (q36, .inl (jx_ca G 0, 90, .inl (fun _ => 0))), (q44, .inl (jx_ca G 0, 90, .inl (fun _ => 0))), (q52, .inl (jx_ca G 2, 90, .inl (fun _ => 0))), (q60, .inl (jx_ca G 3, 80, .inr (.inl (fun _ => 0)))), (q68, .inl (jx_ca G 3, 80, .inr (.inl (fun _ => 0)))), (q76, .inl (jx_ca G 3, 80, .inr (.inl (fun _ => 0))))]) rfl d_M_init_78 ?_
  refine jc_aload_n hX d_M_init_81 0 rfl rfl ?_
  refine jc_bipush (v := 80) hX d_M_init_82 (by decide) ?_
  refine jc_newi (N := 80) hX d_M_init_84 (by decide) (by decide) (by decide) (by decide) (by decide) (fun q84 => ?_)
  refine jc_w (w2 := [(h, .inr (6, [.int 0, .ref q7, .int 0, .ref q15, .int (-1), .int 0, .int 0, .int 0, .ref q28, .int 0, .ref q36, .int 0, .ref q44, .ref q52, .int 0, .ref q60, .ref q68, .ref q76, .null, .int 0, .int 0, .null, .null, .int 0, .null])), (q7, .inl (jx_ca G 0, 80, .inl (fun _ => 0))), (q15, .inl (jx_ca G 0, 80, .inl (fun _ => 0))), (q28, .inl (jx_ca G 0, 32, .inl (fun _ => 0))), (q36, .inl (jx_ca G 0, 90, .inl (fun _ => 0))), (q44, .inl (jx_ca G 0, 90, .inl (fun _ => 0))), (q52, .inl (jx_ca G 2, 90, .inl (fun _ => 0))), (q60, .inl (jx_ca G 3, 80, .inr (.inl (fun _ => 0)))), (q68, .inl (jx_ca G 3, 80, .inr (.inl (fun _ => 0)))), (q76, .inl (jx_ca G 3, 80, .inr (.inl (fun _ => 0)))), (q84, .inl (jx_ca G 0, 80, .inl (fun _ => 0)))]) rfl ?_
  refine jc_put hX jn_in_M jn_t_M jn_tok_M jn_nm_M 0 rfl rfl 18 (by decide) rfl wm_463 rfl rfl rfl rfl (Nat.le_of_ble_eq_true rfl) (w2 := [(h, .inr (6, [.int 0, .ref q7, .int 0, .ref q15, .int (-1), .int 0, .int 0, .int 0, .ref q28, .int 0, .ref q36, .int 0, .ref q44, .ref q52, .int 0, .ref q60, .ref q68, .ref q76, .ref q84, .int 0, .int 0, .null, .null, .int 0, .null])), (q7, .inl (jx_ca G 0, 80, .inl (fun _ => 0))), (q15, .inl (jx_ca G 0, 80, .inl (fun _ => 0))), (q28, .inl (jx_ca G 0, 32, .inl (fun _ => 0))), (q36, .inl (jx_ca G 0, 90, .inl (fun _ => 0))), (q44, .inl (jx_ca G 0, 90, .inl (fun _ => 0))), (q52, .inl (jx_ca G 2, 90, .inl (fun _ => 0))), (q60, .inl (jx_ca G 3, 80, .inr (.inl (fun _ => 0)))), (q68, .inl (jx_ca G 3, 80, .inr (.inl (fun _ => 0)))), (q76, .inl (jx_ca G 3, 80, .inr (.inl (fun _ => 0)))), (q84, .inl (jx_ca G 0, 80, .inl (fun _ => 0)))]) rfl d_M_init_86 ?_
  refine jc_aload_n hX d_M_init_89 0 rfl rfl ?_
  refine jc_iconst (v := (-1)) hX d_M_init_90 (by decide) ?_
  refine jc_put hX jn_in_M jn_t_M jn_tok_M jn_nm_M 0 rfl rfl 19 (by decide) rfl wm_464 rfl rfl rfl rfl (Nat.le_of_ble_eq_true rfl) (w2 := [(h, .inr (6, [.int 0, .ref q7, .int 0, .ref q15, .int (-1), .int 0, .int 0, .int 0, .ref q28, .int 0, .ref q36, .int 0, .ref q44, .ref q52, .int 0, .ref q60, .ref q68, .ref q76, .ref q84, .int (-1), .int 0, .null, .null, .int 0, .null])), (q7, .inl (jx_ca G 0, 80, .inl (fun _ => 0))), (q15, .inl (jx_ca G 0, 80, .inl (fun _ => 0))), (q28, .inl (jx_ca G 0, 32, .inl (fun _ => 0))), (q36, .inl (jx_ca G 0, 90, .inl (fun _ => 0))), (q44, .inl (jx_ca G 0, 90, .inl (fun _ => 0))), (q52, .inl (jx_ca G 2, 90, .inl (fun _ => 0))), (q60, .inl (jx_ca G 3, 80, .inr (.inl (fun _ => 0)))), (q68, .inl (jx_ca G 3, 80, .inr (.inl (fun _ => 0)))), (q76, .inl (jx_ca G 3, 80, .inr (.inl (fun _ => 0)))), (q84, .inl (jx_ca G 0, 80, .inl (fun _ => 0)))]) rfl d_M_init_91 ?_
  refine jc_aload_n hX d_M_init_94 0 rfl rfl ?_
  refine jc_bipush (v := 8) hX d_M_init_95 (by decide) ?_
  refine jc_newi (N := 8) hX d_M_init_97 (by decide) (by decide) (by decide) (by decide) (by decide) (fun q97 => ?_)
  refine jc_w (w2 := [(h, .inr (6, [.int 0, .ref q7, .int 0, .ref q15, .int (-1), .int 0, .int 0, .int 0, .ref q28, .int 0, .ref q36, .int 0, .ref q44, .ref q52, .int 0, .ref q60, .ref q68, .ref q76, .ref q84, .int (-1), .int 0, .null, .null, .int 0, .null])), (q7, .inl (jx_ca G 0, 80, .inl (fun _ => 0))), (q15, .inl (jx_ca G 0, 80, .inl (fun _ => 0))), (q28, .inl (jx_ca G 0, 32, .inl (fun _ => 0))), (q36, .inl (jx_ca G 0, 90, .inl (fun _ => 0))), (q44, .inl (jx_ca G 0, 90, .inl (fun _ => 0))), (q52, .inl (jx_ca G 2, 90, .inl (fun _ => 0))), (q60, .inl (jx_ca G 3, 80, .inr (.inl (fun _ => 0)))), (q68, .inl (jx_ca G 3, 80, .inr (.inl (fun _ => 0)))), (q76, .inl (jx_ca G 3, 80, .inr (.inl (fun _ => 0)))), (q84, .inl (jx_ca G 0, 80, .inl (fun _ => 0))), (q97, .inl (jx_ca G 0, 8, .inl (fun _ => 0)))]) rfl ?_
  refine jc_put hX jn_in_M jn_t_M jn_tok_M jn_nm_M 0 rfl rfl 21 (by decide) rfl wm_466 rfl rfl rfl rfl (Nat.le_of_ble_eq_true rfl) (w2 := [(h, .inr (6, [.int 0, .ref q7, .int 0, .ref q15, .int (-1), .int 0, .int 0, .int 0, .ref q28, .int 0, .ref q36, .int 0, .ref q44, .ref q52, .int 0, .ref q60, .ref q68, .ref q76, .ref q84, .int (-1), .int 0, .ref q97, .null, .int 0, .null])), (q7, .inl (jx_ca G 0, 80, .inl (fun _ => 0))), (q15, .inl (jx_ca G 0, 80, .inl (fun _ => 0))), (q28, .inl (jx_ca G 0, 32, .inl (fun _ => 0))), (q36, .inl (jx_ca G 0, 90, .inl (fun _ => 0))), (q44, .inl (jx_ca G 0, 90, .inl (fun _ => 0))), (q52, .inl (jx_ca G 2, 90, .inl (fun _ => 0))), (q60, .inl (jx_ca G 3, 80, .inr (.inl (fun _ => 0)))), (q68, .inl (jx_ca G 3, 80, .inr (.inl (fun _ => 0)))), (q76, .inl (jx_ca G 3, 80, .inr (.inl (fun _ => 0)))), (q84, .inl (jx_ca G 0, 80, .inl (fun _ => 0))), (q97, .inl (jx_ca G 0, 8, .inl (fun _ => 0)))]) rfl d_M_init_99 ?_
  refine jc_aload_n hX d_M_init_102 0 rfl rfl ?_
  refine jc_bipush (v := 8) hX d_M_init_103 (by decide) ?_
  refine jc_newi (N := 8) hX d_M_init_105 (by decide) (by decide) (by decide) (by decide) (by decide) (fun q105 => ?_)
  refine jc_w (w2 := [(h, .inr (6, [.int 0, .ref q7, .int 0, .ref q15, .int (-1), .int 0, .int 0, .int 0, .ref q28, .int 0, .ref q36, .int 0, .ref q44, .ref q52, .int 0, .ref q60, .ref q68, .ref q76, .ref q84, .int (-1), .int 0, .ref q97, .null, .int 0, .null])), (q7, .inl (jx_ca G 0, 80, .inl (fun _ => 0))), (q15, .inl (jx_ca G 0, 80, .inl (fun _ => 0))), (q28, .inl (jx_ca G 0, 32, .inl (fun _ => 0))), (q36, .inl (jx_ca G 0, 90, .inl (fun _ => 0))), (q44, .inl (jx_ca G 0, 90, .inl (fun _ => 0))), (q52, .inl (jx_ca G 2, 90, .inl (fun _ => 0))), (q60, .inl (jx_ca G 3, 80, .inr (.inl (fun _ => 0)))), (q68, .inl (jx_ca G 3, 80, .inr (.inl (fun _ => 0)))), (q76, .inl (jx_ca G 3, 80, .inr (.inl (fun _ => 0)))), (q84, .inl (jx_ca G 0, 80, .inl (fun _ => 0))), (q97, .inl (jx_ca G 0, 8, .inl (fun _ => 0))), (q105, .inl (jx_ca G 0, 8, .inl (fun _ => 0)))]) rfl ?_
  refine jc_put hX jn_in_M jn_t_M jn_tok_M jn_nm_M 0 rfl rfl 22 (by decide) rfl wm_467 rfl rfl rfl rfl (Nat.le_of_ble_eq_true rfl) (w2 := [(h, .inr (6, [.int 0, .ref q7, .int 0, .ref q15, .int (-1), .int 0, .int 0, .int 0, .ref q28, .int 0, .ref q36, .int 0, .ref q44, .ref q52, .int 0, .ref q60, .ref q68, .ref q76, .ref q84, .int (-1), .int 0, .ref q97, .ref q105, .int 0, .null])), (q7, .inl (jx_ca G 0, 80, .inl (fun _ => 0))), (q15, .inl (jx_ca G 0, 80, .inl (fun _ => 0))), (q28, .inl (jx_ca G 0, 32, .inl (fun _ => 0))), (q36, .inl (jx_ca G 0, 90, .inl (fun _ => 0))), (q44, .inl (jx_ca G 0, 90, .inl (fun _ => 0))), (q52, .inl (jx_ca G 2, 90, .inl (fun _ => 0))), (q60, .inl (jx_ca G 3, 80, .inr (.inl (fun _ => 0)))), (q68, .inl (jx_ca G 3, 80, .inr (.inl (fun _ => 0)))), (q76, .inl (jx_ca G 3, 80, .inr (.inl (fun _ => 0)))), (q84, .inl (jx_ca G 0, 80, .inl (fun _ => 0))), (q97, .inl (jx_ca G 0, 8, .inl (fun _ => 0))), (q105, .inl (jx_ca G 0, 8, .inl (fun _ => 0)))]) rfl d_M_init_107 ?_
  refine jc_aload_n hX d_M_init_110 0 rfl rfl ?_
  refine jc_bipush (v := 8) hX d_M_init_111 (by decide) ?_
  refine jc_newi (N := 8) hX d_M_init_113 (by decide) (by decide) (by decide) (by decide) (by decide) (fun q113 => ?_)
  refine jc_w (w2 := [(h, .inr (6, [.int 0, .ref q7, .int 0, .ref q15, .int (-1), .int 0, .int 0, .int 0, .ref q28, .int 0, .ref q36, .int 0, .ref q44, .ref q52, .int 0, .ref q60, .ref q68, .ref q76, .ref q84, .int (-1), .int 0, .ref q97, .ref q105, .int 0, .null])), (q7, .inl (jx_ca G 0, 80, .inl (fun _ => 0))), (q15, .inl (jx_ca G 0, 80, .inl (fun _ => 0))), (q28, .inl (jx_ca G 0, 32, .inl (fun _ => 0))), (q36, .inl (jx_ca G 0, 90, .inl (fun _ => 0))), (q44, .inl (jx_ca G 0, 90, .inl (fun _ => 0))), (q52, .inl (jx_ca G 2, 90, .inl (fun _ => 0))), (q60, .inl (jx_ca G 3, 80, .inr (.inl (fun _ => 0)))), (q68, .inl (jx_ca G 3, 80, .inr (.inl (fun _ => 0)))), (q76, .inl (jx_ca G 3, 80, .inr (.inl (fun _ => 0)))), (q84, .inl (jx_ca G 0, 80, .inl (fun _ => 0))), (q97, .inl (jx_ca G 0, 8, .inl (fun _ => 0))), (q105, .inl (jx_ca G 0, 8, .inl (fun _ => 0))), (q113, .inl (jx_ca G 0, 8, .inl (fun _ => 0)))]) rfl ?_
  refine jc_put hX jn_in_M jn_t_M jn_tok_M jn_nm_M 0 rfl rfl 24 (by decide) rfl wm_469 rfl rfl rfl rfl (Nat.le_of_ble_eq_true rfl) (w2 := [(h, .inr (6, [.int 0, .ref q7, .int 0, .ref q15, .int (-1), .int 0, .int 0, .int 0, .ref q28, .int 0, .ref q36, .int 0, .ref q44, .ref q52, .int 0, .ref q60, .ref q68, .ref q76, .ref q84, .int (-1), .int 0, .ref q97, .ref q105, .int 0, .ref q113])), (q7, .inl (jx_ca G 0, 80, .inl (fun _ => 0))), (q15, .inl (jx_ca G 0, 80, .inl (fun _ => 0))), (q28, .inl (jx_ca G 0, 32, .inl (fun _ => 0))), (q36, .inl (jx_ca G 0, 90, .inl (fun _ => 0))), (q44, .inl (jx_ca G 0, 90, .inl (fun _ => 0))), (q52, .inl (jx_ca G 2, 90, .inl (fun _ => 0))), (q60, .inl (jx_ca G 3, 80, .inr (.inl (fun _ => 0)))), (q68, .inl (jx_ca G 3, 80, .inr (.inl (fun _ => 0)))), (q76, .inl (jx_ca G 3, 80, .inr (.inl (fun _ => 0)))), (q84, .inl (jx_ca G 0, 80, .inl (fun _ => 0))), (q97, .inl (jx_ca G 0, 8, .inl (fun _ => 0))), (q105, .inl (jx_ca G 0, 8, .inl (fun _ => 0))), (q113, .inl (jx_ca G 0, 8, .inl (fun _ => 0)))]) rfl d_M_init_115 ?_
  exact jc_vret hX hI (⟨q7, q15, q28, q36, q44, q52, q60, q68, q76, q84, q97, q105, q113, rfl⟩) d_M_init_118

