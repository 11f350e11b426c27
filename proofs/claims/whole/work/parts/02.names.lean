def jx_isN : Cond → Bool
  | .fieldLinkNest .. => true
  | .methodLinkNest .. => true
  | _ => false
def jx_W : List Cond := lw_tbl.filter goodWord
def jx_Z : List Cond := lw_tbl.filter jx_isN
theorem jx_Wg : jx_W.all goodWord = true := List.all_eq_true.mpr (fun w hw => (List.mem_filter.mp hw).2)
theorem jx_Zn : jx_Z.all jx_isN = true := List.all_eq_true.mpr (fun w hw => (List.mem_filter.mp hw).2)
theorem jx_mem {w : Cond} (i : Nat) (h : tables_1[i]? = some w) (hg : goodWord w = true) : w ∈ jx_W := List.mem_filter.mpr ⟨List.mem_append_right _ (List.mem_of_getElem? h), hg⟩
theorem jx_memZ {w : Cond} (i : Nat) (h : tables_1[i]? = some w) (hg : jx_isN w = true) : w ∈ jx_Z := List.mem_filter.mpr ⟨List.mem_append_right _ (List.mem_of_getElem? h), hg⟩
theorem jx_memS {w : Cond} (i : Nat) (h : (k2_sels lw_privs)[i]? = some w) (hg : goodWord w = true) : w ∈ jx_W := List.mem_filter.mpr ⟨List.mem_append_left _ (List.mem_of_getElem? h), hg⟩
def jn_F_P : u_T := fun k => match k with
  | 0 => ("PlaneCells", "sentence", "LPlaneCells$Sentence;", true)
  | 1 => ("PlaneCells", "reader", "LPlaneCells$Reader;", true)
  | 2 => ("PlaneCells", "plane", "LPlaneCells$Plane;", true)
  | 3 => ("PlaneCells", "illPlace", "I", false)
  | 4 => ("PlaneCells", "columnCount", "I", false)
  | _ => ("PlaneCells", "witnessColumn", "I", false)
def jn_t_P : Nat → FieldType := fun k => match k with
  | 0 => .object "PlaneCells$Sentence"
  | 1 => .object "PlaneCells$Reader"
  | 2 => .object "PlaneCells$Plane"
  | 3 => .int
  | 4 => .int
  | _ => .int
theorem jn_nm_P : ∀ a, a < 6 → ∀ b, b < 6 → a ≠ b → (jn_F_P a).2.1 ≠ (jn_F_P b).2.1 := by decide +kernel
theorem jn_tok_P : ∀ k, k < 6 → parseFieldDescriptor (jn_F_P k).2.2.1 = some (jn_t_P k) := by decide +kernel
theorem jn_in_P : ∀ w ∈ u_ws "PlaneCells" jn_F_P 6, w ∈ jx_W := by
  intro w hw
  obtain ⟨k, hk, rfl⟩ := List.mem_map.mp hw
  have hk := List.mem_range.mp hk
  refine List.mem_filter.mpr ⟨List.mem_append_right _ ?_, ?_⟩
  · exact (by decide +kernel : ∀ k, k < 6 → u_lay "PlaneCells" jn_F_P k ∈ tables_1) k hk
  · exact (by decide +kernel : ∀ k, k < 6 → goodWord (u_lay "PlaneCells" jn_F_P k) = true) k hk
def jn_F_S : u_T := fun k => match k with
  | 0 => ("PlaneCells$Sentence", "numbers", "[I", true)
  | 1 => ("PlaneCells$Sentence", "relations", "[C", true)
  | 2 => ("PlaneCells$Sentence", "steps", "[I", true)
  | 3 => ("PlaneCells$Sentence", "stepCount", "I", false)
  | 4 => ("PlaneCells$Sentence", "atoms", "I", false)
  | 5 => ("PlaneCells$Sentence", "allX", "Z", false)
  | _ => ("PlaneCells$Sentence", "allY", "Z", false)
def jn_t_S : Nat → FieldType := fun k => match k with
  | 0 => .array .int
  | 1 => .array .char
  | 2 => .array .int
  | 3 => .int
  | 4 => .int
  | 5 => .boolean
  | _ => .boolean
theorem jn_nm_S : ∀ a, a < 7 → ∀ b, b < 7 → a ≠ b → (jn_F_S a).2.1 ≠ (jn_F_S b).2.1 := by decide +kernel
theorem jn_tok_S : ∀ k, k < 7 → parseFieldDescriptor (jn_F_S k).2.2.1 = some (jn_t_S k) := by decide +kernel
theorem jn_in_S : ∀ w ∈ u_ws "PlaneCells$Sentence" jn_F_S 7, w ∈ jx_W := by
  intro w hw
  obtain ⟨k, hk, rfl⟩ := List.mem_map.mp hw
  have hk := List.mem_range.mp hk
  refine List.mem_filter.mpr ⟨List.mem_append_right _ ?_, ?_⟩
  · exact (by decide +kernel : ∀ k, k < 7 → u_lay "PlaneCells$Sentence" jn_F_S k ∈ tables_1) k hk
  · exact (by decide +kernel : ∀ k, k < 7 → goodWord (u_lay "PlaneCells$Sentence" jn_F_S k) = true) k hk
def jn_F_R : u_T := fun k => match k with
  | 0 => ("PlaneCells$Reader", "sentence", "LPlaneCells$Sentence;", true)
  | 1 => ("PlaneCells$Reader", "text", "[C", true)
  | 2 => ("PlaneCells$Reader", "waiting", "[I", true)
  | 3 => ("PlaneCells$Reader", "sum", "[I", true)
  | 4 => ("PlaneCells$Reader", "written", "I", false)
  | 5 => ("PlaneCells$Reader", "length", "I", false)
  | 6 => ("PlaneCells$Reader", "at", "I", false)
  | 7 => ("PlaneCells$Reader", "waitingCount", "I", false)
  | _ => ("PlaneCells$Reader", "open", "I", false)
def jn_t_R : Nat → FieldType := fun k => match k with
  | 0 => .object "PlaneCells$Sentence"
  | 1 => .array .char
  | 2 => .array .int
  | 3 => .array .int
  | 4 => .int
  | 5 => .int
  | 6 => .int
  | 7 => .int
  | _ => .int
theorem jn_nm_R : ∀ a, a < 9 → ∀ b, b < 9 → a ≠ b → (jn_F_R a).2.1 ≠ (jn_F_R b).2.1 := by decide +kernel
theorem jn_tok_R : ∀ k, k < 9 → parseFieldDescriptor (jn_F_R k).2.2.1 = some (jn_t_R k) := by decide +kernel
theorem jn_in_R : ∀ w ∈ u_ws "PlaneCells$Reader" jn_F_R 9, w ∈ jx_W := by
  intro w hw
  obtain ⟨k, hk, rfl⟩ := List.mem_map.mp hw
  have hk := List.mem_range.mp hk
  refine List.mem_filter.mpr ⟨List.mem_append_right _ ?_, ?_⟩
  · exact (by decide +kernel : ∀ k, k < 9 → u_lay "PlaneCells$Reader" jn_F_R k ∈ tables_1) k hk
  · exact (by decide +kernel : ∀ k, k < 9 → goodWord (u_lay "PlaneCells$Reader" jn_F_R k) = true) k hk
def jn_F_Q : u_T := fun k => match k with
  | 0 => ("PlaneCells$Plane", "sentence", "LPlaneCells$Sentence;", true)
  | 1 => ("PlaneCells$Plane", "critical", "LPlaneCells$CriticalNumbers;", true)
  | 2 => ("PlaneCells$Plane", "form", "LPlaneCells$Form;", true)
  | 3 => ("PlaneCells$Plane", "signOfA", "[I", true)
  | 4 => ("PlaneCells$Plane", "signOfB", "[I", true)
  | 5 => ("PlaneCells$Plane", "zeroCell", "[I", true)
  | _ => ("PlaneCells$Plane", "cellCount", "I", false)
def jn_t_Q : Nat → FieldType := fun k => match k with
  | 0 => .object "PlaneCells$Sentence"
  | 1 => .object "PlaneCells$CriticalNumbers"
  | 2 => .object "PlaneCells$Form"
  | 3 => .array .int
  | 4 => .array .int
  | 5 => .array .int
  | _ => .int
theorem jn_nm_Q : ∀ a, a < 7 → ∀ b, b < 7 → a ≠ b → (jn_F_Q a).2.1 ≠ (jn_F_Q b).2.1 := by decide +kernel
theorem jn_tok_Q : ∀ k, k < 7 → parseFieldDescriptor (jn_F_Q k).2.2.1 = some (jn_t_Q k) := by decide +kernel
theorem jn_in_Q : ∀ w ∈ u_ws "PlaneCells$Plane" jn_F_Q 7, w ∈ jx_W := by
  intro w hw
  obtain ⟨k, hk, rfl⟩ := List.mem_map.mp hw
  have hk := List.mem_range.mp hk
  refine List.mem_filter.mpr ⟨List.mem_append_right _ ?_, ?_⟩
  · exact (by decide +kernel : ∀ k, k < 7 → u_lay "PlaneCells$Plane" jn_F_Q k ∈ tables_1) k hk
  · exact (by decide +kernel : ∀ k, k < 7 → goodWord (u_lay "PlaneCells$Plane" jn_F_Q k) = true) k hk
def jn_F_C : u_T := fun k => match k with
  | 0 => ("PlaneCells$CriticalNumbers", "top", "[I", true)
  | 1 => ("PlaneCells$CriticalNumbers", "radicand", "[I", true)
  | 2 => ("PlaneCells$CriticalNumbers", "bottom", "[I", true)
  | _ => ("PlaneCells$CriticalNumbers", "count", "I", false)
def jn_t_C : Nat → FieldType := fun k => match k with
  | 0 => .array .int
  | 1 => .array .int
  | 2 => .array .int
  | _ => .int
theorem jn_nm_C : ∀ a, a < 4 → ∀ b, b < 4 → a ≠ b → (jn_F_C a).2.1 ≠ (jn_F_C b).2.1 := by decide +kernel
theorem jn_tok_C : ∀ k, k < 4 → parseFieldDescriptor (jn_F_C k).2.2.1 = some (jn_t_C k) := by decide +kernel
theorem jn_in_C : ∀ w ∈ u_ws "PlaneCells$CriticalNumbers" jn_F_C 4, w ∈ jx_W := by
  intro w hw
  obtain ⟨k, hk, rfl⟩ := List.mem_map.mp hw
  have hk := List.mem_range.mp hk
  refine List.mem_filter.mpr ⟨List.mem_append_right _ ?_, ?_⟩
  · exact (by decide +kernel : ∀ k, k < 4 → u_lay "PlaneCells$CriticalNumbers" jn_F_C k ∈ tables_1) k hk
  · exact (by decide +kernel : ∀ k, k < 4 → goodWord (u_lay "PlaneCells$CriticalNumbers" jn_F_C k) = true) k hk
def jn_F_F : u_T := fun k => match k with
  | 0 => ("PlaneCells$Form", "constant", "I", false)
  | 1 => ("PlaneCells$Form", "linear", "I", false)
  | _ => ("PlaneCells$Form", "square", "I", false)
def jn_t_F : Nat → FieldType := fun k => match k with
  | 0 => .int
  | 1 => .int
  | _ => .int
theorem jn_nm_F : ∀ a, a < 3 → ∀ b, b < 3 → a ≠ b → (jn_F_F a).2.1 ≠ (jn_F_F b).2.1 := by decide +kernel
theorem jn_tok_F : ∀ k, k < 3 → parseFieldDescriptor (jn_F_F k).2.2.1 = some (jn_t_F k) := by decide +kernel
theorem jn_in_F : ∀ w ∈ u_ws "PlaneCells$Form" jn_F_F 3, w ∈ jx_W := by
  intro w hw
  obtain ⟨k, hk, rfl⟩ := List.mem_map.mp hw
  have hk := List.mem_range.mp hk
  refine List.mem_filter.mpr ⟨List.mem_append_right _ ?_, ?_⟩
  · exact (by decide +kernel : ∀ k, k < 3 → u_lay "PlaneCells$Form" jn_F_F k ∈ tables_1) k hk
  · exact (by decide +kernel : ∀ k, k < 3 → goodWord (u_lay "PlaneCells$Form" jn_F_F k) = true) k hk
def jn_F_M : u_T := fun k => match k with
  | 0 => ("PlaneCellsModel", "written", "I", false)
  | 1 => ("PlaneCellsModel", "text", "[I", false)
  | 2 => ("PlaneCellsModel", "size", "I", false)
  | 3 => ("PlaneCellsModel", "line", "[I", false)
  | 4 => ("PlaneCellsModel", "fault", "I", false)
  | 5 => ("PlaneCellsModel", "allX", "Z", false)
  | 6 => ("PlaneCellsModel", "allY", "Z", false)
  | 7 => ("PlaneCellsModel", "many", "I", false)
  | 8 => ("PlaneCellsModel", "number", "[I", false)
  | 9 => ("PlaneCellsModel", "parts", "I", false)
  | 10 => ("PlaneCellsModel", "part", "[I", false)
  | 11 => ("PlaneCellsModel", "waits", "I", false)
  | 12 => ("PlaneCellsModel", "waiting", "[I", false)
  | 13 => ("PlaneCellsModel", "truth", "[Z", false)
  | 14 => ("PlaneCellsModel", "criticals", "I", false)
  | 15 => ("PlaneCellsModel", "rootA", "[J", false)
  | 16 => ("PlaneCellsModel", "rootB", "[J", false)
  | 17 => ("PlaneCellsModel", "rootC", "[J", false)
  | 18 => ("PlaneCellsModel", "rootWhich", "[I", false)
  | 19 => ("PlaneCellsModel", "column", "I", false)
  | 20 => ("PlaneCellsModel", "heights", "I", false)
  | 21 => ("PlaneCellsModel", "signA", "[I", false)
  | 22 => ("PlaneCellsModel", "rank", "[I", false)
  | 23 => ("PlaneCellsModel", "columnCount", "I", false)
  | _ => ("PlaneCellsModel", "relation", "[I", false)
def jn_t_M : Nat → FieldType := fun k => match k with
  | 0 => .int
  | 1 => .array .int
  | 2 => .int
  | 3 => .array .int
  | 4 => .int
  | 5 => .boolean
  | 6 => .boolean
  | 7 => .int
  | 8 => .array .int
  | 9 => .int
  | 10 => .array .int
  | 11 => .int
  | 12 => .array .int
  | 13 => .array .boolean
  | 14 => .int
  | 15 => .array .long
  | 16 => .array .long
  | 17 => .array .long
  | 18 => .array .int
  | 19 => .int
  | 20 => .int
  | 21 => .array .int
  | 22 => .array .int
  | 23 => .int
  | _ => .array .int
theorem jn_nm_M : ∀ a, a < 25 → ∀ b, b < 25 → a ≠ b → (jn_F_M a).2.1 ≠ (jn_F_M b).2.1 := by decide +kernel
theorem jn_tok_M : ∀ k, k < 25 → parseFieldDescriptor (jn_F_M k).2.2.1 = some (jn_t_M k) := by decide +kernel
theorem jn_in_M : ∀ w ∈ u_ws "PlaneCellsModel" jn_F_M 25, w ∈ jx_W := by
  intro w hw
  obtain ⟨k, hk, rfl⟩ := List.mem_map.mp hw
  have hk := List.mem_range.mp hk
  refine List.mem_filter.mpr ⟨List.mem_append_right _ ?_, ?_⟩
  · exact (by decide +kernel : ∀ k, k < 25 → u_lay "PlaneCellsModel" jn_F_M k ∈ tables_1) k hk
  · exact (by decide +kernel : ∀ k, k < 25 → goodWord (u_lay "PlaneCellsModel" jn_F_M k) = true) k hk
abbrev jx_cl : List vw_C := [("PlaneCells", jn_F_P, 6), ("PlaneCells$Sentence", jn_F_S, 7), ("PlaneCells$Reader", jn_F_R, 9), ("PlaneCells$Plane", jn_F_Q, 7), ("PlaneCells$CriticalNumbers", jn_F_C, 4), ("PlaneCells$Form", jn_F_F, 3), ("PlaneCellsModel", jn_F_M, 25)]
abbrev b_C_clear : ByteArray := prog_2_method_2_code
def y_C_clear : MethodName := ⟨"PlaneCells$CriticalNumbers", "clear", "()V"⟩
abbrev b_C_addZerosOf : ByteArray := prog_2_method_3_code
def y_C_addZerosOf : MethodName := ⟨"PlaneCells$CriticalNumbers", "addZerosOf", "(LPlaneCells$Form;)V"⟩
abbrev b_C_add : ByteArray := prog_2_method_4_code
def y_C_add : MethodName := ⟨"PlaneCells$CriticalNumbers", "add", "(III)V"⟩
abbrev b_C_insert : ByteArray := prog_2_method_5_code
def y_C_insert : MethodName := ⟨"PlaneCells$CriticalNumbers", "insert", "(IIII)V"⟩
abbrev b_C_signOfDifference : ByteArray := prog_2_method_6_code
def y_C_signOfDifference : MethodName := ⟨"PlaneCells$CriticalNumbers", "signOfDifference", "(IIII)I"⟩
abbrev b_C_signWithRoots : ByteArray := prog_2_method_7_code
def y_C_signWithRoots : MethodName := ⟨"PlaneCells$CriticalNumbers", "signWithRoots", "(JJJ)I"⟩
abbrev b_C_signInColumn : ByteArray := prog_2_method_8_code
def y_C_signInColumn : MethodName := ⟨"PlaneCells$CriticalNumbers", "signInColumn", "(ILPlaneCells$Form;)I"⟩
abbrev b_C_signBelowAll : ByteArray := prog_2_method_9_code
def y_C_signBelowAll : MethodName := ⟨"PlaneCells$CriticalNumbers", "signBelowAll", "(LPlaneCells$Form;)I"⟩
abbrev b_C_signAt : ByteArray := prog_2_method_10_code
def y_C_signAt : MethodName := ⟨"PlaneCells$CriticalNumbers", "signAt", "(IJJJ)I"⟩
abbrev b_F_setA : ByteArray := prog_3_method_2_code
def y_F_setA : MethodName := ⟨"PlaneCells$Form", "setA", "(LPlaneCells$Sentence;I)V"⟩
abbrev b_F_setB : ByteArray := prog_3_method_3_code
def y_F_setB : MethodName := ⟨"PlaneCells$Form", "setB", "(LPlaneCells$Sentence;I)V"⟩
abbrev b_F_setPair : ByteArray := prog_3_method_4_code
def y_F_setPair : MethodName := ⟨"PlaneCells$Form", "setPair", "(LPlaneCells$Sentence;II)V"⟩
abbrev b_Q_cut : ByteArray := prog_4_method_2_code
def y_Q_cut : MethodName := ⟨"PlaneCells$Plane", "cut", "()V"⟩
abbrev b_Q_countColumns : ByteArray := prog_4_method_3_code
def y_Q_countColumns : MethodName := ⟨"PlaneCells$Plane", "countColumns", "()I"⟩
abbrev b_Q_enter : ByteArray := prog_4_method_4_code
def y_Q_enter : MethodName := ⟨"PlaneCells$Plane", "enter", "(I)V"⟩
abbrev b_Q_addZero : ByteArray := prog_4_method_5_code
def y_Q_addZero : MethodName := ⟨"PlaneCells$Plane", "addZero", "(II)V"⟩
abbrev b_Q_signIn : ByteArray := prog_4_method_6_code
def y_Q_signIn : MethodName := ⟨"PlaneCells$Plane", "signIn", "(II)I"⟩
abbrev b_Q_trueIn : ByteArray := prog_4_method_7_code
def y_Q_trueIn : MethodName := ⟨"PlaneCells$Plane", "trueIn", "(I)Z"⟩
abbrev b_Q_columnHolds : ByteArray := prog_4_method_8_code
def y_Q_columnHolds : MethodName := ⟨"PlaneCells$Plane", "columnHolds", "()Z"⟩
abbrev b_R_clear : ByteArray := prog_5_method_2_code
def y_R_clear : MethodName := ⟨"PlaneCells$Reader", "clear", "()V"⟩
abbrev b_R_append : ByteArray := prog_5_method_3_code
def y_R_append : MethodName := ⟨"PlaneCells$Reader", "append", "(C)Z"⟩
abbrev b_R_countOpenings : ByteArray := prog_5_method_4_code
def y_R_countOpenings : MethodName := ⟨"PlaneCells$Reader", "countOpenings", "()I"⟩
abbrev b_R_readSentence : ByteArray := prog_5_method_5_code
def y_R_readSentence : MethodName := ⟨"PlaneCells$Reader", "readSentence", "()Z"⟩
abbrev b_R_takeHead : ByteArray := prog_5_method_6_code
def y_R_takeHead : MethodName := ⟨"PlaneCells$Reader", "takeHead", "()Z"⟩
abbrev b_R_takeQuantifier : ByteArray := prog_5_method_7_code
def y_R_takeQuantifier : MethodName := ⟨"PlaneCells$Reader", "takeQuantifier", "()Z"⟩
abbrev b_R_takeOpenings : ByteArray := prog_5_method_8_code
def y_R_takeOpenings : MethodName := ⟨"PlaneCells$Reader", "takeOpenings", "()V"⟩
abbrev b_R_takeClosings : ByteArray := prog_5_method_9_code
def y_R_takeClosings : MethodName := ⟨"PlaneCells$Reader", "takeClosings", "()V"⟩
abbrev b_R_takeJoint : ByteArray := prog_5_method_10_code
def y_R_takeJoint : MethodName := ⟨"PlaneCells$Reader", "takeJoint", "()Z"⟩
abbrev b_R_hold : ByteArray := prog_5_method_11_code
def y_R_hold : MethodName := ⟨"PlaneCells$Reader", "hold", "(I)V"⟩
abbrev b_R_release : ByteArray := prog_5_method_12_code
def y_R_release : MethodName := ⟨"PlaneCells$Reader", "release", "(I)V"⟩
abbrev b_R_takeAtom : ByteArray := prog_5_method_13_code
def y_R_takeAtom : MethodName := ⟨"PlaneCells$Reader", "takeAtom", "()Z"⟩
abbrev b_R_takeSum : ByteArray := prog_5_method_14_code
def y_R_takeSum : MethodName := ⟨"PlaneCells$Reader", "takeSum", "(I)Z"⟩
abbrev b_R_takeTerm : ByteArray := prog_5_method_15_code
def y_R_takeTerm : MethodName := ⟨"PlaneCells$Reader", "takeTerm", "(I)Z"⟩
abbrev b_R_numberOfLetter : ByteArray := prog_5_method_16_code
def y_R_numberOfLetter : MethodName := ⟨"PlaneCells$Reader", "numberOfLetter", "(C)I"⟩
abbrev b_R_peek : ByteArray := prog_5_method_17_code
def y_R_peek : MethodName := ⟨"PlaneCells$Reader", "peek", "()C"⟩
abbrev b_R_take : ByteArray := prog_5_method_18_code
def y_R_take : MethodName := ⟨"PlaneCells$Reader", "take", "(C)Z"⟩
abbrev b_S_clear : ByteArray := prog_6_method_2_code
def y_S_clear : MethodName := ⟨"PlaneCells$Sentence", "clear", "()V"⟩
abbrev b_S_addAtom : ByteArray := prog_6_method_3_code
def y_S_addAtom : MethodName := ⟨"PlaneCells$Sentence", "addAtom", "([IC)V"⟩
abbrev b_S_addStep : ByteArray := prog_6_method_4_code
def y_S_addStep : MethodName := ⟨"PlaneCells$Sentence", "addStep", "(I)V"⟩
abbrev b_S_fits : ByteArray := prog_6_method_5_code
def y_S_fits : MethodName := ⟨"PlaneCells$Sentence", "fits", "()Z"⟩
abbrev b_S_number : ByteArray := prog_6_method_6_code
def y_S_number : MethodName := ⟨"PlaneCells$Sentence", "number", "(II)I"⟩
abbrev b_S_atomIsTrue : ByteArray := prog_6_method_7_code
def y_S_atomIsTrue : MethodName := ⟨"PlaneCells$Sentence", "atomIsTrue", "(II)Z"⟩
abbrev b_P_write : ByteArray := prog_1_method_2_code
def y_P_write : MethodName := ⟨"PlaneCells", "write", "(C)Z"⟩
abbrev b_P_decide : ByteArray := prog_1_method_3_code
def y_P_decide : MethodName := ⟨"PlaneCells", "decide", "()I"⟩
abbrev b_P_readText : ByteArray := prog_1_method_4_code
def y_P_readText : MethodName := ⟨"PlaneCells", "readText", "()I"⟩
abbrev b_P_place : ByteArray := prog_1_method_5_code
def y_P_place : MethodName := ⟨"PlaneCells", "place", "()I"⟩
abbrev b_P_polynomials : ByteArray := prog_1_method_6_code
def y_P_polynomials : MethodName := ⟨"PlaneCells", "polynomials", "()I"⟩
abbrev b_P_coefficient : ByteArray := prog_1_method_7_code
def y_P_coefficient : MethodName := ⟨"PlaneCells", "coefficient", "(II)I"⟩
abbrev b_P_columns : ByteArray := prog_1_method_8_code
def y_P_columns : MethodName := ⟨"PlaneCells", "columns", "()I"⟩
abbrev b_P_cells : ByteArray := prog_1_method_9_code
def y_P_cells : MethodName := ⟨"PlaneCells", "cells", "(I)I"⟩
abbrev b_P_sign : ByteArray := prog_1_method_10_code
def y_P_sign : MethodName := ⟨"PlaneCells", "sign", "(III)I"⟩
abbrev b_P_truth : ByteArray := prog_1_method_11_code
def y_P_truth : MethodName := ⟨"PlaneCells", "truth", "(II)I"⟩
abbrev b_P_holds : ByteArray := prog_1_method_12_code
def y_P_holds : MethodName := ⟨"PlaneCells", "holds", "(I)I"⟩
abbrev b_P_witness : ByteArray := prog_1_method_13_code
def y_P_witness : MethodName := ⟨"PlaneCells", "witness", "()I"⟩
abbrev b_P_compare : ByteArray := prog_1_method_14_code
def y_P_compare : MethodName := ⟨"PlaneCells", "compare", "(III)I"⟩
abbrev b_P_hasPolynomial : ByteArray := prog_1_method_15_code
def y_P_hasPolynomial : MethodName := ⟨"PlaneCells", "hasPolynomial", "(I)Z"⟩
abbrev b_P_hasColumn : ByteArray := prog_1_method_16_code
def y_P_hasColumn : MethodName := ⟨"PlaneCells", "hasColumn", "(I)Z"⟩
abbrev b_P_hasCell : ByteArray := prog_1_method_17_code
def y_P_hasCell : MethodName := ⟨"PlaneCells", "hasCell", "(I)Z"⟩
abbrev b_P_enterColumn : ByteArray := prog_1_method_18_code
def y_P_enterColumn : MethodName := ⟨"PlaneCells", "enterColumn", "(I)Z"⟩
abbrev b_M_write : ByteArray := prog_8_method_2_code
def y_M_write : MethodName := ⟨"PlaneCellsModel", "write", "(C)Z"⟩
abbrev b_M_at : ByteArray := prog_8_method_3_code
def y_M_at : MethodName := ⟨"PlaneCellsModel", "at", "(I)I"⟩
abbrev b_M_isDigit : ByteArray := prog_8_method_4_code
def y_M_isDigit : MethodName := ⟨"PlaneCellsModel", "isDigit", "(I)Z"⟩
abbrev b_M_after : ByteArray := prog_8_method_5_code
def y_M_after : MethodName := ⟨"PlaneCellsModel", "after", "(III)I"⟩
abbrev b_M_term : ByteArray := prog_8_method_6_code
def y_M_term : MethodName := ⟨"PlaneCellsModel", "term", "(II)I"⟩
abbrev b_M_behind : ByteArray := prog_8_method_7_code
def y_M_behind : MethodName := ⟨"PlaneCellsModel", "behind", "(II)I"⟩
abbrev b_M_inSum : ByteArray := prog_8_method_8_code
def y_M_inSum : MethodName := ⟨"PlaneCellsModel", "inSum", "(III)I"⟩
abbrev b_M_mayEnd : ByteArray := prog_8_method_9_code
def y_M_mayEnd : MethodName := ⟨"PlaneCellsModel", "mayEnd", "(II)Z"⟩
abbrev b_M_illAt : ByteArray := prog_8_method_10_code
def y_M_illAt : MethodName := ⟨"PlaneCellsModel", "illAt", "()I"⟩
abbrev b_M_takeText : ByteArray := prog_8_method_11_code
def y_M_takeText : MethodName := ⟨"PlaneCellsModel", "takeText", "()V"⟩
abbrev b_M_count : ByteArray := prog_8_method_12_code
def y_M_count : MethodName := ⟨"PlaneCellsModel", "count", "(I)I"⟩
abbrev b_M_relations : ByteArray := prog_8_method_14_code
def y_M_relations : MethodName := ⟨"PlaneCellsModel", "relations", "()I"⟩
abbrev b_M_readSum : ByteArray := prog_8_method_15_code
def y_M_readSum : MethodName := ⟨"PlaneCellsModel", "readSum", "(III)I"⟩
abbrev b_M_give : ByteArray := prog_8_method_16_code
def y_M_give : MethodName := ⟨"PlaneCellsModel", "give", "(I)V"⟩
abbrev b_M_giveAll : ByteArray := prog_8_method_17_code
def y_M_giveAll : MethodName := ⟨"PlaneCellsModel", "giveAll", "(I)V"⟩
abbrev b_M_wait0 : ByteArray := prog_8_method_18_code
def y_M_wait0 : MethodName := ⟨"PlaneCellsModel", "wait0", "(I)V"⟩
abbrev b_M_readFormula : ByteArray := prog_8_method_19_code
def y_M_readFormula : MethodName := ⟨"PlaneCellsModel", "readFormula", "()V"⟩
abbrev b_M_sgn : ByteArray := prog_8_method_20_code
def y_M_sgn : MethodName := ⟨"PlaneCellsModel", "sgn", "(J)I"⟩
abbrev b_M_signOf : ByteArray := prog_8_method_21_code
def y_M_signOf : MethodName := ⟨"PlaneCellsModel", "signOf", "(JJJ)I"⟩
abbrev b_M_signAt : ByteArray := prog_8_method_22_code
def y_M_signAt : MethodName := ⟨"PlaneCellsModel", "signAt", "(IJJJ)I"⟩
abbrev b_M_signBehind : ByteArray := prog_8_method_23_code
def y_M_signBehind : MethodName := ⟨"PlaneCellsModel", "signBehind", "(IJJJ)I"⟩
abbrev b_M_signIn : ByteArray := prog_8_method_24_code
def y_M_signIn : MethodName := ⟨"PlaneCellsModel", "signIn", "(IJJJ)I"⟩
abbrev b_M_against : ByteArray := prog_8_method_25_code
def y_M_against : MethodName := ⟨"PlaneCellsModel", "against", "(IJJJI)I"⟩
abbrev b_M_addRoot : ByteArray := prog_8_method_26_code
def y_M_addRoot : MethodName := ⟨"PlaneCellsModel", "addRoot", "(JJJI)V"⟩
abbrev b_M_addRoots : ByteArray := prog_8_method_27_code
def y_M_addRoots : MethodName := ⟨"PlaneCellsModel", "addRoots", "(JJJ)V"⟩
abbrev b_M_cross : ByteArray := prog_8_method_28_code
def y_M_cross : MethodName := ⟨"PlaneCellsModel", "cross", "(IIII)J"⟩
abbrev b_M_mixed : ByteArray := prog_8_method_29_code
def y_M_mixed : MethodName := ⟨"PlaneCellsModel", "mixed", "(III)J"⟩
abbrev b_M_findCriticals : ByteArray := prog_8_method_30_code
def y_M_findCriticals : MethodName := ⟨"PlaneCellsModel", "findCriticals", "()V"⟩
abbrev b_M_compareY : ByteArray := prog_8_method_31_code
def y_M_compareY : MethodName := ⟨"PlaneCellsModel", "compareY", "(III)I"⟩
abbrev b_M_look : ByteArray := prog_8_method_32_code
def y_M_look : MethodName := ⟨"PlaneCellsModel", "look", "(I)V"⟩
abbrev b_M_isFirst : ByteArray := prog_8_method_33_code
def y_M_isFirst : MethodName := ⟨"PlaneCellsModel", "isFirst", "(II)Z"⟩
abbrev b_M_signOfCell : ByteArray := prog_8_method_34_code
def y_M_signOfCell : MethodName := ⟨"PlaneCellsModel", "signOfCell", "(III)I"⟩
abbrev b_M_formulaIn : ByteArray := prog_8_method_35_code
def y_M_formulaIn : MethodName := ⟨"PlaneCellsModel", "formulaIn", "(II)Z"⟩
abbrev b_M_columnHolds : ByteArray := prog_8_method_36_code
def y_M_columnHolds : MethodName := ⟨"PlaneCellsModel", "columnHolds", "(I)Z"⟩
abbrev b_M_wrong : ByteArray := prog_8_method_37_code
def y_M_wrong : MethodName := ⟨"PlaneCellsModel", "wrong", "(II)I"⟩
abbrev b_M_decide : ByteArray := prog_8_method_38_code
def y_M_decide : MethodName := ⟨"PlaneCellsModel", "decide", "()I"⟩
abbrev b_M_place : ByteArray := prog_8_method_39_code
def y_M_place : MethodName := ⟨"PlaneCellsModel", "place", "()I"⟩
abbrev b_M_polynomials : ByteArray := prog_8_method_40_code
def y_M_polynomials : MethodName := ⟨"PlaneCellsModel", "polynomials", "()I"⟩
abbrev b_M_coefficient : ByteArray := prog_8_method_41_code
def y_M_coefficient : MethodName := ⟨"PlaneCellsModel", "coefficient", "(II)I"⟩
abbrev b_M_columns : ByteArray := prog_8_method_42_code
def y_M_columns : MethodName := ⟨"PlaneCellsModel", "columns", "()I"⟩
abbrev b_M_isColumn : ByteArray := prog_8_method_43_code
def y_M_isColumn : MethodName := ⟨"PlaneCellsModel", "isColumn", "(I)Z"⟩
abbrev b_M_isCell : ByteArray := prog_8_method_44_code
def y_M_isCell : MethodName := ⟨"PlaneCellsModel", "isCell", "(II)Z"⟩
abbrev b_M_cells : ByteArray := prog_8_method_45_code
def y_M_cells : MethodName := ⟨"PlaneCellsModel", "cells", "(I)I"⟩
abbrev b_M_sign : ByteArray := prog_8_method_46_code
def y_M_sign : MethodName := ⟨"PlaneCellsModel", "sign", "(III)I"⟩
abbrev b_M_truth : ByteArray := prog_8_method_47_code
def y_M_truth : MethodName := ⟨"PlaneCellsModel", "truth", "(II)I"⟩
abbrev b_M_holds : ByteArray := prog_8_method_48_code
def y_M_holds : MethodName := ⟨"PlaneCellsModel", "holds", "(I)I"⟩
abbrev b_M_witness : ByteArray := prog_8_method_49_code
def y_M_witness : MethodName := ⟨"PlaneCellsModel", "witness", "()I"⟩
abbrev b_M_compare : ByteArray := prog_8_method_50_code
def y_M_compare : MethodName := ⟨"PlaneCellsModel", "compare", "(III)I"⟩
