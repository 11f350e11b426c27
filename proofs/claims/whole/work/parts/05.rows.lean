def jx_w (G : jx_G) (S : jx_S) : va_W := [(jx_ad G 0, .inr (0, [.ref (jx_ad G 1), .ref (jx_ad G 2), .ref (jx_ad G 3), .int (S.1 0), .int (S.1 1), .int (S.1 2)])),
  (jx_ad G 1, .inr (1, [.ref (jx_ad G 6), .ref (jx_ad G 7), .ref (jx_ad G 8), .int (S.1 3), .int (S.1 4), .int (S.1 5), .int (S.1 6)])),
  (jx_ad G 2, .inr (2, [.ref (jx_ad G 1), .ref (jx_ad G 9), .ref (jx_ad G 10), .ref (jx_ad G 11), .int (S.1 7), .int (S.1 8), .int (S.1 9), .int (S.1 10), .int (S.1 11)])),
  (jx_ad G 3, .inr (3, [.ref (jx_ad G 1), .ref (jx_ad G 4), .ref (jx_ad G 5), .ref (jx_ad G 15), .ref (jx_ad G 16), .ref (jx_ad G 17), .int (S.1 12)])),
  (jx_ad G 4, .inr (4, [.ref (jx_ad G 12), .ref (jx_ad G 13), .ref (jx_ad G 14), .int (S.1 13)])),
  (jx_ad G 5, .inr (5, [.int (S.1 14), .int (S.1 15), .int (S.1 16)])),
  (jx_ad G 6, .inl (jx_ca G 0, 32, .inl (S.2.1 0))),
  (jx_ad G 7, .inl (jx_ca G 1, 8, .inl (S.2.1 1))),
  (jx_ad G 8, .inl (jx_ca G 0, 80, .inl (S.2.1 2))),
  (jx_ad G 9, .inl (jx_ca G 1, 80, .inl (S.2.1 3))),
  (jx_ad G 10, .inl (jx_ca G 0, 80, .inl (S.2.1 4))),
  (jx_ad G 11, .inl (jx_ca G 0, 4, .inl (S.2.1 5))),
  (jx_ad G 12, .inl (jx_ca G 0, 72, .inl (S.2.1 6))),
  (jx_ad G 13, .inl (jx_ca G 0, 72, .inl (S.2.1 7))),
  (jx_ad G 14, .inl (jx_ca G 0, 72, .inl (S.2.1 8))),
  (jx_ad G 15, .inl (jx_ca G 0, 8, .inl (S.2.1 9))),
  (jx_ad G 16, .inl (jx_ca G 0, 8, .inl (S.2.1 10))),
  (jx_ad G 17, .inl (jx_ca G 0, 8, .inl (S.2.1 11)))]
section FR
variable {G : jx_G} {X : jx_C} {cc : ByteArray} {ret : Option FieldType} {nL lv : Nat} {fin : Option Value × va_W} {pc : Nat} {L : List (Nat × Value)} {st : List Value} {S : jx_S}
theorem gf_P_12 (hX : jx_Ok G X cc "PlaneCells" ret nL lv) (hd : decode cc pc = .ok (.getfield 12, 3)) (k : jx_At G X fin (jx_w G S) (pc + 3) L (.ref (jx_ad G 1) :: st)) : jx_At G X fin (jx_w G S) pc L (.ref (jx_ad G 0) :: st) := by
  exact jx_get hX jn_in_P 0 rfl rfl 0 (by decide) rfl wm_160 rfl hd k
theorem gf_P_21 (hX : jx_Ok G X cc "PlaneCells" ret nL lv) (hd : decode cc pc = .ok (.getfield 21, 3)) (k : jx_At G X fin (jx_w G S) (pc + 3) L (.ref (jx_ad G 2) :: st)) : jx_At G X fin (jx_w G S) pc L (.ref (jx_ad G 0) :: st) := by
  exact jx_get hX jn_in_P 0 rfl rfl 1 (by decide) rfl wm_161 rfl hd k
theorem gf_P_28 (hX : jx_Ok G X cc "PlaneCells" ret nL lv) (hd : decode cc pc = .ok (.getfield 28, 3)) (k : jx_At G X fin (jx_w G S) (pc + 3) L (.ref (jx_ad G 3) :: st)) : jx_At G X fin (jx_w G S) pc L (.ref (jx_ad G 0) :: st) := by
  exact jx_get hX jn_in_P 0 rfl rfl 2 (by decide) rfl wm_162 rfl hd k
theorem gf_P_32 (hX : jx_Ok G X cc "PlaneCells" ret nL lv) (hd : decode cc pc = .ok (.getfield 32, 3)) {x : Int32} (hx : S.1 0 = x) (k : jx_At G X fin (jx_w G S) (pc + 3) L (.int x :: st)) : jx_At G X fin (jx_w G S) pc L (.ref (jx_ad G 0) :: st) := by
  subst hx
  exact jx_get hX jn_in_P 0 rfl rfl 3 (by decide) rfl wm_163 rfl hd k
theorem gf_P_36 (hX : jx_Ok G X cc "PlaneCells" ret nL lv) (hd : decode cc pc = .ok (.getfield 36, 3)) {x : Int32} (hx : S.1 1 = x) (k : jx_At G X fin (jx_w G S) (pc + 3) L (.int x :: st)) : jx_At G X fin (jx_w G S) pc L (.ref (jx_ad G 0) :: st) := by
  subst hx
  exact jx_get hX jn_in_P 0 rfl rfl 4 (by decide) rfl wm_164 rfl hd k
theorem gf_P_39 (hX : jx_Ok G X cc "PlaneCells" ret nL lv) (hd : decode cc pc = .ok (.getfield 39, 3)) {x : Int32} (hx : S.1 2 = x) (k : jx_At G X fin (jx_w G S) (pc + 3) L (.int x :: st)) : jx_At G X fin (jx_w G S) pc L (.ref (jx_ad G 0) :: st) := by
  subst hx
  exact jx_get hX jn_in_P 0 rfl rfl 5 (by decide) rfl wm_165 rfl hd k
theorem gf_P_68 (hX : jx_Ok G X cc "PlaneCells" ret nL lv) (hd : decode cc pc = .ok (.getfield 68, 3)) {x : Int32} (hx : S.1 5 = x) (k : jx_At G X fin (jx_w G S) (pc + 3) L (.int x :: st)) : jx_At G X fin (jx_w G S) pc L (.ref (jx_ad G 1) :: st) := by
  subst hx
  exact jx_getN hX jn_in_S 1 rfl rfl 5 (by decide) rfl wm_35 rfl hd k
theorem gf_P_78 (hX : jx_Ok G X cc "PlaneCells" ret nL lv) (hd : decode cc pc = .ok (.getfield 78, 3)) {x : Int32} (hx : S.1 9 = x) (k : jx_At G X fin (jx_w G S) (pc + 3) L (.int x :: st)) : jx_At G X fin (jx_w G S) pc L (.ref (jx_ad G 2) :: st) := by
  subst hx
  exact jx_getN hX jn_in_R 2 rfl rfl 6 (by decide) rfl wm_68 rfl hd k
theorem gf_P_84 (hX : jx_Ok G X cc "PlaneCells" ret nL lv) (hd : decode cc pc = .ok (.getfield 84, 3)) {x : Int32} (hx : S.1 4 = x) (k : jx_At G X fin (jx_w G S) (pc + 3) L (.int x :: st)) : jx_At G X fin (jx_w G S) pc L (.ref (jx_ad G 1) :: st) := by
  subst hx
  exact jx_getN hX jn_in_S 1 rfl rfl 4 (by decide) rfl wm_34 rfl hd k
theorem gf_P_98 (hX : jx_Ok G X cc "PlaneCells" ret nL lv) (hd : decode cc pc = .ok (.getfield 98, 3)) {x : Int32} (hx : S.1 12 = x) (k : jx_At G X fin (jx_w G S) (pc + 3) L (.int x :: st)) : jx_At G X fin (jx_w G S) pc L (.ref (jx_ad G 3) :: st) := by
  subst hx
  exact jx_getN hX jn_in_Q 3 rfl rfl 6 (by decide) rfl wm_144 rfl hd k
theorem gf_P_113 (hX : jx_Ok G X cc "PlaneCells" ret nL lv) (hd : decode cc pc = .ok (.getfield 113, 3)) (k : jx_At G X fin (jx_w G S) (pc + 3) L (.ref (jx_ad G 4) :: st)) : jx_At G X fin (jx_w G S) pc L (.ref (jx_ad G 3) :: st) := by
  exact jx_getN hX jn_in_Q 3 rfl rfl 1 (by decide) rfl wm_138 rfl hd k
theorem gf_C_9 (hX : jx_Ok G X cc "PlaneCells$CriticalNumbers" ret nL lv) (hd : decode cc pc = .ok (.getfield 9, 3)) (k : jx_At G X fin (jx_w G S) (pc + 3) L (.ref (jx_ad G 12) :: st)) : jx_At G X fin (jx_w G S) pc L (.ref (jx_ad G 4) :: st) := by
  exact jx_get hX jn_in_C 4 rfl rfl 0 (by decide) rfl wm_103 rfl hd k
theorem gf_C_15 (hX : jx_Ok G X cc "PlaneCells$CriticalNumbers" ret nL lv) (hd : decode cc pc = .ok (.getfield 15, 3)) (k : jx_At G X fin (jx_w G S) (pc + 3) L (.ref (jx_ad G 13) :: st)) : jx_At G X fin (jx_w G S) pc L (.ref (jx_ad G 4) :: st) := by
  exact jx_get hX jn_in_C 4 rfl rfl 1 (by decide) rfl wm_104 rfl hd k
theorem gf_C_18 (hX : jx_Ok G X cc "PlaneCells$CriticalNumbers" ret nL lv) (hd : decode cc pc = .ok (.getfield 18, 3)) (k : jx_At G X fin (jx_w G S) (pc + 3) L (.ref (jx_ad G 14) :: st)) : jx_At G X fin (jx_w G S) pc L (.ref (jx_ad G 4) :: st) := by
  exact jx_get hX jn_in_C 4 rfl rfl 2 (by decide) rfl wm_105 rfl hd k
theorem gf_C_21 (hX : jx_Ok G X cc "PlaneCells$CriticalNumbers" ret nL lv) (hd : decode cc pc = .ok (.getfield 21, 3)) {x : Int32} (hx : S.1 13 = x) (k : jx_At G X fin (jx_w G S) (pc + 3) L (.int x :: st)) : jx_At G X fin (jx_w G S) pc L (.ref (jx_ad G 4) :: st) := by
  subst hx
  exact jx_get hX jn_in_C 4 rfl rfl 3 (by decide) rfl wm_106 rfl hd k
theorem gf_C_25 (hX : jx_Ok G X cc "PlaneCells$CriticalNumbers" ret nL lv) (hd : decode cc pc = .ok (.getfield 25, 3)) {x : Int32} (hx : S.1 16 = x) (k : jx_At G X fin (jx_w G S) (pc + 3) L (.int x :: st)) : jx_At G X fin (jx_w G S) pc L (.ref (jx_ad G 5) :: st) := by
  subst hx
  exact jx_getN hX jn_in_F 5 rfl rfl 2 (by decide) rfl wm_128 rfl hd k
theorem gf_C_30 (hX : jx_Ok G X cc "PlaneCells$CriticalNumbers" ret nL lv) (hd : decode cc pc = .ok (.getfield 30, 3)) {x : Int32} (hx : S.1 15 = x) (k : jx_At G X fin (jx_w G S) (pc + 3) L (.int x :: st)) : jx_At G X fin (jx_w G S) pc L (.ref (jx_ad G 5) :: st) := by
  subst hx
  exact jx_getN hX jn_in_F 5 rfl rfl 1 (by decide) rfl wm_126 rfl hd k
theorem gf_C_33 (hX : jx_Ok G X cc "PlaneCells$CriticalNumbers" ret nL lv) (hd : decode cc pc = .ok (.getfield 33, 3)) {x : Int32} (hx : S.1 14 = x) (k : jx_At G X fin (jx_w G S) (pc + 3) L (.int x :: st)) : jx_At G X fin (jx_w G S) pc L (.ref (jx_ad G 5) :: st) := by
  subst hx
  exact jx_getN hX jn_in_F 5 rfl rfl 0 (by decide) rfl wm_124 rfl hd k
theorem gf_Q_12 (hX : jx_Ok G X cc "PlaneCells$Plane" ret nL lv) (hd : decode cc pc = .ok (.getfield 12, 3)) (k : jx_At G X fin (jx_w G S) (pc + 3) L (.ref (jx_ad G 4) :: st)) : jx_At G X fin (jx_w G S) pc L (.ref (jx_ad G 3) :: st) := by
  exact jx_get hX jn_in_Q 3 rfl rfl 1 (by decide) rfl wm_137 rfl hd k
theorem gf_Q_21 (hX : jx_Ok G X cc "PlaneCells$Plane" ret nL lv) (hd : decode cc pc = .ok (.getfield 21, 3)) (k : jx_At G X fin (jx_w G S) (pc + 3) L (.ref (jx_ad G 5) :: st)) : jx_At G X fin (jx_w G S) pc L (.ref (jx_ad G 3) :: st) := by
  exact jx_get hX jn_in_Q 3 rfl rfl 2 (by decide) rfl wm_139 rfl hd k
theorem gf_Q_25 (hX : jx_Ok G X cc "PlaneCells$Plane" ret nL lv) (hd : decode cc pc = .ok (.getfield 25, 3)) (k : jx_At G X fin (jx_w G S) (pc + 3) L (.ref (jx_ad G 15) :: st)) : jx_At G X fin (jx_w G S) pc L (.ref (jx_ad G 3) :: st) := by
  exact jx_get hX jn_in_Q 3 rfl rfl 3 (by decide) rfl wm_140 rfl hd k
theorem gf_Q_29 (hX : jx_Ok G X cc "PlaneCells$Plane" ret nL lv) (hd : decode cc pc = .ok (.getfield 29, 3)) (k : jx_At G X fin (jx_w G S) (pc + 3) L (.ref (jx_ad G 16) :: st)) : jx_At G X fin (jx_w G S) pc L (.ref (jx_ad G 3) :: st) := by
  exact jx_get hX jn_in_Q 3 rfl rfl 4 (by decide) rfl wm_141 rfl hd k
theorem gf_Q_32 (hX : jx_Ok G X cc "PlaneCells$Plane" ret nL lv) (hd : decode cc pc = .ok (.getfield 32, 3)) (k : jx_At G X fin (jx_w G S) (pc + 3) L (.ref (jx_ad G 17) :: st)) : jx_At G X fin (jx_w G S) pc L (.ref (jx_ad G 3) :: st) := by
  exact jx_get hX jn_in_Q 3 rfl rfl 5 (by decide) rfl wm_142 rfl hd k
theorem gf_Q_35 (hX : jx_Ok G X cc "PlaneCells$Plane" ret nL lv) (hd : decode cc pc = .ok (.getfield 35, 3)) (k : jx_At G X fin (jx_w G S) (pc + 3) L (.ref (jx_ad G 1) :: st)) : jx_At G X fin (jx_w G S) pc L (.ref (jx_ad G 3) :: st) := by
  exact jx_get hX jn_in_Q 3 rfl rfl 0 (by decide) rfl wm_136 rfl hd k
theorem gf_Q_42 (hX : jx_Ok G X cc "PlaneCells$Plane" ret nL lv) (hd : decode cc pc = .ok (.getfield 42, 3)) {x : Int32} (hx : S.1 4 = x) (k : jx_At G X fin (jx_w G S) (pc + 3) L (.int x :: st)) : jx_At G X fin (jx_w G S) pc L (.ref (jx_ad G 1) :: st) := by
  subst hx
  exact jx_getN hX jn_in_S 1 rfl rfl 4 (by decide) rfl wm_33 rfl hd k
theorem gf_Q_63 (hX : jx_Ok G X cc "PlaneCells$Plane" ret nL lv) (hd : decode cc pc = .ok (.getfield 63, 3)) {x : Int32} (hx : S.1 13 = x) (k : jx_At G X fin (jx_w G S) (pc + 3) L (.int x :: st)) : jx_At G X fin (jx_w G S) pc L (.ref (jx_ad G 4) :: st) := by
  subst hx
  exact jx_getN hX jn_in_C 4 rfl rfl 3 (by decide) rfl wm_107 rfl hd k
theorem gf_Q_66 (hX : jx_Ok G X cc "PlaneCells$Plane" ret nL lv) (hd : decode cc pc = .ok (.getfield 66, 3)) {x : Int32} (hx : S.1 12 = x) (k : jx_At G X fin (jx_w G S) (pc + 3) L (.int x :: st)) : jx_At G X fin (jx_w G S) pc L (.ref (jx_ad G 3) :: st) := by
  subst hx
  exact jx_get hX jn_in_Q 3 rfl rfl 6 (by decide) rfl wm_143 rfl hd k
theorem gf_Q_89 (hX : jx_Ok G X cc "PlaneCells$Plane" ret nL lv) (hd : decode cc pc = .ok (.getfield 89, 3)) {x : Int32} (hx : S.1 3 = x) (k : jx_At G X fin (jx_w G S) (pc + 3) L (.int x :: st)) : jx_At G X fin (jx_w G S) pc L (.ref (jx_ad G 1) :: st) := by
  subst hx
  exact jx_getN hX jn_in_S 1 rfl rfl 3 (by decide) rfl wm_31 rfl hd k
theorem gf_Q_92 (hX : jx_Ok G X cc "PlaneCells$Plane" ret nL lv) (hd : decode cc pc = .ok (.getfield 92, 3)) (k : jx_At G X fin (jx_w G S) (pc + 3) L (.ref (jx_ad G 8) :: st)) : jx_At G X fin (jx_w G S) pc L (.ref (jx_ad G 1) :: st) := by
  exact jx_getN hX jn_in_S 1 rfl rfl 2 (by decide) rfl wm_29 rfl hd k
theorem gf_Q_106 (hX : jx_Ok G X cc "PlaneCells$Plane" ret nL lv) (hd : decode cc pc = .ok (.getfield 106, 3)) {x : Int32} (hx : S.1 6 = x) (k : jx_At G X fin (jx_w G S) (pc + 3) L (.int x :: st)) : jx_At G X fin (jx_w G S) pc L (.ref (jx_ad G 1) :: st) := by
  subst hx
  exact jx_getN hX jn_in_S 1 rfl rfl 6 (by decide) rfl wm_38 rfl hd k
theorem gf_R_9 (hX : jx_Ok G X cc "PlaneCells$Reader" ret nL lv) (hd : decode cc pc = .ok (.getfield 9, 3)) (k : jx_At G X fin (jx_w G S) (pc + 3) L (.ref (jx_ad G 9) :: st)) : jx_At G X fin (jx_w G S) pc L (.ref (jx_ad G 2) :: st) := by
  exact jx_get hX jn_in_R 2 rfl rfl 1 (by decide) rfl wm_63 rfl hd k
theorem gf_R_15 (hX : jx_Ok G X cc "PlaneCells$Reader" ret nL lv) (hd : decode cc pc = .ok (.getfield 15, 3)) (k : jx_At G X fin (jx_w G S) (pc + 3) L (.ref (jx_ad G 10) :: st)) : jx_At G X fin (jx_w G S) pc L (.ref (jx_ad G 2) :: st) := by
  exact jx_get hX jn_in_R 2 rfl rfl 2 (by decide) rfl wm_64 rfl hd k
theorem gf_R_19 (hX : jx_Ok G X cc "PlaneCells$Reader" ret nL lv) (hd : decode cc pc = .ok (.getfield 19, 3)) (k : jx_At G X fin (jx_w G S) (pc + 3) L (.ref (jx_ad G 11) :: st)) : jx_At G X fin (jx_w G S) pc L (.ref (jx_ad G 2) :: st) := by
  exact jx_get hX jn_in_R 2 rfl rfl 3 (by decide) rfl wm_65 rfl hd k
theorem gf_R_22 (hX : jx_Ok G X cc "PlaneCells$Reader" ret nL lv) (hd : decode cc pc = .ok (.getfield 22, 3)) (k : jx_At G X fin (jx_w G S) (pc + 3) L (.ref (jx_ad G 1) :: st)) : jx_At G X fin (jx_w G S) pc L (.ref (jx_ad G 2) :: st) := by
  exact jx_get hX jn_in_R 2 rfl rfl 0 (by decide) rfl wm_62 rfl hd k
theorem gf_R_26 (hX : jx_Ok G X cc "PlaneCells$Reader" ret nL lv) (hd : decode cc pc = .ok (.getfield 26, 3)) {x : Int32} (hx : S.1 7 = x) (k : jx_At G X fin (jx_w G S) (pc + 3) L (.int x :: st)) : jx_At G X fin (jx_w G S) pc L (.ref (jx_ad G 2) :: st) := by
  subst hx
  exact jx_get hX jn_in_R 2 rfl rfl 4 (by decide) rfl wm_66 rfl hd k
theorem gf_R_30 (hX : jx_Ok G X cc "PlaneCells$Reader" ret nL lv) (hd : decode cc pc = .ok (.getfield 30, 3)) {x : Int32} (hx : S.1 8 = x) (k : jx_At G X fin (jx_w G S) (pc + 3) L (.int x :: st)) : jx_At G X fin (jx_w G S) pc L (.ref (jx_ad G 2) :: st) := by
  subst hx
  exact jx_get hX jn_in_R 2 rfl rfl 5 (by decide) rfl wm_67 rfl hd k
theorem gf_R_33 (hX : jx_Ok G X cc "PlaneCells$Reader" ret nL lv) (hd : decode cc pc = .ok (.getfield 33, 3)) {x : Int32} (hx : S.1 9 = x) (k : jx_At G X fin (jx_w G S) (pc + 3) L (.int x :: st)) : jx_At G X fin (jx_w G S) pc L (.ref (jx_ad G 2) :: st) := by
  subst hx
  exact jx_get hX jn_in_R 2 rfl rfl 6 (by decide) rfl wm_69 rfl hd k
theorem gf_R_36 (hX : jx_Ok G X cc "PlaneCells$Reader" ret nL lv) (hd : decode cc pc = .ok (.getfield 36, 3)) {x : Int32} (hx : S.1 10 = x) (k : jx_At G X fin (jx_w G S) (pc + 3) L (.int x :: st)) : jx_At G X fin (jx_w G S) pc L (.ref (jx_ad G 2) :: st) := by
  subst hx
  exact jx_get hX jn_in_R 2 rfl rfl 7 (by decide) rfl wm_70 rfl hd k
theorem gf_R_39 (hX : jx_Ok G X cc "PlaneCells$Reader" ret nL lv) (hd : decode cc pc = .ok (.getfield 39, 3)) {x : Int32} (hx : S.1 11 = x) (k : jx_At G X fin (jx_w G S) (pc + 3) L (.int x :: st)) : jx_At G X fin (jx_w G S) pc L (.ref (jx_ad G 2) :: st) := by
  subst hx
  exact jx_get hX jn_in_R 2 rfl rfl 8 (by decide) rfl wm_71 rfl hd k
theorem gf_S_9 (hX : jx_Ok G X cc "PlaneCells$Sentence" ret nL lv) (hd : decode cc pc = .ok (.getfield 9, 3)) (k : jx_At G X fin (jx_w G S) (pc + 3) L (.ref (jx_ad G 6) :: st)) : jx_At G X fin (jx_w G S) pc L (.ref (jx_ad G 1) :: st) := by
  exact jx_get hX jn_in_S 1 rfl rfl 0 (by decide) rfl wm_26 rfl hd k
theorem gf_S_15 (hX : jx_Ok G X cc "PlaneCells$Sentence" ret nL lv) (hd : decode cc pc = .ok (.getfield 15, 3)) (k : jx_At G X fin (jx_w G S) (pc + 3) L (.ref (jx_ad G 7) :: st)) : jx_At G X fin (jx_w G S) pc L (.ref (jx_ad G 1) :: st) := by
  exact jx_get hX jn_in_S 1 rfl rfl 1 (by decide) rfl wm_27 rfl hd k
theorem gf_S_19 (hX : jx_Ok G X cc "PlaneCells$Sentence" ret nL lv) (hd : decode cc pc = .ok (.getfield 19, 3)) (k : jx_At G X fin (jx_w G S) (pc + 3) L (.ref (jx_ad G 8) :: st)) : jx_At G X fin (jx_w G S) pc L (.ref (jx_ad G 1) :: st) := by
  exact jx_get hX jn_in_S 1 rfl rfl 2 (by decide) rfl wm_28 rfl hd k
theorem gf_S_22 (hX : jx_Ok G X cc "PlaneCells$Sentence" ret nL lv) (hd : decode cc pc = .ok (.getfield 22, 3)) {x : Int32} (hx : S.1 3 = x) (k : jx_At G X fin (jx_w G S) (pc + 3) L (.int x :: st)) : jx_At G X fin (jx_w G S) pc L (.ref (jx_ad G 1) :: st) := by
  subst hx
  exact jx_get hX jn_in_S 1 rfl rfl 3 (by decide) rfl wm_30 rfl hd k
theorem gf_S_26 (hX : jx_Ok G X cc "PlaneCells$Sentence" ret nL lv) (hd : decode cc pc = .ok (.getfield 26, 3)) {x : Int32} (hx : S.1 4 = x) (k : jx_At G X fin (jx_w G S) (pc + 3) L (.int x :: st)) : jx_At G X fin (jx_w G S) pc L (.ref (jx_ad G 1) :: st) := by
  subst hx
  exact jx_get hX jn_in_S 1 rfl rfl 4 (by decide) rfl wm_32 rfl hd k
theorem pf_P_32 (hX : jx_Ok G X cc "PlaneCells" ret nL lv) {x : Int32} (hd : decode cc pc = .ok (.putfield 32, 3)) (k : jx_At G X fin (jx_w G (jx_f S 0 x)) (pc + 3) L st) : jx_At G X fin (jx_w G S) pc L (.int x :: .ref (jx_ad G 0) :: st) :=
  jx_put hX jn_in_P jn_t_P jn_tok_P jn_nm_P 0 rfl rfl 3 (by decide) rfl wm_163 rfl rfl rfl rfl (Nat.le_of_ble_eq_true rfl) (w2 := jx_w G (jx_f S 0 x)) rfl hd k
theorem pf_P_36 (hX : jx_Ok G X cc "PlaneCells" ret nL lv) {x : Int32} (hd : decode cc pc = .ok (.putfield 36, 3)) (k : jx_At G X fin (jx_w G (jx_f S 1 x)) (pc + 3) L st) : jx_At G X fin (jx_w G S) pc L (.int x :: .ref (jx_ad G 0) :: st) :=
  jx_put hX jn_in_P jn_t_P jn_tok_P jn_nm_P 0 rfl rfl 4 (by decide) rfl wm_164 rfl rfl rfl rfl (Nat.le_of_ble_eq_true rfl) (w2 := jx_w G (jx_f S 1 x)) rfl hd k
theorem pf_P_39 (hX : jx_Ok G X cc "PlaneCells" ret nL lv) {x : Int32} (hd : decode cc pc = .ok (.putfield 39, 3)) (k : jx_At G X fin (jx_w G (jx_f S 2 x)) (pc + 3) L st) : jx_At G X fin (jx_w G S) pc L (.int x :: .ref (jx_ad G 0) :: st) :=
  jx_put hX jn_in_P jn_t_P jn_tok_P jn_nm_P 0 rfl rfl 5 (by decide) rfl wm_165 rfl rfl rfl rfl (Nat.le_of_ble_eq_true rfl) (w2 := jx_w G (jx_f S 2 x)) rfl hd k
theorem pf_C_21 (hX : jx_Ok G X cc "PlaneCells$CriticalNumbers" ret nL lv) {x : Int32} (hd : decode cc pc = .ok (.putfield 21, 3)) (k : jx_At G X fin (jx_w G (jx_f S 13 x)) (pc + 3) L st) : jx_At G X fin (jx_w G S) pc L (.int x :: .ref (jx_ad G 4) :: st) :=
  jx_put hX jn_in_C jn_t_C jn_tok_C jn_nm_C 4 rfl rfl 3 (by decide) rfl wm_106 rfl rfl rfl rfl (Nat.le_of_ble_eq_true rfl) (w2 := jx_w G (jx_f S 13 x)) rfl hd k
theorem pf_F_13 (hX : jx_Ok G X cc "PlaneCells$Form" ret nL lv) {x : Int32} (hd : decode cc pc = .ok (.putfield 13, 3)) (k : jx_At G X fin (jx_w G (jx_f S 14 x)) (pc + 3) L st) : jx_At G X fin (jx_w G S) pc L (.int x :: .ref (jx_ad G 5) :: st) :=
  jx_put hX jn_in_F jn_t_F jn_tok_F jn_nm_F 5 rfl rfl 0 (by decide) rfl wm_123 rfl rfl rfl rfl (Nat.le_of_ble_eq_true rfl) (w2 := jx_w G (jx_f S 14 x)) rfl hd k
theorem pf_F_19 (hX : jx_Ok G X cc "PlaneCells$Form" ret nL lv) {x : Int32} (hd : decode cc pc = .ok (.putfield 19, 3)) (k : jx_At G X fin (jx_w G (jx_f S 15 x)) (pc + 3) L st) : jx_At G X fin (jx_w G S) pc L (.int x :: .ref (jx_ad G 5) :: st) :=
  jx_put hX jn_in_F jn_t_F jn_tok_F jn_nm_F 5 rfl rfl 1 (by decide) rfl wm_125 rfl rfl rfl rfl (Nat.le_of_ble_eq_true rfl) (w2 := jx_w G (jx_f S 15 x)) rfl hd k
theorem pf_F_22 (hX : jx_Ok G X cc "PlaneCells$Form" ret nL lv) {x : Int32} (hd : decode cc pc = .ok (.putfield 22, 3)) (k : jx_At G X fin (jx_w G (jx_f S 16 x)) (pc + 3) L st) : jx_At G X fin (jx_w G S) pc L (.int x :: .ref (jx_ad G 5) :: st) :=
  jx_put hX jn_in_F jn_t_F jn_tok_F jn_nm_F 5 rfl rfl 2 (by decide) rfl wm_127 rfl rfl rfl rfl (Nat.le_of_ble_eq_true rfl) (w2 := jx_w G (jx_f S 16 x)) rfl hd k
theorem pf_Q_66 (hX : jx_Ok G X cc "PlaneCells$Plane" ret nL lv) {x : Int32} (hd : decode cc pc = .ok (.putfield 66, 3)) (k : jx_At G X fin (jx_w G (jx_f S 12 x)) (pc + 3) L st) : jx_At G X fin (jx_w G S) pc L (.int x :: .ref (jx_ad G 3) :: st) :=
  jx_put hX jn_in_Q jn_t_Q jn_tok_Q jn_nm_Q 3 rfl rfl 6 (by decide) rfl wm_143 rfl rfl rfl rfl (Nat.le_of_ble_eq_true rfl) (w2 := jx_w G (jx_f S 12 x)) rfl hd k
theorem pf_R_26 (hX : jx_Ok G X cc "PlaneCells$Reader" ret nL lv) {x : Int32} (hd : decode cc pc = .ok (.putfield 26, 3)) (k : jx_At G X fin (jx_w G (jx_f S 7 x)) (pc + 3) L st) : jx_At G X fin (jx_w G S) pc L (.int x :: .ref (jx_ad G 2) :: st) :=
  jx_put hX jn_in_R jn_t_R jn_tok_R jn_nm_R 2 rfl rfl 4 (by decide) rfl wm_66 rfl rfl rfl rfl (Nat.le_of_ble_eq_true rfl) (w2 := jx_w G (jx_f S 7 x)) rfl hd k
theorem pf_R_30 (hX : jx_Ok G X cc "PlaneCells$Reader" ret nL lv) {x : Int32} (hd : decode cc pc = .ok (.putfield 30, 3)) (k : jx_At G X fin (jx_w G (jx_f S 8 x)) (pc + 3) L st) : jx_At G X fin (jx_w G S) pc L (.int x :: .ref (jx_ad G 2) :: st) :=
  jx_put hX jn_in_R jn_t_R jn_tok_R jn_nm_R 2 rfl rfl 5 (by decide) rfl wm_67 rfl rfl rfl rfl (Nat.le_of_ble_eq_true rfl) (w2 := jx_w G (jx_f S 8 x)) rfl hd k
theorem pf_R_33 (hX : jx_Ok G X cc "PlaneCells$Reader" ret nL lv) {x : Int32} (hd : decode cc pc = .ok (.putfield 33, 3)) (k : jx_At G X fin (jx_w G (jx_f S 9 x)) (pc + 3) L st) : jx_At G X fin (jx_w G S) pc L (.int x :: .ref (jx_ad G 2) :: st) :=
  jx_put hX jn_in_R jn_t_R jn_tok_R jn_nm_R 2 rfl rfl 6 (by decide) rfl wm_69 rfl rfl rfl rfl (Nat.le_of_ble_eq_true rfl) (w2 := jx_w G (jx_f S 9 x)) rfl hd k
theorem pf_R_36 (hX : jx_Ok G X cc "PlaneCells$Reader" ret nL lv) {x : Int32} (hd : decode cc pc = .ok (.putfield 36, 3)) (k : jx_At G X fin (jx_w G (jx_f S 10 x)) (pc + 3) L st) : jx_At G X fin (jx_w G S) pc L (.int x :: .ref (jx_ad G 2) :: st) :=
  jx_put hX jn_in_R jn_t_R jn_tok_R jn_nm_R 2 rfl rfl 7 (by decide) rfl wm_70 rfl rfl rfl rfl (Nat.le_of_ble_eq_true rfl) (w2 := jx_w G (jx_f S 10 x)) rfl hd k
theorem pf_R_39 (hX : jx_Ok G X cc "PlaneCells$Reader" ret nL lv) {x : Int32} (hd : decode cc pc = .ok (.putfield 39, 3)) (k : jx_At G X fin (jx_w G (jx_f S 11 x)) (pc + 3) L st) : jx_At G X fin (jx_w G S) pc L (.int x :: .ref (jx_ad G 2) :: st) :=
  jx_put hX jn_in_R jn_t_R jn_tok_R jn_nm_R 2 rfl rfl 8 (by decide) rfl wm_71 rfl rfl rfl rfl (Nat.le_of_ble_eq_true rfl) (w2 := jx_w G (jx_f S 11 x)) rfl hd k
theorem pf_R_71 (hX : jx_Ok G X cc "PlaneCells$Reader" ret nL lv) {x : Int32} (hd : decode cc pc = .ok (.putfield 71, 3)) (h01 : jx_01 x) (k : jx_At G X fin (jx_w G (jx_f S 5 x)) (pc + 3) L st) : jx_At G X fin (jx_w G S) pc L (.int x :: .ref (jx_ad G 1) :: st) :=
  jx_putN hX jn_in_S jn_t_S jn_tok_S jn_nm_S 1 rfl rfl 5 (by decide) rfl wm_36 rfl rfl (jx_01n h01) (jx_01f h01) (Nat.le_of_ble_eq_true rfl) (w2 := jx_w G (jx_f S 5 x)) rfl hd k
theorem pf_R_82 (hX : jx_Ok G X cc "PlaneCells$Reader" ret nL lv) {x : Int32} (hd : decode cc pc = .ok (.putfield 82, 3)) (h01 : jx_01 x) (k : jx_At G X fin (jx_w G (jx_f S 6 x)) (pc + 3) L st) : jx_At G X fin (jx_w G S) pc L (.int x :: .ref (jx_ad G 1) :: st) :=
  jx_putN hX jn_in_S jn_t_S jn_tok_S jn_nm_S 1 rfl rfl 6 (by decide) rfl wm_37 rfl rfl (jx_01n h01) (jx_01f h01) (Nat.le_of_ble_eq_true rfl) (w2 := jx_w G (jx_f S 6 x)) rfl hd k
theorem pf_S_22 (hX : jx_Ok G X cc "PlaneCells$Sentence" ret nL lv) {x : Int32} (hd : decode cc pc = .ok (.putfield 22, 3)) (k : jx_At G X fin (jx_w G (jx_f S 3 x)) (pc + 3) L st) : jx_At G X fin (jx_w G S) pc L (.int x :: .ref (jx_ad G 1) :: st) :=
  jx_put hX jn_in_S jn_t_S jn_tok_S jn_nm_S 1 rfl rfl 3 (by decide) rfl wm_30 rfl rfl rfl rfl (Nat.le_of_ble_eq_true rfl) (w2 := jx_w G (jx_f S 3 x)) rfl hd k
theorem pf_S_26 (hX : jx_Ok G X cc "PlaneCells$Sentence" ret nL lv) {x : Int32} (hd : decode cc pc = .ok (.putfield 26, 3)) (k : jx_At G X fin (jx_w G (jx_f S 4 x)) (pc + 3) L st) : jx_At G X fin (jx_w G S) pc L (.int x :: .ref (jx_ad G 1) :: st) :=
  jx_put hX jn_in_S jn_t_S jn_tok_S jn_nm_S 1 rfl rfl 4 (by decide) rfl wm_32 rfl rfl rfl rfl (Nat.le_of_ble_eq_true rfl) (w2 := jx_w G (jx_f S 4 x)) rfl hd k
theorem al_0 {own : String} (hX : jx_Ok G X cc own ret nL lv) {i : Int32} (hd : decode cc pc = .ok (.iaload, 1)) {f : Nat → Int32} (hf : S.2.1 0 = f) (hin : jx_in i 32 = true) (k : jx_At G X fin (jx_w G S) (pc + 1) L (.int (f i.toNatClampNeg) :: st)) : jx_At G X fin (jx_w G S) pc L (.int i :: .ref (jx_ad G 6) :: st) := by
  subst hf
  exact jx_iald hX 6 rfl hin hd k
theorem as_0 {own : String} (hX : jx_Ok G X cc own ret nL lv) {i : Int32} {x : Int32} (hd : decode cc pc = .ok (.iastore, 1)) {f : Nat → Int32} (hf : S.2.1 0 = f) (hin : jx_in i 32 = true) (k : jx_At G X fin (jx_w G (jx_g S 0 (upd f i.toNatClampNeg x))) (pc + 1) L st) : jx_At G X fin (jx_w G S) pc L (.int x :: .int i :: .ref (jx_ad G 6) :: st) := by
  subst hf
  exact jx_iast hX 6 rfl hin (w2 := jx_w G (jx_g S 0 (upd (S.2.1 0) i.toNatClampNeg x))) rfl hd k
theorem al_1 {own : String} (hX : jx_Ok G X cc own ret nL lv) {i : Int32} (hd : decode cc pc = .ok (.caload, 1)) {f : Nat → Int32} (hf : S.2.1 1 = f) (hin : jx_in i 8 = true) (k : jx_At G X fin (jx_w G S) (pc + 1) L (.int (f i.toNatClampNeg) :: st)) : jx_At G X fin (jx_w G S) pc L (.int i :: .ref (jx_ad G 7) :: st) := by
  subst hf
  exact jx_cald hX 7 rfl hin hd k
theorem as_1 {own : String} (hX : jx_Ok G X cc own ret nL lv) {i : Int32} {x : Int32} (hd : decode cc pc = .ok (.castore, 1)) {f : Nat → Int32} (hf : S.2.1 1 = f) (hin : jx_in i 8 = true) (k : jx_At G X fin (jx_w G (jx_g S 1 (upd f i.toNatClampNeg (vp_nar .char x)))) (pc + 1) L st) : jx_At G X fin (jx_w G S) pc L (.int x :: .int i :: .ref (jx_ad G 7) :: st) := by
  subst hf
  exact jx_cast hX 7 rfl hin (w2 := jx_w G (jx_g S 1 (upd (S.2.1 1) i.toNatClampNeg (vp_nar .char x)))) rfl hd k
theorem al_2 {own : String} (hX : jx_Ok G X cc own ret nL lv) {i : Int32} (hd : decode cc pc = .ok (.iaload, 1)) {f : Nat → Int32} (hf : S.2.1 2 = f) (hin : jx_in i 80 = true) (k : jx_At G X fin (jx_w G S) (pc + 1) L (.int (f i.toNatClampNeg) :: st)) : jx_At G X fin (jx_w G S) pc L (.int i :: .ref (jx_ad G 8) :: st) := by
  subst hf
  exact jx_iald hX 8 rfl hin hd k
theorem as_2 {own : String} (hX : jx_Ok G X cc own ret nL lv) {i : Int32} {x : Int32} (hd : decode cc pc = .ok (.iastore, 1)) {f : Nat → Int32} (hf : S.2.1 2 = f) (hin : jx_in i 80 = true) (k : jx_At G X fin (jx_w G (jx_g S 2 (upd f i.toNatClampNeg x))) (pc + 1) L st) : jx_At G X fin (jx_w G S) pc L (.int x :: .int i :: .ref (jx_ad G 8) :: st) := by
  subst hf
  exact jx_iast hX 8 rfl hin (w2 := jx_w G (jx_g S 2 (upd (S.2.1 2) i.toNatClampNeg x))) rfl hd k
theorem al_3 {own : String} (hX : jx_Ok G X cc own ret nL lv) {i : Int32} (hd : decode cc pc = .ok (.caload, 1)) {f : Nat → Int32} (hf : S.2.1 3 = f) (hin : jx_in i 80 = true) (k : jx_At G X fin (jx_w G S) (pc + 1) L (.int (f i.toNatClampNeg) :: st)) : jx_At G X fin (jx_w G S) pc L (.int i :: .ref (jx_ad G 9) :: st) := by
  subst hf
  exact jx_cald hX 9 rfl hin hd k
theorem as_3 {own : String} (hX : jx_Ok G X cc own ret nL lv) {i : Int32} {x : Int32} (hd : decode cc pc = .ok (.castore, 1)) {f : Nat → Int32} (hf : S.2.1 3 = f) (hin : jx_in i 80 = true) (k : jx_At G X fin (jx_w G (jx_g S 3 (upd f i.toNatClampNeg (vp_nar .char x)))) (pc + 1) L st) : jx_At G X fin (jx_w G S) pc L (.int x :: .int i :: .ref (jx_ad G 9) :: st) := by
  subst hf
  exact jx_cast hX 9 rfl hin (w2 := jx_w G (jx_g S 3 (upd (S.2.1 3) i.toNatClampNeg (vp_nar .char x)))) rfl hd k
theorem al_4 {own : String} (hX : jx_Ok G X cc own ret nL lv) {i : Int32} (hd : decode cc pc = .ok (.iaload, 1)) {f : Nat → Int32} (hf : S.2.1 4 = f) (hin : jx_in i 80 = true) (k : jx_At G X fin (jx_w G S) (pc + 1) L (.int (f i.toNatClampNeg) :: st)) : jx_At G X fin (jx_w G S) pc L (.int i :: .ref (jx_ad G 10) :: st) := by
  subst hf
  exact jx_iald hX 10 rfl hin hd k
theorem as_4 {own : String} (hX : jx_Ok G X cc own ret nL lv) {i : Int32} {x : Int32} (hd : decode cc pc = .ok (.iastore, 1)) {f : Nat → Int32} (hf : S.2.1 4 = f) (hin : jx_in i 80 = true) (k : jx_At G X fin (jx_w G (jx_g S 4 (upd f i.toNatClampNeg x))) (pc + 1) L st) : jx_At G X fin (jx_w G S) pc L (.int x :: .int i :: .ref (jx_ad G 10) :: st) := by
  subst hf
  exact jx_iast hX 10 rfl hin (w2 := jx_w G (jx_g S 4 (upd (S.2.1 4) i.toNatClampNeg x))) rfl hd k
theorem al_5 {own : String} (hX : jx_Ok G X cc own ret nL lv) {i : Int32} (hd : decode cc pc = .ok (.iaload, 1)) {f : Nat → Int32} (hf : S.2.1 5 = f) (hin : jx_in i 4 = true) (k : jx_At G X fin (jx_w G S) (pc + 1) L (.int (f i.toNatClampNeg) :: st)) : jx_At G X fin (jx_w G S) pc L (.int i :: .ref (jx_ad G 11) :: st) := by
  subst hf
  exact jx_iald hX 11 rfl hin hd k
theorem as_5 {own : String} (hX : jx_Ok G X cc own ret nL lv) {i : Int32} {x : Int32} (hd : decode cc pc = .ok (.iastore, 1)) {f : Nat → Int32} (hf : S.2.1 5 = f) (hin : jx_in i 4 = true) (k : jx_At G X fin (jx_w G (jx_g S 5 (upd f i.toNatClampNeg x))) (pc + 1) L st) : jx_At G X fin (jx_w G S) pc L (.int x :: .int i :: .ref (jx_ad G 11) :: st) := by
  subst hf
  exact jx_iast hX 11 rfl hin (w2 := jx_w G (jx_g S 5 (upd (S.2.1 5) i.toNatClampNeg x))) rfl hd k
theorem al_6 {own : String} (hX : jx_Ok G X cc own ret nL lv) {i : Int32} (hd : decode cc pc = .ok (.iaload, 1)) {f : Nat → Int32} (hf : S.2.1 6 = f) (hin : jx_in i 72 = true) (k : jx_At G X fin (jx_w G S) (pc + 1) L (.int (f i.toNatClampNeg) :: st)) : jx_At G X fin (jx_w G S) pc L (.int i :: .ref (jx_ad G 12) :: st) := by
  subst hf
  exact jx_iald hX 12 rfl hin hd k
theorem as_6 {own : String} (hX : jx_Ok G X cc own ret nL lv) {i : Int32} {x : Int32} (hd : decode cc pc = .ok (.iastore, 1)) {f : Nat → Int32} (hf : S.2.1 6 = f) (hin : jx_in i 72 = true) (k : jx_At G X fin (jx_w G (jx_g S 6 (upd f i.toNatClampNeg x))) (pc + 1) L st) : jx_At G X fin (jx_w G S) pc L (.int x :: .int i :: .ref (jx_ad G 12) :: st) := by
  subst hf
  exact jx_iast hX 12 rfl hin (w2 := jx_w G (jx_g S 6 (upd (S.2.1 6) i.toNatClampNeg x))) rfl hd k
theorem al_7 {own : String} (hX : jx_Ok G X cc own ret nL lv) {i : Int32} (hd : decode cc pc = .ok (.iaload, 1)) {f : Nat → Int32} (hf : S.2.1 7 = f) (hin : jx_in i 72 = true) (k : jx_At G X fin (jx_w G S) (pc + 1) L (.int (f i.toNatClampNeg) :: st)) : jx_At G X fin (jx_w G S) pc L (.int i :: .ref (jx_ad G 13) :: st) := by
  subst hf
  exact jx_iald hX 13 rfl hin hd k
theorem as_7 {own : String} (hX : jx_Ok G X cc own ret nL lv) {i : Int32} {x : Int32} (hd : decode cc pc = .ok (.iastore, 1)) {f : Nat → Int32} (hf : S.2.1 7 = f) (hin : jx_in i 72 = true) (k : jx_At G X fin (jx_w G (jx_g S 7 (upd f i.toNatClampNeg x))) (pc + 1) L st) : jx_At G X fin (jx_w G S) pc L (.int x :: .int i :: .ref (jx_ad G 13) :: st) := by
  subst hf
  exact jx_iast hX 13 rfl hin (w2 := jx_w G (jx_g S 7 (upd (S.2.1 7) i.toNatClampNeg x))) rfl hd k
theorem al_8 {own : String} (hX : jx_Ok G X cc own ret nL lv) {i : Int32} (hd : decode cc pc = .ok (.iaload, 1)) {f : Nat → Int32} (hf : S.2.1 8 = f) (hin : jx_in i 72 = true) (k : jx_At G X fin (jx_w G S) (pc + 1) L (.int (f i.toNatClampNeg) :: st)) : jx_At G X fin (jx_w G S) pc L (.int i :: .ref (jx_ad G 14) :: st) := by
  subst hf
  exact jx_iald hX 14 rfl hin hd k
theorem as_8 {own : String} (hX : jx_Ok G X cc own ret nL lv) {i : Int32} {x : Int32} (hd : decode cc pc = .ok (.iastore, 1)) {f : Nat → Int32} (hf : S.2.1 8 = f) (hin : jx_in i 72 = true) (k : jx_At G X fin (jx_w G (jx_g S 8 (upd f i.toNatClampNeg x))) (pc + 1) L st) : jx_At G X fin (jx_w G S) pc L (.int x :: .int i :: .ref (jx_ad G 14) :: st) := by
  subst hf
  exact jx_iast hX 14 rfl hin (w2 := jx_w G (jx_g S 8 (upd (S.2.1 8) i.toNatClampNeg x))) rfl hd k
theorem al_9 {own : String} (hX : jx_Ok G X cc own ret nL lv) {i : Int32} (hd : decode cc pc = .ok (.iaload, 1)) {f : Nat → Int32} (hf : S.2.1 9 = f) (hin : jx_in i 8 = true) (k : jx_At G X fin (jx_w G S) (pc + 1) L (.int (f i.toNatClampNeg) :: st)) : jx_At G X fin (jx_w G S) pc L (.int i :: .ref (jx_ad G 15) :: st) := by
  subst hf
  exact jx_iald hX 15 rfl hin hd k
theorem as_9 {own : String} (hX : jx_Ok G X cc own ret nL lv) {i : Int32} {x : Int32} (hd : decode cc pc = .ok (.iastore, 1)) {f : Nat → Int32} (hf : S.2.1 9 = f) (hin : jx_in i 8 = true) (k : jx_At G X fin (jx_w G (jx_g S 9 (upd f i.toNatClampNeg x))) (pc + 1) L st) : jx_At G X fin (jx_w G S) pc L (.int x :: .int i :: .ref (jx_ad G 15) :: st) := by
  subst hf
  exact jx_iast hX 15 rfl hin (w2 := jx_w G (jx_g S 9 (upd (S.2.1 9) i.toNatClampNeg x))) rfl hd k
theorem al_10 {own : String} (hX : jx_Ok G X cc own ret nL lv) {i : Int32} (hd : decode cc pc = .ok (.iaload, 1)) {f : Nat → Int32} (hf : S.2.1 10 = f) (hin : jx_in i 8 = true) (k : jx_At G X fin (jx_w G S) (pc + 1) L (.int (f i.toNatClampNeg) :: st)) : jx_At G X fin (jx_w G S) pc L (.int i :: .ref (jx_ad G 16) :: st) := by
  subst hf
  exact jx_iald hX 16 rfl hin hd k
theorem as_10 {own : String} (hX : jx_Ok G X cc own ret nL lv) {i : Int32} {x : Int32} (hd : decode cc pc = .ok (.iastore, 1)) {f : Nat → Int32} (hf : S.2.1 10 = f) (hin : jx_in i 8 = true) (k : jx_At G X fin (jx_w G (jx_g S 10 (upd f i.toNatClampNeg x))) (pc + 1) L st) : jx_At G X fin (jx_w G S) pc L (.int x :: .int i :: .ref (jx_ad G 16) :: st) := by
  subst hf
  exact jx_iast hX 16 rfl hin (w2 := jx_w G (jx_g S 10 (upd (S.2.1 10) i.toNatClampNeg x))) rfl hd k
theorem al_11 {own : String} (hX : jx_Ok G X cc own ret nL lv) {i : Int32} (hd : decode cc pc = .ok (.iaload, 1)) {f : Nat → Int32} (hf : S.2.1 11 = f) (hin : jx_in i 8 = true) (k : jx_At G X fin (jx_w G S) (pc + 1) L (.int (f i.toNatClampNeg) :: st)) : jx_At G X fin (jx_w G S) pc L (.int i :: .ref (jx_ad G 17) :: st) := by
  subst hf
  exact jx_iald hX 17 rfl hin hd k
theorem as_11 {own : String} (hX : jx_Ok G X cc own ret nL lv) {i : Int32} {x : Int32} (hd : decode cc pc = .ok (.iastore, 1)) {f : Nat → Int32} (hf : S.2.1 11 = f) (hin : jx_in i 8 = true) (k : jx_At G X fin (jx_w G (jx_g S 11 (upd f i.toNatClampNeg x))) (pc + 1) L st) : jx_At G X fin (jx_w G S) pc L (.int x :: .int i :: .ref (jx_ad G 17) :: st) := by
  subst hf
  exact jx_iast hX 17 rfl hin (w2 := jx_w G (jx_g S 11 (upd (S.2.1 11) i.toNatClampNeg x))) rfl hd k
end FR
section CR
variable {G : jx_G} {X : jx_C} {cc : ByteArray} {ret : Option FieldType} {nL lv : Nat} {fin : Option Value × va_W} {pc : Nat} {L : List (Nat × Value)} {rest : List Value} {S : jx_S}
theorem cs_P_42 (hX : jx_Ok G X cc "PlaneCells" ret nL lv) {v1 : Value} {r : Int32} {w1 : va_W} (hM : jx_M (jx_l X) y_R_append b_R_append 2 (some .boolean) 0 G [.ref (jx_ad G 2), v1] (jx_w G S) (some (.int r), w1)) (hd : decode cc pc = .ok (.invokevirtual 42, 3)) (hlv : 0 < lv) (hroom : (rest.map fun v => v.category).sum ≤ 8) (k : jx_At G X fin w1 (pc + 3) L (.int r :: rest)) : jx_At G X fin (jx_w G S) pc L (v1 :: .ref (jx_ad G 2) :: rest) :=
  jx_callV hX (n := 1) (As := [v1]) hM wm_186 wm_3 wm_183 wm_184 wm_185 (by decide) 2 rfl rfl rfl rfl (by decide) hd hlv hroom k
theorem cs_P_46 (hX : jx_Ok G X cc "PlaneCells" ret nL lv) {r : Int32} {w1 : va_W} (hM : jx_M (jx_l X) y_P_readText b_P_readText 1 (some .int) 5 G [.ref (jx_ad G 0)] (jx_w G S) (some (.int r), w1)) (hd : decode cc pc = .ok (.invokevirtual 46, 3)) (hlv : 5 < lv) (hroom : (rest.map fun v => v.category).sum ≤ 8) (k : jx_At G X fin w1 (pc + 3) L (.int r :: rest)) : jx_At G X fin (jx_w G S) pc L (.ref (jx_ad G 0) :: rest) :=
  jx_callV hX (n := 0) (As := []) hM wm_194 wm_1 wm_191 wm_193 ws_0 (by decide) 0 rfl rfl rfl rfl (by decide) hd hlv hroom k
theorem cs_P_50 (hX : jx_Ok G X cc "PlaneCells" ret nL lv) {w1 : va_W} (hM : jx_M (jx_l X) y_R_clear b_R_clear 1 none 0 G [.ref (jx_ad G 2)] (jx_w G S) (none, w1)) (hd : decode cc pc = .ok (.invokevirtual 50, 3)) (hlv : 0 < lv) (hroom : (rest.map fun v => v.category).sum ≤ 8) (k : jx_At G X fin w1 (pc + 3) L rest) : jx_At G X fin (jx_w G S) pc L (.ref (jx_ad G 2) :: rest) :=
  jx_callV hX (n := 0) (As := []) hM wm_277 wm_3 wm_274 wm_275 wm_276 (by decide) 2 rfl rfl rfl rfl (by decide) hd hlv hroom k
theorem cs_P_53 (hX : jx_Ok G X cc "PlaneCells" ret nL lv) {w1 : va_W} (hM : jx_M (jx_l X) y_S_clear b_S_clear 1 none 0 G [.ref (jx_ad G 1)] (jx_w G S) (none, w1)) (hd : decode cc pc = .ok (.invokevirtual 53, 3)) (hlv : 0 < lv) (hroom : (rest.map fun v => v.category).sum ≤ 8) (k : jx_At G X fin w1 (pc + 3) L rest) : jx_At G X fin (jx_w G S) pc L (.ref (jx_ad G 1) :: rest) :=
  jx_callV hX (n := 0) (As := []) hM wm_206 wm_2 wm_278 wm_204 wm_205 (by decide) 1 rfl rfl rfl rfl (by decide) hd hlv hroom k
theorem cs_P_54 (hX : jx_Ok G X cc "PlaneCells" ret nL lv) {w1 : va_W} (hM : jx_M (jx_l X) y_Q_cut b_Q_cut 3 none 5 G [.ref (jx_ad G 3)] (jx_w G S) (none, w1)) (hd : decode cc pc = .ok (.invokevirtual 54, 3)) (hlv : 5 < lv) (hroom : (rest.map fun v => v.category).sum ≤ 8) (k : jx_At G X fin w1 (pc + 3) L rest) : jx_At G X fin (jx_w G S) pc L (.ref (jx_ad G 3) :: rest) :=
  jx_callV hX (n := 0) (As := []) hM wm_282 wm_4 wm_279 wm_280 wm_281 (by decide) 3 rfl rfl rfl rfl (by decide) hd hlv hroom k
theorem cs_P_57 (hX : jx_Ok G X cc "PlaneCells" ret nL lv) {r : Int32} {w1 : va_W} (hM : jx_M (jx_l X) y_Q_countColumns b_Q_countColumns 1 (some .int) 0 G [.ref (jx_ad G 3)] (jx_w G S) (some (.int r), w1)) (hd : decode cc pc = .ok (.invokevirtual 57, 3)) (hlv : 0 < lv) (hroom : (rest.map fun v => v.category).sum ≤ 8) (k : jx_At G X fin w1 (pc + 3) L (.int r :: rest)) : jx_At G X fin (jx_w G S) pc L (.ref (jx_ad G 3) :: rest) :=
  jx_callV hX (n := 0) (As := []) hM wm_335 wm_4 wm_332 wm_333 wm_334 (by decide) 3 rfl rfl rfl rfl (by decide) hd hlv hroom k
theorem cs_P_60 (hX : jx_Ok G X cc "PlaneCells" ret nL lv) {v1 : Value} {w1 : va_W} (hM : jx_M (jx_l X) y_Q_enter b_Q_enter 3 none 4 G [.ref (jx_ad G 3), v1] (jx_w G S) (none, w1)) (hd : decode cc pc = .ok (.invokevirtual 60, 3)) (hlv : 4 < lv) (hroom : (rest.map fun v => v.category).sum ≤ 8) (k : jx_At G X fin w1 (pc + 3) L rest) : jx_At G X fin (jx_w G S) pc L (v1 :: .ref (jx_ad G 3) :: rest) :=
  jx_callV hX (n := 1) (As := [v1]) hM wm_339 wm_4 wm_336 wm_337 wm_338 (by decide) 3 rfl rfl rfl rfl (by decide) hd hlv hroom k
theorem cs_P_64 (hX : jx_Ok G X cc "PlaneCells" ret nL lv) {r : Int32} {w1 : va_W} (hM : jx_M (jx_l X) y_Q_columnHolds b_Q_columnHolds 2 (some .boolean) 3 G [.ref (jx_ad G 3)] (jx_w G S) (some (.int r), w1)) (hd : decode cc pc = .ok (.invokevirtual 64, 3)) (hlv : 3 < lv) (hroom : (rest.map fun v => v.category).sum ≤ 8) (k : jx_At G X fin w1 (pc + 3) L (.int r :: rest)) : jx_At G X fin (jx_w G S) pc L (.ref (jx_ad G 3) :: rest) :=
  jx_callV hX (n := 0) (As := []) hM wm_365 wm_4 wm_362 wm_363 wm_364 (by decide) 3 rfl rfl rfl rfl (by decide) hd hlv hroom k
theorem cs_P_72 (hX : jx_Ok G X cc "PlaneCells" ret nL lv) {r : Int32} {w1 : va_W} (hM : jx_M (jx_l X) y_R_countOpenings b_R_countOpenings 3 (some .int) 0 G [.ref (jx_ad G 2)] (jx_w G S) (some (.int r), w1)) (hd : decode cc pc = .ok (.invokevirtual 72, 3)) (hlv : 0 < lv) (hroom : (rest.map fun v => v.category).sum ≤ 8) (k : jx_At G X fin w1 (pc + 3) L (.int r :: rest)) : jx_At G X fin (jx_w G S) pc L (.ref (jx_ad G 2) :: rest) :=
  jx_callV hX (n := 0) (As := []) hM wm_198 wm_3 wm_195 wm_196 wm_197 (by decide) 2 rfl rfl rfl rfl (by decide) hd hlv hroom k
theorem cs_P_75 (hX : jx_Ok G X cc "PlaneCells" ret nL lv) {r : Int32} {w1 : va_W} (hM : jx_M (jx_l X) y_R_readSentence b_R_readSentence 2 (some .boolean) 4 G [.ref (jx_ad G 2)] (jx_w G S) (some (.int r), w1)) (hd : decode cc pc = .ok (.invokevirtual 75, 3)) (hlv : 4 < lv) (hroom : (rest.map fun v => v.category).sum ≤ 8) (k : jx_At G X fin w1 (pc + 3) L (.int r :: rest)) : jx_At G X fin (jx_w G S) pc L (.ref (jx_ad G 2) :: rest) :=
  jx_callV hX (n := 0) (As := []) hM wm_202 wm_3 wm_199 wm_200 wm_201 (by decide) 2 rfl rfl rfl rfl (by decide) hd hlv hroom k
theorem cs_P_81 (hX : jx_Ok G X cc "PlaneCells" ret nL lv) {r : Int32} {w1 : va_W} (hM : jx_M (jx_l X) y_S_fits b_S_fits 2 (some .boolean) 0 G [.ref (jx_ad G 1)] (jx_w G S) (some (.int r), w1)) (hd : decode cc pc = .ok (.invokevirtual 81, 3)) (hlv : 0 < lv) (hroom : (rest.map fun v => v.category).sum ≤ 8) (k : jx_At G X fin w1 (pc + 3) L (.int r :: rest)) : jx_At G X fin (jx_w G S) pc L (.ref (jx_ad G 1) :: rest) :=
  jx_callV hX (n := 0) (As := []) hM wm_273 wm_2 wm_270 wm_271 wm_272 (by decide) 1 rfl rfl rfl rfl (by decide) hd hlv hroom k
theorem cs_P_87 (hX : jx_Ok G X cc "PlaneCells" ret nL lv) {v1 : Value} {r : Int32} {w1 : va_W} (hM : jx_M (jx_l X) y_P_hasPolynomial b_P_hasPolynomial 2 (some .boolean) 0 G [.ref (jx_ad G 0), v1] (jx_w G S) (some (.int r), w1)) (hd : decode cc pc = .ok (.invokevirtual 87, 3)) (hlv : 0 < lv) (hroom : (rest.map fun v => v.category).sum ≤ 8) (k : jx_At G X fin w1 (pc + 3) L (.int r :: rest)) : jx_At G X fin (jx_w G S) pc L (v1 :: .ref (jx_ad G 0) :: rest) :=
  jx_callV hX (n := 1) (As := [v1]) hM wm_394 wm_1 wm_391 wm_393 ws_17 (by decide) 0 rfl rfl rfl rfl (by decide) hd hlv hroom k
theorem cs_P_91 (hX : jx_Ok G X cc "PlaneCells" ret nL lv) {v1 v2 : Value} {r : Int32} {w1 : va_W} (hM : jx_M (jx_l X) y_S_number b_S_number 3 (some .int) 0 G [.ref (jx_ad G 1), v1, v2] (jx_w G S) (some (.int r), w1)) (hd : decode cc pc = .ok (.invokevirtual 91, 3)) (hlv : 0 < lv) (hroom : (rest.map fun v => v.category).sum ≤ 8) (k : jx_At G X fin w1 (pc + 3) L (.int r :: rest)) : jx_At G X fin (jx_w G S) pc L (v2 :: v1 :: .ref (jx_ad G 1) :: rest) :=
  jx_callV hX (n := 2) (As := [v1, v2]) hM wm_294 wm_2 wm_395 wm_292 wm_293 (by decide) 1 rfl rfl rfl rfl (by decide) hd hlv hroom k
theorem cs_P_95 (hX : jx_Ok G X cc "PlaneCells" ret nL lv) {v1 : Value} {r : Int32} {w1 : va_W} (hM : jx_M (jx_l X) y_P_enterColumn b_P_enterColumn 2 (some .boolean) 5 G [.ref (jx_ad G 0), v1] (jx_w G S) (some (.int r), w1)) (hd : decode cc pc = .ok (.invokevirtual 95, 3)) (hlv : 5 < lv) (hroom : (rest.map fun v => v.category).sum ≤ 8) (k : jx_At G X fin w1 (pc + 3) L (.int r :: rest)) : jx_At G X fin (jx_w G S) pc L (v1 :: .ref (jx_ad G 0) :: rest) :=
  jx_callV hX (n := 1) (As := [v1]) hM wm_407 wm_1 wm_404 wm_406 ws_18 (by decide) 0 rfl rfl rfl rfl (by decide) hd hlv hroom k
theorem cs_P_101 (hX : jx_Ok G X cc "PlaneCells" ret nL lv) {v1 : Value} {r : Int32} {w1 : va_W} (hM : jx_M (jx_l X) y_P_hasCell b_P_hasCell 2 (some .boolean) 0 G [.ref (jx_ad G 0), v1] (jx_w G S) (some (.int r), w1)) (hd : decode cc pc = .ok (.invokevirtual 101, 3)) (hlv : 0 < lv) (hroom : (rest.map fun v => v.category).sum ≤ 8) (k : jx_At G X fin w1 (pc + 3) L (.int r :: rest)) : jx_At G X fin (jx_w G S) pc L (v1 :: .ref (jx_ad G 0) :: rest) :=
  jx_callV hX (n := 1) (As := [v1]) hM wm_419 wm_1 wm_416 wm_418 ws_20 (by decide) 0 rfl rfl rfl rfl (by decide) hd hlv hroom k
theorem cs_P_104 (hX : jx_Ok G X cc "PlaneCells" ret nL lv) {v1 v2 : Value} {r : Int32} {w1 : va_W} (hM : jx_M (jx_l X) y_Q_signIn b_Q_signIn 3 (some .int) 1 G [.ref (jx_ad G 3), v1, v2] (jx_w G S) (some (.int r), w1)) (hd : decode cc pc = .ok (.invokevirtual 104, 3)) (hlv : 1 < lv) (hroom : (rest.map fun v => v.category).sum ≤ 8) (k : jx_At G X fin w1 (pc + 3) L (.int r :: rest)) : jx_At G X fin (jx_w G S) pc L (v2 :: v1 :: .ref (jx_ad G 3) :: rest) :=
  jx_callV hX (n := 2) (As := [v1, v2]) hM wm_373 wm_4 wm_420 wm_371 wm_372 (by decide) 3 rfl rfl rfl rfl (by decide) hd hlv hroom k
theorem cs_P_107 (hX : jx_Ok G X cc "PlaneCells" ret nL lv) {v1 : Value} {r : Int32} {w1 : va_W} (hM : jx_M (jx_l X) y_Q_trueIn b_Q_trueIn 6 (some .boolean) 2 G [.ref (jx_ad G 3), v1] (jx_w G S) (some (.int r), w1)) (hd : decode cc pc = .ok (.invokevirtual 107, 3)) (hlv : 2 < lv) (hroom : (rest.map fun v => v.category).sum ≤ 8) (k : jx_At G X fin w1 (pc + 3) L (.int r :: rest)) : jx_At G X fin (jx_w G S) pc L (v1 :: .ref (jx_ad G 3) :: rest) :=
  jx_callV hX (n := 1) (As := [v1]) hM wm_369 wm_4 wm_425 wm_367 wm_368 (by decide) 3 rfl rfl rfl rfl (by decide) hd hlv hroom k
theorem cs_P_110 (hX : jx_Ok G X cc "PlaneCells" ret nL lv) {v1 : Value} {r : Int32} {w1 : va_W} (hM : jx_M (jx_l X) y_P_hasColumn b_P_hasColumn 2 (some .boolean) 0 G [.ref (jx_ad G 0), v1] (jx_w G S) (some (.int r), w1)) (hd : decode cc pc = .ok (.invokevirtual 110, 3)) (hlv : 0 < lv) (hroom : (rest.map fun v => v.category).sum ≤ 8) (k : jx_At G X fin w1 (pc + 3) L (.int r :: rest)) : jx_At G X fin (jx_w G S) pc L (v1 :: .ref (jx_ad G 0) :: rest) :=
  jx_callV hX (n := 1) (As := [v1]) hM wm_411 wm_1 wm_408 wm_410 ws_19 (by decide) 0 rfl rfl rfl rfl (by decide) hd hlv hroom k
theorem cs_P_117 (hX : jx_Ok G X cc "PlaneCells" ret nL lv) {v1 v2 v3 v4 : Value} {r : Int32} {w1 : va_W} (hM : jx_M (jx_l X) y_C_signAt b_C_signAt 18 (some .int) 1 G [.ref (jx_ad G 4), v1, v2, v3, v4] (jx_w G S) (some (.int r), w1)) (hd : decode cc pc = .ok (.invokevirtual 117, 3)) (hlv : 1 < lv) (hroom : (rest.map fun v => v.category).sum ≤ 8) (k : jx_At G X fin w1 (pc + 3) L (.int r :: rest)) : jx_At G X fin (jx_w G S) pc L (v4 :: v3 :: v2 :: v1 :: .ref (jx_ad G 4) :: rest) :=
  jx_callV hX (n := 4) (As := [v1, v2, v3, v4]) hM wm_353 wm_5 wm_438 wm_351 wm_352 (by decide) 4 rfl rfl rfl rfl (by decide) hd hlv hroom k
theorem cs_C_42 (hX : jx_Ok G X cc "PlaneCells$CriticalNumbers" ret nL lv) {v1 v2 v3 : Value} {w1 : va_W} (hM : jx_M (jx_l X) y_C_add b_C_add 6 none 3 G [.ref (jx_ad G 4), v1, v2, v3] (jx_w G S) (none, w1)) (hd : decode cc pc = .ok (.invokevirtual 42, 3)) (hlv : 3 < lv) (hroom : (rest.map fun v => v.category).sum ≤ 8) (k : jx_At G X fin w1 (pc + 3) L rest) : jx_At G X fin (jx_w G S) pc L (v3 :: v2 :: v1 :: .ref (jx_ad G 4) :: rest) :=
  jx_callV hX (n := 3) (As := [v1, v2, v3]) hM wm_305 wm_5 wm_302 wm_304 ws_13 (by decide) 4 rfl rfl rfl rfl (by decide) hd hlv hroom k
theorem cs_C_46 (hX : jx_Ok G X cc "PlaneCells$CriticalNumbers" ret nL lv) {v1 v2 v3 v4 : Value} {r : Int32} {w1 : va_W} (hM : jx_M (jx_l X) y_C_signOfDifference b_C_signOfDifference 11 (some .int) 2 G [.ref (jx_ad G 4), v1, v2, v3, v4] (jx_w G S) (some (.int r), w1)) (hd : decode cc pc = .ok (.invokevirtual 46, 3)) (hlv : 2 < lv) (hroom : (rest.map fun v => v.category).sum ≤ 8) (k : jx_At G X fin w1 (pc + 3) L (.int r :: rest)) : jx_At G X fin (jx_w G S) pc L (v4 :: v3 :: v2 :: v1 :: .ref (jx_ad G 4) :: rest) :=
  jx_callV hX (n := 4) (As := [v1, v2, v3, v4]) hM wm_309 wm_5 wm_306 wm_308 ws_14 (by decide) 4 rfl rfl rfl rfl (by decide) hd hlv hroom k
theorem cs_C_50 (hX : jx_Ok G X cc "PlaneCells$CriticalNumbers" ret nL lv) {v1 v2 v3 v4 : Value} {w1 : va_W} (hM : jx_M (jx_l X) y_C_insert b_C_insert 6 none 0 G [.ref (jx_ad G 4), v1, v2, v3, v4] (jx_w G S) (none, w1)) (hd : decode cc pc = .ok (.invokevirtual 50, 3)) (hlv : 0 < lv) (hroom : (rest.map fun v => v.category).sum ≤ 8) (k : jx_At G X fin w1 (pc + 3) L rest) : jx_At G X fin (jx_w G S) pc L (v4 :: v3 :: v2 :: v1 :: .ref (jx_ad G 4) :: rest) :=
  jx_callV hX (n := 4) (As := [v1, v2, v3, v4]) hM wm_323 wm_5 wm_320 wm_322 ws_15 (by decide) 4 rfl rfl rfl rfl (by decide) hd hlv hroom k
theorem cs_C_54 (hX : jx_Ok G X cc "PlaneCells$CriticalNumbers" ret nL lv) {v1 v2 v3 : Value} {r : Int32} {w1 : va_W} (hM : jx_M (jx_l X) y_C_signWithRoots b_C_signWithRoots 10 (some .int) 1 G [v1, v2, v3] (jx_w G S) (some (.int r), w1)) (hd : decode cc pc = .ok (.invokestatic 54, 3)) (hlv : 1 < lv) (hroom : (rest.map fun v => v.category).sum ≤ 8) (k : jx_At G X fin w1 (pc + 3) L (.int r :: rest)) : jx_At G X fin (jx_w G S) pc L (v3 :: v2 :: v1 :: rest) :=
  jx_callS hX (n := 3) (As := [v1, v2, v3]) hM wm_312 wm_5 wm_310 wm_311 (by decide) rfl rfl (by decide) hd hlv hroom k
theorem cs_C_69 (hX : jx_Ok G X cc "PlaneCells$CriticalNumbers" ret nL lv) {v1 : Value} {r : Int32} {w1 : va_W} (hM : jx_M (jx_l X) y_C_signBelowAll b_C_signBelowAll 1 (some .int) 1 G [v1] (jx_w G S) (some (.int r), w1)) (hd : decode cc pc = .ok (.invokestatic 69, 3)) (hlv : 1 < lv) (hroom : (rest.map fun v => v.category).sum ≤ 8) (k : jx_At G X fin w1 (pc + 3) L (.int r :: rest)) : jx_At G X fin (jx_w G S) pc L (v1 :: rest) :=
  jx_callS hX (n := 1) (As := [v1]) hM wm_346 wm_5 wm_344 wm_345 (by decide) rfl rfl (by decide) hd hlv hroom k
theorem cs_C_73 (hX : jx_Ok G X cc "PlaneCells$CriticalNumbers" ret nL lv) {v1 v2 v3 v4 : Value} {r : Int32} {w1 : va_W} (hM : jx_M (jx_l X) y_C_signAt b_C_signAt 18 (some .int) 1 G [.ref (jx_ad G 4), v1, v2, v3, v4] (jx_w G S) (some (.int r), w1)) (hd : decode cc pc = .ok (.invokevirtual 73, 3)) (hlv : 1 < lv) (hroom : (rest.map fun v => v.category).sum ≤ 8) (k : jx_At G X fin w1 (pc + 3) L (.int r :: rest)) : jx_At G X fin (jx_w G S) pc L (v4 :: v3 :: v2 :: v1 :: .ref (jx_ad G 4) :: rest) :=
  jx_callV hX (n := 4) (As := [v1, v2, v3, v4]) hM wm_353 wm_5 wm_350 wm_351 wm_352 (by decide) 4 rfl rfl rfl rfl (by decide) hd hlv hroom k
theorem cs_F_7 (hX : jx_Ok G X cc "PlaneCells$Form" ret nL lv) {v1 v2 : Value} {r : Int32} {w1 : va_W} (hM : jx_M (jx_l X) y_S_number b_S_number 3 (some .int) 0 G [.ref (jx_ad G 1), v1, v2] (jx_w G S) (some (.int r), w1)) (hd : decode cc pc = .ok (.invokevirtual 7, 3)) (hlv : 0 < lv) (hroom : (rest.map fun v => v.category).sum ≤ 8) (k : jx_At G X fin w1 (pc + 3) L (.int r :: rest)) : jx_At G X fin (jx_w G S) pc L (v2 :: v1 :: .ref (jx_ad G 1) :: rest) :=
  jx_callV hX (n := 2) (As := [v1, v2]) hM wm_294 wm_2 wm_291 wm_292 wm_293 (by decide) 1 rfl rfl rfl rfl (by decide) hd hlv hroom k
theorem cs_Q_39 (hX : jx_Ok G X cc "PlaneCells$Plane" ret nL lv) {w1 : va_W} (hM : jx_M (jx_l X) y_C_clear b_C_clear 1 none 0 G [.ref (jx_ad G 4)] (jx_w G S) (none, w1)) (hd : decode cc pc = .ok (.invokevirtual 39, 3)) (hlv : 0 < lv) (hroom : (rest.map fun v => v.category).sum ≤ 8) (k : jx_At G X fin w1 (pc + 3) L rest) : jx_At G X fin (jx_w G S) pc L (.ref (jx_ad G 4) :: rest) :=
  jx_callV hX (n := 0) (As := []) hM wm_286 wm_5 wm_283 wm_284 wm_285 (by decide) 4 rfl rfl rfl rfl (by decide) hd hlv hroom k
theorem cs_Q_48 (hX : jx_Ok G X cc "PlaneCells$Plane" ret nL lv) {v1 v2 : Value} {w1 : va_W} (hM : jx_M (jx_l X) y_F_setA b_F_setA 3 none 1 G [.ref (jx_ad G 5), v1, v2] (jx_w G S) (none, w1)) (hd : decode cc pc = .ok (.invokevirtual 48, 3)) (hlv : 1 < lv) (hroom : (rest.map fun v => v.category).sum ≤ 8) (k : jx_At G X fin w1 (pc + 3) L rest) : jx_At G X fin (jx_w G S) pc L (v2 :: v1 :: .ref (jx_ad G 5) :: rest) :=
  jx_callV hX (n := 2) (As := [v1, v2]) hM wm_290 wm_6 wm_287 wm_288 wm_289 (by decide) 5 rfl rfl rfl rfl (by decide) hd hlv hroom k
theorem cs_Q_52 (hX : jx_Ok G X cc "PlaneCells$Plane" ret nL lv) {v1 : Value} {w1 : va_W} (hM : jx_M (jx_l X) y_C_addZerosOf b_C_addZerosOf 4 none 4 G [.ref (jx_ad G 4), v1] (jx_w G S) (none, w1)) (hd : decode cc pc = .ok (.invokevirtual 52, 3)) (hlv : 4 < lv) (hroom : (rest.map fun v => v.category).sum ≤ 8) (k : jx_At G X fin w1 (pc + 3) L rest) : jx_At G X fin (jx_w G S) pc L (v1 :: .ref (jx_ad G 4) :: rest) :=
  jx_callV hX (n := 1) (As := [v1]) hM wm_298 wm_5 wm_295 wm_296 wm_297 (by decide) 4 rfl rfl rfl rfl (by decide) hd hlv hroom k
theorem cs_Q_56 (hX : jx_Ok G X cc "PlaneCells$Plane" ret nL lv) {v1 v2 : Value} {w1 : va_W} (hM : jx_M (jx_l X) y_F_setB b_F_setB 3 none 1 G [.ref (jx_ad G 5), v1, v2] (jx_w G S) (none, w1)) (hd : decode cc pc = .ok (.invokevirtual 56, 3)) (hlv : 1 < lv) (hroom : (rest.map fun v => v.category).sum ≤ 8) (k : jx_At G X fin w1 (pc + 3) L rest) : jx_At G X fin (jx_w G S) pc L (v2 :: v1 :: .ref (jx_ad G 5) :: rest) :=
  jx_callV hX (n := 2) (As := [v1, v2]) hM wm_327 wm_6 wm_324 wm_325 wm_326 (by decide) 5 rfl rfl rfl rfl (by decide) hd hlv hroom k
theorem cs_Q_59 (hX : jx_Ok G X cc "PlaneCells$Plane" ret nL lv) {v1 v2 v3 : Value} {w1 : va_W} (hM : jx_M (jx_l X) y_F_setPair b_F_setPair 4 none 1 G [.ref (jx_ad G 5), v1, v2, v3] (jx_w G S) (none, w1)) (hd : decode cc pc = .ok (.invokevirtual 59, 3)) (hlv : 1 < lv) (hroom : (rest.map fun v => v.category).sum ≤ 8) (k : jx_At G X fin w1 (pc + 3) L rest) : jx_At G X fin (jx_w G S) pc L (v3 :: v2 :: v1 :: .ref (jx_ad G 5) :: rest) :=
  jx_callV hX (n := 3) (As := [v1, v2, v3]) hM wm_331 wm_6 wm_328 wm_329 wm_330 (by decide) 5 rfl rfl rfl rfl (by decide) hd hlv hroom k
theorem cs_Q_69 (hX : jx_Ok G X cc "PlaneCells$Plane" ret nL lv) {v1 v2 : Value} {r : Int32} {w1 : va_W} (hM : jx_M (jx_l X) y_C_signInColumn b_C_signInColumn 6 (some .int) 2 G [.ref (jx_ad G 4), v1, v2] (jx_w G S) (some (.int r), w1)) (hd : decode cc pc = .ok (.invokevirtual 69, 3)) (hlv : 2 < lv) (hroom : (rest.map fun v => v.category).sum ≤ 8) (k : jx_At G X fin w1 (pc + 3) L (.int r :: rest)) : jx_At G X fin (jx_w G S) pc L (v2 :: v1 :: .ref (jx_ad G 4) :: rest) :=
  jx_callV hX (n := 2) (As := [v1, v2]) hM wm_343 wm_5 wm_340 wm_341 wm_342 (by decide) 4 rfl rfl rfl rfl (by decide) hd hlv hroom k
theorem cs_Q_73 (hX : jx_Ok G X cc "PlaneCells$Plane" ret nL lv) {v1 v2 : Value} {w1 : va_W} (hM : jx_M (jx_l X) y_Q_addZero b_Q_addZero 6 none 3 G [.ref (jx_ad G 3), v1, v2] (jx_w G S) (none, w1)) (hd : decode cc pc = .ok (.invokevirtual 73, 3)) (hlv : 3 < lv) (hroom : (rest.map fun v => v.category).sum ≤ 8) (k : jx_At G X fin w1 (pc + 3) L rest) : jx_At G X fin (jx_w G S) pc L (v2 :: v1 :: .ref (jx_ad G 3) :: rest) :=
  jx_callV hX (n := 2) (As := [v1, v2]) hM wm_358 wm_4 wm_355 wm_357 ws_16 (by decide) 3 rfl rfl rfl rfl (by decide) hd hlv hroom k
theorem cs_Q_95 (hX : jx_Ok G X cc "PlaneCells$Plane" ret nL lv) {v1 v2 : Value} {r : Int32} {w1 : va_W} (hM : jx_M (jx_l X) y_Q_signIn b_Q_signIn 3 (some .int) 1 G [.ref (jx_ad G 3), v1, v2] (jx_w G S) (some (.int r), w1)) (hd : decode cc pc = .ok (.invokevirtual 95, 3)) (hlv : 1 < lv) (hroom : (rest.map fun v => v.category).sum ≤ 8) (k : jx_At G X fin w1 (pc + 3) L (.int r :: rest)) : jx_At G X fin (jx_w G S) pc L (v2 :: v1 :: .ref (jx_ad G 3) :: rest) :=
  jx_callV hX (n := 2) (As := [v1, v2]) hM wm_373 wm_4 wm_370 wm_371 wm_372 (by decide) 3 rfl rfl rfl rfl (by decide) hd hlv hroom k
theorem cs_Q_98 (hX : jx_Ok G X cc "PlaneCells$Plane" ret nL lv) {v1 v2 : Value} {r : Int32} {w1 : va_W} (hM : jx_M (jx_l X) y_S_atomIsTrue b_S_atomIsTrue 3 (some .boolean) 0 G [.ref (jx_ad G 1), v1, v2] (jx_w G S) (some (.int r), w1)) (hd : decode cc pc = .ok (.invokevirtual 98, 3)) (hlv : 0 < lv) (hroom : (rest.map fun v => v.category).sum ≤ 8) (k : jx_At G X fin w1 (pc + 3) L (.int r :: rest)) : jx_At G X fin (jx_w G S) pc L (v2 :: v1 :: .ref (jx_ad G 1) :: rest) :=
  jx_callV hX (n := 2) (As := [v1, v2]) hM wm_378 wm_2 wm_375 wm_376 wm_377 (by decide) 1 rfl rfl rfl rfl (by decide) hd hlv hroom k
theorem cs_Q_102 (hX : jx_Ok G X cc "PlaneCells$Plane" ret nL lv) {v1 : Value} {r : Int32} {w1 : va_W} (hM : jx_M (jx_l X) y_Q_trueIn b_Q_trueIn 6 (some .boolean) 2 G [.ref (jx_ad G 3), v1] (jx_w G S) (some (.int r), w1)) (hd : decode cc pc = .ok (.invokevirtual 102, 3)) (hlv : 2 < lv) (hroom : (rest.map fun v => v.category).sum ≤ 8) (k : jx_At G X fin w1 (pc + 3) L (.int r :: rest)) : jx_At G X fin (jx_w G S) pc L (v1 :: .ref (jx_ad G 3) :: rest) :=
  jx_callV hX (n := 1) (As := [v1]) hM wm_369 wm_4 wm_366 wm_367 wm_368 (by decide) 3 rfl rfl rfl rfl (by decide) hd hlv hroom k
theorem cs_R_42 (hX : jx_Ok G X cc "PlaneCells$Reader" ret nL lv) {w1 : va_W} (hM : jx_M (jx_l X) y_S_clear b_S_clear 1 none 0 G [.ref (jx_ad G 1)] (jx_w G S) (none, w1)) (hd : decode cc pc = .ok (.invokevirtual 42, 3)) (hlv : 0 < lv) (hroom : (rest.map fun v => v.category).sum ≤ 8) (k : jx_At G X fin w1 (pc + 3) L rest) : jx_At G X fin (jx_w G S) pc L (.ref (jx_ad G 1) :: rest) :=
  jx_callV hX (n := 0) (As := []) hM wm_206 wm_2 wm_203 wm_204 wm_205 (by decide) 1 rfl rfl rfl rfl (by decide) hd hlv hroom k
theorem cs_R_47 (hX : jx_Ok G X cc "PlaneCells$Reader" ret nL lv) {r : Int32} {w1 : va_W} (hM : jx_M (jx_l X) y_R_takeHead b_R_takeHead 1 (some .boolean) 3 G [.ref (jx_ad G 2)] (jx_w G S) (some (.int r), w1)) (hd : decode cc pc = .ok (.invokevirtual 47, 3)) (hlv : 3 < lv) (hroom : (rest.map fun v => v.category).sum ≤ 8) (k : jx_At G X fin w1 (pc + 3) L (.int r :: rest)) : jx_At G X fin (jx_w G S) pc L (.ref (jx_ad G 2) :: rest) :=
  jx_callV hX (n := 0) (As := []) hM wm_210 wm_3 wm_207 wm_209 ws_1 (by decide) 2 rfl rfl rfl rfl (by decide) hd hlv hroom k
theorem cs_R_51 (hX : jx_Ok G X cc "PlaneCells$Reader" ret nL lv) {w1 : va_W} (hM : jx_M (jx_l X) y_R_takeOpenings b_R_takeOpenings 1 none 1 G [.ref (jx_ad G 2)] (jx_w G S) (none, w1)) (hd : decode cc pc = .ok (.invokevirtual 51, 3)) (hlv : 1 < lv) (hroom : (rest.map fun v => v.category).sum ≤ 8) (k : jx_At G X fin w1 (pc + 3) L rest) : jx_At G X fin (jx_w G S) pc L (.ref (jx_ad G 2) :: rest) :=
  jx_callV hX (n := 0) (As := []) hM wm_226 wm_3 wm_223 wm_225 ws_5 (by decide) 2 rfl rfl rfl rfl (by decide) hd hlv hroom k
theorem cs_R_54 (hX : jx_Ok G X cc "PlaneCells$Reader" ret nL lv) {r : Int32} {w1 : va_W} (hM : jx_M (jx_l X) y_R_takeAtom b_R_takeAtom 3 (some .boolean) 3 G [.ref (jx_ad G 2)] (jx_w G S) (some (.int r), w1)) (hd : decode cc pc = .ok (.invokevirtual 54, 3)) (hlv : 3 < lv) (hroom : (rest.map fun v => v.category).sum ≤ 8) (k : jx_At G X fin w1 (pc + 3) L (.int r :: rest)) : jx_At G X fin (jx_w G S) pc L (.ref (jx_ad G 2) :: rest) :=
  jx_callV hX (n := 0) (As := []) hM wm_234 wm_3 wm_231 wm_233 ws_7 (by decide) 2 rfl rfl rfl rfl (by decide) hd hlv hroom k
theorem cs_R_57 (hX : jx_Ok G X cc "PlaneCells$Reader" ret nL lv) {w1 : va_W} (hM : jx_M (jx_l X) y_R_takeClosings b_R_takeClosings 1 none 2 G [.ref (jx_ad G 2)] (jx_w G S) (none, w1)) (hd : decode cc pc = .ok (.invokevirtual 57, 3)) (hlv : 2 < lv) (hroom : (rest.map fun v => v.category).sum ≤ 8) (k : jx_At G X fin w1 (pc + 3) L rest) : jx_At G X fin (jx_w G S) pc L (.ref (jx_ad G 2) :: rest) :=
  jx_callV hX (n := 0) (As := []) hM wm_260 wm_3 wm_257 wm_259 ws_10 (by decide) 2 rfl rfl rfl rfl (by decide) hd hlv hroom k
theorem cs_R_60 (hX : jx_Ok G X cc "PlaneCells$Reader" ret nL lv) {r : Int32} {w1 : va_W} (hM : jx_M (jx_l X) y_R_takeJoint b_R_takeJoint 2 (some .boolean) 2 G [.ref (jx_ad G 2)] (jx_w G S) (some (.int r), w1)) (hd : decode cc pc = .ok (.invokevirtual 60, 3)) (hlv : 2 < lv) (hroom : (rest.map fun v => v.category).sum ≤ 8) (k : jx_At G X fin w1 (pc + 3) L (.int r :: rest)) : jx_At G X fin (jx_w G S) pc L (.ref (jx_ad G 2) :: rest) :=
  jx_callV hX (n := 0) (As := []) hM wm_269 wm_3 wm_266 wm_268 ws_12 (by decide) 2 rfl rfl rfl rfl (by decide) hd hlv hroom k
theorem cs_R_63 (hX : jx_Ok G X cc "PlaneCells$Reader" ret nL lv) {v1 : Value} {w1 : va_W} (hM : jx_M (jx_l X) y_R_release b_R_release 2 none 1 G [.ref (jx_ad G 2), v1] (jx_w G S) (none, w1)) (hd : decode cc pc = .ok (.invokevirtual 63, 3)) (hlv : 1 < lv) (hroom : (rest.map fun v => v.category).sum ≤ 8) (k : jx_At G X fin w1 (pc + 3) L rest) : jx_At G X fin (jx_w G S) pc L (v1 :: .ref (jx_ad G 2) :: rest) :=
  jx_callV hX (n := 1) (As := [v1]) hM wm_264 wm_3 wm_261 wm_263 ws_11 (by decide) 2 rfl rfl rfl rfl (by decide) hd hlv hroom k
theorem cs_R_67 (hX : jx_Ok G X cc "PlaneCells$Reader" ret nL lv) {r : Int32} {w1 : va_W} (hM : jx_M (jx_l X) y_R_peek b_R_peek 1 (some .char) 0 G [.ref (jx_ad G 2)] (jx_w G S) (some (.int r), w1)) (hd : decode cc pc = .ok (.invokevirtual 67, 3)) (hlv : 0 < lv) (hroom : (rest.map fun v => v.category).sum ≤ 8) (k : jx_At G X fin w1 (pc + 3) L (.int r :: rest)) : jx_At G X fin (jx_w G S) pc L (.ref (jx_ad G 2) :: rest) :=
  jx_callV hX (n := 0) (As := []) hM wm_214 wm_3 wm_211 wm_213 ws_2 (by decide) 2 rfl rfl rfl rfl (by decide) hd hlv hroom k
theorem cs_R_75 (hX : jx_Ok G X cc "PlaneCells$Reader" ret nL lv) {r : Int32} {w1 : va_W} (hM : jx_M (jx_l X) y_R_takeQuantifier b_R_takeQuantifier 1 (some .boolean) 2 G [.ref (jx_ad G 2)] (jx_w G S) (some (.int r), w1)) (hd : decode cc pc = .ok (.invokevirtual 75, 3)) (hlv : 2 < lv) (hroom : (rest.map fun v => v.category).sum ≤ 8) (k : jx_At G X fin w1 (pc + 3) L (.int r :: rest)) : jx_At G X fin (jx_w G S) pc L (.ref (jx_ad G 2) :: rest) :=
  jx_callV hX (n := 0) (As := []) hM wm_218 wm_3 wm_215 wm_217 ws_3 (by decide) 2 rfl rfl rfl rfl (by decide) hd hlv hroom k
theorem cs_R_78 (hX : jx_Ok G X cc "PlaneCells$Reader" ret nL lv) {v1 : Value} {r : Int32} {w1 : va_W} (hM : jx_M (jx_l X) y_R_take b_R_take 2 (some .boolean) 1 G [.ref (jx_ad G 2), v1] (jx_w G S) (some (.int r), w1)) (hd : decode cc pc = .ok (.invokevirtual 78, 3)) (hlv : 1 < lv) (hroom : (rest.map fun v => v.category).sum ≤ 8) (k : jx_At G X fin w1 (pc + 3) L (.int r :: rest)) : jx_At G X fin (jx_w G S) pc L (v1 :: .ref (jx_ad G 2) :: rest) :=
  jx_callV hX (n := 1) (As := [v1]) hM wm_222 wm_3 wm_219 wm_221 ws_4 (by decide) 2 rfl rfl rfl rfl (by decide) hd hlv hroom k
theorem cs_R_85 (hX : jx_Ok G X cc "PlaneCells$Reader" ret nL lv) {v1 : Value} {w1 : va_W} (hM : jx_M (jx_l X) y_R_hold b_R_hold 2 none 0 G [.ref (jx_ad G 2), v1] (jx_w G S) (none, w1)) (hd : decode cc pc = .ok (.invokevirtual 85, 3)) (hlv : 0 < lv) (hroom : (rest.map fun v => v.category).sum ≤ 8) (k : jx_At G X fin w1 (pc + 3) L rest) : jx_At G X fin (jx_w G S) pc L (v1 :: .ref (jx_ad G 2) :: rest) :=
  jx_callV hX (n := 1) (As := [v1]) hM wm_230 wm_3 wm_227 wm_229 ws_6 (by decide) 2 rfl rfl rfl rfl (by decide) hd hlv hroom k
theorem cs_R_88 (hX : jx_Ok G X cc "PlaneCells$Reader" ret nL lv) {v1 : Value} {w1 : va_W} (hM : jx_M (jx_l X) y_S_addStep b_S_addStep 2 none 0 G [.ref (jx_ad G 1), v1] (jx_w G S) (none, w1)) (hd : decode cc pc = .ok (.invokevirtual 88, 3)) (hlv : 0 < lv) (hroom : (rest.map fun v => v.category).sum ≤ 8) (k : jx_At G X fin w1 (pc + 3) L rest) : jx_At G X fin (jx_w G S) pc L (v1 :: .ref (jx_ad G 1) :: rest) :=
  jx_callV hX (n := 1) (As := [v1]) hM wm_256 wm_2 wm_265 wm_254 wm_255 (by decide) 1 rfl rfl rfl rfl (by decide) hd hlv hroom k
theorem cs_R_91 (hX : jx_Ok G X cc "PlaneCells$Reader" ret nL lv) {v1 : Value} {r : Int32} {w1 : va_W} (hM : jx_M (jx_l X) y_R_takeSum b_R_takeSum 4 (some .boolean) 2 G [.ref (jx_ad G 2), v1] (jx_w G S) (some (.int r), w1)) (hd : decode cc pc = .ok (.invokevirtual 91, 3)) (hlv : 2 < lv) (hroom : (rest.map fun v => v.category).sum ≤ 8) (k : jx_At G X fin w1 (pc + 3) L (.int r :: rest)) : jx_At G X fin (jx_w G S) pc L (v1 :: .ref (jx_ad G 2) :: rest) :=
  jx_callV hX (n := 1) (As := [v1]) hM wm_238 wm_3 wm_235 wm_237 ws_8 (by decide) 2 rfl rfl rfl rfl (by decide) hd hlv hroom k
theorem cs_R_95 (hX : jx_Ok G X cc "PlaneCells$Reader" ret nL lv) {v1 v2 : Value} {w1 : va_W} (hM : jx_M (jx_l X) y_S_addAtom b_S_addAtom 3 none 1 G [.ref (jx_ad G 1), v1, v2] (jx_w G S) (none, w1)) (hd : decode cc pc = .ok (.invokevirtual 95, 3)) (hlv : 1 < lv) (hroom : (rest.map fun v => v.category).sum ≤ 8) (k : jx_At G X fin w1 (pc + 3) L rest) : jx_At G X fin (jx_w G S) pc L (v2 :: v1 :: .ref (jx_ad G 1) :: rest) :=
  jx_callV hX (n := 2) (As := [v1, v2]) hM wm_249 wm_2 wm_246 wm_247 wm_248 (by decide) 1 rfl rfl rfl rfl (by decide) hd hlv hroom k
theorem cs_R_99 (hX : jx_Ok G X cc "PlaneCells$Reader" ret nL lv) {v1 : Value} {r : Int32} {w1 : va_W} (hM : jx_M (jx_l X) y_R_takeTerm b_R_takeTerm 8 (some .boolean) 1 G [.ref (jx_ad G 2), v1] (jx_w G S) (some (.int r), w1)) (hd : decode cc pc = .ok (.invokevirtual 99, 3)) (hlv : 1 < lv) (hroom : (rest.map fun v => v.category).sum ≤ 8) (k : jx_At G X fin w1 (pc + 3) L (.int r :: rest)) : jx_At G X fin (jx_w G S) pc L (v1 :: .ref (jx_ad G 2) :: rest) :=
  jx_callV hX (n := 1) (As := [v1]) hM wm_242 wm_3 wm_239 wm_241 ws_9 (by decide) 2 rfl rfl rfl rfl (by decide) hd hlv hroom k
theorem cs_R_102 (hX : jx_Ok G X cc "PlaneCells$Reader" ret nL lv) {v1 : Value} {r : Int32} {w1 : va_W} (hM : jx_M (jx_l X) y_R_numberOfLetter b_R_numberOfLetter 1 (some .int) 0 G [v1] (jx_w G S) (some (.int r), w1)) (hd : decode cc pc = .ok (.invokestatic 102, 3)) (hlv : 0 < lv) (hroom : (rest.map fun v => v.category).sum ≤ 8) (k : jx_At G X fin w1 (pc + 3) L (.int r :: rest)) : jx_At G X fin (jx_w G S) pc L (v1 :: rest) :=
  jx_callS hX (n := 1) (As := [v1]) hM wm_245 wm_3 wm_243 wm_244 (by decide) rfl rfl (by decide) hd hlv hroom k
theorem cs_S_35 (hX : jx_Ok G X cc "PlaneCells$Sentence" ret nL lv) {v1 : Value} {w1 : va_W} (hM : jx_M (jx_l X) y_S_addStep b_S_addStep 2 none 0 G [.ref (jx_ad G 1), v1] (jx_w G S) (none, w1)) (hd : decode cc pc = .ok (.invokevirtual 35, 3)) (hlv : 0 < lv) (hroom : (rest.map fun v => v.category).sum ≤ 8) (k : jx_At G X fin w1 (pc + 3) L rest) : jx_At G X fin (jx_w G S) pc L (v1 :: .ref (jx_ad G 1) :: rest) :=
  jx_callV hX (n := 1) (As := [v1]) hM wm_256 wm_2 wm_253 wm_254 wm_255 (by decide) 1 rfl rfl rfl rfl (by decide) hd hlv hroom k
end CR
