def jr_w (G : jx_G) (S : jx_S) : va_W := [(jx_ad G 18, .inr (6, [.int (S.1 0), .ref (jx_ad G 19), .int (S.1 1), .ref (jx_ad G 20), .int (S.1 2), .int (S.1 3), .int (S.1 4), .int (S.1 5), .ref (jx_ad G 21), .int (S.1 6), .ref (jx_ad G 22), .int (S.1 7), .ref (jx_ad G 23), .ref (jx_ad G 24), .int (S.1 8), .ref (jx_ad G 25), .ref (jx_ad G 26), .ref (jx_ad G 27), .ref (jx_ad G 28), .int (S.1 9), .int (S.1 10), .ref (jx_ad G 29), .ref (jx_ad G 30), .int (S.1 11), .ref (jx_ad G 31)])),
  (jx_ad G 19, .inl (jx_ca G 0, 80, .inl (S.2.1 0))),
  (jx_ad G 20, .inl (jx_ca G 0, 80, .inl (S.2.1 1))),
  (jx_ad G 21, .inl (jx_ca G 0, 32, .inl (S.2.1 2))),
  (jx_ad G 22, .inl (jx_ca G 0, 90, .inl (S.2.1 3))),
  (jx_ad G 23, .inl (jx_ca G 0, 90, .inl (S.2.1 4))),
  (jx_ad G 24, .inl (jx_ca G 2, 90, .inl (S.2.1 5))),
  (jx_ad G 25, .inl (jx_ca G 3, 80, .inr (.inl (S.2.2 0)))),
  (jx_ad G 26, .inl (jx_ca G 3, 80, .inr (.inl (S.2.2 1)))),
  (jx_ad G 27, .inl (jx_ca G 3, 80, .inr (.inl (S.2.2 2)))),
  (jx_ad G 28, .inl (jx_ca G 0, 80, .inl (S.2.1 6))),
  (jx_ad G 29, .inl (jx_ca G 0, 8, .inl (S.2.1 7))),
  (jx_ad G 30, .inl (jx_ca G 0, 8, .inl (S.2.1 8))),
  (jx_ad G 31, .inl (jx_ca G 0, 8, .inl (S.2.1 9)))]
section FR
variable {G : jx_G} {X : jx_C} {cc : ByteArray} {ret : Option FieldType} {nL lv : Nat} {fin : Option Value × va_W} {pc : Nat} {L : List (Nat × Value)} {st : List Value} {S : jx_S}
theorem gf_M_7 (hX : jx_Ok G X cc "PlaneCellsModel" ret nL lv) (hd : decode cc pc = .ok (.getfield 7, 3)) (k : jx_At G X fin (jr_w G S) (pc + 3) L (.ref (jx_ad G 19) :: st)) : jx_At G X fin (jr_w G S) pc L (.ref (jx_ad G 18) :: st) := by
  exact jx_get hX jn_in_M 0 rfl rfl 1 (by decide) rfl wm_446 rfl hd k
theorem gf_M_13 (hX : jx_Ok G X cc "PlaneCellsModel" ret nL lv) (hd : decode cc pc = .ok (.getfield 13, 3)) (k : jx_At G X fin (jr_w G S) (pc + 3) L (.ref (jx_ad G 20) :: st)) : jx_At G X fin (jr_w G S) pc L (.ref (jx_ad G 18) :: st) := by
  exact jx_get hX jn_in_M 0 rfl rfl 3 (by decide) rfl wm_448 rfl hd k
theorem gf_M_16 (hX : jx_Ok G X cc "PlaneCellsModel" ret nL lv) (hd : decode cc pc = .ok (.getfield 16, 3)) {x : Int32} (hx : S.1 2 = x) (k : jx_At G X fin (jr_w G S) (pc + 3) L (.int x :: st)) : jx_At G X fin (jr_w G S) pc L (.ref (jx_ad G 18) :: st) := by
  subst hx
  exact jx_get hX jn_in_M 0 rfl rfl 4 (by decide) rfl wm_449 rfl hd k
theorem gf_M_20 (hX : jx_Ok G X cc "PlaneCellsModel" ret nL lv) (hd : decode cc pc = .ok (.getfield 20, 3)) (k : jx_At G X fin (jr_w G S) (pc + 3) L (.ref (jx_ad G 21) :: st)) : jx_At G X fin (jr_w G S) pc L (.ref (jx_ad G 18) :: st) := by
  exact jx_get hX jn_in_M 0 rfl rfl 8 (by decide) rfl wm_453 rfl hd k
theorem gf_M_23 (hX : jx_Ok G X cc "PlaneCellsModel" ret nL lv) (hd : decode cc pc = .ok (.getfield 23, 3)) (k : jx_At G X fin (jr_w G S) (pc + 3) L (.ref (jx_ad G 22) :: st)) : jx_At G X fin (jr_w G S) pc L (.ref (jx_ad G 18) :: st) := by
  exact jx_get hX jn_in_M 0 rfl rfl 10 (by decide) rfl wm_455 rfl hd k
theorem gf_M_26 (hX : jx_Ok G X cc "PlaneCellsModel" ret nL lv) (hd : decode cc pc = .ok (.getfield 26, 3)) (k : jx_At G X fin (jr_w G S) (pc + 3) L (.ref (jx_ad G 23) :: st)) : jx_At G X fin (jr_w G S) pc L (.ref (jx_ad G 18) :: st) := by
  exact jx_get hX jn_in_M 0 rfl rfl 12 (by decide) rfl wm_457 rfl hd k
theorem gf_M_29 (hX : jx_Ok G X cc "PlaneCellsModel" ret nL lv) (hd : decode cc pc = .ok (.getfield 29, 3)) (k : jx_At G X fin (jr_w G S) (pc + 3) L (.ref (jx_ad G 24) :: st)) : jx_At G X fin (jr_w G S) pc L (.ref (jx_ad G 18) :: st) := by
  exact jx_get hX jn_in_M 0 rfl rfl 13 (by decide) rfl wm_458 rfl hd k
theorem gf_M_33 (hX : jx_Ok G X cc "PlaneCellsModel" ret nL lv) (hd : decode cc pc = .ok (.getfield 33, 3)) (k : jx_At G X fin (jr_w G S) (pc + 3) L (.ref (jx_ad G 25) :: st)) : jx_At G X fin (jr_w G S) pc L (.ref (jx_ad G 18) :: st) := by
  exact jx_get hX jn_in_M 0 rfl rfl 15 (by decide) rfl wm_460 rfl hd k
theorem gf_M_37 (hX : jx_Ok G X cc "PlaneCellsModel" ret nL lv) (hd : decode cc pc = .ok (.getfield 37, 3)) (k : jx_At G X fin (jr_w G S) (pc + 3) L (.ref (jx_ad G 26) :: st)) : jx_At G X fin (jr_w G S) pc L (.ref (jx_ad G 18) :: st) := by
  exact jx_get hX jn_in_M 0 rfl rfl 16 (by decide) rfl wm_461 rfl hd k
theorem gf_M_40 (hX : jx_Ok G X cc "PlaneCellsModel" ret nL lv) (hd : decode cc pc = .ok (.getfield 40, 3)) (k : jx_At G X fin (jr_w G S) (pc + 3) L (.ref (jx_ad G 27) :: st)) : jx_At G X fin (jr_w G S) pc L (.ref (jx_ad G 18) :: st) := by
  exact jx_get hX jn_in_M 0 rfl rfl 17 (by decide) rfl wm_462 rfl hd k
theorem gf_M_43 (hX : jx_Ok G X cc "PlaneCellsModel" ret nL lv) (hd : decode cc pc = .ok (.getfield 43, 3)) (k : jx_At G X fin (jr_w G S) (pc + 3) L (.ref (jx_ad G 28) :: st)) : jx_At G X fin (jr_w G S) pc L (.ref (jx_ad G 18) :: st) := by
  exact jx_get hX jn_in_M 0 rfl rfl 18 (by decide) rfl wm_463 rfl hd k
theorem gf_M_46 (hX : jx_Ok G X cc "PlaneCellsModel" ret nL lv) (hd : decode cc pc = .ok (.getfield 46, 3)) {x : Int32} (hx : S.1 9 = x) (k : jx_At G X fin (jr_w G S) (pc + 3) L (.int x :: st)) : jx_At G X fin (jr_w G S) pc L (.ref (jx_ad G 18) :: st) := by
  subst hx
  exact jx_get hX jn_in_M 0 rfl rfl 19 (by decide) rfl wm_464 rfl hd k
theorem gf_M_49 (hX : jx_Ok G X cc "PlaneCellsModel" ret nL lv) (hd : decode cc pc = .ok (.getfield 49, 3)) (k : jx_At G X fin (jr_w G S) (pc + 3) L (.ref (jx_ad G 29) :: st)) : jx_At G X fin (jr_w G S) pc L (.ref (jx_ad G 18) :: st) := by
  exact jx_get hX jn_in_M 0 rfl rfl 21 (by decide) rfl wm_466 rfl hd k
theorem gf_M_52 (hX : jx_Ok G X cc "PlaneCellsModel" ret nL lv) (hd : decode cc pc = .ok (.getfield 52, 3)) (k : jx_At G X fin (jr_w G S) (pc + 3) L (.ref (jx_ad G 30) :: st)) : jx_At G X fin (jr_w G S) pc L (.ref (jx_ad G 18) :: st) := by
  exact jx_get hX jn_in_M 0 rfl rfl 22 (by decide) rfl wm_467 rfl hd k
theorem gf_M_55 (hX : jx_Ok G X cc "PlaneCellsModel" ret nL lv) (hd : decode cc pc = .ok (.getfield 55, 3)) (k : jx_At G X fin (jr_w G S) (pc + 3) L (.ref (jx_ad G 31) :: st)) : jx_At G X fin (jr_w G S) pc L (.ref (jx_ad G 18) :: st) := by
  exact jx_get hX jn_in_M 0 rfl rfl 24 (by decide) rfl wm_469 rfl hd k
theorem gf_M_58 (hX : jx_Ok G X cc "PlaneCellsModel" ret nL lv) (hd : decode cc pc = .ok (.getfield 58, 3)) {x : Int32} (hx : S.1 0 = x) (k : jx_At G X fin (jr_w G S) (pc + 3) L (.int x :: st)) : jx_At G X fin (jr_w G S) pc L (.ref (jx_ad G 18) :: st) := by
  subst hx
  exact jx_get hX jn_in_M 0 rfl rfl 0 (by decide) rfl wm_445 rfl hd k
theorem gf_M_61 (hX : jx_Ok G X cc "PlaneCellsModel" ret nL lv) (hd : decode cc pc = .ok (.getfield 61, 3)) {x : Int32} (hx : S.1 1 = x) (k : jx_At G X fin (jr_w G S) (pc + 3) L (.int x :: st)) : jx_At G X fin (jr_w G S) pc L (.ref (jx_ad G 18) :: st) := by
  subst hx
  exact jx_get hX jn_in_M 0 rfl rfl 2 (by decide) rfl wm_447 rfl hd k
theorem gf_M_93 (hX : jx_Ok G X cc "PlaneCellsModel" ret nL lv) (hd : decode cc pc = .ok (.getfield 93, 3)) {x : Int32} (hx : S.1 6 = x) (k : jx_At G X fin (jr_w G S) (pc + 3) L (.int x :: st)) : jx_At G X fin (jr_w G S) pc L (.ref (jx_ad G 18) :: st) := by
  subst hx
  exact jx_get hX jn_in_M 0 rfl rfl 9 (by decide) rfl wm_454 rfl hd k
theorem gf_M_96 (hX : jx_Ok G X cc "PlaneCellsModel" ret nL lv) (hd : decode cc pc = .ok (.getfield 96, 3)) {x : Int32} (hx : S.1 7 = x) (k : jx_At G X fin (jr_w G S) (pc + 3) L (.int x :: st)) : jx_At G X fin (jr_w G S) pc L (.ref (jx_ad G 18) :: st) := by
  subst hx
  exact jx_get hX jn_in_M 0 rfl rfl 11 (by decide) rfl wm_456 rfl hd k
theorem gf_M_103 (hX : jx_Ok G X cc "PlaneCellsModel" ret nL lv) (hd : decode cc pc = .ok (.getfield 103, 3)) {x : Int32} (hx : S.1 5 = x) (k : jx_At G X fin (jr_w G S) (pc + 3) L (.int x :: st)) : jx_At G X fin (jr_w G S) pc L (.ref (jx_ad G 18) :: st) := by
  subst hx
  exact jx_get hX jn_in_M 0 rfl rfl 7 (by decide) rfl wm_452 rfl hd k
theorem gf_M_134 (hX : jx_Ok G X cc "PlaneCellsModel" ret nL lv) (hd : decode cc pc = .ok (.getfield 134, 3)) {x : Int32} (hx : S.1 8 = x) (k : jx_At G X fin (jr_w G S) (pc + 3) L (.int x :: st)) : jx_At G X fin (jr_w G S) pc L (.ref (jx_ad G 18) :: st) := by
  subst hx
  exact jx_get hX jn_in_M 0 rfl rfl 14 (by decide) rfl wm_459 rfl hd k
theorem gf_M_160 (hX : jx_Ok G X cc "PlaneCellsModel" ret nL lv) (hd : decode cc pc = .ok (.getfield 160, 3)) {x : Int32} (hx : S.1 10 = x) (k : jx_At G X fin (jr_w G S) (pc + 3) L (.int x :: st)) : jx_At G X fin (jr_w G S) pc L (.ref (jx_ad G 18) :: st) := by
  subst hx
  exact jx_get hX jn_in_M 0 rfl rfl 20 (by decide) rfl wm_465 rfl hd k
theorem gf_M_178 (hX : jx_Ok G X cc "PlaneCellsModel" ret nL lv) (hd : decode cc pc = .ok (.getfield 178, 3)) {x : Int32} (hx : S.1 4 = x) (k : jx_At G X fin (jr_w G S) (pc + 3) L (.int x :: st)) : jx_At G X fin (jr_w G S) pc L (.ref (jx_ad G 18) :: st) := by
  subst hx
  exact jx_get hX jn_in_M 0 rfl rfl 6 (by decide) rfl wm_451 rfl hd k
theorem gf_M_182 (hX : jx_Ok G X cc "PlaneCellsModel" ret nL lv) (hd : decode cc pc = .ok (.getfield 182, 3)) {x : Int32} (hx : S.1 11 = x) (k : jx_At G X fin (jr_w G S) (pc + 3) L (.int x :: st)) : jx_At G X fin (jr_w G S) pc L (.ref (jx_ad G 18) :: st) := by
  subst hx
  exact jx_get hX jn_in_M 0 rfl rfl 23 (by decide) rfl wm_468 rfl hd k
theorem gf_M_198 (hX : jx_Ok G X cc "PlaneCellsModel" ret nL lv) (hd : decode cc pc = .ok (.getfield 198, 3)) {x : Int32} (hx : S.1 3 = x) (k : jx_At G X fin (jr_w G S) (pc + 3) L (.int x :: st)) : jx_At G X fin (jr_w G S) pc L (.ref (jx_ad G 18) :: st) := by
  subst hx
  exact jx_get hX jn_in_M 0 rfl rfl 5 (by decide) rfl wm_450 rfl hd k
theorem pf_M_16 (hX : jx_Ok G X cc "PlaneCellsModel" ret nL lv) {x : Int32} (hd : decode cc pc = .ok (.putfield 16, 3)) (k : jx_At G X fin (jr_w G (jx_f S 2 x)) (pc + 3) L st) : jx_At G X fin (jr_w G S) pc L (.int x :: .ref (jx_ad G 18) :: st) :=
  jx_put hX jn_in_M jn_t_M jn_tok_M jn_nm_M 0 rfl rfl 4 (by decide) rfl wm_449 rfl rfl rfl rfl (Nat.le_of_ble_eq_true rfl) (w2 := jr_w G (jx_f S 2 x)) rfl hd k
theorem pf_M_46 (hX : jx_Ok G X cc "PlaneCellsModel" ret nL lv) {x : Int32} (hd : decode cc pc = .ok (.putfield 46, 3)) (k : jx_At G X fin (jr_w G (jx_f S 9 x)) (pc + 3) L st) : jx_At G X fin (jr_w G S) pc L (.int x :: .ref (jx_ad G 18) :: st) :=
  jx_put hX jn_in_M jn_t_M jn_tok_M jn_nm_M 0 rfl rfl 19 (by decide) rfl wm_464 rfl rfl rfl rfl (Nat.le_of_ble_eq_true rfl) (w2 := jr_w G (jx_f S 9 x)) rfl hd k
theorem pf_M_58 (hX : jx_Ok G X cc "PlaneCellsModel" ret nL lv) {x : Int32} (hd : decode cc pc = .ok (.putfield 58, 3)) (k : jx_At G X fin (jr_w G (jx_f S 0 x)) (pc + 3) L st) : jx_At G X fin (jr_w G S) pc L (.int x :: .ref (jx_ad G 18) :: st) :=
  jx_put hX jn_in_M jn_t_M jn_tok_M jn_nm_M 0 rfl rfl 0 (by decide) rfl wm_445 rfl rfl rfl rfl (Nat.le_of_ble_eq_true rfl) (w2 := jr_w G (jx_f S 0 x)) rfl hd k
theorem pf_M_61 (hX : jx_Ok G X cc "PlaneCellsModel" ret nL lv) {x : Int32} (hd : decode cc pc = .ok (.putfield 61, 3)) (k : jx_At G X fin (jr_w G (jx_f S 1 x)) (pc + 3) L st) : jx_At G X fin (jr_w G S) pc L (.int x :: .ref (jx_ad G 18) :: st) :=
  jx_put hX jn_in_M jn_t_M jn_tok_M jn_nm_M 0 rfl rfl 2 (by decide) rfl wm_447 rfl rfl rfl rfl (Nat.le_of_ble_eq_true rfl) (w2 := jr_w G (jx_f S 1 x)) rfl hd k
theorem pf_M_93 (hX : jx_Ok G X cc "PlaneCellsModel" ret nL lv) {x : Int32} (hd : decode cc pc = .ok (.putfield 93, 3)) (k : jx_At G X fin (jr_w G (jx_f S 6 x)) (pc + 3) L st) : jx_At G X fin (jr_w G S) pc L (.int x :: .ref (jx_ad G 18) :: st) :=
  jx_put hX jn_in_M jn_t_M jn_tok_M jn_nm_M 0 rfl rfl 9 (by decide) rfl wm_454 rfl rfl rfl rfl (Nat.le_of_ble_eq_true rfl) (w2 := jr_w G (jx_f S 6 x)) rfl hd k
theorem pf_M_96 (hX : jx_Ok G X cc "PlaneCellsModel" ret nL lv) {x : Int32} (hd : decode cc pc = .ok (.putfield 96, 3)) (k : jx_At G X fin (jr_w G (jx_f S 7 x)) (pc + 3) L st) : jx_At G X fin (jr_w G S) pc L (.int x :: .ref (jx_ad G 18) :: st) :=
  jx_put hX jn_in_M jn_t_M jn_tok_M jn_nm_M 0 rfl rfl 11 (by decide) rfl wm_456 rfl rfl rfl rfl (Nat.le_of_ble_eq_true rfl) (w2 := jr_w G (jx_f S 7 x)) rfl hd k
theorem pf_M_103 (hX : jx_Ok G X cc "PlaneCellsModel" ret nL lv) {x : Int32} (hd : decode cc pc = .ok (.putfield 103, 3)) (k : jx_At G X fin (jr_w G (jx_f S 5 x)) (pc + 3) L st) : jx_At G X fin (jr_w G S) pc L (.int x :: .ref (jx_ad G 18) :: st) :=
  jx_put hX jn_in_M jn_t_M jn_tok_M jn_nm_M 0 rfl rfl 7 (by decide) rfl wm_452 rfl rfl rfl rfl (Nat.le_of_ble_eq_true rfl) (w2 := jr_w G (jx_f S 5 x)) rfl hd k
theorem pf_M_134 (hX : jx_Ok G X cc "PlaneCellsModel" ret nL lv) {x : Int32} (hd : decode cc pc = .ok (.putfield 134, 3)) (k : jx_At G X fin (jr_w G (jx_f S 8 x)) (pc + 3) L st) : jx_At G X fin (jr_w G S) pc L (.int x :: .ref (jx_ad G 18) :: st) :=
  jx_put hX jn_in_M jn_t_M jn_tok_M jn_nm_M 0 rfl rfl 14 (by decide) rfl wm_459 rfl rfl rfl rfl (Nat.le_of_ble_eq_true rfl) (w2 := jr_w G (jx_f S 8 x)) rfl hd k
theorem pf_M_160 (hX : jx_Ok G X cc "PlaneCellsModel" ret nL lv) {x : Int32} (hd : decode cc pc = .ok (.putfield 160, 3)) (k : jx_At G X fin (jr_w G (jx_f S 10 x)) (pc + 3) L st) : jx_At G X fin (jr_w G S) pc L (.int x :: .ref (jx_ad G 18) :: st) :=
  jx_put hX jn_in_M jn_t_M jn_tok_M jn_nm_M 0 rfl rfl 20 (by decide) rfl wm_465 rfl rfl rfl rfl (Nat.le_of_ble_eq_true rfl) (w2 := jr_w G (jx_f S 10 x)) rfl hd k
theorem pf_M_178 (hX : jx_Ok G X cc "PlaneCellsModel" ret nL lv) {x : Int32} (hd : decode cc pc = .ok (.putfield 178, 3)) (h01 : jx_01 x) (k : jx_At G X fin (jr_w G (jx_f S 4 x)) (pc + 3) L st) : jx_At G X fin (jr_w G S) pc L (.int x :: .ref (jx_ad G 18) :: st) :=
  jx_put hX jn_in_M jn_t_M jn_tok_M jn_nm_M 0 rfl rfl 6 (by decide) rfl wm_451 rfl rfl (jx_01n h01) (jx_01f h01) (Nat.le_of_ble_eq_true rfl) (w2 := jr_w G (jx_f S 4 x)) rfl hd k
theorem pf_M_182 (hX : jx_Ok G X cc "PlaneCellsModel" ret nL lv) {x : Int32} (hd : decode cc pc = .ok (.putfield 182, 3)) (k : jx_At G X fin (jr_w G (jx_f S 11 x)) (pc + 3) L st) : jx_At G X fin (jr_w G S) pc L (.int x :: .ref (jx_ad G 18) :: st) :=
  jx_put hX jn_in_M jn_t_M jn_tok_M jn_nm_M 0 rfl rfl 23 (by decide) rfl wm_468 rfl rfl rfl rfl (Nat.le_of_ble_eq_true rfl) (w2 := jr_w G (jx_f S 11 x)) rfl hd k
theorem pf_M_198 (hX : jx_Ok G X cc "PlaneCellsModel" ret nL lv) {x : Int32} (hd : decode cc pc = .ok (.putfield 198, 3)) (h01 : jx_01 x) (k : jx_At G X fin (jr_w G (jx_f S 3 x)) (pc + 3) L st) : jx_At G X fin (jr_w G S) pc L (.int x :: .ref (jx_ad G 18) :: st) :=
  jx_put hX jn_in_M jn_t_M jn_tok_M jn_nm_M 0 rfl rfl 5 (by decide) rfl wm_450 rfl rfl (jx_01n h01) (jx_01f h01) (Nat.le_of_ble_eq_true rfl) (w2 := jr_w G (jx_f S 3 x)) rfl hd k
theorem al_M0 {own : String} (hX : jx_Ok G X cc own ret nL lv) {i : Int32} (hd : decode cc pc = .ok (.iaload, 1)) {f : Nat → Int32} (hf : S.2.1 0 = f) (hin : jx_in i 80 = true) (k : jx_At G X fin (jr_w G S) (pc + 1) L (.int (f i.toNatClampNeg) :: st)) : jx_At G X fin (jr_w G S) pc L (.int i :: .ref (jx_ad G 19) :: st) := by
  subst hf
  exact jx_iald hX 1 rfl hin hd k
theorem as_M0 {own : String} (hX : jx_Ok G X cc own ret nL lv) {i : Int32} {x : Int32} (hd : decode cc pc = .ok (.iastore, 1)) {f : Nat → Int32} (hf : S.2.1 0 = f) (hin : jx_in i 80 = true) (k : jx_At G X fin (jr_w G (jx_g S 0 (upd f i.toNatClampNeg x))) (pc + 1) L st) : jx_At G X fin (jr_w G S) pc L (.int x :: .int i :: .ref (jx_ad G 19) :: st) := by
  subst hf
  exact jx_iast hX 1 rfl hin (w2 := jr_w G (jx_g S 0 (upd (S.2.1 0) i.toNatClampNeg x))) rfl hd k
theorem al_M1 {own : String} (hX : jx_Ok G X cc own ret nL lv) {i : Int32} (hd : decode cc pc = .ok (.iaload, 1)) {f : Nat → Int32} (hf : S.2.1 1 = f) (hin : jx_in i 80 = true) (k : jx_At G X fin (jr_w G S) (pc + 1) L (.int (f i.toNatClampNeg) :: st)) : jx_At G X fin (jr_w G S) pc L (.int i :: .ref (jx_ad G 20) :: st) := by
  subst hf
  exact jx_iald hX 2 rfl hin hd k
theorem as_M1 {own : String} (hX : jx_Ok G X cc own ret nL lv) {i : Int32} {x : Int32} (hd : decode cc pc = .ok (.iastore, 1)) {f : Nat → Int32} (hf : S.2.1 1 = f) (hin : jx_in i 80 = true) (k : jx_At G X fin (jr_w G (jx_g S 1 (upd f i.toNatClampNeg x))) (pc + 1) L st) : jx_At G X fin (jr_w G S) pc L (.int x :: .int i :: .ref (jx_ad G 20) :: st) := by
  subst hf
  exact jx_iast hX 2 rfl hin (w2 := jr_w G (jx_g S 1 (upd (S.2.1 1) i.toNatClampNeg x))) rfl hd k
theorem al_M2 {own : String} (hX : jx_Ok G X cc own ret nL lv) {i : Int32} (hd : decode cc pc = .ok (.iaload, 1)) {f : Nat → Int32} (hf : S.2.1 2 = f) (hin : jx_in i 32 = true) (k : jx_At G X fin (jr_w G S) (pc + 1) L (.int (f i.toNatClampNeg) :: st)) : jx_At G X fin (jr_w G S) pc L (.int i :: .ref (jx_ad G 21) :: st) := by
  subst hf
  exact jx_iald hX 3 rfl hin hd k
theorem as_M2 {own : String} (hX : jx_Ok G X cc own ret nL lv) {i : Int32} {x : Int32} (hd : decode cc pc = .ok (.iastore, 1)) {f : Nat → Int32} (hf : S.2.1 2 = f) (hin : jx_in i 32 = true) (k : jx_At G X fin (jr_w G (jx_g S 2 (upd f i.toNatClampNeg x))) (pc + 1) L st) : jx_At G X fin (jr_w G S) pc L (.int x :: .int i :: .ref (jx_ad G 21) :: st) := by
  subst hf
  exact jx_iast hX 3 rfl hin (w2 := jr_w G (jx_g S 2 (upd (S.2.1 2) i.toNatClampNeg x))) rfl hd k
theorem al_M3 {own : String} (hX : jx_Ok G X cc own ret nL lv) {i : Int32} (hd : decode cc pc = .ok (.iaload, 1)) {f : Nat → Int32} (hf : S.2.1 3 = f) (hin : jx_in i 90 = true) (k : jx_At G X fin (jr_w G S) (pc + 1) L (.int (f i.toNatClampNeg) :: st)) : jx_At G X fin (jr_w G S) pc L (.int i :: .ref (jx_ad G 22) :: st) := by
  subst hf
  exact jx_iald hX 4 rfl hin hd k
theorem as_M3 {own : String} (hX : jx_Ok G X cc own ret nL lv) {i : Int32} {x : Int32} (hd : decode cc pc = .ok (.iastore, 1)) {f : Nat → Int32} (hf : S.2.1 3 = f) (hin : jx_in i 90 = true) (k : jx_At G X fin (jr_w G (jx_g S 3 (upd f i.toNatClampNeg x))) (pc + 1) L st) : jx_At G X fin (jr_w G S) pc L (.int x :: .int i :: .ref (jx_ad G 22) :: st) := by
  subst hf
  exact jx_iast hX 4 rfl hin (w2 := jr_w G (jx_g S 3 (upd (S.2.1 3) i.toNatClampNeg x))) rfl hd k
theorem al_M4 {own : String} (hX : jx_Ok G X cc own ret nL lv) {i : Int32} (hd : decode cc pc = .ok (.iaload, 1)) {f : Nat → Int32} (hf : S.2.1 4 = f) (hin : jx_in i 90 = true) (k : jx_At G X fin (jr_w G S) (pc + 1) L (.int (f i.toNatClampNeg) :: st)) : jx_At G X fin (jr_w G S) pc L (.int i :: .ref (jx_ad G 23) :: st) := by
  subst hf
  exact jx_iald hX 5 rfl hin hd k
theorem as_M4 {own : String} (hX : jx_Ok G X cc own ret nL lv) {i : Int32} {x : Int32} (hd : decode cc pc = .ok (.iastore, 1)) {f : Nat → Int32} (hf : S.2.1 4 = f) (hin : jx_in i 90 = true) (k : jx_At G X fin (jr_w G (jx_g S 4 (upd f i.toNatClampNeg x))) (pc + 1) L st) : jx_At G X fin (jr_w G S) pc L (.int x :: .int i :: .ref (jx_ad G 23) :: st) := by
  subst hf
  exact jx_iast hX 5 rfl hin (w2 := jr_w G (jx_g S 4 (upd (S.2.1 4) i.toNatClampNeg x))) rfl hd k
theorem al_M5 {own : String} (hX : jx_Ok G X cc own ret nL lv) {i : Int32} (hd : decode cc pc = .ok (.baload, 1)) {f : Nat → Int32} (hf : S.2.1 5 = f) (hin : jx_in i 90 = true) (k : jx_At G X fin (jr_w G S) (pc + 1) L (.int (f i.toNatClampNeg) :: st)) : jx_At G X fin (jr_w G S) pc L (.int i :: .ref (jx_ad G 24) :: st) := by
  subst hf
  exact jx_zald hX 6 rfl hin hd k
theorem as_M5 {own : String} (hX : jx_Ok G X cc own ret nL lv) {i : Int32} {x : Int32} (hd : decode cc pc = .ok (.bastore, 1)) {f : Nat → Int32} (hf : S.2.1 5 = f) (hin : jx_in i 90 = true) (k : jx_At G X fin (jr_w G (jx_g S 5 (upd f i.toNatClampNeg (vp_nar .boolean x)))) (pc + 1) L st) : jx_At G X fin (jr_w G S) pc L (.int x :: .int i :: .ref (jx_ad G 24) :: st) := by
  subst hf
  exact jx_zast hX 6 rfl hin (w2 := jr_w G (jx_g S 5 (upd (S.2.1 5) i.toNatClampNeg (vp_nar .boolean x)))) rfl hd k
theorem al_ML0 {own : String} (hX : jx_Ok G X cc own ret nL lv) {i : Int32} (hd : decode cc pc = .ok (.laload, 1)) {f : Nat → Int64} (hf : S.2.2 0 = f) (hin : jx_in i 80 = true) (k : jx_At G X fin (jr_w G S) (pc + 1) L (.long (f i.toNatClampNeg) :: st)) : jx_At G X fin (jr_w G S) pc L (.int i :: .ref (jx_ad G 25) :: st) := by
  subst hf
  exact jx_lald hX 7 rfl hin hd k
theorem as_ML0 {own : String} (hX : jx_Ok G X cc own ret nL lv) {i : Int32} {x : Int64} (hd : decode cc pc = .ok (.lastore, 1)) {f : Nat → Int64} (hf : S.2.2 0 = f) (hin : jx_in i 80 = true) (k : jx_At G X fin (jr_w G (jx_gl S 0 (vp_updL f i.toNatClampNeg x))) (pc + 1) L st) : jx_At G X fin (jr_w G S) pc L (.long x :: .int i :: .ref (jx_ad G 25) :: st) := by
  subst hf
  exact jx_last hX 7 rfl hin (w2 := jr_w G (jx_gl S 0 (vp_updL (S.2.2 0) i.toNatClampNeg x))) rfl hd k
theorem al_ML1 {own : String} (hX : jx_Ok G X cc own ret nL lv) {i : Int32} (hd : decode cc pc = .ok (.laload, 1)) {f : Nat → Int64} (hf : S.2.2 1 = f) (hin : jx_in i 80 = true) (k : jx_At G X fin (jr_w G S) (pc + 1) L (.long (f i.toNatClampNeg) :: st)) : jx_At G X fin (jr_w G S) pc L (.int i :: .ref (jx_ad G 26) :: st) := by
  subst hf
  exact jx_lald hX 8 rfl hin hd k
theorem as_ML1 {own : String} (hX : jx_Ok G X cc own ret nL lv) {i : Int32} {x : Int64} (hd : decode cc pc = .ok (.lastore, 1)) {f : Nat → Int64} (hf : S.2.2 1 = f) (hin : jx_in i 80 = true) (k : jx_At G X fin (jr_w G (jx_gl S 1 (vp_updL f i.toNatClampNeg x))) (pc + 1) L st) : jx_At G X fin (jr_w G S) pc L (.long x :: .int i :: .ref (jx_ad G 26) :: st) := by
  subst hf
  exact jx_last hX 8 rfl hin (w2 := jr_w G (jx_gl S 1 (vp_updL (S.2.2 1) i.toNatClampNeg x))) rfl hd k
theorem al_ML2 {own : String} (hX : jx_Ok G X cc own ret nL lv) {i : Int32} (hd : decode cc pc = .ok (.laload, 1)) {f : Nat → Int64} (hf : S.2.2 2 = f) (hin : jx_in i 80 = true) (k : jx_At G X fin (jr_w G S) (pc + 1) L (.long (f i.toNatClampNeg) :: st)) : jx_At G X fin (jr_w G S) pc L (.int i :: .ref (jx_ad G 27) :: st) := by
  subst hf
  exact jx_lald hX 9 rfl hin hd k
theorem as_ML2 {own : String} (hX : jx_Ok G X cc own ret nL lv) {i : Int32} {x : Int64} (hd : decode cc pc = .ok (.lastore, 1)) {f : Nat → Int64} (hf : S.2.2 2 = f) (hin : jx_in i 80 = true) (k : jx_At G X fin (jr_w G (jx_gl S 2 (vp_updL f i.toNatClampNeg x))) (pc + 1) L st) : jx_At G X fin (jr_w G S) pc L (.long x :: .int i :: .ref (jx_ad G 27) :: st) := by
  subst hf
  exact jx_last hX 9 rfl hin (w2 := jr_w G (jx_gl S 2 (vp_updL (S.2.2 2) i.toNatClampNeg x))) rfl hd k
theorem al_M6 {own : String} (hX : jx_Ok G X cc own ret nL lv) {i : Int32} (hd : decode cc pc = .ok (.iaload, 1)) {f : Nat → Int32} (hf : S.2.1 6 = f) (hin : jx_in i 80 = true) (k : jx_At G X fin (jr_w G S) (pc + 1) L (.int (f i.toNatClampNeg) :: st)) : jx_At G X fin (jr_w G S) pc L (.int i :: .ref (jx_ad G 28) :: st) := by
  subst hf
  exact jx_iald hX 10 rfl hin hd k
theorem as_M6 {own : String} (hX : jx_Ok G X cc own ret nL lv) {i : Int32} {x : Int32} (hd : decode cc pc = .ok (.iastore, 1)) {f : Nat → Int32} (hf : S.2.1 6 = f) (hin : jx_in i 80 = true) (k : jx_At G X fin (jr_w G (jx_g S 6 (upd f i.toNatClampNeg x))) (pc + 1) L st) : jx_At G X fin (jr_w G S) pc L (.int x :: .int i :: .ref (jx_ad G 28) :: st) := by
  subst hf
  exact jx_iast hX 10 rfl hin (w2 := jr_w G (jx_g S 6 (upd (S.2.1 6) i.toNatClampNeg x))) rfl hd k
theorem al_M7 {own : String} (hX : jx_Ok G X cc own ret nL lv) {i : Int32} (hd : decode cc pc = .ok (.iaload, 1)) {f : Nat → Int32} (hf : S.2.1 7 = f) (hin : jx_in i 8 = true) (k : jx_At G X fin (jr_w G S) (pc + 1) L (.int (f i.toNatClampNeg) :: st)) : jx_At G X fin (jr_w G S) pc L (.int i :: .ref (jx_ad G 29) :: st) := by
  subst hf
  exact jx_iald hX 11 rfl hin hd k
theorem as_M7 {own : String} (hX : jx_Ok G X cc own ret nL lv) {i : Int32} {x : Int32} (hd : decode cc pc = .ok (.iastore, 1)) {f : Nat → Int32} (hf : S.2.1 7 = f) (hin : jx_in i 8 = true) (k : jx_At G X fin (jr_w G (jx_g S 7 (upd f i.toNatClampNeg x))) (pc + 1) L st) : jx_At G X fin (jr_w G S) pc L (.int x :: .int i :: .ref (jx_ad G 29) :: st) := by
  subst hf
  exact jx_iast hX 11 rfl hin (w2 := jr_w G (jx_g S 7 (upd (S.2.1 7) i.toNatClampNeg x))) rfl hd k
theorem al_M8 {own : String} (hX : jx_Ok G X cc own ret nL lv) {i : Int32} (hd : decode cc pc = .ok (.iaload, 1)) {f : Nat → Int32} (hf : S.2.1 8 = f) (hin : jx_in i 8 = true) (k : jx_At G X fin (jr_w G S) (pc + 1) L (.int (f i.toNatClampNeg) :: st)) : jx_At G X fin (jr_w G S) pc L (.int i :: .ref (jx_ad G 30) :: st) := by
  subst hf
  exact jx_iald hX 12 rfl hin hd k
theorem as_M8 {own : String} (hX : jx_Ok G X cc own ret nL lv) {i : Int32} {x : Int32} (hd : decode cc pc = .ok (.iastore, 1)) {f : Nat → Int32} (hf : S.2.1 8 = f) (hin : jx_in i 8 = true) (k : jx_At G X fin (jr_w G (jx_g S 8 (upd f i.toNatClampNeg x))) (pc + 1) L st) : jx_At G X fin (jr_w G S) pc L (.int x :: .int i :: .ref (jx_ad G 30) :: st) := by
  subst hf
  exact jx_iast hX 12 rfl hin (w2 := jr_w G (jx_g S 8 (upd (S.2.1 8) i.toNatClampNeg x))) rfl hd k
theorem al_M9 {own : String} (hX : jx_Ok G X cc own ret nL lv) {i : Int32} (hd : decode cc pc = .ok (.iaload, 1)) {f : Nat → Int32} (hf : S.2.1 9 = f) (hin : jx_in i 8 = true) (k : jx_At G X fin (jr_w G S) (pc + 1) L (.int (f i.toNatClampNeg) :: st)) : jx_At G X fin (jr_w G S) pc L (.int i :: .ref (jx_ad G 31) :: st) := by
  subst hf
  exact jx_iald hX 13 rfl hin hd k
theorem as_M9 {own : String} (hX : jx_Ok G X cc own ret nL lv) {i : Int32} {x : Int32} (hd : decode cc pc = .ok (.iastore, 1)) {f : Nat → Int32} (hf : S.2.1 9 = f) (hin : jx_in i 8 = true) (k : jx_At G X fin (jr_w G (jx_g S 9 (upd f i.toNatClampNeg x))) (pc + 1) L st) : jx_At G X fin (jr_w G S) pc L (.int x :: .int i :: .ref (jx_ad G 31) :: st) := by
  subst hf
  exact jx_iast hX 13 rfl hin (w2 := jr_w G (jx_g S 9 (upd (S.2.1 9) i.toNatClampNeg x))) rfl hd k
end FR
section CR
variable {G : jx_G} {X : jx_C} {cc : ByteArray} {ret : Option FieldType} {nL lv : Nat} {fin : Option Value × va_W} {pc : Nat} {L : List (Nat × Value)} {rest : List Value} {S : jx_S}
theorem cs_M_64 (hX : jx_Ok G X cc "PlaneCellsModel" ret nL lv) {v1 v2 : Value} {r : Int32} {w1 : va_W} (hM : jx_M (jx_l X) y_M_term b_M_term 3 (some .int) 1 G [v1, v2] (jr_w G S) (some (.int r), w1)) (hd : decode cc pc = .ok (.invokestatic 64, 3)) (hlv : 1 < lv) (hroom : (rest.map fun v => v.category).sum ≤ 8) (k : jx_At G X fin w1 (pc + 3) L (.int r :: rest)) : jx_At G X fin (jr_w G S) pc L (v2 :: v1 :: rest) :=
  jx_callS hX (n := 2) (As := [v1, v2]) hM wm_556 wm_7 wm_554 wm_555 (by decide) rfl rfl (by decide) hd hlv hroom k
theorem cs_M_68 (hX : jx_Ok G X cc "PlaneCellsModel" ret nL lv) {v1 v2 : Value} {r : Int32} {w1 : va_W} (hM : jx_M (jx_l X) y_M_behind b_M_behind 2 (some .int) 0 G [v1, v2] (jr_w G S) (some (.int r), w1)) (hd : decode cc pc = .ok (.invokestatic 68, 3)) (hlv : 0 < lv) (hroom : (rest.map fun v => v.category).sum ≤ 8) (k : jx_At G X fin w1 (pc + 3) L (.int r :: rest)) : jx_At G X fin (jr_w G S) pc L (v2 :: v1 :: rest) :=
  jx_callS hX (n := 2) (As := [v1, v2]) hM wm_562 wm_7 wm_560 wm_561 (by decide) rfl rfl (by decide) hd hlv hroom k
theorem cs_M_71 (hX : jx_Ok G X cc "PlaneCellsModel" ret nL lv) {v1 v2 v3 : Value} {r : Int32} {w1 : va_W} (hM : jx_M (jx_l X) y_M_inSum b_M_inSum 5 (some .int) 2 G [v1, v2, v3] (jr_w G S) (some (.int r), w1)) (hd : decode cc pc = .ok (.invokestatic 71, 3)) (hlv : 2 < lv) (hroom : (rest.map fun v => v.category).sum ≤ 8) (k : jx_At G X fin w1 (pc + 3) L (.int r :: rest)) : jx_At G X fin (jr_w G S) pc L (v3 :: v2 :: v1 :: rest) :=
  jx_callS hX (n := 3) (As := [v1, v2, v3]) hM wm_565 wm_7 wm_563 wm_564 (by decide) rfl rfl (by decide) hd hlv hroom k
theorem cs_M_75 (hX : jx_Ok G X cc "PlaneCellsModel" ret nL lv) {v1 : Value} {r : Int32} {w1 : va_W} (hM : jx_M (jx_l X) y_M_isDigit b_M_isDigit 1 (some .boolean) 0 G [v1] (jr_w G S) (some (.int r), w1)) (hd : decode cc pc = .ok (.invokestatic 75, 3)) (hlv : 0 < lv) (hroom : (rest.map fun v => v.category).sum ≤ 8) (k : jx_At G X fin w1 (pc + 3) L (.int r :: rest)) : jx_At G X fin (jr_w G S) pc L (v1 :: rest) :=
  jx_callS hX (n := 1) (As := [v1]) hM wm_559 wm_7 wm_557 wm_558 (by decide) rfl rfl (by decide) hd hlv hroom k
theorem cs_M_79 (hX : jx_Ok G X cc "PlaneCellsModel" ret nL lv) {v1 : Value} {r : Int32} {w1 : va_W} (hM : jx_M (jx_l X) y_M_at b_M_at 2 (some .int) 0 G [.ref (jx_ad G 18), v1] (jr_w G S) (some (.int r), w1)) (hd : decode cc pc = .ok (.invokevirtual 79, 3)) (hlv : 0 < lv) (hroom : (rest.map fun v => v.category).sum ≤ 8) (k : jx_At G X fin w1 (pc + 3) L (.int r :: rest)) : jx_At G X fin (jr_w G S) pc L (v1 :: .ref (jx_ad G 18) :: rest) :=
  jx_callV hX (n := 1) (As := [v1]) hM wm_550 wm_7 wm_547 wm_549 ws_25 (by decide) 0 rfl rfl rfl rfl (by decide) hd hlv hroom k
theorem cs_M_83 (hX : jx_Ok G X cc "PlaneCellsModel" ret nL lv) {v1 v2 v3 : Value} {r : Int32} {w1 : va_W} (hM : jx_M (jx_l X) y_M_after b_M_after 3 (some .int) 3 G [v1, v2, v3] (jr_w G S) (some (.int r), w1)) (hd : decode cc pc = .ok (.invokestatic 83, 3)) (hlv : 3 < lv) (hroom : (rest.map fun v => v.category).sum ≤ 8) (k : jx_At G X fin w1 (pc + 3) L (.int r :: rest)) : jx_At G X fin (jr_w G S) pc L (v3 :: v2 :: v1 :: rest) :=
  jx_callS hX (n := 3) (As := [v1, v2, v3]) hM wm_553 wm_7 wm_551 wm_552 (by decide) rfl rfl (by decide) hd hlv hroom k
theorem cs_M_86 (hX : jx_Ok G X cc "PlaneCellsModel" ret nL lv) {v1 v2 : Value} {r : Int32} {w1 : va_W} (hM : jx_M (jx_l X) y_M_mayEnd b_M_mayEnd 3 (some .boolean) 0 G [.ref (jx_ad G 18), v1, v2] (jr_w G S) (some (.int r), w1)) (hd : decode cc pc = .ok (.invokevirtual 86, 3)) (hlv : 0 < lv) (hroom : (rest.map fun v => v.category).sum ≤ 8) (k : jx_At G X fin w1 (pc + 3) L (.int r :: rest)) : jx_At G X fin (jr_w G S) pc L (v2 :: v1 :: .ref (jx_ad G 18) :: rest) :=
  jx_callV hX (n := 2) (As := [v1, v2]) hM wm_569 wm_7 wm_566 wm_568 ws_26 (by decide) 0 rfl rfl rfl rfl (by decide) hd hlv hroom k
theorem cs_M_90 (hX : jx_Ok G X cc "PlaneCellsModel" ret nL lv) {v1 : Value} {r : Int32} {w1 : va_W} (hM : jx_M (jx_l X) y_M_count b_M_count 4 (some .int) 0 G [.ref (jx_ad G 18), v1] (jr_w G S) (some (.int r), w1)) (hd : decode cc pc = .ok (.invokevirtual 90, 3)) (hlv : 0 < lv) (hroom : (rest.map fun v => v.category).sum ≤ 8) (k : jx_At G X fin w1 (pc + 3) L (.int r :: rest)) : jx_At G X fin (jr_w G S) pc L (v1 :: .ref (jx_ad G 18) :: rest) :=
  jx_callV hX (n := 1) (As := [v1]) hM wm_538 wm_7 wm_535 wm_537 ws_22 (by decide) 0 rfl rfl rfl rfl (by decide) hd hlv hroom k
theorem cs_M_99 (hX : jx_Ok G X cc "PlaneCellsModel" ret nL lv) {v1 : Value} {w1 : va_W} (hM : jx_M (jx_l X) y_M_give b_M_give 2 none 0 G [.ref (jx_ad G 18), v1] (jr_w G S) (none, w1)) (hd : decode cc pc = .ok (.invokevirtual 99, 3)) (hlv : 0 < lv) (hroom : (rest.map fun v => v.category).sum ≤ 8) (k : jx_At G X fin w1 (pc + 3) L rest) : jx_At G X fin (jr_w G S) pc L (v1 :: .ref (jx_ad G 18) :: rest) :=
  jx_callV hX (n := 1) (As := [v1]) hM wm_589 wm_7 wm_586 wm_588 ws_31 (by decide) 0 rfl rfl rfl rfl (by decide) hd hlv hroom k
theorem cs_M_106 (hX : jx_Ok G X cc "PlaneCellsModel" ret nL lv) {v1 : Value} {w1 : va_W} (hM : jx_M (jx_l X) y_M_wait0 b_M_wait0 2 none 0 G [.ref (jx_ad G 18), v1] (jr_w G S) (none, w1)) (hd : decode cc pc = .ok (.invokevirtual 106, 3)) (hlv : 0 < lv) (hroom : (rest.map fun v => v.category).sum ≤ 8) (k : jx_At G X fin w1 (pc + 3) L rest) : jx_At G X fin (jr_w G S) pc L (v1 :: .ref (jx_ad G 18) :: rest) :=
  jx_callV hX (n := 1) (As := [v1]) hM wm_581 wm_7 wm_578 wm_580 ws_29 (by decide) 0 rfl rfl rfl rfl (by decide) hd hlv hroom k
theorem cs_M_109 (hX : jx_Ok G X cc "PlaneCellsModel" ret nL lv) {v1 : Value} {w1 : va_W} (hM : jx_M (jx_l X) y_M_giveAll b_M_giveAll 2 none 1 G [.ref (jx_ad G 18), v1] (jr_w G S) (none, w1)) (hd : decode cc pc = .ok (.invokevirtual 109, 3)) (hlv : 1 < lv) (hroom : (rest.map fun v => v.category).sum ≤ 8) (k : jx_At G X fin w1 (pc + 3) L rest) : jx_At G X fin (jr_w G S) pc L (v1 :: .ref (jx_ad G 18) :: rest) :=
  jx_callV hX (n := 1) (As := [v1]) hM wm_585 wm_7 wm_582 wm_584 ws_30 (by decide) 0 rfl rfl rfl rfl (by decide) hd hlv hroom k
theorem cs_M_112 (hX : jx_Ok G X cc "PlaneCellsModel" ret nL lv) {v1 v2 v3 : Value} {r : Int32} {w1 : va_W} (hM : jx_M (jx_l X) y_M_readSum b_M_readSum 11 (some .int) 1 G [.ref (jx_ad G 18), v1, v2, v3] (jr_w G S) (some (.int r), w1)) (hd : decode cc pc = .ok (.invokevirtual 112, 3)) (hlv : 1 < lv) (hroom : (rest.map fun v => v.category).sum ≤ 8) (k : jx_At G X fin w1 (pc + 3) L (.int r :: rest)) : jx_At G X fin (jr_w G S) pc L (v3 :: v2 :: v1 :: .ref (jx_ad G 18) :: rest) :=
  jx_callV hX (n := 3) (As := [v1, v2, v3]) hM wm_593 wm_7 wm_590 wm_592 ws_32 (by decide) 0 rfl rfl rfl rfl (by decide) hd hlv hroom k
theorem cs_M_115 (hX : jx_Ok G X cc "PlaneCellsModel" ret nL lv) {v1 : Value} {r : Int32} {w1 : va_W} (hM : jx_M (jx_l X) y_M_sgn b_M_sgn 2 (some .int) 0 G [v1] (jr_w G S) (some (.int r), w1)) (hd : decode cc pc = .ok (.invokestatic 115, 3)) (hlv : 0 < lv) (hroom : (rest.map fun v => v.category).sum ≤ 8) (k : jx_At G X fin w1 (pc + 3) L (.int r :: rest)) : jx_At G X fin (jr_w G S) pc L (v1 :: rest) :=
  jx_callS hX (n := 1) (As := [v1]) hM wm_617 wm_7 wm_615 wm_616 (by decide) rfl rfl (by decide) hd hlv hroom k
theorem cs_M_123 (hX : jx_Ok G X cc "PlaneCellsModel" ret nL lv) {v1 v2 v3 : Value} {r : Int32} {w1 : va_W} (hM : jx_M (jx_l X) y_M_signOf b_M_signOf 12 (some .int) 1 G [v1, v2, v3] (jr_w G S) (some (.int r), w1)) (hd : decode cc pc = .ok (.invokestatic 123, 3)) (hlv : 1 < lv) (hroom : (rest.map fun v => v.category).sum ≤ 8) (k : jx_At G X fin w1 (pc + 3) L (.int r :: rest)) : jx_At G X fin (jr_w G S) pc L (v3 :: v2 :: v1 :: rest) :=
  jx_callS hX (n := 3) (As := [v1, v2, v3]) hM wm_621 wm_7 wm_619 wm_620 (by decide) rfl rfl (by decide) hd hlv hroom k
theorem cs_M_127 (hX : jx_Ok G X cc "PlaneCellsModel" ret nL lv) {v1 v2 v3 v4 : Value} {r : Int32} {w1 : va_W} (hM : jx_M (jx_l X) y_M_signAt b_M_signAt 20 (some .int) 2 G [.ref (jx_ad G 18), v1, v2, v3, v4] (jr_w G S) (some (.int r), w1)) (hd : decode cc pc = .ok (.invokevirtual 127, 3)) (hlv : 2 < lv) (hroom : (rest.map fun v => v.category).sum ≤ 8) (k : jx_At G X fin w1 (pc + 3) L (.int r :: rest)) : jx_At G X fin (jr_w G S) pc L (v4 :: v3 :: v2 :: v1 :: .ref (jx_ad G 18) :: rest) :=
  jx_callV hX (n := 4) (As := [v1, v2, v3, v4]) hM wm_614 wm_7 wm_611 wm_613 ws_37 (by decide) 0 rfl rfl rfl rfl (by decide) hd hlv hroom k
theorem cs_M_131 (hX : jx_Ok G X cc "PlaneCellsModel" ret nL lv) {v1 v2 v3 v4 : Value} {r : Int32} {w1 : va_W} (hM : jx_M (jx_l X) y_M_signBehind b_M_signBehind 9 (some .int) 3 G [.ref (jx_ad G 18), v1, v2, v3, v4] (jr_w G S) (some (.int r), w1)) (hd : decode cc pc = .ok (.invokevirtual 131, 3)) (hlv : 3 < lv) (hroom : (rest.map fun v => v.category).sum ≤ 8) (k : jx_At G X fin w1 (pc + 3) L (.int r :: rest)) : jx_At G X fin (jr_w G S) pc L (v4 :: v3 :: v2 :: v1 :: .ref (jx_ad G 18) :: rest) :=
  jx_callV hX (n := 4) (As := [v1, v2, v3, v4]) hM wm_645 wm_7 wm_642 wm_644 ws_43 (by decide) 0 rfl rfl rfl rfl (by decide) hd hlv hroom k
theorem cs_M_137 (hX : jx_Ok G X cc "PlaneCellsModel" ret nL lv) {v1 v2 v3 v4 v5 : Value} {r : Int32} {w1 : va_W} (hM : jx_M (jx_l X) y_M_against b_M_against 13 (some .int) 3 G [.ref (jx_ad G 18), v1, v2, v3, v4, v5] (jr_w G S) (some (.int r), w1)) (hd : decode cc pc = .ok (.invokevirtual 137, 3)) (hlv : 3 < lv) (hroom : (rest.map fun v => v.category).sum ≤ 8) (k : jx_At G X fin w1 (pc + 3) L (.int r :: rest)) : jx_At G X fin (jr_w G S) pc L (v5 :: v4 :: v3 :: v2 :: v1 :: .ref (jx_ad G 18) :: rest) :=
  jx_callV hX (n := 5) (As := [v1, v2, v3, v4, v5]) hM wm_610 wm_7 wm_607 wm_609 ws_36 (by decide) 0 rfl rfl rfl rfl (by decide) hd hlv hroom k
theorem cs_M_141 (hX : jx_Ok G X cc "PlaneCellsModel" ret nL lv) {v1 v2 v3 v4 : Value} {w1 : va_W} (hM : jx_M (jx_l X) y_M_addRoot b_M_addRoot 11 none 4 G [.ref (jx_ad G 18), v1, v2, v3, v4] (jr_w G S) (none, w1)) (hd : decode cc pc = .ok (.invokevirtual 141, 3)) (hlv : 4 < lv) (hroom : (rest.map fun v => v.category).sum ≤ 8) (k : jx_At G X fin w1 (pc + 3) L rest) : jx_At G X fin (jr_w G S) pc L (v4 :: v3 :: v2 :: v1 :: .ref (jx_ad G 18) :: rest) :=
  jx_callV hX (n := 4) (As := [v1, v2, v3, v4]) hM wm_606 wm_7 wm_603 wm_605 ws_35 (by decide) 0 rfl rfl rfl rfl (by decide) hd hlv hroom k
theorem cs_M_145 (hX : jx_Ok G X cc "PlaneCellsModel" ret nL lv) {v1 v2 v3 v4 : Value} {r : Int64} {w1 : va_W} (hM : jx_M (jx_l X) y_M_cross b_M_cross 5 (some .long) 0 G [.ref (jx_ad G 18), v1, v2, v3, v4] (jr_w G S) (some (.long r), w1)) (hd : decode cc pc = .ok (.invokevirtual 145, 3)) (hlv : 0 < lv) (hroom : (rest.map fun v => v.category).sum ≤ 8) (k : jx_At G X fin w1 (pc + 3) L (.long r :: rest)) : jx_At G X fin (jr_w G S) pc L (v4 :: v3 :: v2 :: v1 :: .ref (jx_ad G 18) :: rest) :=
  jx_callV hX (n := 4) (As := [v1, v2, v3, v4]) hM wm_629 wm_7 wm_626 wm_628 ws_39 (by decide) 0 rfl rfl rfl rfl (by decide) hd hlv hroom k
theorem cs_M_149 (hX : jx_Ok G X cc "PlaneCellsModel" ret nL lv) {v1 v2 v3 : Value} {w1 : va_W} (hM : jx_M (jx_l X) y_M_addRoots b_M_addRoots 14 none 5 G [.ref (jx_ad G 18), v1, v2, v3] (jr_w G S) (none, w1)) (hd : decode cc pc = .ok (.invokevirtual 149, 3)) (hlv : 5 < lv) (hroom : (rest.map fun v => v.category).sum ≤ 8) (k : jx_At G X fin w1 (pc + 3) L rest) : jx_At G X fin (jr_w G S) pc L (v3 :: v2 :: v1 :: .ref (jx_ad G 18) :: rest) :=
  jx_callV hX (n := 3) (As := [v1, v2, v3]) hM wm_601 wm_7 wm_598 wm_600 ws_34 (by decide) 0 rfl rfl rfl rfl (by decide) hd hlv hroom k
theorem cs_M_153 (hX : jx_Ok G X cc "PlaneCellsModel" ret nL lv) {v1 v2 v3 : Value} {r : Int64} {w1 : va_W} (hM : jx_M (jx_l X) y_M_mixed b_M_mixed 4 (some .long) 1 G [.ref (jx_ad G 18), v1, v2, v3] (jr_w G S) (some (.long r), w1)) (hd : decode cc pc = .ok (.invokevirtual 153, 3)) (hlv : 1 < lv) (hroom : (rest.map fun v => v.category).sum ≤ 8) (k : jx_At G X fin w1 (pc + 3) L (.long r :: rest)) : jx_At G X fin (jr_w G S) pc L (v3 :: v2 :: v1 :: .ref (jx_ad G 18) :: rest) :=
  jx_callV hX (n := 3) (As := [v1, v2, v3]) hM wm_625 wm_7 wm_622 wm_624 ws_38 (by decide) 0 rfl rfl rfl rfl (by decide) hd hlv hroom k
theorem cs_M_157 (hX : jx_Ok G X cc "PlaneCellsModel" ret nL lv) {v1 v2 v3 v4 : Value} {r : Int32} {w1 : va_W} (hM : jx_M (jx_l X) y_M_signIn b_M_signIn 8 (some .int) 4 G [.ref (jx_ad G 18), v1, v2, v3, v4] (jr_w G S) (some (.int r), w1)) (hd : decode cc pc = .ok (.invokevirtual 157, 3)) (hlv : 4 < lv) (hroom : (rest.map fun v => v.category).sum ≤ 8) (k : jx_At G X fin w1 (pc + 3) L (.int r :: rest)) : jx_At G X fin (jr_w G S) pc L (v4 :: v3 :: v2 :: v1 :: .ref (jx_ad G 18) :: rest) :=
  jx_callV hX (n := 4) (As := [v1, v2, v3, v4]) hM wm_641 wm_7 wm_638 wm_640 ws_42 (by decide) 0 rfl rfl rfl rfl (by decide) hd hlv hroom k
theorem cs_M_163 (hX : jx_Ok G X cc "PlaneCellsModel" ret nL lv) {v1 v2 v3 : Value} {r : Int32} {w1 : va_W} (hM : jx_M (jx_l X) y_M_compareY b_M_compareY 4 (some .int) 5 G [.ref (jx_ad G 18), v1, v2, v3] (jr_w G S) (some (.int r), w1)) (hd : decode cc pc = .ok (.invokevirtual 163, 3)) (hlv : 5 < lv) (hroom : (rest.map fun v => v.category).sum ≤ 8) (k : jx_At G X fin w1 (pc + 3) L (.int r :: rest)) : jx_At G X fin (jr_w G S) pc L (v3 :: v2 :: v1 :: .ref (jx_ad G 18) :: rest) :=
  jx_callV hX (n := 3) (As := [v1, v2, v3]) hM wm_649 wm_7 wm_646 wm_648 ws_44 (by decide) 0 rfl rfl rfl rfl (by decide) hd hlv hroom k
theorem cs_M_166 (hX : jx_Ok G X cc "PlaneCellsModel" ret nL lv) {v1 v2 : Value} {r : Int32} {w1 : va_W} (hM : jx_M (jx_l X) y_M_isFirst b_M_isFirst 5 (some .boolean) 6 G [.ref (jx_ad G 18), v1, v2] (jr_w G S) (some (.int r), w1)) (hd : decode cc pc = .ok (.invokevirtual 166, 3)) (hlv : 6 < lv) (hroom : (rest.map fun v => v.category).sum ≤ 8) (k : jx_At G X fin w1 (pc + 3) L (.int r :: rest)) : jx_At G X fin (jr_w G S) pc L (v2 :: v1 :: .ref (jx_ad G 18) :: rest) :=
  jx_callV hX (n := 2) (As := [v1, v2]) hM wm_653 wm_7 wm_650 wm_652 ws_45 (by decide) 0 rfl rfl rfl rfl (by decide) hd hlv hroom k
theorem cs_M_169 (hX : jx_Ok G X cc "PlaneCellsModel" ret nL lv) {v1 : Value} {w1 : va_W} (hM : jx_M (jx_l X) y_M_look b_M_look 5 none 7 G [.ref (jx_ad G 18), v1] (jr_w G S) (none, w1)) (hd : decode cc pc = .ok (.invokevirtual 169, 3)) (hlv : 7 < lv) (hroom : (rest.map fun v => v.category).sum ≤ 8) (k : jx_At G X fin w1 (pc + 3) L rest) : jx_At G X fin (jr_w G S) pc L (v1 :: .ref (jx_ad G 18) :: rest) :=
  jx_callV hX (n := 1) (As := [v1]) hM wm_637 wm_7 wm_634 wm_636 ws_41 (by decide) 0 rfl rfl rfl rfl (by decide) hd hlv hroom k
theorem cs_M_172 (hX : jx_Ok G X cc "PlaneCellsModel" ret nL lv) {v1 v2 v3 : Value} {r : Int32} {w1 : va_W} (hM : jx_M (jx_l X) y_M_signOfCell b_M_signOfCell 5 (some .int) 8 G [.ref (jx_ad G 18), v1, v2, v3] (jr_w G S) (some (.int r), w1)) (hd : decode cc pc = .ok (.invokevirtual 172, 3)) (hlv : 8 < lv) (hroom : (rest.map fun v => v.category).sum ≤ 8) (k : jx_At G X fin w1 (pc + 3) L (.int r :: rest)) : jx_At G X fin (jr_w G S) pc L (v3 :: v2 :: v1 :: .ref (jx_ad G 18) :: rest) :=
  jx_callV hX (n := 3) (As := [v1, v2, v3]) hM wm_661 wm_7 wm_658 wm_660 ws_47 (by decide) 0 rfl rfl rfl rfl (by decide) hd hlv hroom k
theorem cs_M_175 (hX : jx_Ok G X cc "PlaneCellsModel" ret nL lv) {v1 v2 : Value} {r : Int32} {w1 : va_W} (hM : jx_M (jx_l X) y_M_formulaIn b_M_formulaIn 7 (some .boolean) 9 G [.ref (jx_ad G 18), v1, v2] (jr_w G S) (some (.int r), w1)) (hd : decode cc pc = .ok (.invokevirtual 175, 3)) (hlv : 9 < lv) (hroom : (rest.map fun v => v.category).sum ≤ 8) (k : jx_At G X fin w1 (pc + 3) L (.int r :: rest)) : jx_At G X fin (jr_w G S) pc L (v2 :: v1 :: .ref (jx_ad G 18) :: rest) :=
  jx_callV hX (n := 2) (As := [v1, v2]) hM wm_657 wm_7 wm_654 wm_656 ws_46 (by decide) 0 rfl rfl rfl rfl (by decide) hd hlv hroom k
theorem cs_M_185 (hX : jx_Ok G X cc "PlaneCellsModel" ret nL lv) {w1 : va_W} (hM : jx_M (jx_l X) y_M_takeText b_M_takeText 2 none 0 G [.ref (jx_ad G 18)] (jr_w G S) (none, w1)) (hd : decode cc pc = .ok (.invokevirtual 185, 3)) (hlv : 0 < lv) (hroom : (rest.map fun v => v.category).sum ≤ 8) (k : jx_At G X fin w1 (pc + 3) L rest) : jx_At G X fin (jr_w G S) pc L (.ref (jx_ad G 18) :: rest) :=
  jx_callV hX (n := 0) (As := []) hM wm_534 wm_7 wm_531 wm_533 ws_21 (by decide) 0 rfl rfl rfl rfl (by decide) hd hlv hroom k
theorem cs_M_188 (hX : jx_Ok G X cc "PlaneCellsModel" ret nL lv) {v1 v2 : Value} {r : Int32} {w1 : va_W} (hM : jx_M (jx_l X) y_M_wrong b_M_wrong 3 (some .int) 0 G [.ref (jx_ad G 18), v1, v2] (jr_w G S) (some (.int r), w1)) (hd : decode cc pc = .ok (.invokevirtual 188, 3)) (hlv : 0 < lv) (hroom : (rest.map fun v => v.category).sum ≤ 8) (k : jx_At G X fin w1 (pc + 3) L (.int r :: rest)) : jx_At G X fin (jr_w G S) pc L (v2 :: v1 :: .ref (jx_ad G 18) :: rest) :=
  jx_callV hX (n := 2) (As := [v1, v2]) hM wm_542 wm_7 wm_539 wm_541 ws_23 (by decide) 0 rfl rfl rfl rfl (by decide) hd hlv hroom k
theorem cs_M_191 (hX : jx_Ok G X cc "PlaneCellsModel" ret nL lv) {r : Int32} {w1 : va_W} (hM : jx_M (jx_l X) y_M_illAt b_M_illAt 4 (some .int) 4 G [.ref (jx_ad G 18)] (jr_w G S) (some (.int r), w1)) (hd : decode cc pc = .ok (.invokevirtual 191, 3)) (hlv : 4 < lv) (hroom : (rest.map fun v => v.category).sum ≤ 8) (k : jx_At G X fin w1 (pc + 3) L (.int r :: rest)) : jx_At G X fin (jr_w G S) pc L (.ref (jx_ad G 18) :: rest) :=
  jx_callV hX (n := 0) (As := []) hM wm_546 wm_7 wm_543 wm_545 ws_24 (by decide) 0 rfl rfl rfl rfl (by decide) hd hlv hroom k
theorem cs_M_195 (hX : jx_Ok G X cc "PlaneCellsModel" ret nL lv) {r : Int32} {w1 : va_W} (hM : jx_M (jx_l X) y_M_relations b_M_relations 1 (some .int) 1 G [.ref (jx_ad G 18)] (jr_w G S) (some (.int r), w1)) (hd : decode cc pc = .ok (.invokevirtual 195, 3)) (hlv : 1 < lv) (hroom : (rest.map fun v => v.category).sum ≤ 8) (k : jx_At G X fin w1 (pc + 3) L (.int r :: rest)) : jx_At G X fin (jr_w G S) pc L (.ref (jx_ad G 18) :: rest) :=
  jx_callV hX (n := 0) (As := []) hM wm_573 wm_7 wm_570 wm_572 ws_27 (by decide) 0 rfl rfl rfl rfl (by decide) hd hlv hroom k
theorem cs_M_201 (hX : jx_Ok G X cc "PlaneCellsModel" ret nL lv) {w1 : va_W} (hM : jx_M (jx_l X) y_M_readFormula b_M_readFormula 3 none 2 G [.ref (jx_ad G 18)] (jr_w G S) (none, w1)) (hd : decode cc pc = .ok (.invokevirtual 201, 3)) (hlv : 2 < lv) (hroom : (rest.map fun v => v.category).sum ≤ 8) (k : jx_At G X fin w1 (pc + 3) L rest) : jx_At G X fin (jr_w G S) pc L (.ref (jx_ad G 18) :: rest) :=
  jx_callV hX (n := 0) (As := []) hM wm_577 wm_7 wm_574 wm_576 ws_28 (by decide) 0 rfl rfl rfl rfl (by decide) hd hlv hroom k
theorem cs_M_204 (hX : jx_Ok G X cc "PlaneCellsModel" ret nL lv) {w1 : va_W} (hM : jx_M (jx_l X) y_M_findCriticals b_M_findCriticals 3 none 6 G [.ref (jx_ad G 18)] (jr_w G S) (none, w1)) (hd : decode cc pc = .ok (.invokevirtual 204, 3)) (hlv : 6 < lv) (hroom : (rest.map fun v => v.category).sum ≤ 8) (k : jx_At G X fin w1 (pc + 3) L rest) : jx_At G X fin (jr_w G S) pc L (.ref (jx_ad G 18) :: rest) :=
  jx_callV hX (n := 0) (As := []) hM wm_597 wm_7 wm_594 wm_596 ws_33 (by decide) 0 rfl rfl rfl rfl (by decide) hd hlv hroom k
theorem cs_M_207 (hX : jx_Ok G X cc "PlaneCellsModel" ret nL lv) {v1 : Value} {r : Int32} {w1 : va_W} (hM : jx_M (jx_l X) y_M_columnHolds b_M_columnHolds 6 (some .boolean) 10 G [.ref (jx_ad G 18), v1] (jr_w G S) (some (.int r), w1)) (hd : decode cc pc = .ok (.invokevirtual 207, 3)) (hlv : 10 < lv) (hroom : (rest.map fun v => v.category).sum ≤ 8) (k : jx_At G X fin w1 (pc + 3) L (.int r :: rest)) : jx_At G X fin (jr_w G S) pc L (v1 :: .ref (jx_ad G 18) :: rest) :=
  jx_callV hX (n := 1) (As := [v1]) hM wm_633 wm_7 wm_630 wm_632 ws_40 (by decide) 0 rfl rfl rfl rfl (by decide) hd hlv hroom k
theorem cs_M_210 (hX : jx_Ok G X cc "PlaneCellsModel" ret nL lv) {v1 : Value} {r : Int32} {w1 : va_W} (hM : jx_M (jx_l X) y_M_isColumn b_M_isColumn 2 (some .boolean) 0 G [.ref (jx_ad G 18), v1] (jr_w G S) (some (.int r), w1)) (hd : decode cc pc = .ok (.invokevirtual 210, 3)) (hlv : 0 < lv) (hroom : (rest.map fun v => v.category).sum ≤ 8) (k : jx_At G X fin w1 (pc + 3) L (.int r :: rest)) : jx_At G X fin (jr_w G S) pc L (v1 :: .ref (jx_ad G 18) :: rest) :=
  jx_callV hX (n := 1) (As := [v1]) hM wm_685 wm_7 wm_682 wm_684 ws_48 (by decide) 0 rfl rfl rfl rfl (by decide) hd hlv hroom k
theorem cs_M_213 (hX : jx_Ok G X cc "PlaneCellsModel" ret nL lv) {v1 v2 : Value} {r : Int32} {w1 : va_W} (hM : jx_M (jx_l X) y_M_isCell b_M_isCell 3 (some .boolean) 8 G [.ref (jx_ad G 18), v1, v2] (jr_w G S) (some (.int r), w1)) (hd : decode cc pc = .ok (.invokevirtual 213, 3)) (hlv : 8 < lv) (hroom : (rest.map fun v => v.category).sum ≤ 8) (k : jx_At G X fin w1 (pc + 3) L (.int r :: rest)) : jx_At G X fin (jr_w G S) pc L (v2 :: v1 :: .ref (jx_ad G 18) :: rest) :=
  jx_callV hX (n := 2) (As := [v1, v2]) hM wm_693 wm_7 wm_690 wm_692 ws_49 (by decide) 0 rfl rfl rfl rfl (by decide) hd hlv hroom k
end CR
