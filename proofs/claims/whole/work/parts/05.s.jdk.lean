abbrev b_JI : ByteArray := prog_9_method_56_code
def y_JI : MethodName := ⟨"java/lang/Integer", "signum", "(I)I"⟩
abbrev b_JL : ByteArray := prog_10_method_57_code
def y_JL : MethodName := ⟨"java/lang/Long", "signum", "(J)I"⟩
theorem d_JI_0 : decode b_JI 0 = .ok (.iload_n 0, 1) := by decide +kernel
theorem d_JI_1 : decode b_JI 1 = .ok (.bipush 31, 2) := by decide +kernel
theorem d_JI_3 : decode b_JI 3 = .ok (.ishr, 1) := by decide +kernel
theorem d_JI_4 : decode b_JI 4 = .ok (.iload_n 0, 1) := by decide +kernel
theorem d_JI_5 : decode b_JI 5 = .ok (.ineg, 1) := by decide +kernel
theorem d_JI_6 : decode b_JI 6 = .ok (.bipush 31, 2) := by decide +kernel
theorem d_JI_8 : decode b_JI 8 = .ok (.iushr, 1) := by decide +kernel
theorem d_JI_9 : decode b_JI 9 = .ok (.ior, 1) := by decide +kernel
theorem d_JI_10 : decode b_JI 10 = .ok (.ireturn, 1) := by decide +kernel
theorem d_JL_0 : decode b_JL 0 = .ok (.lload_n 0, 1) := by decide +kernel
theorem d_JL_1 : decode b_JL 1 = .ok (.bipush 63, 2) := by decide +kernel
theorem d_JL_3 : decode b_JL 3 = .ok (.lshr, 1) := by decide +kernel
theorem d_JL_4 : decode b_JL 4 = .ok (.lload_n 0, 1) := by decide +kernel
theorem d_JL_5 : decode b_JL 5 = .ok (.lneg, 1) := by decide +kernel
theorem d_JL_6 : decode b_JL 6 = .ok (.bipush 63, 2) := by decide +kernel
theorem d_JL_8 : decode b_JL 8 = .ok (.lushr, 1) := by decide +kernel
theorem d_JL_9 : decode b_JL 9 = .ok (.lor, 1) := by decide +kernel
theorem d_JL_10 : decode b_JL 10 = .ok (.l2i, 1) := by decide +kernel
theorem d_JL_11 : decode b_JL 11 = .ok (.ireturn, 1) := by decide +kernel
theorem c_JI (l : Launch) (G : jx_G) (w : va_W) (x : Int32) : jx_M l y_JI b_JI 1 (some .int) 0 G [.int x] w (some (.int (jx_si x)), w) := by
  refine jx_met (own := "java/lang/Integer") (by decide) rfl (Nat.le_of_ble_eq_true rfl) (fun X hX hl => ?_)
  refine jx_L (L2 := [(0, .int x)]) rfl ?_
  refine jx_iload_n hX d_JI_0 0 rfl rfl ?_
  refine jx_bipush (v := 31) hX d_JI_1 (by decide) ?_
  refine jx_ishr hX d_JI_3 ?_
  refine jx_iload_n hX d_JI_4 0 rfl rfl ?_
  refine jx_ineg hX d_JI_5 ?_
  refine jx_bipush (v := 31) hX d_JI_6 (by decide) ?_
  refine jx_iushr hX d_JI_8 rfl ?_
  refine jx_ior hX d_JI_9 ?_
  exact jx_iret hX d_JI_10
theorem c_JL (l : Launch) (G : jx_G) (w : va_W) (x : Int64) : jx_M l y_JL b_JL 2 (some .int) 0 G [.long x] w (some (.int (jx_sl x)), w) := by
  refine jx_met (own := "java/lang/Long") (by decide) rfl (Nat.le_of_ble_eq_true rfl) (fun X hX hl => ?_)
  refine jx_L (L2 := [(0, .long x)]) rfl ?_
  refine jx_lload_n hX d_JL_0 0 rfl rfl ?_
  refine jx_bipush (v := 63) hX d_JL_1 (by decide) ?_
  refine jx_lshr hX d_JL_3 rfl ?_
  refine jx_lload_n hX d_JL_4 0 rfl rfl ?_
  refine jx_lneg hX d_JL_5 ?_
  refine jx_bipush (v := 63) hX d_JL_6 (by decide) ?_
  refine jx_lushr hX d_JL_8 rfl ?_
  refine jx_lor hX d_JL_9 ?_
  refine jx_l2i hX d_JL_10 rfl ?_
  exact jx_iret hX d_JL_11
section JS
variable {G : jx_G} {X : jx_C} {cc : ByteArray} {own : String} {ret : Option FieldType} {nL lv : Nat} {fin : Option Value × va_W} {w : va_W} {pc : Nat} {L : List (Nat × Value)} {st : List Value} {S : jx_S}
theorem jx_si_r (hX : jx_Ok G X cc own ret nL lv) {index : Nat} {x : Int32} (hlink : Cond.methodLink own index y_JI ∈ jx_W) (hd : decode cc pc = .ok (.invokestatic index, 3)) (hr : (st.map fun v => v.category).sum ≤ 8) (hlv : 0 < lv) (k : jx_At G X fin w (pc + 3) L (.int (jx_si x) :: st)) : jx_At G X fin w pc L (.int x :: st) :=
  jx_callS hX (n := 1) (As := [.int x]) (c_JI (jx_l X) G w x) jw_JIC jw_JII hlink jw_JIS (by decide) rfl rfl (by decide) hd hlv hr k
theorem jx_sl_r (hX : jx_Ok G X cc own ret nL lv) {index : Nat} {x : Int64} (hlink : Cond.methodLink own index y_JL ∈ jx_W) (hd : decode cc pc = .ok (.invokestatic index, 3)) (hr : (st.map fun v => v.category).sum ≤ 8) (hlv : 0 < lv) (k : jx_At G X fin w (pc + 3) L (.int (jx_sl x) :: st)) : jx_At G X fin w pc L (.long x :: st) :=
  jx_callS hX (n := 1) (As := [.long x]) (c_JL (jx_l X) G w x) jw_JLC jw_JLI hlink jw_JLS (by decide) rfl rfl (by decide) hd hlv hr k
theorem jx_copy (hX : jx_Ok G X cc own ret nL lv) {index : Nat} (hlink : Cond.methodLink own index arraycopyName ∈ jx_W) (q0 q1 : Nat) {a0 a1 n0 n1 : Nat} {f g : Nat → Int32} (h0 : w[q0]? = some (a0, .inl (jx_ca G 0, n0, .inl f))) (h1 : w[q1]? = some (a1, .inl (jx_ca G 0, n1, .inl g))) {sp dp n : Int32} (hg : jx_ck sp dp n n0 n1 = true) (hr : (st.map fun v => v.category).sum ≤ 8) (hlv : 0 < lv) {w2 : va_W} (hw : w.set q1 (a1, .inl (jx_ca G 0, n1, .inl (va_cpy f g sp.toNatClampNeg dp.toNatClampNeg n.toNatClampNeg))) = w2) (hd : decode cc pc = .ok (.invokestatic index, 3)) (k : jx_At G X fin w2 (pc + 3) L st) : jx_At G X fin w pc L (.int n :: .int dp :: .ref a1 :: .int sp :: .ref a0 :: st) :=
  fun H locs ls hP hD hS hl => by
    have hg := of_decide_eq_true hg
    refine va_copyi hX.1 hX.2.1 hl.1.symm hX.2.2.2.1 (hX.2.2.2.2.1 _ hlink) (hX.2.2.2.2.1 _ jw_acN) (hX.2.2.2.2.1 _ jw_acS) (hX.2.2.2.2.1 _ jw_acI) hX.2.2.2.2.2.1 hP hD hS q0 q1 0 0 h0 h1 rfl rfl rfl hg.1 hg.2.1 hg.2.2.1 hg.2.2.2.1 hg.2.2.2.2 (fun _ _ => rfl) (by rw [hX.2.2.2.2.2.2.2.2.2.2]; exact hlv) ?_ hd (fun H1 locs1 hP hD hS => k H1 locs1 ls (by rw [hw] at hP; exact hP) (by rw [hw] at hD; exact hD) hS hl)
    rw [hX.2.2.2.2.2.2.2.2.2.2]
    have e : nativeFrameWords "java/lang/System" "arraycopy" 5 + 11 ≤ 40 := by decide
    simp only [jx_rm]
    omega
theorem ac_5_0 (hX : jx_Ok G X cc "PlaneCells$Sentence" ret nL lv) {sp dp n : Int32} (hd : decode cc pc = .ok (.invokestatic 29, 3)) (hg : jx_ck sp dp n 4 32 = true) (hr : (st.map fun v => v.category).sum ≤ 8) (hlv : 0 < lv) (k : jx_At G X fin (jx_w G (jx_g S 0 (va_cpy (S.2.1 5) (S.2.1 0) sp.toNatClampNeg dp.toNatClampNeg n.toNatClampNeg))) (pc + 3) L st) : jx_At G X fin (jx_w G S) pc L (.int n :: .int dp :: .ref (jx_ad G 6) :: .int sp :: .ref (jx_ad G 11) :: st) :=
  jx_copy hX jw_acL 11 6 rfl rfl hg hr hlv (w2 := jx_w G (jx_g S 0 (va_cpy (S.2.1 5) (S.2.1 0) sp.toNatClampNeg dp.toNatClampNeg n.toNatClampNeg))) rfl hd k
end JS

