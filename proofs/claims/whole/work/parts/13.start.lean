/-! THE CLAIM OUT OF ONE WALK OF THE LAW'S BODY. Your part is whole_start (and what it stands on); all else here is the same for every law, but numbers. -/
def R_law : String := "PlaneCellsLaw"
def lw_P (b : Addr) (xs : List Int32) (args : Array Value) (s : State) : Prop := args = #[.ref b] ∧ s.IntsAt b xs ∧ xs.length ≤ 2048 ∧ (Jvm.Cond.and given_1 narrow_1).before args s = true
def lw_Q (_ : Array Value) (s : State) (o : Outcome) (t : State) : Prop := o = .returned (some (.int 1)) ∧ Framed s o t [] 32 1391
def lw_Z (below : List Frame) (a : Array Value) (s : State) : State → Prop := fun t => ∃ o, t.status = .running ∧ Ended t below o ∧ lw_Q a s o t
/-- the law's own end, with 1 on the stack, nothing written that was there before, its room as the claim has it -/
theorem lw_ret {p : Program} {l : Launch} {e : Env} {s : State} {m : MethodId} {below : List Frame} {meth : Method} {c : Code} {b : Nat} (hx : p.tables.exec = Jvm.exec) (hb : c.code = code) (hr : meth.sig.returnType = ret) (hlocks : meth.locks = false) {pc : Nat} {H : Heap} {ls : Array Slot} (hdg : decode code pc = .ok (.ireturn, 1)) : W p l e room_1 s m #[Value.ref b] below meth c H [] 32 1391 (lw_Z below #[Value.ref b] s) (F0 m pc ls [.int 1]) := by
  intro T hT X
  obtain ⟨fs, hret, hrun, hended, hW, hframe⟩ := X.leave (v := some (.int 1)) (hlocks := hlocks) (fun h => by rw [hr] at h; cases h)
  have hmeth' : T.vm.method? m = some meth := X.method'
  refine ⟨T.setFrames fs, ?_, .returned (some (.int 1)), hrun, hended, rfl, ⟨_, rfl⟩, hW, hframe⟩
  jvm_step X.here [X.here.top, hx, hb, hdg, hmeth', hr, ret, narrow_b1]
  (try refine ⟨rfl, ?_⟩); (try refine ⟨rfl, ?_⟩)
  first | (intro acts; rw [hret _ acts rfl rfl rfl]) | rw [hret _ _ rfl rfl rfl]
  exact Steps.refl _
/-- what holds at the law's entry: the machine, the code, the tables' words (any of lw_tbl by 'hts w (by decide +kernel)'), the script of L ints xs at the cell b, what the Statement gives of the start (any of its parts by flat_of_before) -/
def lw_At (p : Program) (s : State) (m : MethodId) (meth : Method) (c : Code) (b L : Nat) (xs : Nat → Int32) : Prop :=
  p.tables.exec = Jvm.exec ∧ c.code = code ∧ meth.sig.returnType = ret ∧ c.maxLocals = 4 ∧ s.vm.findClass R_law = some m.cls ∧ (∀ w ∈ lw_tbl, w.before #[Value.ref b] s = true) ∧ va_X b L xs s s.heap ∧ b < s.heap.size ∧ meth.locks = false ∧ (Jvm.Cond.and given_1 narrow_1).before #[Value.ref b] s = true

theorem jl_K {s : State} {args : Array Value} (hW : ∀ w ∈ jx_W, w.before args s = true) : ∃ (D : va_G) (ca : Nat → ClassId), va_K D jx_cl [(ca 0, .int), (ca 1, .char), (ca 2, .boolean), (ca 3, .long)] s := by
  obtain ⟨c0, i0, h0⟩ := u_known (N := 6) hW jn_in_P (hW _ wm_13)
  obtain ⟨c1, i1, h1⟩ := u_known (N := 7) hW jn_in_S (hW _ wm_21)
  obtain ⟨c2, i2, h2⟩ := u_known (N := 9) hW jn_in_R (hW _ wm_57)
  obtain ⟨c3, i3, h3⟩ := u_known (N := 7) hW jn_in_Q (hW _ wm_92)
  obtain ⟨c4, i4, h4⟩ := u_known (N := 4) hW jn_in_C (hW _ wm_98)
  obtain ⟨c5, i5, h5⟩ := u_known (N := 3) hW jn_in_F (hW _ wm_118)
  obtain ⟨c6, i6, h6⟩ := u_known (N := 25) hW jn_in_M (hW _ wm_440)
  obtain ⟨a0, k0, m0, e0, f0, g0⟩ := Cond.arrayClass_spec (hW _ jw_ari)
  obtain ⟨a1, k1, m1, e1, f1, g1⟩ := Cond.arrayClass_spec (hW _ jw_arc)
  obtain ⟨a2, k2, m2, e2, f2, g2⟩ := Cond.arrayClass_spec (hW _ jw_arz)
  obtain ⟨a3, k3, m3, e3, f3, g3⟩ := Cond.arrayClass_spec (hW _ jw_arj)
  refine ⟨(fun k => match k with | 0 => c0 | 1 => c1 | 2 => c2 | 3 => c3 | 4 => c4 | 5 => c5 | _ => c6, fun k => match k with | 0 => i0 | 1 => i1 | 2 => i2 | 3 => i3 | 4 => i4 | 5 => i5 | _ => i6), fun k => match k with | 0 => a0 | 1 => a1 | 2 => a2 | _ => a3, fun c q hq => ?_, fun k q hq => ?_⟩
  · have hc : c < 7 := (List.getElem?_eq_some_iff.mp hq).1
    rcases (show c = 0 ∨ c = 1 ∨ c = 2 ∨ c = 3 ∨ c = 4 ∨ c = 5 ∨ c = 6 by omega) with rfl | rfl | rfl | rfl | rfl | rfl | rfl
    · have e := Option.some.inj hq
      subst e
      exact h0
    · have e := Option.some.inj hq
      subst e
      exact h1
    · have e := Option.some.inj hq
      subst e
      exact h2
    · have e := Option.some.inj hq
      subst e
      exact h3
    · have e := Option.some.inj hq
      subst e
      exact h4
    · have e := Option.some.inj hq
      subst e
      exact h5
    · have e := Option.some.inj hq
      subst e
      exact h6
  · have hc : k < 4 := (List.getElem?_eq_some_iff.mp hq).1
    rcases (show k = 0 ∨ k = 1 ∨ k = 2 ∨ k = 3 by omega) with rfl | rfl | rfl | rfl
    · have e := Option.some.inj hq
      subst e
      exact ⟨fun n z => ⟨fun k h => (by cases h), k0, f0, m0, g0⟩, e0⟩
    · have e := Option.some.inj hq
      subst e
      exact ⟨fun n z => ⟨fun k h => (by cases h), k1, f1, m1, g1⟩, e1⟩
    · have e := Option.some.inj hq
      subst e
      exact ⟨fun n z => ⟨fun k h => (by cases h), k2, f2, m2, g2⟩, e2⟩
    · have e := Option.some.inj hq
      subst e
      exact ⟨fun n z => ⟨fun k h => (by cases h), k3, f3, m3, g3⟩, e3⟩
set_option maxHeartbeats 4000000 in
set_option maxRecDepth 100000 in
/-- from the entry, for every script of at most 2048 ints, the law comes to its end with true, if a relation of the two states is given that the calls keep -/
theorem whole_start_open {Rel : jx_S → jx_S → Prop} (HR : jz_Good Rel) {p : Program} {e : Env} {s : State} {m : MethodId} {below : List Frame} {meth : Method} {c : Code} (l : Launch) {b L : Nat} {xs : Nat → Int32} (hL : L ≤ 2048) (C0 : lw_At p s m meth c b L xs) : W p l e room_1 s m #[Value.ref b] below meth c s.heap [] 0 0 (lw_Z below #[Value.ref b] s) (entryFrame m ([Value.ref b] : List Value).toArray 4) := by
  obtain ⟨hx, hbc, hret, hml, hown, hts, hXs, hbl, hlocks, hgv⟩ := C0
  have hW : ∀ w ∈ jx_W, w.before #[Value.ref b] s = true := fun w hw => hts w (List.mem_filter.mp hw).1
  obtain ⟨D, ca, hK⟩ := jl_K hW
  have hZ : ∀ w ∈ jx_Z, va_Nw w s := by
    intro w hw
    obtain ⟨h1, h2⟩ := List.mem_filter.mp hw
    have h3 := hts w h1
    cases w <;> first | (simp [jx_isN] at h2; done) | exact va_Nw.of rfl h3
  rw [lg_entry_eq]
  have hl := lv_entry [Value.ref b] (n := 4) (Nat.le_of_ble_eq_true rfl)
  obtain ⟨X, hXe⟩ : ∃ X : jx_C, X = (p, l, e, room_1, s, m, #[Value.ref b], below, meth, c, fun q => s.heap.size ≤ q) := ⟨_, rfl⟩
  have hX : jc_Ok (D, ca, fun _ => 0) X code "PlaneCellsLaw" 4 room_1 := by
    subst hXe
    exact ⟨hx, hbc, hml, hown, hW, hK, hZ, fun q h => h, rfl⟩
  have hend : ∀ w L, jc_At (D, ca, fun _ => 0) X (lw_Z below #[Value.ref b] s) 32 1391 w 391 L [.int 1] := by
    subst hXe
    intro w L H locs ls hP hD hS hl
    exact va_forget (fun q hq => hS.2.2 q hq) (lw_ret hx hbc hret hlocks d_L_391)
  have hbl2 : b < (jx_s X).heap.size := by subst hXe; exact hbl
  have hbA : ¬ jx_A X b := by subst hXe; exact Nat.not_le.mpr hbl
  have hXs2 : va_X b L xs (jx_s X) (jx_s X).heap := by subst hXe; exact hXs
  have go : ∀ (ad : Nat → Nat) (w : va_W) (a1 a2 : Nat), ad 0 = a1 → ad 18 = a2 → ([0, 1, 5, 9, 10, 14, 2, 3, 4, 6, 7, 8, 11, 12, 13, 15, 16, 17, 18, 19, 20, 21, 22, 23, 24, 25, 26, 27, 28, 29, 30, 31] : List Nat).map (fun i => w[i]?) = (jx_w (D, ca, ad) jz_S0 ++ jr_w (D, ca, ad) jz_T0).map some → ([0, 1, 5, 9, 10, 14, 2, 3, 4, 6, 7, 8, 11, 12, 13, 15, 16, 17, 18, 19, 20, 21, 22, 23, 24, 25, 26, 27, 28, 29, 30, 31] : List Nat).filterMap (fun i => w[i]?) = jx_w (D, ca, ad) jz_S0 ++ jr_w (D, ca, ad) jz_T0 → jc_At (D, ca, fun _ => 0) X (lw_Z below #[Value.ref b] s) 32 1391 w 18 [(3, .int 0), (2, .ref a2), (1, .ref a1), (0, .ref b)] [] := by
    intro ad w a1 a2 h1 h2 h3 h4
    subst h1
    subst h2
    refine jc_sub (L2 := [(0, .ref b), (1, .ref (ad 0)), (2, .ref (ad 18)), (3, .int (nI (4 * 0)))]) [3, 2, 1, 0] rfl ?_
    refine jc_perm (w2 := jx_w (D, ca, ad) jz_S0 ++ jr_w (D, ca, ad) jz_T0) [0, 1, 5, 9, 10, 14, 2, 3, 4, 6, 7, 8, 11, 12, 13, 15, 16, 17, 18, 19, 20, 21, 22, 23, 24, 25, 26, 27, 28, 29, 30, 31] (by decide) h3 h4 ?_
    exact jl_loop (G := (D, ca, ad)) HR hX hL hXs2 hbl2 hbA hend (L + 1) 0 jz_S0 jz_T0 (Nat.zero_le _) (by omega) HR.1
  have key : jc_At (D, ca, fun _ => 0) X (lw_Z below #[Value.ref b] s) 0 0 [] 0 [(0, .ref b)] [] := by
    refine jc_new (ci := 0) (fs := [.null, .null, .null, .int 0, .int 0, .int 0]) hX jn_in_P jn_t_P jn_tok_P wm_12 wm_13 wm_1 rfl (fun j hj => by rcases (show j = 0 ∨ j = 1 ∨ j = 2 ∨ j = 3 ∨ j = 4 ∨ j = 5 by omega) with rfl | rfl | rfl | rfl | rfl | rfl <;> rfl) (by decide) (by decide) d_L_0 (fun q0 => ?_)
    refine jc_dup hX d_L_3 rfl ?_
    refine jc_callI (n := 0) (wr := []) (As := []) hX (c_P_init (jx_l X) (D, ca, fun _ => 0) q0) wm_16 wm_1 wm_14 wm_15 rfl (by decide) rfl rfl d_L_4 (by decide) (by decide) (Nat.le_of_ble_eq_true rfl) (fun w1 hw => ?_)
    obtain ⟨q0_q5, q0_q5_q7, q0_q5_q15, q0_q5_q23, q0_q16, q0_q16_q7, q0_q16_q15, q0_q16_q22, q0_q31, q0_q31_q5, q0_q31_q5_q7, q0_q31_q5_q15, q0_q31_q5_q23, q0_q31_q16, q0_q31_q29, q0_q31_q37, q0_q31_q45, rfl⟩ := hw
    refine jc_w (w2 := [(q0, .inr (0, [.ref q0_q5, .ref q0_q16, .ref q0_q31, .int (-1), .int 0, .int (-1)])), (q0_q5, .inr (1, [.ref q0_q5_q7, .ref q0_q5_q15, .ref q0_q5_q23, .int 0, .int 0, .int 0, .int 0])), (q0_q5_q7, .inl (ca 0, 32, .inl (fun _ => 0))), (q0_q5_q15, .inl (ca 1, 8, .inl (fun _ => 0))), (q0_q5_q23, .inl (ca 0, 80, .inl (fun _ => 0))), (q0_q16, .inr (2, [.ref q0_q5, .ref q0_q16_q7, .ref q0_q16_q15, .ref q0_q16_q22, .int 0, .int 0, .int 0, .int 0, .int 0])), (q0_q16_q7, .inl (ca 1, 80, .inl (fun _ => 0))), (q0_q16_q15, .inl (ca 0, 80, .inl (fun _ => 0))), (q0_q16_q22, .inl (ca 0, 4, .inl (fun _ => 0))), (q0_q31, .inr (3, [.ref q0_q5, .ref q0_q31_q5, .ref q0_q31_q16, .ref q0_q31_q29, .ref q0_q31_q37, .ref q0_q31_q45, .int 0])), (q0_q31_q5, .inr (4, [.ref q0_q31_q5_q7, .ref q0_q31_q5_q15, .ref q0_q31_q5_q23, .int 0])), (q0_q31_q5_q7, .inl (ca 0, 72, .inl (fun _ => 0))), (q0_q31_q5_q15, .inl (ca 0, 72, .inl (fun _ => 0))), (q0_q31_q5_q23, .inl (ca 0, 72, .inl (fun _ => 0))), (q0_q31_q16, .inr (5, [.int 0, .int 0, .int 0])), (q0_q31_q29, .inl (ca 0, 8, .inl (fun _ => 0))), (q0_q31_q37, .inl (ca 0, 8, .inl (fun _ => 0))), (q0_q31_q45, .inl (ca 0, 8, .inl (fun _ => 0)))]) rfl ?_
    refine jc_astore_n hX d_L_7 rfl (by decide) (L2 := [(1, .ref q0), (0, .ref b)]) rfl ?_
    refine jc_new (ci := 6) (fs := [.int 0, .null, .int 0, .null, .int 0, .int 0, .int 0, .int 0, .null, .int 0, .null, .int 0, .null, .null, .int 0, .null, .null, .null, .null, .int 0, .int 0, .null, .null, .int 0, .null]) hX jn_in_M jn_t_M jn_tok_M wm_439 wm_440 wm_7 rfl (fun j hj => by rcases (show j = 0 ∨ j = 1 ∨ j = 2 ∨ j = 3 ∨ j = 4 ∨ j = 5 ∨ j = 6 ∨ j = 7 ∨ j = 8 ∨ j = 9 ∨ j = 10 ∨ j = 11 ∨ j = 12 ∨ j = 13 ∨ j = 14 ∨ j = 15 ∨ j = 16 ∨ j = 17 ∨ j = 18 ∨ j = 19 ∨ j = 20 ∨ j = 21 ∨ j = 22 ∨ j = 23 ∨ j = 24 by omega) with rfl | rfl | rfl | rfl | rfl | rfl | rfl | rfl | rfl | rfl | rfl | rfl | rfl | rfl | rfl | rfl | rfl | rfl | rfl | rfl | rfl | rfl | rfl | rfl | rfl <;> rfl) (by decide) (by decide) d_L_8 (fun q8 => ?_)
    refine jc_dup hX d_L_11 rfl ?_
    refine jc_callI (n := 0) (wr := [(q0, .inr (0, [.ref q0_q5, .ref q0_q16, .ref q0_q31, .int (-1), .int 0, .int (-1)])), (q0_q5, .inr (1, [.ref q0_q5_q7, .ref q0_q5_q15, .ref q0_q5_q23, .int 0, .int 0, .int 0, .int 0])), (q0_q5_q7, .inl (ca 0, 32, .inl (fun _ => 0))), (q0_q5_q15, .inl (ca 1, 8, .inl (fun _ => 0))), (q0_q5_q23, .inl (ca 0, 80, .inl (fun _ => 0))), (q0_q16, .inr (2, [.ref q0_q5, .ref q0_q16_q7, .ref q0_q16_q15, .ref q0_q16_q22, .int 0, .int 0, .int 0, .int 0, .int 0])), (q0_q16_q7, .inl (ca 1, 80, .inl (fun _ => 0))), (q0_q16_q15, .inl (ca 0, 80, .inl (fun _ => 0))), (q0_q16_q22, .inl (ca 0, 4, .inl (fun _ => 0))), (q0_q31, .inr (3, [.ref q0_q5, .ref q0_q31_q5, .ref q0_q31_q16, .ref q0_q31_q29, .ref q0_q31_q37, .ref q0_q31_q45, .int 0])), (q0_q31_q5, .inr (4, [.ref q0_q31_q5_q7, .ref q0_q31_q5_q15, .ref q0_q31_q5_q23, .int 0])), (q0_q31_q5_q7, .inl (ca 0, 72, .inl (fun _ => 0))), (q0_q31_q5_q15, .inl (ca 0, 72, .inl (fun _ => 0))), (q0_q31_q5_q23, .inl (ca 0, 72, .inl (fun _ => 0))), (q0_q31_q16, .inr (5, [.int 0, .int 0, .int 0])), (q0_q31_q29, .inl (ca 0, 8, .inl (fun _ => 0))), (q0_q31_q37, .inl (ca 0, 8, .inl (fun _ => 0))), (q0_q31_q45, .inl (ca 0, 8, .inl (fun _ => 0)))]) (As := []) hX (c_M_init (jx_l X) (D, ca, fun _ => 0) q8) wm_443 wm_7 wm_441 wm_442 rfl (by decide) rfl rfl d_L_12 (by decide) (by decide) (Nat.le_of_ble_eq_true rfl) (fun w1 hw => ?_)
    obtain ⟨q8_q7, q8_q15, q8_q28, q8_q36, q8_q44, q8_q52, q8_q60, q8_q68, q8_q76, q8_q84, q8_q97, q8_q105, q8_q113, rfl⟩ := hw
    refine jc_w (w2 := [(q0, .inr (0, [.ref q0_q5, .ref q0_q16, .ref q0_q31, .int (-1), .int 0, .int (-1)])), (q0_q5, .inr (1, [.ref q0_q5_q7, .ref q0_q5_q15, .ref q0_q5_q23, .int 0, .int 0, .int 0, .int 0])), (q0_q5_q7, .inl (ca 0, 32, .inl (fun _ => 0))), (q0_q5_q15, .inl (ca 1, 8, .inl (fun _ => 0))), (q0_q5_q23, .inl (ca 0, 80, .inl (fun _ => 0))), (q0_q16, .inr (2, [.ref q0_q5, .ref q0_q16_q7, .ref q0_q16_q15, .ref q0_q16_q22, .int 0, .int 0, .int 0, .int 0, .int 0])), (q0_q16_q7, .inl (ca 1, 80, .inl (fun _ => 0))), (q0_q16_q15, .inl (ca 0, 80, .inl (fun _ => 0))), (q0_q16_q22, .inl (ca 0, 4, .inl (fun _ => 0))), (q0_q31, .inr (3, [.ref q0_q5, .ref q0_q31_q5, .ref q0_q31_q16, .ref q0_q31_q29, .ref q0_q31_q37, .ref q0_q31_q45, .int 0])), (q0_q31_q5, .inr (4, [.ref q0_q31_q5_q7, .ref q0_q31_q5_q15, .ref q0_q31_q5_q23, .int 0])), (q0_q31_q5_q7, .inl (ca 0, 72, .inl (fun _ => 0))), (q0_q31_q5_q15, .inl (ca 0, 72, .inl (fun _ => 0))), (q0_q31_q5_q23, .inl (ca 0, 72, .inl (fun _ => 0))), (q0_q31_q16, .inr (5, [.int 0, .int 0, .int 0])), (q0_q31_q29, .inl (ca 0, 8, .inl (fun _ => 0))), (q0_q31_q37, .inl (ca 0, 8, .inl (fun _ => 0))), (q0_q31_q45, .inl (ca 0, 8, .inl (fun _ => 0))), (q8, .inr (6, [.int 0, .ref q8_q7, .int 0, .ref q8_q15, .int (-1), .int 0, .int 0, .int 0, .ref q8_q28, .int 0, .ref q8_q36, .int 0, .ref q8_q44, .ref q8_q52, .int 0, .ref q8_q60, .ref q8_q68, .ref q8_q76, .ref q8_q84, .int (-1), .int 0, .ref q8_q97, .ref q8_q105, .int 0, .ref q8_q113])), (q8_q7, .inl (ca 0, 80, .inl (fun _ => 0))), (q8_q15, .inl (ca 0, 80, .inl (fun _ => 0))), (q8_q28, .inl (ca 0, 32, .inl (fun _ => 0))), (q8_q36, .inl (ca 0, 90, .inl (fun _ => 0))), (q8_q44, .inl (ca 0, 90, .inl (fun _ => 0))), (q8_q52, .inl (ca 2, 90, .inl (fun _ => 0))), (q8_q60, .inl (ca 3, 80, .inr (.inl (fun _ => 0)))), (q8_q68, .inl (ca 3, 80, .inr (.inl (fun _ => 0)))), (q8_q76, .inl (ca 3, 80, .inr (.inl (fun _ => 0)))), (q8_q84, .inl (ca 0, 80, .inl (fun _ => 0))), (q8_q97, .inl (ca 0, 8, .inl (fun _ => 0))), (q8_q105, .inl (ca 0, 8, .inl (fun _ => 0))), (q8_q113, .inl (ca 0, 8, .inl (fun _ => 0)))]) rfl ?_
    refine jc_astore_n hX d_L_15 rfl (by decide) (L2 := [(2, .ref q8), (1, .ref q0), (0, .ref b)]) rfl ?_
    refine jc_iconst (v := 0) hX d_L_16 (by decide) ?_
    refine jc_istore_n hX d_L_17 rfl (by decide) (L2 := [(3, .int 0), (2, .ref q8), (1, .ref q0), (0, .ref b)]) rfl ?_
    exact go (fun k => match k with | 0 => q0 | 1 => q0_q5 | 2 => q0_q16 | 3 => q0_q31 | 4 => q0_q31_q5 | 5 => q0_q31_q16 | 6 => q0_q5_q7 | 7 => q0_q5_q15 | 8 => q0_q5_q23 | 9 => q0_q16_q7 | 10 => q0_q16_q15 | 11 => q0_q16_q22 | 12 => q0_q31_q5_q7 | 13 => q0_q31_q5_q15 | 14 => q0_q31_q5_q23 | 15 => q0_q31_q29 | 16 => q0_q31_q37 | 17 => q0_q31_q45 | 18 => q8 | 19 => q8_q7 | 20 => q8_q15 | 21 => q8_q28 | 22 => q8_q36 | 23 => q8_q44 | 24 => q8_q52 | 25 => q8_q60 | 26 => q8_q68 | 27 => q8_q76 | 28 => q8_q84 | 29 => q8_q97 | 30 => q8_q105 | _ => q8_q113) _ _ _ rfl rfl rfl rfl
  subst hXe
  exact key s.heap [] _ (fun k q hk => by simp at hk) ⟨fun i j p q hi => by simp at hi, fun k q hk => by simp at hk⟩ va_S.rf (by show lv_has _ c.maxLocals _; rw [hml]; exact hl)

