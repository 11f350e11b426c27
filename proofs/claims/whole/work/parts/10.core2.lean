/-! the judgement with counters of cells and slots: constructors, and the law -/
def jc_At (G : jx_G) (X : jx_C) (Q : State → Prop) (k n0 : Nat) (w : va_W) (pc : Nat) (L : List (Nat × Value)) (st : List Value) : Prop :=
  ∀ (H : Heap) (locs : List Loc) (ls : Array Slot), va_P G.1 jx_cl w H → va_D (jx_A X) w → va_S (jx_A X) (jx_s X).heap H locs → lv_has ls (jx_c X).maxLocals L →
    W (jx_p X) (jx_l X) (jx_e X) (jx_R X) (jx_s X) (jx_m X) (jx_a X) (jx_b X) (jx_h X) (jx_c X) H locs k n0 Q (F0 (jx_m X) pc ls st)
def jc_Ok (G : jx_G) (X : jx_C) (cc : ByteArray) (own : String) (nL : Nat) (R : Room) : Prop :=
  (jx_p X).tables.exec = Jvm.exec ∧ (jx_c X).code = cc ∧ (jx_c X).maxLocals = nL ∧ (jx_s X).vm.findClass own = some (jx_m X).cls ∧ (∀ w ∈ jx_W, w.before (jx_a X) (jx_s X) = true) ∧ va_K G.1 jx_cl (jx_ty G) (jx_s X) ∧ (∀ w ∈ jx_Z, va_Nw w (jx_s X)) ∧ (∀ q, (jx_s X).heap.size ≤ q → jx_A X q) ∧ jx_R X = R
def jc_In (X : jx_C) : Prop := (jx_h X).locks = false ∧ (jx_h X).sig.returnType = none ∧ (jx_h X).name = "<init>"
def jc_rm (lv mc ms : Nat) : Room := { frames := lv, cells := mc, slots := ms, locals := 52 * lv }
def jc_QK (G : jx_G) (A : Nat → Prop) (Post : va_W → Prop) : Array Value → State → Outcome → State → Prop := fun _ st oc t => (∃ w1, oc = .returned none ∧ Post w1 ∧ va_P G.1 jx_cl w1 t.heap ∧ va_K G.1 jx_cl (jx_ty G) t ∧ va_D A w1) ∧ va_F A st t
def jc_K (l : Launch) (y : MethodName) (b : ByteArray) (nL lv mc ms : Nat) (G : jx_G) (av : List Value) (w0 : va_W) (Post : va_W → Prop) : Prop :=
  ∀ sz : Nat, Met l y (Cond.code y b nL none :: jx_W) (jc_rm lv mc ms) (va_Pc av (fun U => U.heap.size = sz ∧ va_P G.1 jx_cl w0 U.heap ∧ va_K G.1 jx_cl (jx_ty G) U ∧ va_D (fun _ => True) w0 ∧ ∀ w ∈ jx_Z, va_Nw w U)) (jc_QK G (va_A w0 sz) Post) mc ms (va_A w0 sz)
theorem jc_met {l : Launch} {y : MethodName} {b : ByteArray} {nL lv mc ms : Nat} {G : jx_G} {av : List Value} {w0 : va_W} {Post : va_W → Prop} {own : String} (hy : plainName y.cls = true) (ho : y.cls = own) (hi : y.name = "<init>") (hlen : (lg_sl av).length ≤ nL)
    (h : ∀ X : jx_C, jc_Ok G X b own nL (jc_rm lv mc ms) → jc_In X → jx_l X = l → jc_At G X (MQ (jx_b X) (jc_QK G (jx_A X) Post) (jx_a X) (jx_s X) mc ms (jx_A X)) 0 0 w0 0 (lv_args 0 av) []) : jc_K l y b nL lv mc ms G av w0 Post := by
  intro sz
  refine Met.ofW (cc := b) (maxL := nL) (ret := none) hy rfl ?_
  intro p e s m args below meth c s₁ B hml hv
  obtain ⟨rfl, hsz, hP, hK, hD0, hZ⟩ := hv
  subst hsz
  have hts := atoms_spec (ws := Cond.code y b nL none :: jx_W) B.pre
  have hD := hD0.self (sz := s.heap.size)
  have hl := lv_entry av (n := nL) hlen
  rw [lg_entry_eq]
  have hX : jc_Ok G (p, l, e, jc_rm lv mc ms, s, m, av.toArray, below, meth, c, va_A w0 s.heap.size) b own nL (jc_rm lv mc ms) :=
    ⟨B.exec, B.bytes, hml, by rw [← ho]; exact findClass_of_methodNamed B.named, fun w hw => hts w (List.mem_cons_of_mem _ hw), hK, hZ, fun q h => Or.inr h, rfl⟩
  exact h (p, l, e, jc_rm lv mc ms, s, m, av.toArray, below, meth, c, va_A w0 s.heap.size) hX ⟨B.notSynchronized, B.returns, by rw [← hi]; exact (name_of_methodNamed B.named B.method).1⟩ rfl s.heap [] _ hP hD va_S.rf (by show lv_has _ c.maxLocals _; rw [hml]; exact hl)
/-- behind a call: the callee's cells first, the rest unchanged -/
theorem jc_fr {D : va_G} {cl : List vw_C} {A0 : Nat → Prop} {wc wr w1 : va_W} {H H1 : Heap} (hP : va_P D cl (wc ++ wr) H) (hD : va_D A0 (wc ++ wr)) (hk : ∀ q : Nat, q < H.size → ¬ va_A wc H.size q → H1[q]? = H[q]?) (hF : ∀ q, va_A wc H.size q → A0 q) (hP1 : va_P D cl w1 H1) (hD1 : va_D (va_A wc H.size) w1) : va_P D cl (wr ++ w1) H1 ∧ va_D A0 (wr ++ w1) := by
  have at' : ∀ (k : Nat) (q : Nat × va_E), wr[k]? = some q → (wc ++ wr)[wc.length + k]? = some q := by
    intro k q h
    rw [List.getElem?_append_right (by omega)]
    rw [show wc.length + k - wc.length = k by omega]
    exact h
  have apart : ∀ (k : Nat) (q : Nat × va_E), wr[k]? = some q → q.1 < H.size ∧ ¬ va_A wc H.size q.1 := by
    intro k q hq
    have hl := (hP _ q (at' k q hq)).lt
    refine ⟨hl, fun h => ?_⟩
    rcases h with ⟨j, e, h⟩ | h
    · have hj : j < wc.length := (List.getElem?_eq_some_iff.mp h).1
      have h2 : (wc ++ wr)[j]? = some (q.1, e) := by rw [List.getElem?_append_left hj]; exact h
      have := hD.1 _ _ _ _ h2 (at' k q hq) rfl
      omega
    · omega
  have hDr : va_D A0 wr := ⟨fun i j p q hi hj h => by have := hD.1 _ _ _ _ (at' i p hi) (at' j q hj) h; omega, fun k q hk => hD.2 _ q (at' k q hk)⟩
  refine ⟨va_P.app (fun k q hq => ?_) hP1, va_D.app hDr (hD1.weaken (fun k q _ h => hF q.1 h)) (fun i j x y hx hy hxy => ?_)⟩
  · obtain ⟨g1, g2⟩ := apart k q hq
    exact (hP _ q (at' k q hq)).kept (hk q.1 g1 g2)
  · exact (apart i x hx).2 (by rw [hxy]; exact hD1.2 j y hy)
theorem jc_swP {D : va_G} {cl : List vw_C} {a b : va_W} {H : Heap} (h : va_P D cl (a ++ b) H) : va_P D cl (b ++ a) H := by
  refine va_P.app (fun k q hk => h (a.length + k) q ?_) (fun k q hk => h k q ?_)
  · rw [List.getElem?_append_right (by omega), show a.length + k - a.length = k by omega]; exact hk
  · rw [List.getElem?_append_left (List.getElem?_eq_some_iff.mp hk).1]; exact hk
theorem jc_swD {A : Nat → Prop} {a b : va_W} (h : va_D A (a ++ b)) : va_D A (b ++ a) := by
  have ha : ∀ (k : Nat) (q : Nat × va_E), a[k]? = some q → (a ++ b)[k]? = some q := fun k q hk => by rw [List.getElem?_append_left (List.getElem?_eq_some_iff.mp hk).1]; exact hk
  have hb : ∀ (k : Nat) (q : Nat × va_E), b[k]? = some q → (a ++ b)[a.length + k]? = some q := fun k q hk => by rw [List.getElem?_append_right (by omega), show a.length + k - a.length = k by omega]; exact hk
  refine va_D.app ⟨fun i j p q hi hj e => ?_, fun k q hk => h.2 _ q (hb k q hk)⟩ ⟨fun i j p q hi hj e => h.1 _ _ _ _ (ha i p hi) (ha j q hj) e, fun k q hk => h.2 _ q (ha k q hk)⟩ (fun i j p q hi hj e => ?_)
  · have := h.1 _ _ _ _ (hb i p hi) (hb j q hj) e; omega
  · have hj2 : j < a.length := (List.getElem?_eq_some_iff.mp hj).1
    have := h.1 _ _ _ _ (hb i p hi) (ha j q hj) e
    omega
section JC
variable {G : jx_G} {X : jx_C} {cc : ByteArray} {own : String} {nL : Nat} {R : Room} {Q : State → Prop} {k n0 : Nat} {w wr : va_W} {pc : Nat} {L : List (Nat × Value)} {st rest : List Value}
theorem jc_L {L2 : List (Nat × Value)} (h : L = L2) (kk : jc_At G X Q k n0 w pc L2 st) : jc_At G X Q k n0 w pc L st := by rw [h]; exact kk
theorem jc_w {w2 : va_W} (h : w = w2) (kk : jc_At G X Q k n0 w2 pc L st) : jc_At G X Q k n0 w pc L st := by rw [h]; exact kk
theorem jc_sub {L2 : List (Nat × Value)} (ks : List Nat) (h : lv_pick L ks = L2) (kk : jc_At G X Q k n0 w pc L2 st) : jc_At G X Q k n0 w pc L st := fun H locs ls hP hD hS hl => kk H locs ls hP hD hS (lv_sub hl ks h)
theorem jc_swap {a b : va_W} (kk : jc_At G X Q k n0 (b ++ a) pc L st) : jc_At G X Q k n0 (a ++ b) pc L st := fun H locs ls hP hD hS hl => kk H locs ls (jc_swP hP) (jc_swD hD) hS hl
theorem jc_perm {w2 : va_W} (is : List Nat) (hn : va_nd is = true) (hs : is.map (fun i => w[i]?) = w2.map some) (hs2 : is.filterMap (fun i => w[i]?) = w2) (kk : jc_At G X Q k n0 w2 pc L st) : jc_At G X Q k n0 w pc L st := fun H locs ls hP hD hS hl => kk H locs ls (hP.sub is hs2) (hD.sub is hn hs) hS hl
theorem jc_iconst (hX : jc_Ok G X cc own nL R) {n : Int} {v : Int32} (hd : decode cc pc = .ok (.iconst n, 1)) (hv : Int32.ofInt n = v) (kk : jc_At G X Q k n0 w (pc + 1) L (.int v :: st)) : jc_At G X Q k n0 w pc L st :=
  fun H locs ls hP hD hS hl => lv_iconst hX.1 hX.2.1 hd hv (kk H locs ls hP hD hS hl)
theorem jc_bipush (hX : jc_Ok G X cc own nL R) {n : Int} {v : Int32} (hd : decode cc pc = .ok (.bipush n, 2)) (hv : (Int8.ofInt n).toInt32 = v) (kk : jc_At G X Q k n0 w (pc + 2) L (.int v :: st)) : jc_At G X Q k n0 w pc L st :=
  fun H locs ls hP hD hS hl => lv_bipush hX.1 hX.2.1 hd hv (kk H locs ls hP hD hS hl)
theorem jc_iload_n (hX : jc_Ok G X cc own nL R) {i : Nat} {x : Int32} {n : Fin 4} (hd : decode cc pc = .ok (.iload_n n, 1)) (j : Nat) (hj : L[j]? = some (i, .int x)) (hi : (n : Nat) = i) (kk : jc_At G X Q k n0 w (pc + 1) L (.int x :: st)) : jc_At G X Q k n0 w pc L st :=
  fun H locs ls hP hD hS hl => lv_iload_n hX.1 hX.2.1 hd hi (lv_at hl j hj) (kk H locs ls hP hD hS hl)
theorem jc_istore_n (hX : jc_Ok G X cc own nL R) {i : Nat} {x : Int32} {n : Fin 4} (hd : decode cc pc = .ok (.istore_n n, 1)) (hi : (n : Nat) = i) (hn : i < nL) {L2 : List (Nat × Value)} (hL : (i, Value.int x) :: L.filter (fun q => !(q.1 == i) && !(q.1 + 1 == i && q.2.category == 2)) = L2) (kk : jc_At G X Q k n0 w (pc + 1) L2 st) : jc_At G X Q k n0 w pc L (.int x :: st) :=
  fun H locs ls hP hD hS hl => lv_istore_n hX.1 hX.2.1 hd hi hl (by rw [hX.2.2.1]; exact hn) hL (fun ls2 hl2 => kk H locs ls2 hP hD hS hl2)
theorem jc_aload_n (hX : jc_Ok G X cc own nL R) {i : Nat} {x : Nat} {n : Fin 4} (hd : decode cc pc = .ok (.aload_n n, 1)) (j : Nat) (hj : L[j]? = some (i, .ref x)) (hi : (n : Nat) = i) (kk : jc_At G X Q k n0 w (pc + 1) L (.ref x :: st)) : jc_At G X Q k n0 w pc L st :=
  fun H locs ls hP hD hS hl => lv_aload_n hX.1 hX.2.1 hd hi (lv_at hl j hj) (kk H locs ls hP hD hS hl)
theorem jc_astore_n (hX : jc_Ok G X cc own nL R) {i : Nat} {x : Nat} {n : Fin 4} (hd : decode cc pc = .ok (.astore_n n, 1)) (hi : (n : Nat) = i) (hn : i < nL) {L2 : List (Nat × Value)} (hL : (i, Value.ref x) :: L.filter (fun q => !(q.1 == i) && !(q.1 + 1 == i && q.2.category == 2)) = L2) (kk : jc_At G X Q k n0 w (pc + 1) L2 st) : jc_At G X Q k n0 w pc L (.ref x :: st) :=
  fun H locs ls hP hD hS hl => lv_astore_n hX.1 hX.2.1 hd hi hl (by rw [hX.2.2.1]; exact hn) hL (fun ls2 hl2 => kk H locs ls2 hP hD hS hl2)
theorem jc_iinc (hX : jc_Ok G X cc own nL R) {i : Nat} {n : Int} {x v : Int32} (hd : decode cc pc = .ok (.iinc i n, 3)) (j : Nat) (hj : L[j]? = some (i, .int x)) (hv : x + Int32.ofInt n = v) (hn : i < nL) {L2 : List (Nat × Value)} (hL : (i, Value.int v) :: L.filter (fun q => !(q.1 == i) && !(q.1 + 1 == i && q.2.category == 2)) = L2) (kk : jc_At G X Q k n0 w (pc + 3) L2 st) : jc_At G X Q k n0 w pc L st :=
  fun H locs ls hP hD hS hl => lv_iinc hX.1 hX.2.1 hd hl hj hv (by rw [hX.2.2.1]; exact hn) hL (fun ls2 hl2 => kk H locs ls2 hP hD hS hl2)
theorem jc_iadd (hX : jc_Ok G X cc own nL R) {x y : Int32} (hd : decode cc pc = .ok (.iadd, 1))  (kk : jc_At G X Q k n0 w (pc + 1) L (.int (x + y) :: st)) : jc_At G X Q k n0 w pc L (.int y :: .int x :: st) :=
  fun H locs ls hP hD hS hl => lv_iadd hX.1 hX.2.1 hd (kk H locs ls hP hD hS hl)
theorem jc_isub (hX : jc_Ok G X cc own nL R) {x y : Int32} (hd : decode cc pc = .ok (.isub, 1))  (kk : jc_At G X Q k n0 w (pc + 1) L (.int (x - y) :: st)) : jc_At G X Q k n0 w pc L (.int y :: .int x :: st) :=
  fun H locs ls hP hD hS hl => lv_isub hX.1 hX.2.1 hd (kk H locs ls hP hD hS hl)
theorem jc_iand (hX : jc_Ok G X cc own nL R) {x y : Int32} (hd : decode cc pc = .ok (.iand, 1))  (kk : jc_At G X Q k n0 w (pc + 1) L (.int (x &&& y) :: st)) : jc_At G X Q k n0 w pc L (.int y :: .int x :: st) :=
  fun H locs ls hP hD hS hl => lv_iand hX.1 hX.2.1 hd (kk H locs ls hP hD hS hl)
theorem jc_i2c (hX : jc_Ok G X cc own nL R) {x v : Int32} (hd : decode cc pc = .ok (.i2c, 1)) (hv : (x.toUInt32 % 65536).toInt32 = v) (kk : jc_At G X Q k n0 w (pc + 1) L (.int v :: st)) : jc_At G X Q k n0 w pc L (.int x :: st) :=
  fun H locs ls hP hD hS hl => lv_i2c hX.1 hX.2.1 hd hv (kk H locs ls hP hD hS hl)
theorem jc_dup (hX : jc_Ok G X cc own nL R) {v : Value} (hd : decode cc pc = .ok (.dup, 1)) (hv : v.category = 1) (kk : jc_At G X Q k n0 w (pc + 1) L (v :: v :: st)) : jc_At G X Q k n0 w pc L (v :: st) :=
  fun H locs ls hP hD hS hl => lv_dup hX.1 hX.2.1 hd hv (kk H locs ls hP hD hS hl)
theorem jc_icmp_eq (hX : jc_Ok G X cc own nL R) {x y : Int32} {off : Int} {tgt : Nat} (hd : decode cc pc = .ok (.if_icmp .eq off, 3)) (ht : (pc : Int) + off = (tgt : Int)) (kt : x = y → jc_At G X Q k n0 w tgt L st) (kf : ¬ x = y → jc_At G X Q k n0 w (pc + 3) L st) : jc_At G X Q k n0 w pc L (.int y :: .int x :: st) :=
  fun H locs ls hP hD hS hl => lv_icmp_eq hX.1 hX.2.1 hd ht (fun h => kt h H locs ls hP hD hS hl) (fun h => kf h H locs ls hP hD hS hl)
theorem jc_icmp_gt (hX : jc_Ok G X cc own nL R) {x y : Int32} {off : Int} {tgt : Nat} (hd : decode cc pc = .ok (.if_icmp .gt off, 3)) (ht : (pc : Int) + off = (tgt : Int)) (kt : y < x → jc_At G X Q k n0 w tgt L st) (kf : ¬ y < x → jc_At G X Q k n0 w (pc + 3) L st) : jc_At G X Q k n0 w pc L (.int y :: .int x :: st) :=
  fun H locs ls hP hD hS hl => lv_icmp_gt hX.1 hX.2.1 hd ht (fun h => kt h H locs ls hP hD hS hl) (fun h => kf h H locs ls hP hD hS hl)
theorem jc_goto (hX : jc_Ok G X cc own nL R) {off : Int} {tgt : Nat} (hd : decode cc pc = .ok (.goto off, 3)) (ht : (pc : Int) + off = (tgt : Int)) (kk : jc_At G X Q k n0 w tgt L st) : jc_At G X Q k n0 w pc L st :=
  fun H locs ls hP hD hS hl => lv_goto hX.1 hX.2.1 hd ht (kk H locs ls hP hD hS hl)
theorem jc_tin (hX : jc_Ok G X cc own nL R) {dflt lo hi : Int} {offs : Array Int} {len j : Nat} {x : Int32} {off : Int} {tgt : Nat} (hd : decode cc pc = .ok (.tableswitch dflt lo hi offs, len)) (hj : (x.toInt - lo).toNat = j) (h1 : ¬ x.toInt < lo) (h2 : ¬ hi < x.toInt) (ho : offs[j]? = some off) (ht : (pc : Int) + off = (tgt : Int)) (kk : jc_At G X Q k n0 w tgt L st) : jc_At G X Q k n0 w pc L (.int x :: st) :=
  fun H locs ls hP hD hS hl => lv_tableIn hX.1 hX.2.1 hd h1 h2 (by rw [hj]; exact ho) ht (kk H locs ls hP hD hS hl)
theorem jc_tout (hX : jc_Ok G X cc own nL R) {dflt lo hi : Int} {offs : Array Int} {len : Nat} {x : Int32} {tgt : Nat} (hd : decode cc pc = .ok (.tableswitch dflt lo hi offs, len)) (ho : x.toInt < lo ∨ hi < x.toInt) (ht : (pc : Int) + dflt = (tgt : Int)) (kk : jc_At G X Q k n0 w tgt L st) : jc_At G X Q k n0 w pc L (.int x :: st) :=
  fun H locs ls hP hD hS hl => lv_tableOut hX.1 hX.2.1 hd ho ht (kk H locs ls hP hD hS hl)
theorem jc_get (hX : jc_Ok G X cc own nL R) {C : String} {T : u_T} {N ci index a : Nat} (hin : ∀ w ∈ u_ws C T N, w ∈ jx_W) (q0 : Nat) {fs : List Value} (he : w[q0]? = some (a, .inr (ci, fs))) (hc : jx_cl[ci]? = some (C, T, N)) (j : Nat) (hj : j < N) (h1 : (T j).1 = C) (hlink : Cond.fieldLink own index C (T j).2.1 (T j).2.2.1 ∈ jx_W) {v : Value} (hv : fs[j]? = some v) (hd : decode cc pc = .ok (.getfield index, 3)) (kk : jc_At G X Q k n0 w (pc + 3) L (v :: st)) : jc_At G X Q k n0 w pc L (.ref a :: st) :=
  fun H locs ls hP hD hS hl => va_get hX.1 hX.2.1 hX.2.2.2.2.1 hin hX.2.2.2.1 hX.2.2.2.2.2.1 hP q0 he hc j hj (hX.2.2.2.2.1 _ hlink) (fun x hx => by rw [h1] at hx; exact hx) hv hd (kk H locs ls hP hD hS hl)
theorem jc_put (hX : jc_Ok G X cc own nL R) {C : String} {T : u_T} {N ci index a : Nat} (hin : ∀ w ∈ u_ws C T N, w ∈ jx_W) (ty0 : Nat → FieldType) (hty : ∀ k, k < N → parseFieldDescriptor (T k).2.2.1 = some (ty0 k)) (hnm : ∀ a, a < N → ∀ b, b < N → a ≠ b → (T a).2.1 ≠ (T b).2.1) (q0 : Nat) {fs : List Value} (he : w[q0]? = some (a, .inr (ci, fs))) (hc : jx_cl[ci]? = some (C, T, N)) (j : Nat) (hj : j < N) (h1 : (T j).1 = C) (hlink : Cond.fieldLink own index C (T j).2.1 (T j).2.2.1 ∈ jx_W) (hfin : (T j).2.2.2 = false) {v : Value} {ty : FieldType} (ht : ty0 j = ty) (hn : narrow ty v = v) (hfit : fits ty v = true) (hl0 : j < fs.length) {w2 : va_W} (hw : w.set q0 (a, .inr (ci, fs.set j v)) = w2) (hd : decode cc pc = .ok (.putfield index, 3)) (kk : jc_At G X Q k n0 w2 (pc + 3) L st) : jc_At G X Q k n0 w pc L (v :: .ref a :: st) :=
  fun H locs ls hP hD hS hl => va_put hX.1 hX.2.1 hX.2.2.2.2.1 hin ty0 hty hnm hX.2.2.2.1 hX.2.2.2.2.2.1 hP hD hS q0 he hc j hj (hX.2.2.2.2.1 _ hlink) (fun x hx => by rw [h1] at hx; exact hx) hfin (by rw [← ht]; exact hty j hj) hn hfit hl0 hd (fun H1 locs1 hP hD hS => kk H1 locs1 ls (by rw [hw] at hP; exact hP) (by rw [hw] at hD; exact hD) hS hl)
theorem jc_putF (hX : jc_Ok G X cc own nL R) (hI : jc_In X) {C : String} {T : u_T} {N ci index a : Nat} (hin : ∀ w ∈ u_ws C T N, w ∈ jx_W) (ty0 : Nat → FieldType) (hty : ∀ k, k < N → parseFieldDescriptor (T k).2.2.1 = some (ty0 k)) (hnm : ∀ a, a < N → ∀ b, b < N → a ≠ b → (T a).2.1 ≠ (T b).2.1) (q0 : Nat) {fs : List Value} (he : w[q0]? = some (a, .inr (ci, fs))) (hc : jx_cl[ci]? = some (C, T, N)) (j : Nat) (hj : j < N) (h1 : (T j).1 = C) (h2 : (T j).1 = own) (hlink : Cond.fieldLink own index C (T j).2.1 (T j).2.2.1 ∈ jx_W) (hfin : (T j).2.2.2 = true) {v : Value} {ty : FieldType} (ht : ty0 j = ty) (hn : narrow ty v = v) (hfit : fits ty v = true) (hl0 : j < fs.length) {w2 : va_W} (hw : w.set q0 (a, .inr (ci, fs.set j v)) = w2) (hd : decode cc pc = .ok (.putfield index, 3)) (kk : jc_At G X Q k n0 w2 (pc + 3) L st) : jc_At G X Q k n0 w pc L (v :: .ref a :: st) :=
  fun H locs ls hP hD hS hl => va_putF hX.1 hX.2.1 hX.2.2.2.2.1 hin ty0 hty hnm hX.2.2.2.1 hX.2.2.2.2.2.1 hP hD hS q0 he hc j hj (hX.2.2.2.2.1 _ hlink) (fun x hx => by rw [h1] at hx; exact hx) hfin hI.2.2 h2 (by rw [← ht]; exact hty j hj) hn hfit hl0 hd (fun H1 locs1 hP hD hS => kk H1 locs1 ls (by rw [hw] at hP; exact hP) (by rw [hw] at hD; exact hD) hS hl)
theorem jc_obj (hX : jc_Ok G X cc own nL R) {index a : Nat} (hlink : Cond.methodLink own index objectInit ∈ jx_W) (hd : decode cc pc = .ok (.invokespecial index, 3)) (hf : 1 ≤ R.frames) (hr : (st.map fun v => v.category).sum + 12 ≤ R.locals) (kk : jc_At G X Q k n0 w (pc + 3) L st) : jc_At G X Q k n0 w pc L (.ref a :: st) :=
  fun H locs ls hP hD hS hl => W.objInit hX.1 hX.2.1 hX.2.2.2.1 (hX.2.2.2.2.1 _ hlink) (hX.2.2.2.2.1 _ jw_objI) (hX.2.2.2.2.1 _ jw_objC) rfl hl.1 rfl hd (by rw [hX.2.2.2.2.2.2.2.2]; exact hf) (by rw [hX.2.2.2.2.2.2.2.2]; show 2 * 0 + _ + 12 ≤ _; omega) (kk H locs ls hP hD hS hl)
theorem jc_vret (hX : jc_Ok G X cc own nL R) (hI : jc_In X) {Post : va_W → Prop} (hp : Post w) (hd : decode cc pc = .ok (.return_, 1)) : jc_At G X (MQ (jx_b X) (jc_QK G (jx_A X) Post) (jx_a X) (jx_s X) k n0 (jx_A X)) k n0 w pc L [] :=
  fun H locs ls hP hD hS hl => W.vret hX.1 hX.2.1 hI.2.1 (fun t ht hW => ⟨⟨w, rfl, hp, by rw [ht]; exact hP, va_K.moved hW.alike hX.2.2.2.2.2.1, hD⟩, hS.F ht⟩) hS.2.2 hd hI.1
theorem jc_new (hX : jc_Ok G X cc own nL R) {C : String} {T : u_T} {N ci index : Nat} (hin : ∀ w ∈ u_ws C T N, w ∈ jx_W) (ty0 : Nat → FieldType) (hty : ∀ k, k < N → parseFieldDescriptor (T k).2.2.1 = some (ty0 k)) (hcl : Cond.classLink own index C ∈ jx_W) (hinst : Cond.instantiable C N ∈ jx_W) (hini : Cond.initialized C ∈ jx_W) (hc : jx_cl[ci]? = some (C, T, N)) {fs : List Value} (hfs : ∀ j, j < N → defaultValue (ty0 j) = vp_V fs j) (hcells : k + 1 ≤ R.cells) (hslots : n0 + N ≤ R.slots) (hd : decode cc pc = .ok (.new index, 3)) (kk : ∀ q : Nat, jc_At G X Q (k + 1) (n0 + N) (w ++ [(q, .inr (ci, fs))]) (pc + 3) L (.ref q :: st)) : jc_At G X Q k n0 w pc L st :=
  fun H locs ls hP hD hS hl => va_new hX.1 hX.2.1 hX.2.2.2.2.1 hin ty0 hty hX.2.2.2.1 (hX.2.2.2.2.1 _ hcl) (hX.2.2.2.2.1 _ hinst) (hX.2.2.2.2.1 _ hini) hX.2.2.2.2.2.1 hP hD hS hX.2.2.2.2.2.2.2.1 hc hfs (by rw [hX.2.2.2.2.2.2.2.2]; exact hcells) (by rw [hX.2.2.2.2.2.2.2.2]; exact hslots) hd (fun q H1 hP hD hS => kk q H1 locs ls hP hD hS hl)
theorem jc_newi (hX : jc_Ok G X cc own nL R) {n : Int32} {N : Nat} (hd : decode cc pc = .ok (.newarray .int, 2)) (hn : ¬ n < 0) (hN : n.toNatClampNeg = N) (hbt : N ≤ 1000) (hcells : k + 1 ≤ R.cells) (hslots : n0 + N ≤ R.slots) (kk : ∀ q : Nat, jc_At G X Q (k + 1) (n0 + N) (w ++ [(q, .inl (jx_ca G 0, N, .inl (fun _ => 0)))]) (pc + 2) L (.ref q :: st)) : jc_At G X Q k n0 w pc L (.int n :: st) :=
  fun H locs ls hP hD hS hl => va_newa (atype := .int) (ty := .int) (a0 := (N, .inl (fun _ => 0))) hX.1 hX.2.1 (hX.2.2.2.2.1 (Cond.arrayClass .int) jw_ari) rfl hX.2.2.2.2.2.1 hP hD hS hX.2.2.2.2.2.2.2.1 (fun cA => rfl) hn hN (by show N * 4 ≤ 536870912; omega) (by rw [hX.2.2.2.2.2.2.2.2]; exact hcells) (by rw [hX.2.2.2.2.2.2.2.2]; exact hslots) hd (fun q cA H1 hK2 hP hD hS => by
    have e1 : (jx_s X).vm.findClass ("[" ++ FieldType.int.toString) = some cA := (hK2.2 4 (cA, .int) rfl).2
    have e2 : (jx_s X).vm.findClass ("[" ++ FieldType.int.toString) = some (jx_ca G 0) := (hX.2.2.2.2.2.1.2 0 (jx_ca G 0, .int) rfl).2
    have e3 : cA = jx_ca G 0 := Option.some.inj (e1.symm.trans e2)
    subst e3
    exact kk q H1 locs ls hP hD hS hl)
theorem jc_newc (hX : jc_Ok G X cc own nL R) {n : Int32} {N : Nat} (hd : decode cc pc = .ok (.newarray .char, 2)) (hn : ¬ n < 0) (hN : n.toNatClampNeg = N) (hbt : N ≤ 1000) (hcells : k + 1 ≤ R.cells) (hslots : n0 + N ≤ R.slots) (kk : ∀ q : Nat, jc_At G X Q (k + 1) (n0 + N) (w ++ [(q, .inl (jx_ca G 1, N, .inl (fun _ => 0)))]) (pc + 2) L (.ref q :: st)) : jc_At G X Q k n0 w pc L (.int n :: st) :=
  fun H locs ls hP hD hS hl => va_newa (atype := .char) (ty := .char) (a0 := (N, .inl (fun _ => 0))) hX.1 hX.2.1 (hX.2.2.2.2.1 (Cond.arrayClass .char) jw_arc) rfl hX.2.2.2.2.2.1 hP hD hS hX.2.2.2.2.2.2.2.1 (fun cA => rfl) hn hN (by show N * 2 ≤ 536870912; omega) (by rw [hX.2.2.2.2.2.2.2.2]; exact hcells) (by rw [hX.2.2.2.2.2.2.2.2]; exact hslots) hd (fun q cA H1 hK2 hP hD hS => by
    have e1 : (jx_s X).vm.findClass ("[" ++ FieldType.char.toString) = some cA := (hK2.2 4 (cA, .char) rfl).2
    have e2 : (jx_s X).vm.findClass ("[" ++ FieldType.char.toString) = some (jx_ca G 1) := (hX.2.2.2.2.2.1.2 1 (jx_ca G 1, .char) rfl).2
    have e3 : cA = jx_ca G 1 := Option.some.inj (e1.symm.trans e2)
    subst e3
    exact kk q H1 locs ls hP hD hS hl)
theorem jc_newz (hX : jc_Ok G X cc own nL R) {n : Int32} {N : Nat} (hd : decode cc pc = .ok (.newarray .boolean, 2)) (hn : ¬ n < 0) (hN : n.toNatClampNeg = N) (hbt : N ≤ 1000) (hcells : k + 1 ≤ R.cells) (hslots : n0 + N ≤ R.slots) (kk : ∀ q : Nat, jc_At G X Q (k + 1) (n0 + N) (w ++ [(q, .inl (jx_ca G 2, N, .inl (fun _ => 0)))]) (pc + 2) L (.ref q :: st)) : jc_At G X Q k n0 w pc L (.int n :: st) :=
  fun H locs ls hP hD hS hl => va_newa (atype := .boolean) (ty := .boolean) (a0 := (N, .inl (fun _ => 0))) hX.1 hX.2.1 (hX.2.2.2.2.1 (Cond.arrayClass .boolean) jw_arz) rfl hX.2.2.2.2.2.1 hP hD hS hX.2.2.2.2.2.2.2.1 (fun cA => rfl) hn hN (by show N * 1 ≤ 536870912; omega) (by rw [hX.2.2.2.2.2.2.2.2]; exact hcells) (by rw [hX.2.2.2.2.2.2.2.2]; exact hslots) hd (fun q cA H1 hK2 hP hD hS => by
    have e1 : (jx_s X).vm.findClass ("[" ++ FieldType.boolean.toString) = some cA := (hK2.2 4 (cA, .boolean) rfl).2
    have e2 : (jx_s X).vm.findClass ("[" ++ FieldType.boolean.toString) = some (jx_ca G 2) := (hX.2.2.2.2.2.1.2 2 (jx_ca G 2, .boolean) rfl).2
    have e3 : cA = jx_ca G 2 := Option.some.inj (e1.symm.trans e2)
    subst e3
    exact kk q H1 locs ls hP hD hS hl)
theorem jc_newj (hX : jc_Ok G X cc own nL R) {n : Int32} {N : Nat} (hd : decode cc pc = .ok (.newarray .long, 2)) (hn : ¬ n < 0) (hN : n.toNatClampNeg = N) (hbt : N ≤ 1000) (hcells : k + 1 ≤ R.cells) (hslots : n0 + N ≤ R.slots) (kk : ∀ q : Nat, jc_At G X Q (k + 1) (n0 + N) (w ++ [(q, .inl (jx_ca G 3, N, .inr (.inl (fun _ => 0))))]) (pc + 2) L (.ref q :: st)) : jc_At G X Q k n0 w pc L (.int n :: st) :=
  fun H locs ls hP hD hS hl => va_newa (atype := .long) (ty := .long) (a0 := (N, .inr (.inl (fun _ => 0)))) hX.1 hX.2.1 (hX.2.2.2.2.1 (Cond.arrayClass .long) jw_arj) rfl hX.2.2.2.2.2.1 hP hD hS hX.2.2.2.2.2.2.2.1 (fun cA => rfl) hn hN (by show N * 8 ≤ 536870912; omega) (by rw [hX.2.2.2.2.2.2.2.2]; exact hcells) (by rw [hX.2.2.2.2.2.2.2.2]; exact hslots) hd (fun q cA H1 hK2 hP hD hS => by
    have e1 : (jx_s X).vm.findClass ("[" ++ FieldType.long.toString) = some cA := (hK2.2 4 (cA, .long) rfl).2
    have e2 : (jx_s X).vm.findClass ("[" ++ FieldType.long.toString) = some (jx_ca G 3) := (hX.2.2.2.2.2.1.2 3 (jx_ca G 3, .long) rfl).2
    have e3 : cA = jx_ca G 3 := Option.some.inj (e1.symm.trans e2)
    subst e3
    exact kk q H1 locs ls hP hD hS hl)
theorem jc_preS (hX : jc_Ok G X cc own nL R) {wc : va_W} {H : Heap} (hP : va_P G.1 jx_cl wc H) (hD : va_D (jx_A X) wc) {av : List Value} : PreS (jx_s X) H (va_Pc av (fun U => U.heap.size = H.size ∧ va_P G.1 jx_cl wc U.heap ∧ va_K G.1 jx_cl (jx_ty G) U ∧ va_D (fun _ => True) wc ∧ ∀ w ∈ jx_Z, va_Nw w U)) av :=
  ⟨fun a U g mk q => by obtain ⟨q0, q1, qP, qK, qD, qZ⟩ := q; exact ⟨q0, q1, qP, va_K.moved (u := U) (U := U.calling g mk a) (Vm.Alike.refl U.vm) qK, qD, jx_Zs (s := U) (U := U.calling g mk a) rfl qZ⟩,
    fun U hU hW => ⟨rfl, by rw [hU], by rw [hU]; exact hP, va_K.moved hW.alike hX.2.2.2.2.2.1, hD.weaken (fun _ _ _ _ => trivial), jx_Zw hW hX.2.2.2.2.2.2.1⟩⟩
theorem jc_preF {A : Nat → Prop} {wc wr : va_W} (hD : va_D A (wc ++ wr)) : va_D A wc := ⟨fun i j p q hi hj e => hD.1 i j p q (by rw [List.getElem?_append_left (List.getElem?_eq_some_iff.mp hi).1]; exact hi) (by rw [List.getElem?_append_left (List.getElem?_eq_some_iff.mp hj).1]; exact hj) e, fun k q hk => hD.2 k q (by rw [List.getElem?_append_left (List.getElem?_eq_some_iff.mp hk).1]; exact hk)⟩
theorem jc_preP {D : va_G} {cl : List vw_C} {wc wr : va_W} {H : Heap} (hP : va_P D cl (wc ++ wr) H) : va_P D cl wc H := fun k q hk => hP k q (by rw [List.getElem?_append_left (List.getElem?_eq_some_iff.mp hk).1]; exact hk)
theorem jc_hF (hX : jc_Ok G X cc own nL R) {wc : va_W} {H : Heap} {locs : List Loc} (hD : va_D (jx_A X) wc) (hS : va_S (jx_A X) (jx_s X).heap H locs) : ∀ q, va_A wc H.size q → jx_A X q := by
  intro q h
  rcases h with ⟨j, e, h⟩ | h
  · exact hD.2 j _ h
  · exact hX.2.2.2.2.2.2.2.1 q (Nat.le_trans hS.1 h)
/-- a constructor's call: its cell first, the rest behind -/
theorem jc_behK (hX : jc_Ok G X cc own nL R) {H : Heap} {locs : List Loc} {ls : Array Slot} {a : Array Value} {wc : va_W} {mc ms : Nat} {Post : va_W → Prop} (hP : va_P G.1 jx_cl (wc ++ wr) H) (hD : va_D (jx_A X) (wc ++ wr)) (hS : va_S (jx_A X) (jx_s X).heap H locs) (hl : lv_has ls (jx_c X).maxLocals L)
    (hr : va_Run (jx_p X) (jx_l X) (jx_e X) (jx_R X) (jx_s X) (jx_m X) (jx_a X) (jx_b X) (jx_h X) (jx_c X) H locs k n0 mc ms (F0 (jx_m X) pc ls st) rest (jc_QK G (va_A wc H.size) Post a) (va_A wc H.size))
    (kk : ∀ w1, Post w1 → jc_At G X Q (k + mc) (n0 + ms) (wr ++ w1) (pc + 3) L rest) : W (jx_p X) (jx_l X) (jx_e X) (jx_R X) (jx_s X) (jx_m X) (jx_a X) (jx_b X) (jx_h X) (jx_c X) H locs k n0 Q (F0 (jx_m X) pc ls st) := by
  intro T hT X9
  obtain ⟨v, st₀, t, T', L9, h0, X', hL, e1, e2, ⟨⟨w1, hv, hp, hP1, hK1, hD1⟩, hz, hk⟩, stp⟩ := hr T hT X9
  cases hv
  rw [h0] at hz hk
  have hF := jc_hF hX (jc_preF hD) hS
  obtain ⟨hP2, hD2⟩ := jc_fr (H1 := T'.heap) hP hD (fun q h1 h2 => by rw [e1]; exact hk q h1 h2) hF (by rw [e1]; exact hP1) hD1
  obtain ⟨t2, a1, b1⟩ := kk w1 hp T'.heap (locs ++ L9) ls hP2 hD2
    ⟨Nat.le_trans hS.1 (by rw [e1]; exact hz), fun q h1 h2 => by rw [e1, hk q (Nat.lt_of_lt_of_le h1 hS.1) (fun z => h2 (hF q z))]; exact hS.2.1 q h1 h2, fun q hq => by
      rcases List.mem_append.mp hq with h | h
      · exact hS.2.2 q h
      · exact hF _ (hL q h)⟩ hl T' rfl X'
  exact ⟨t2, stp t2 a1, b1⟩
theorem jc_behM (hX : jc_Ok G X cc own nL R) {H : Heap} {locs : List Loc} {ls : Array Slot} {a : Array Value} {wc : va_W} {fin1 : Option Value × va_W} (hP : va_P G.1 jx_cl (wc ++ wr) H) (hD : va_D (jx_A X) (wc ++ wr)) (hS : va_S (jx_A X) (jx_s X).heap H locs) (hl : lv_has ls (jx_c X).maxLocals L)
    (hr : va_Run (jx_p X) (jx_l X) (jx_e X) (jx_R X) (jx_s X) (jx_m X) (jx_a X) (jx_b X) (jx_h X) (jx_c X) H locs k n0 0 0 (F0 (jx_m X) pc ls st) rest (jx_Q G (va_A wc H.size) fin1 a) (va_A wc H.size))
    (kk : jc_At G X Q k n0 (wr ++ fin1.2) (pc + 3) L (fin1.1.toList ++ rest)) : W (jx_p X) (jx_l X) (jx_e X) (jx_R X) (jx_s X) (jx_m X) (jx_a X) (jx_b X) (jx_h X) (jx_c X) H locs k n0 Q (F0 (jx_m X) pc ls st) := by
  intro T hT X9
  obtain ⟨v, st₀, t, T', L9, h0, X', hL, e1, e2, ⟨⟨hv, hP1, hK1, hD1⟩, hz, hk⟩, stp⟩ := hr T hT X9
  have hv2 : v = fin1.1 := Outcome.returned.inj hv
  subst hv2
  rw [h0] at hz hk
  have hF := jc_hF hX (jc_preF hD) hS
  obtain ⟨hP2, hD2⟩ := jc_fr (H1 := T'.heap) hP hD (fun q h1 h2 => by rw [e1]; exact hk q h1 h2) hF (by rw [e1]; exact hP1) hD1
  obtain ⟨t2, a1, b1⟩ := kk T'.heap (locs ++ L9) ls hP2 hD2
    ⟨Nat.le_trans hS.1 (by rw [e1]; exact hz), fun q h1 h2 => by rw [e1, hk q (Nat.lt_of_lt_of_le h1 hS.1) (fun z => h2 (hF q z))]; exact hS.2.1 q h1 h2, fun q hq => by
      rcases List.mem_append.mp hq with h | h
      · exact hS.2.2 q h
      · exact hF _ (hL q h)⟩ hl T' rfl X'
  exact ⟨t2, stp t2 a1, b1⟩
variable {y : MethodName} {b : ByteArray} {nL' lv' index n mc ms : Nat} {ret' : Option FieldType} {As : List Value}
theorem jc_callI (hX : jc_Ok G X cc own nL R) {q : Nat} {e : va_E} {Post : va_W → Prop} (hM : jc_K (jx_l X) y b nL' lv' mc ms G (.ref q :: As) [(q, e)] Post) (hcode : Cond.code y b nL' none ∈ jx_W) (hini : Cond.initialized y.cls ∈ jx_W) (hlink : Cond.methodLink own index y ∈ jx_W) (hinst : Cond.instanceMethod y ∈ jx_W) (hnm : y.name = "<init>") (hdd : y.cls ≠ "java/lang/invoke/MethodHandle" ∧ y.cls ≠ "java/lang/invoke/VarHandle" ∧ (parseMethodDescriptor y.desc).map (fun d => d.parameters.length) = some n) (hn : As.length = n) (hst : st = As.reverse ++ .ref q :: rest) (hd : decode cc pc = .ok (.invokespecial index, 3)) (hR : lv' + 1 ≤ R.frames ∧ 8 + (nL' + 11) + 52 * lv' ≤ R.locals) (hc : k + mc ≤ R.cells ∧ n0 + ms ≤ R.slots) (hroom : (rest.map fun v => v.category).sum ≤ 8)
    (kk : ∀ w1, Post w1 → jc_At G X Q (k + mc) (n0 + ms) (wr ++ w1) (pc + 3) L rest) : jc_At G X Q k n0 (wr ++ [(q, e)]) pc L st :=
  fun H locs ls hP hD hS hl => jc_behK hX (jc_swP hP) (jc_swD hD) hS hl (va_runI (As := As) (rest := rest) (b := q) ⟨hX.1, hX.2.1, rfl, hX.2.2.2.1, hX.2.2.2.2.1⟩ (hM H.size) ⟨callB_of n hX.2.2.2.2.1 (jx_goodW hcode) rfl rfl rfl (hX.2.2.2.2.1 _ hini) (hX.2.2.2.2.1 _ hlink) hdd (by rw [hX.2.2.2.2.2.2.2.2]; exact hR), hnm, hX.2.2.2.2.1 _ hinst⟩ (jc_preS hX (jc_preP (jc_swP hP)) (jc_preF (jc_swD hD))) rfl hn hl.1 hst (lv_room hroom) hd (by rw [hX.2.2.2.2.2.2.2.2]; exact hc)) kk
theorem jc_callN (hX : jc_Ok G X cc own nL R) {q : Nat} {e : va_E} {host : String} {Post : va_W → Prop} (hM : jc_K (jx_l X) y b nL' lv' mc ms G (.ref q :: As) [(q, e)] Post) (hcode : Cond.code y b nL' none ∈ jx_W) (hini : Cond.initialized y.cls ∈ jx_W) (hlink : Cond.methodLinkNest own index y host ∈ jx_Z) (hinst : Cond.instanceMethod y ∈ jx_W) (hnm : y.name = "<init>") (hdd : y.cls ≠ "java/lang/invoke/MethodHandle" ∧ y.cls ≠ "java/lang/invoke/VarHandle" ∧ (parseMethodDescriptor y.desc).map (fun d => d.parameters.length) = some n) (hn : As.length = n) (hst : st = As.reverse ++ .ref q :: rest) (hd : decode cc pc = .ok (.invokespecial index, 3)) (hR : lv' + 1 ≤ R.frames ∧ 8 + (nL' + 11) + 52 * lv' ≤ R.locals) (hc : k + mc ≤ R.cells ∧ n0 + ms ≤ R.slots) (hroom : (rest.map fun v => v.category).sum ≤ 8)
    (kk : ∀ w1, Post w1 → jc_At G X Q (k + mc) (n0 + ms) (wr ++ w1) (pc + 3) L rest) : jc_At G X Q k n0 (wr ++ [(q, e)]) pc L st :=
  fun H locs ls hP hD hS hl => jc_behK hX (jc_swP hP) (jc_swD hD) hS hl (va_runIN (As := As) (rest := rest) (b := q) ⟨hX.1, hX.2.1, rfl, hX.2.2.2.1, hX.2.2.2.2.1⟩ (hM H.size) ⟨va_cnB n hX.2.2.2.2.1 (jx_goodW hcode) rfl rfl rfl (hX.2.2.2.2.2.2.1 _ hlink) (hX.2.2.2.2.1 _ hini) hdd (by rw [hX.2.2.2.2.2.2.2.2]; exact hR), hnm, hX.2.2.2.2.1 _ hinst⟩ (jc_preS hX (jc_preP (jc_swP hP)) (jc_preF (jc_swD hD))) rfl hn hl.1 hst (lv_room hroom) hd (by rw [hX.2.2.2.2.2.2.2.2]; exact hc)) kk
theorem jc_callV (hX : jc_Ok G X cc own nL R) {C : String} {T : u_T} {N ci a : Nat} {fs : List Value} {wc : va_W} {fin1 : Option Value × va_W} (hM : jx_M (jx_l X) y b nL' ret' lv' G (.ref a :: As) wc fin1) (hcode : Cond.code y b nL' ret' ∈ jx_W) (hini : Cond.initialized y.cls ∈ jx_W) (hlink : Cond.methodLink own index y ∈ jx_W) (hinst : Cond.instanceMethod y ∈ jx_W) (hsel : Cond.selects C y y ∈ jx_W) (hdd : y.cls ≠ "java/lang/invoke/MethodHandle" ∧ y.cls ≠ "java/lang/invoke/VarHandle" ∧ (parseMethodDescriptor y.desc).map (fun d => d.parameters.length) = some n) (q0 : Nat) (he : wc[q0]? = some (a, .inr (ci, fs))) (hc : jx_cl[ci]? = some (C, T, N)) (hn : As.length = n) (hst : st = As.reverse ++ .ref a :: rest) (hd : decode cc pc = .ok (.invokevirtual index, 3)) (hR : lv' + 1 ≤ R.frames ∧ 8 + (nL' + 11) + 52 * lv' ≤ R.locals) (hcs : k + 0 ≤ R.cells ∧ n0 + 0 ≤ R.slots) (hroom : (rest.map fun v => v.category).sum ≤ 8)
    (kk : jc_At G X Q k n0 (wr ++ fin1.2) (pc + 3) L (fin1.1.toList ++ rest)) : jc_At G X Q k n0 (wc ++ wr) pc L st :=
  fun H locs ls hP hD hS hl => jc_behM hX hP hD hS hl (va_runV (As := As) (rest := rest) (C := C) ⟨hX.1, hX.2.1, rfl, hX.2.2.2.1, hX.2.2.2.2.1⟩ (hM H.size) ⟨callB_of n hX.2.2.2.2.1 (jx_goodW hcode) rfl rfl rfl (hX.2.2.2.2.1 _ hini) (hX.2.2.2.2.1 _ hlink) hdd (by rw [hX.2.2.2.2.2.2.2.2]; exact hR), hX.2.2.2.2.1 _ hinst, hX.2.2.2.2.1 _ hsel⟩ ⟨(jc_preS hX (jc_preP hP) (jc_preF hD)).1, va_recv hX.2.2.2.2.2.1 (jc_preP hP) hc he, (jc_preS hX (jc_preP hP) (jc_preF hD)).2⟩ rfl hn hl.1 hst (lv_room hroom) hd (by rw [hX.2.2.2.2.2.2.2.2]; exact hcs)) kk
end JC
