/-! the judgement of a walk: at a place of a method, with a world, locals and a stack, it comes to its end; a row an instruction -/
abbrev jx_S : Type := (Nat → Int32) × (Nat → Nat → Int32) × (Nat → Nat → Int64)
def jx_f (S : jx_S) (k : Nat) (v : Int32) : jx_S := (fun j => bif Nat.beq j k then v else S.1 j, S.2)
def jx_g (S : jx_S) (a : Nat) (f : Nat → Int32) : jx_S := (S.1, fun b => bif Nat.beq b a then f else S.2.1 b, S.2.2)
def jx_gl (S : jx_S) (a : Nat) (f : Nat → Int64) : jx_S := (S.1, S.2.1, fun b => bif Nat.beq b a then f else S.2.2 b)
abbrev jx_G : Type := va_G × (Nat → ClassId) × (Nat → Nat)
abbrev jx_ad (G : jx_G) (k : Nat) : Nat := G.2.2 k
abbrev jx_ca (G : jx_G) (k : Nat) : ClassId := G.2.1 k
abbrev jx_ty (G : jx_G) : List (ClassId × FieldType) := [(G.2.1 0, .int), (G.2.1 1, .char), (G.2.1 2, .boolean), (G.2.1 3, .long)]
abbrev jx_C := Program × Launch × Env × Room × State × MethodId × Array Value × List Frame × Method × Code × (Nat → Prop)
abbrev jx_p (X : jx_C) := X.1
abbrev jx_l (X : jx_C) := X.2.1
abbrev jx_e (X : jx_C) := X.2.2.1
abbrev jx_R (X : jx_C) := X.2.2.2.1
abbrev jx_s (X : jx_C) := X.2.2.2.2.1
abbrev jx_m (X : jx_C) := X.2.2.2.2.2.1
abbrev jx_a (X : jx_C) := X.2.2.2.2.2.2.1
abbrev jx_b (X : jx_C) := X.2.2.2.2.2.2.2.1
abbrev jx_h (X : jx_C) := X.2.2.2.2.2.2.2.2.1
abbrev jx_c (X : jx_C) := X.2.2.2.2.2.2.2.2.2.1
abbrev jx_A (X : jx_C) : Nat → Prop := X.2.2.2.2.2.2.2.2.2.2
def jx_rm (lv : Nat) : Room := { frames := lv, cells := 0, slots := 0, locals := 52 * lv }
def jx_Q (G : jx_G) (A : Nat → Prop) (fin : Option Value × va_W) : Array Value → State → Outcome → State → Prop := fun _ st oc t => (oc = .returned fin.1 ∧ va_P G.1 jx_cl fin.2 t.heap ∧ va_K G.1 jx_cl (jx_ty G) t ∧ va_D A fin.2) ∧ va_F A st t
def jx_At (G : jx_G) (X : jx_C) (fin : Option Value × va_W) (w : va_W) (pc : Nat) (L : List (Nat × Value)) (st : List Value) : Prop :=
  ∀ (H : Heap) (locs : List Loc) (ls : Array Slot), va_P G.1 jx_cl w H → va_D (jx_A X) w → va_S (jx_A X) (jx_s X).heap H locs → lv_has ls (jx_c X).maxLocals L →
    W (jx_p X) (jx_l X) (jx_e X) (jx_R X) (jx_s X) (jx_m X) (jx_a X) (jx_b X) (jx_h X) (jx_c X) H locs 0 0 (MQ (jx_b X) (jx_Q G (jx_A X) fin) (jx_a X) (jx_s X) 0 0 (jx_A X)) (F0 (jx_m X) pc ls st)
def jx_Ok (G : jx_G) (X : jx_C) (cc : ByteArray) (own : String) (ret : Option FieldType) (nL lv : Nat) : Prop :=
  (jx_p X).tables.exec = Jvm.exec ∧ (jx_c X).code = cc ∧ (jx_c X).maxLocals = nL ∧ (jx_s X).vm.findClass own = some (jx_m X).cls ∧ (∀ w ∈ jx_W, w.before (jx_a X) (jx_s X) = true) ∧ va_K G.1 jx_cl (jx_ty G) (jx_s X) ∧ (∀ w ∈ jx_Z, va_Nw w (jx_s X)) ∧ (jx_h X).locks = false ∧ (jx_h X).sig.returnType = ret ∧ (∀ q, (jx_s X).heap.size ≤ q → jx_A X q) ∧ jx_R X = jx_rm lv
theorem jx_gd {α : Type} {c : Prop} [Decidable c] {x : Option α} {r : α} (h : (if c then x else none) = some r) : c ∧ x = some r := by
  by_cases hc : c
  · rw [if_pos hc] at h; exact ⟨hc, h⟩
  · rw [if_neg hc] at h; cases h
theorem jx_ip {α : Type} {c : Prop} [Decidable c] {x y r : α} (hc : c) (h : (if c then x else y) = r) : x = r := by rw [if_pos hc] at h; exact h
theorem jx_in_ {α : Type} {c : Prop} [Decidable c] {x y r : α} (hc : ¬ c) (h : (if c then x else y) = r) : y = r := by rw [if_neg hc] at h; exact h
theorem jx_bd {α β : Type} {o : Option α} {f : α → Option β} {r : β} (h : o.bind f = some r) : ∃ q, o = some q ∧ f q = some r := by
  cases o with
  | none => cases h
  | some q => exact ⟨q, rfl, h⟩
def jx_N : Nat := 100000
def jx_lp {σ ρ : Type} (f : σ → Option (σ ⊕ ρ)) : Nat → σ → Option ρ
  | 0, _ => none
  | n + 1, s => (f s).bind (Sum.elim (fun s' => jx_lp f n s') (fun r => some r))
theorem jx_el {α β γ : Type} {f : α → γ} {g : β → γ} {z : α} {x : γ} (h : Sum.elim f g (Sum.inl z) = x) : f z = x := h
theorem jx_er {α β γ : Type} {f : α → γ} {g : β → γ} {z : β} {x : γ} (h : Sum.elim f g (Sum.inr z) = x) : g z = x := h
theorem jx_loop1 {σ ρ : Type} (f : σ → Option (σ ⊕ ρ)) (P : σ → Prop) (E : ρ → Prop) (hs : ∀ z o, f z = some o → (∀ z', o = .inl z' → P z') → (∀ r, o = .inr r → E r) → P z) : ∀ n z r, jx_lp f n z = some r → E r → P z
  | 0, z, r, h, _ => by simp [jx_lp] at h
  | n + 1, z, r, h, hE => by
    rw [jx_lp] at h
    obtain ⟨o, ho, h⟩ := jx_bd h
    refine hs z o ho (fun z' e => ?_) (fun r' e => ?_)
    · subst e
      exact jx_loop1 f P E hs n z' r (jx_el h) hE
    · subst e
      have e2 : r' = r := Option.some.inj (jx_er h)
      rw [e2]; exact hE
theorem jx_loop2 {σ ρ τ : Type} (f : σ → Option (σ ⊕ (ρ ⊕ τ))) (P : σ → Prop) (E : ρ → Prop) (fin : τ) (hs : ∀ z o, f z = some o → (∀ z', o = .inl z' → P z') → (∀ r, o = .inr (.inl r) → E r) → (∀ y, o = .inr (.inr y) → y = fin) → P z) : ∀ n z r, jx_lp f n z = some r → (∀ u, r = .inl u → E u) → (∀ y, r = .inr y → y = fin) → P z
  | 0, z, r, h, _, _ => by simp [jx_lp] at h
  | n + 1, z, r, h, hE, hy => by
    rw [jx_lp] at h
    obtain ⟨o, ho, h⟩ := jx_bd h
    refine hs z o ho (fun z' e => ?_) (fun r' e => ?_) (fun y e => ?_)
    · subst e
      exact jx_loop2 f P E fin hs n z' r (jx_el h) hE hy
    · subst e
      exact hE _ (Option.some.inj (jx_er h)).symm
    · subst e
      exact hy _ (Option.some.inj (jx_er h)).symm
def jx_in (i : Int32) (n : Nat) : Bool := decide (¬ (i < 0 ∨ n ≤ i.toNatClampNeg))
theorem jx_in_ok {i : Int32} {n : Nat} (h : jx_in i n = true) : vp_in i n := by
  unfold jx_in at h
  unfold vp_in
  exact of_decide_eq_true h
def jx_ck (sp dp n : Int32) (n0 n1 : Nat) : Bool := decide (¬ sp < 0 ∧ ¬ dp < 0 ∧ ¬ n < 0 ∧ sp.toNatClampNeg + n.toNatClampNeg ≤ n0 ∧ dp.toNatClampNeg + n.toNatClampNeg ≤ n1)
def jx_nc (v : Int32) : Bool := decide (v.toUInt32.toUInt16.toUInt32.toInt32 = v)
def jx_nb (v : Int32) : Bool := decide (v &&& 1 = v)
theorem jx_nc_ok {v : Int32} (h : jx_nc v = true) : narrow .char (.int v) = .int v := congrArg Value.int (of_decide_eq_true h)
theorem jx_nb_ok {v : Int32} (h : jx_nb v = true) : narrow .boolean (.int v) = .int v := congrArg Value.int (of_decide_eq_true h)
def jx_01 (v : Int32) : Prop := v = 0 ∨ v = 1
theorem jx_z0 : jx_01 0 := Or.inl rfl
theorem jx_z1 : jx_01 1 := Or.inr rfl
theorem jx_zi {c : Prop} [Decidable c] {a b : Int32} (ha : jx_01 a) (hb : jx_01 b) : jx_01 (if c then a else b) := by
  by_cases hc : c
  · rw [if_pos hc]; exact ha
  · rw [if_neg hc]; exact hb
theorem jx_01n {v : Int32} (h : jx_01 v) : narrow .boolean (.int v) = .int v := by rcases h with rfl | rfl <;> rfl
theorem jx_01c {v : Int32} (h : jx_01 v) : narrow .char (.int v) = .int v := by rcases h with rfl | rfl <;> rfl
theorem jx_01f {v : Int32} (h : jx_01 v) : fits .boolean (.int v) = true := by rcases h with rfl | rfl <;> rfl
def jx_ai (x : Int32) : Int32 := if 0 ≤ x then x else 0 - x
def jx_al (x : Int64) : Int64 := if 0 < x then x else -x
def jx_mx (x y : Int32) : Int32 := if x < y then y else x
def jx_si (x : Int32) : Int32 := (x >>> (31 &&& 31)) ||| ((-x).toUInt32 >>> ((31 : Int32).toUInt32 &&& Int32.toUInt32 31)).toInt32
def jx_sl (x : Int64) : Int32 := ((x >>> ((63 : Int32).toInt64 &&& 63)) ||| ((-x).toUInt64 >>> ((63 : Int32).toInt64.toUInt64 &&& Int64.toUInt64 63)).toInt64).toInt32
section JX
variable {G : jx_G} {X : jx_C} {cc : ByteArray} {own : String} {ret : Option FieldType} {nL lv : Nat} {fin : Option Value × va_W} {w : va_W} {pc : Nat} {L : List (Nat × Value)} {st : List Value}
theorem jx_L {L2 : List (Nat × Value)} (h : L = L2) (k : jx_At G X fin w pc L2 st) : jx_At G X fin w pc L st := by rw [h]; exact k
theorem jx_sub {L2 : List (Nat × Value)} (ks : List Nat) (h : lv_pick L ks = L2) (k : jx_At G X fin w pc L2 st) : jx_At G X fin w pc L st := fun H locs ls hP hD hS hl => k H locs ls hP hD hS (lv_sub hl ks h)
theorem jx_iconst (hX : jx_Ok G X cc own ret nL lv) {n : Int} {v : Int32} (hd : decode cc pc = .ok (.iconst n, 1)) (hv : Int32.ofInt n = v) (k : jx_At G X fin w (pc + 1) L (.int v :: st)) : jx_At G X fin w pc L st :=
  fun H locs ls hP hD hS hl => lv_iconst hX.1 hX.2.1 hd hv (k H locs ls hP hD hS hl)
theorem jx_bipush (hX : jx_Ok G X cc own ret nL lv) {n : Int} {v : Int32} (hd : decode cc pc = .ok (.bipush n, 2)) (hv : (Int8.ofInt n).toInt32 = v) (k : jx_At G X fin w (pc + 2) L (.int v :: st)) : jx_At G X fin w pc L st :=
  fun H locs ls hP hD hS hl => lv_bipush hX.1 hX.2.1 hd hv (k H locs ls hP hD hS hl)
theorem jx_sipush (hX : jx_Ok G X cc own ret nL lv) {n : Int} {v : Int32} (hd : decode cc pc = .ok (.sipush n, 3)) (hv : (Int16.ofInt n).toInt32 = v) (k : jx_At G X fin w (pc + 3) L (.int v :: st)) : jx_At G X fin w pc L st :=
  fun H locs ls hP hD hS hl => lv_sipush hX.1 hX.2.1 hd hv (k H locs ls hP hD hS hl)
theorem jx_lconst (hX : jx_Ok G X cc own ret nL lv) {n : Fin 2} {v : Int64} (hd : decode cc pc = .ok (.lconst n, 1)) (hv : Int64.ofNat (n : Nat) = v) (k : jx_At G X fin w (pc + 1) L (.long v :: st)) : jx_At G X fin w pc L st :=
  fun H locs ls hP hD hS hl => lv_lconst hX.1 hX.2.1 hd hv (k H locs ls hP hD hS hl)
theorem jx_iload_n (hX : jx_Ok G X cc own ret nL lv) {i : Nat} {x : Int32} {n : Fin 4} (hd : decode cc pc = .ok (.iload_n n, 1)) (j : Nat) (hj : L[j]? = some (i, .int x)) (hi : (n : Nat) = i) (k : jx_At G X fin w (pc + 1) L (.int x :: st)) : jx_At G X fin w pc L st :=
  fun H locs ls hP hD hS hl => lv_iload_n hX.1 hX.2.1 hd hi (lv_at hl j hj) (k H locs ls hP hD hS hl)
theorem jx_iload (hX : jx_Ok G X cc own ret nL lv) {i : Nat} {x : Int32} (hd : decode cc pc = .ok (.iload i, 2)) (j : Nat) (hj : L[j]? = some (i, .int x)) (k : jx_At G X fin w (pc + 2) L (.int x :: st)) : jx_At G X fin w pc L st :=
  fun H locs ls hP hD hS hl => lv_iload hX.1 hX.2.1 hd (lv_at hl j hj) (k H locs ls hP hD hS hl)
theorem jx_istore_n (hX : jx_Ok G X cc own ret nL lv) {i : Nat} {x : Int32} {n : Fin 4} (hd : decode cc pc = .ok (.istore_n n, 1)) (hi : (n : Nat) = i) (hn : i < nL) {L2 : List (Nat × Value)} (hL : (i, Value.int x) :: L.filter (fun q => !(q.1 == i) && !(q.1 + 1 == i && q.2.category == 2)) = L2) (k : jx_At G X fin w (pc + 1) L2 st) : jx_At G X fin w pc L (.int x :: st) :=
  fun H locs ls hP hD hS hl => lv_istore_n hX.1 hX.2.1 hd hi hl (by rw [hX.2.2.1]; exact hn) hL (fun ls2 hl2 => k H locs ls2 hP hD hS hl2)
theorem jx_istore (hX : jx_Ok G X cc own ret nL lv) {i : Nat} {x : Int32} (hd : decode cc pc = .ok (.istore i, 2)) (hn : i < nL) {L2 : List (Nat × Value)} (hL : (i, Value.int x) :: L.filter (fun q => !(q.1 == i) && !(q.1 + 1 == i && q.2.category == 2)) = L2) (k : jx_At G X fin w (pc + 2) L2 st) : jx_At G X fin w pc L (.int x :: st) :=
  fun H locs ls hP hD hS hl => lv_istore hX.1 hX.2.1 hd hl (by rw [hX.2.2.1]; exact hn) hL (fun ls2 hl2 => k H locs ls2 hP hD hS hl2)
theorem jx_lload_n (hX : jx_Ok G X cc own ret nL lv) {i : Nat} {x : Int64} {n : Fin 4} (hd : decode cc pc = .ok (.lload_n n, 1)) (j : Nat) (hj : L[j]? = some (i, .long x)) (hi : (n : Nat) = i) (k : jx_At G X fin w (pc + 1) L (.long x :: st)) : jx_At G X fin w pc L st :=
  fun H locs ls hP hD hS hl => lv_lload_n hX.1 hX.2.1 hd hi (lv_at hl j hj) (k H locs ls hP hD hS hl)
theorem jx_lload (hX : jx_Ok G X cc own ret nL lv) {i : Nat} {x : Int64} (hd : decode cc pc = .ok (.lload i, 2)) (j : Nat) (hj : L[j]? = some (i, .long x)) (k : jx_At G X fin w (pc + 2) L (.long x :: st)) : jx_At G X fin w pc L st :=
  fun H locs ls hP hD hS hl => lv_lload hX.1 hX.2.1 hd (lv_at hl j hj) (k H locs ls hP hD hS hl)
theorem jx_lstore_n (hX : jx_Ok G X cc own ret nL lv) {i : Nat} {x : Int64} {n : Fin 4} (hd : decode cc pc = .ok (.lstore_n n, 1)) (hi : (n : Nat) = i) (hn : i + 1 < nL) {L2 : List (Nat × Value)} (hL : (i, Value.long x) :: L.filter (fun q => !(q.1 == i) && (!(q.1 == i + 1) && !(q.1 + 1 == i && q.2.category == 2))) = L2) (k : jx_At G X fin w (pc + 1) L2 st) : jx_At G X fin w pc L (.long x :: st) :=
  fun H locs ls hP hD hS hl => lv_lstore_n hX.1 hX.2.1 hd hi hl (by rw [hX.2.2.1]; exact hn) hL (fun ls2 hl2 => k H locs ls2 hP hD hS hl2)
theorem jx_lstore (hX : jx_Ok G X cc own ret nL lv) {i : Nat} {x : Int64} (hd : decode cc pc = .ok (.lstore i, 2)) (hn : i + 1 < nL) {L2 : List (Nat × Value)} (hL : (i, Value.long x) :: L.filter (fun q => !(q.1 == i) && (!(q.1 == i + 1) && !(q.1 + 1 == i && q.2.category == 2))) = L2) (k : jx_At G X fin w (pc + 2) L2 st) : jx_At G X fin w pc L (.long x :: st) :=
  fun H locs ls hP hD hS hl => lv_lstore hX.1 hX.2.1 hd hl (by rw [hX.2.2.1]; exact hn) hL (fun ls2 hl2 => k H locs ls2 hP hD hS hl2)
theorem jx_aload_n (hX : jx_Ok G X cc own ret nL lv) {i : Nat} {x : Nat} {n : Fin 4} (hd : decode cc pc = .ok (.aload_n n, 1)) (j : Nat) (hj : L[j]? = some (i, .ref x)) (hi : (n : Nat) = i) (k : jx_At G X fin w (pc + 1) L (.ref x :: st)) : jx_At G X fin w pc L st :=
  fun H locs ls hP hD hS hl => lv_aload_n hX.1 hX.2.1 hd hi (lv_at hl j hj) (k H locs ls hP hD hS hl)
theorem jx_aload (hX : jx_Ok G X cc own ret nL lv) {i : Nat} {x : Nat} (hd : decode cc pc = .ok (.aload i, 2)) (j : Nat) (hj : L[j]? = some (i, .ref x)) (k : jx_At G X fin w (pc + 2) L (.ref x :: st)) : jx_At G X fin w pc L st :=
  fun H locs ls hP hD hS hl => lv_aload hX.1 hX.2.1 hd (lv_at hl j hj) (k H locs ls hP hD hS hl)
theorem jx_astore_n (hX : jx_Ok G X cc own ret nL lv) {i : Nat} {x : Nat} {n : Fin 4} (hd : decode cc pc = .ok (.astore_n n, 1)) (hi : (n : Nat) = i) (hn : i < nL) {L2 : List (Nat × Value)} (hL : (i, Value.ref x) :: L.filter (fun q => !(q.1 == i) && !(q.1 + 1 == i && q.2.category == 2)) = L2) (k : jx_At G X fin w (pc + 1) L2 st) : jx_At G X fin w pc L (.ref x :: st) :=
  fun H locs ls hP hD hS hl => lv_astore_n hX.1 hX.2.1 hd hi hl (by rw [hX.2.2.1]; exact hn) hL (fun ls2 hl2 => k H locs ls2 hP hD hS hl2)
theorem jx_astore (hX : jx_Ok G X cc own ret nL lv) {i : Nat} {x : Nat} (hd : decode cc pc = .ok (.astore i, 2)) (hn : i < nL) {L2 : List (Nat × Value)} (hL : (i, Value.ref x) :: L.filter (fun q => !(q.1 == i) && !(q.1 + 1 == i && q.2.category == 2)) = L2) (k : jx_At G X fin w (pc + 2) L2 st) : jx_At G X fin w pc L (.ref x :: st) :=
  fun H locs ls hP hD hS hl => lv_astore hX.1 hX.2.1 hd hl (by rw [hX.2.2.1]; exact hn) hL (fun ls2 hl2 => k H locs ls2 hP hD hS hl2)
theorem jx_iinc (hX : jx_Ok G X cc own ret nL lv) {i : Nat} {n : Int} {x v : Int32} (hd : decode cc pc = .ok (.iinc i n, 3)) (j : Nat) (hj : L[j]? = some (i, .int x)) (hv : x + Int32.ofInt n = v) (hn : i < nL) {L2 : List (Nat × Value)} (hL : (i, Value.int v) :: L.filter (fun q => !(q.1 == i) && !(q.1 + 1 == i && q.2.category == 2)) = L2) (k : jx_At G X fin w (pc + 3) L2 st) : jx_At G X fin w pc L st :=
  fun H locs ls hP hD hS hl => lv_iinc hX.1 hX.2.1 hd hl hj hv (by rw [hX.2.2.1]; exact hn) hL (fun ls2 hl2 => k H locs ls2 hP hD hS hl2)
theorem jx_iadd (hX : jx_Ok G X cc own ret nL lv) {x y : Int32} (hd : decode cc pc = .ok (.iadd, 1))  (k : jx_At G X fin w (pc + 1) L (.int (x + y) :: st)) : jx_At G X fin w pc L (.int y :: .int x :: st) :=
  fun H locs ls hP hD hS hl => lv_iadd hX.1 hX.2.1 hd (k H locs ls hP hD hS hl)
theorem jx_isub (hX : jx_Ok G X cc own ret nL lv) {x y : Int32} (hd : decode cc pc = .ok (.isub, 1))  (k : jx_At G X fin w (pc + 1) L (.int (x - y) :: st)) : jx_At G X fin w pc L (.int y :: .int x :: st) :=
  fun H locs ls hP hD hS hl => lv_isub hX.1 hX.2.1 hd (k H locs ls hP hD hS hl)
theorem jx_imul (hX : jx_Ok G X cc own ret nL lv) {x y : Int32} (hd : decode cc pc = .ok (.imul, 1))  (k : jx_At G X fin w (pc + 1) L (.int (x * y) :: st)) : jx_At G X fin w pc L (.int y :: .int x :: st) :=
  fun H locs ls hP hD hS hl => lv_imul hX.1 hX.2.1 hd (k H locs ls hP hD hS hl)
theorem jx_iand (hX : jx_Ok G X cc own ret nL lv) {x y : Int32} (hd : decode cc pc = .ok (.iand, 1))  (k : jx_At G X fin w (pc + 1) L (.int (x &&& y) :: st)) : jx_At G X fin w pc L (.int y :: .int x :: st) :=
  fun H locs ls hP hD hS hl => lv_iand hX.1 hX.2.1 hd (k H locs ls hP hD hS hl)
theorem jx_ior (hX : jx_Ok G X cc own ret nL lv) {x y : Int32} (hd : decode cc pc = .ok (.ior, 1))  (k : jx_At G X fin w (pc + 1) L (.int (x ||| y) :: st)) : jx_At G X fin w pc L (.int y :: .int x :: st) :=
  fun H locs ls hP hD hS hl => lv_ior hX.1 hX.2.1 hd (k H locs ls hP hD hS hl)
theorem jx_ixor (hX : jx_Ok G X cc own ret nL lv) {x y : Int32} (hd : decode cc pc = .ok (.ixor, 1))  (k : jx_At G X fin w (pc + 1) L (.int (x ^^^ y) :: st)) : jx_At G X fin w pc L (.int y :: .int x :: st) :=
  fun H locs ls hP hD hS hl => lv_ixor hX.1 hX.2.1 hd (k H locs ls hP hD hS hl)
theorem jx_ladd (hX : jx_Ok G X cc own ret nL lv) {x y : Int64} (hd : decode cc pc = .ok (.ladd, 1))  (k : jx_At G X fin w (pc + 1) L (.long (x + y) :: st)) : jx_At G X fin w pc L (.long y :: .long x :: st) :=
  fun H locs ls hP hD hS hl => lv_ladd hX.1 hX.2.1 hd (k H locs ls hP hD hS hl)
theorem jx_lsub (hX : jx_Ok G X cc own ret nL lv) {x y : Int64} (hd : decode cc pc = .ok (.lsub, 1))  (k : jx_At G X fin w (pc + 1) L (.long (x - y) :: st)) : jx_At G X fin w pc L (.long y :: .long x :: st) :=
  fun H locs ls hP hD hS hl => lv_lsub hX.1 hX.2.1 hd (k H locs ls hP hD hS hl)
theorem jx_lmul (hX : jx_Ok G X cc own ret nL lv) {x y : Int64} (hd : decode cc pc = .ok (.lmul, 1))  (k : jx_At G X fin w (pc + 1) L (.long (x * y) :: st)) : jx_At G X fin w pc L (.long y :: .long x :: st) :=
  fun H locs ls hP hD hS hl => lv_lmul hX.1 hX.2.1 hd (k H locs ls hP hD hS hl)
theorem jx_land (hX : jx_Ok G X cc own ret nL lv) {x y : Int64} (hd : decode cc pc = .ok (.land, 1))  (k : jx_At G X fin w (pc + 1) L (.long (x &&& y) :: st)) : jx_At G X fin w pc L (.long y :: .long x :: st) :=
  fun H locs ls hP hD hS hl => lv_land hX.1 hX.2.1 hd (k H locs ls hP hD hS hl)
theorem jx_lor (hX : jx_Ok G X cc own ret nL lv) {x y : Int64} (hd : decode cc pc = .ok (.lor, 1))  (k : jx_At G X fin w (pc + 1) L (.long (x ||| y) :: st)) : jx_At G X fin w pc L (.long y :: .long x :: st) :=
  fun H locs ls hP hD hS hl => lv_lor hX.1 hX.2.1 hd (k H locs ls hP hD hS hl)
theorem jx_lxor (hX : jx_Ok G X cc own ret nL lv) {x y : Int64} (hd : decode cc pc = .ok (.lxor, 1))  (k : jx_At G X fin w (pc + 1) L (.long (x ^^^ y) :: st)) : jx_At G X fin w pc L (.long y :: .long x :: st) :=
  fun H locs ls hP hD hS hl => lv_lxor hX.1 hX.2.1 hd (k H locs ls hP hD hS hl)
theorem jx_ineg (hX : jx_Ok G X cc own ret nL lv) {x : Int32} (hd : decode cc pc = .ok (.ineg, 1))  (k : jx_At G X fin w (pc + 1) L (.int (-x) :: st)) : jx_At G X fin w pc L (.int x :: st) :=
  fun H locs ls hP hD hS hl => lv_ineg hX.1 hX.2.1 hd (k H locs ls hP hD hS hl)
theorem jx_lneg (hX : jx_Ok G X cc own ret nL lv) {x : Int64} (hd : decode cc pc = .ok (.lneg, 1))  (k : jx_At G X fin w (pc + 1) L (.long (-x) :: st)) : jx_At G X fin w pc L (.long x :: st) :=
  fun H locs ls hP hD hS hl => lv_lneg hX.1 hX.2.1 hd (k H locs ls hP hD hS hl)
theorem jx_ishl (hX : jx_Ok G X cc own ret nL lv) {x y : Int32} (hd : decode cc pc = .ok (.ishl, 1))  (k : jx_At G X fin w (pc + 1) L (.int (x <<< (y &&& 31)) :: st)) : jx_At G X fin w pc L (.int y :: .int x :: st) :=
  fun H locs ls hP hD hS hl => lv_ishl hX.1 hX.2.1 hd (k H locs ls hP hD hS hl)
theorem jx_ishr (hX : jx_Ok G X cc own ret nL lv) {x y : Int32} (hd : decode cc pc = .ok (.ishr, 1))  (k : jx_At G X fin w (pc + 1) L (.int (x >>> (y &&& 31)) :: st)) : jx_At G X fin w pc L (.int y :: .int x :: st) :=
  fun H locs ls hP hD hS hl => lv_ishr hX.1 hX.2.1 hd (k H locs ls hP hD hS hl)
theorem jx_iushr (hX : jx_Ok G X cc own ret nL lv) {x y v : Int32} (hd : decode cc pc = .ok (.iushr, 1)) (hv : (x.toUInt32 >>> (y.toUInt32 &&& Int32.toUInt32 31)).toInt32 = v) (k : jx_At G X fin w (pc + 1) L (.int v :: st)) : jx_At G X fin w pc L (.int y :: .int x :: st) :=
  fun H locs ls hP hD hS hl => lv_iushr hX.1 hX.2.1 hd hv (k H locs ls hP hD hS hl)
theorem jx_lshr (hX : jx_Ok G X cc own ret nL lv) {x v : Int64} {y : Int32} (hd : decode cc pc = .ok (.lshr, 1)) (hv : x >>> (y.toInt64 &&& 63) = v) (k : jx_At G X fin w (pc + 1) L (.long v :: st)) : jx_At G X fin w pc L (.int y :: .long x :: st) :=
  fun H locs ls hP hD hS hl => lv_lshr hX.1 hX.2.1 hd hv (k H locs ls hP hD hS hl)
theorem jx_lushr (hX : jx_Ok G X cc own ret nL lv) {x v : Int64} {y : Int32} (hd : decode cc pc = .ok (.lushr, 1)) (hv : (x.toUInt64 >>> (y.toInt64.toUInt64 &&& Int64.toUInt64 63)).toInt64 = v) (k : jx_At G X fin w (pc + 1) L (.long v :: st)) : jx_At G X fin w pc L (.int y :: .long x :: st) :=
  fun H locs ls hP hD hS hl => lv_lushr hX.1 hX.2.1 hd hv (k H locs ls hP hD hS hl)
theorem jx_i2l (hX : jx_Ok G X cc own ret nL lv) {x : Int32} {v : Int64} (hd : decode cc pc = .ok (.i2l, 1)) (hv : x.toInt64 = v) (k : jx_At G X fin w (pc + 1) L (.long v :: st)) : jx_At G X fin w pc L (.int x :: st) :=
  fun H locs ls hP hD hS hl => lv_i2l hX.1 hX.2.1 hd hv (k H locs ls hP hD hS hl)
theorem jx_l2i (hX : jx_Ok G X cc own ret nL lv) {x : Int64} {v : Int32} (hd : decode cc pc = .ok (.l2i, 1)) (hv : x.toInt32 = v) (k : jx_At G X fin w (pc + 1) L (.int v :: st)) : jx_At G X fin w pc L (.long x :: st) :=
  fun H locs ls hP hD hS hl => lv_l2i hX.1 hX.2.1 hd hv (k H locs ls hP hD hS hl)
theorem jx_i2c (hX : jx_Ok G X cc own ret nL lv) {x v : Int32} (hd : decode cc pc = .ok (.i2c, 1)) (hv : (x.toUInt32 % 65536).toInt32 = v) (k : jx_At G X fin w (pc + 1) L (.int v :: st)) : jx_At G X fin w pc L (.int x :: st) :=
  fun H locs ls hP hD hS hl => lv_i2c hX.1 hX.2.1 hd hv (k H locs ls hP hD hS hl)
theorem jx_idiv (hX : jx_Ok G X cc own ret nL lv) {x y : Int32} (hd : decode cc pc = .ok (.idiv, 1)) (hy : ¬ y = 0) (k : jx_At G X fin w (pc + 1) L (.int (x / y) :: st)) : jx_At G X fin w pc L (.int y :: .int x :: st) :=
  fun H locs ls hP hD hS hl => lv_idiv hX.1 hX.2.1 hd hy (k H locs ls hP hD hS hl)
theorem jx_irem (hX : jx_Ok G X cc own ret nL lv) {x y : Int32} (hd : decode cc pc = .ok (.irem, 1)) (hy : ¬ y = 0) (k : jx_At G X fin w (pc + 1) L (.int (x - x / y * y) :: st)) : jx_At G X fin w pc L (.int y :: .int x :: st) :=
  fun H locs ls hP hD hS hl => lv_irem hX.1 hX.2.1 hd hy (k H locs ls hP hD hS hl)
theorem jx_lcmp (hX : jx_Ok G X cc own ret nL lv) {x y : Int64} (hd : decode cc pc = .ok (.lcmp, 1))  (k : jx_At G X fin w (pc + 1) L (.int (lg_cmp x y) :: st)) : jx_At G X fin w pc L (.long y :: .long x :: st) :=
  fun H locs ls hP hD hS hl => W.lcmp hX.1 hX.2.1 hd (k H locs ls hP hD hS hl)
theorem jx_dup (hX : jx_Ok G X cc own ret nL lv) {v : Value} (hd : decode cc pc = .ok (.dup, 1)) (hv : v.category = 1) (k : jx_At G X fin w (pc + 1) L (v :: v :: st)) : jx_At G X fin w pc L (v :: st) :=
  fun H locs ls hP hD hS hl => lv_dup hX.1 hX.2.1 hd hv (k H locs ls hP hD hS hl)
theorem jx_pop (hX : jx_Ok G X cc own ret nL lv) {v : Value} (hd : decode cc pc = .ok (.pop, 1)) (hv : v.category = 1) (k : jx_At G X fin w (pc + 1) L st) : jx_At G X fin w pc L (v :: st) :=
  fun H locs ls hP hD hS hl => lv_pop hX.1 hX.2.1 hd hv (k H locs ls hP hD hS hl)
theorem jx_dup2 (hX : jx_Ok G X cc own ret nL lv) {v u : Value} (hd : decode cc pc = .ok (.dup2, 1)) (hv : v.category = 1) (hu : u.category = 1) (k : jx_At G X fin w (pc + 1) L (v :: u :: v :: u :: st)) : jx_At G X fin w pc L (v :: u :: st) :=
  fun H locs ls hP hD hS hl => lv_dup2_11 hX.1 hX.2.1 hd hv hu (k H locs ls hP hD hS hl)
theorem jx_icmp_eq (hX : jx_Ok G X cc own ret nL lv) {x y : Int32} {off : Int} {tgt : Nat} (hd : decode cc pc = .ok (.if_icmp .eq off, 3)) (ht : (pc : Int) + off = (tgt : Int)) (kt : x = y → jx_At G X fin w tgt L st) (kf : ¬ x = y → jx_At G X fin w (pc + 3) L st) : jx_At G X fin w pc L (.int y :: .int x :: st) :=
  fun H locs ls hP hD hS hl => lv_icmp_eq hX.1 hX.2.1 hd ht (fun h => kt h H locs ls hP hD hS hl) (fun h => kf h H locs ls hP hD hS hl)
theorem jx_if_eq (hX : jx_Ok G X cc own ret nL lv) {x : Int32} {off : Int} {tgt : Nat} (hd : decode cc pc = .ok (.ifCond .eq off, 3)) (ht : (pc : Int) + off = (tgt : Int)) (kt : x = 0 → jx_At G X fin w tgt L st) (kf : ¬ x = 0 → jx_At G X fin w (pc + 3) L st) : jx_At G X fin w pc L (.int x :: st) :=
  fun H locs ls hP hD hS hl => lv_if_eq hX.1 hX.2.1 hd ht (fun h => kt h H locs ls hP hD hS hl) (fun h => kf h H locs ls hP hD hS hl)
theorem jx_icmp_ne (hX : jx_Ok G X cc own ret nL lv) {x y : Int32} {off : Int} {tgt : Nat} (hd : decode cc pc = .ok (.if_icmp .ne off, 3)) (ht : (pc : Int) + off = (tgt : Int)) (kt : ¬ x = y → jx_At G X fin w tgt L st) (kf : x = y → jx_At G X fin w (pc + 3) L st) : jx_At G X fin w pc L (.int y :: .int x :: st) :=
  fun H locs ls hP hD hS hl => lv_icmp_ne hX.1 hX.2.1 hd ht (fun h => kt h H locs ls hP hD hS hl) (fun h => kf h H locs ls hP hD hS hl)
theorem jx_if_ne (hX : jx_Ok G X cc own ret nL lv) {x : Int32} {off : Int} {tgt : Nat} (hd : decode cc pc = .ok (.ifCond .ne off, 3)) (ht : (pc : Int) + off = (tgt : Int)) (kt : ¬ x = 0 → jx_At G X fin w tgt L st) (kf : x = 0 → jx_At G X fin w (pc + 3) L st) : jx_At G X fin w pc L (.int x :: st) :=
  fun H locs ls hP hD hS hl => lv_if_ne hX.1 hX.2.1 hd ht (fun h => kt h H locs ls hP hD hS hl) (fun h => kf h H locs ls hP hD hS hl)
theorem jx_icmp_lt (hX : jx_Ok G X cc own ret nL lv) {x y : Int32} {off : Int} {tgt : Nat} (hd : decode cc pc = .ok (.if_icmp .lt off, 3)) (ht : (pc : Int) + off = (tgt : Int)) (kt : x < y → jx_At G X fin w tgt L st) (kf : ¬ x < y → jx_At G X fin w (pc + 3) L st) : jx_At G X fin w pc L (.int y :: .int x :: st) :=
  fun H locs ls hP hD hS hl => lv_icmp_lt hX.1 hX.2.1 hd ht (fun h => kt h H locs ls hP hD hS hl) (fun h => kf h H locs ls hP hD hS hl)
theorem jx_if_lt (hX : jx_Ok G X cc own ret nL lv) {x : Int32} {off : Int} {tgt : Nat} (hd : decode cc pc = .ok (.ifCond .lt off, 3)) (ht : (pc : Int) + off = (tgt : Int)) (kt : x < 0 → jx_At G X fin w tgt L st) (kf : ¬ x < 0 → jx_At G X fin w (pc + 3) L st) : jx_At G X fin w pc L (.int x :: st) :=
  fun H locs ls hP hD hS hl => lv_if_lt hX.1 hX.2.1 hd ht (fun h => kt h H locs ls hP hD hS hl) (fun h => kf h H locs ls hP hD hS hl)
theorem jx_icmp_ge (hX : jx_Ok G X cc own ret nL lv) {x y : Int32} {off : Int} {tgt : Nat} (hd : decode cc pc = .ok (.if_icmp .ge off, 3)) (ht : (pc : Int) + off = (tgt : Int)) (kt : y ≤ x → jx_At G X fin w tgt L st) (kf : ¬ y ≤ x → jx_At G X fin w (pc + 3) L st) : jx_At G X fin w pc L (.int y :: .int x :: st) :=
  fun H locs ls hP hD hS hl => lv_icmp_ge hX.1 hX.2.1 hd ht (fun h => kt h H locs ls hP hD hS hl) (fun h => kf h H locs ls hP hD hS hl)
theorem jx_if_ge (hX : jx_Ok G X cc own ret nL lv) {x : Int32} {off : Int} {tgt : Nat} (hd : decode cc pc = .ok (.ifCond .ge off, 3)) (ht : (pc : Int) + off = (tgt : Int)) (kt : 0 ≤ x → jx_At G X fin w tgt L st) (kf : ¬ 0 ≤ x → jx_At G X fin w (pc + 3) L st) : jx_At G X fin w pc L (.int x :: st) :=
  fun H locs ls hP hD hS hl => lv_if_ge hX.1 hX.2.1 hd ht (fun h => kt h H locs ls hP hD hS hl) (fun h => kf h H locs ls hP hD hS hl)
theorem jx_icmp_gt (hX : jx_Ok G X cc own ret nL lv) {x y : Int32} {off : Int} {tgt : Nat} (hd : decode cc pc = .ok (.if_icmp .gt off, 3)) (ht : (pc : Int) + off = (tgt : Int)) (kt : y < x → jx_At G X fin w tgt L st) (kf : ¬ y < x → jx_At G X fin w (pc + 3) L st) : jx_At G X fin w pc L (.int y :: .int x :: st) :=
  fun H locs ls hP hD hS hl => lv_icmp_gt hX.1 hX.2.1 hd ht (fun h => kt h H locs ls hP hD hS hl) (fun h => kf h H locs ls hP hD hS hl)
theorem jx_if_gt (hX : jx_Ok G X cc own ret nL lv) {x : Int32} {off : Int} {tgt : Nat} (hd : decode cc pc = .ok (.ifCond .gt off, 3)) (ht : (pc : Int) + off = (tgt : Int)) (kt : 0 < x → jx_At G X fin w tgt L st) (kf : ¬ 0 < x → jx_At G X fin w (pc + 3) L st) : jx_At G X fin w pc L (.int x :: st) :=
  fun H locs ls hP hD hS hl => lv_if_gt hX.1 hX.2.1 hd ht (fun h => kt h H locs ls hP hD hS hl) (fun h => kf h H locs ls hP hD hS hl)
theorem jx_icmp_le (hX : jx_Ok G X cc own ret nL lv) {x y : Int32} {off : Int} {tgt : Nat} (hd : decode cc pc = .ok (.if_icmp .le off, 3)) (ht : (pc : Int) + off = (tgt : Int)) (kt : x ≤ y → jx_At G X fin w tgt L st) (kf : ¬ x ≤ y → jx_At G X fin w (pc + 3) L st) : jx_At G X fin w pc L (.int y :: .int x :: st) :=
  fun H locs ls hP hD hS hl => lv_icmp_le hX.1 hX.2.1 hd ht (fun h => kt h H locs ls hP hD hS hl) (fun h => kf h H locs ls hP hD hS hl)
theorem jx_if_le (hX : jx_Ok G X cc own ret nL lv) {x : Int32} {off : Int} {tgt : Nat} (hd : decode cc pc = .ok (.ifCond .le off, 3)) (ht : (pc : Int) + off = (tgt : Int)) (kt : x ≤ 0 → jx_At G X fin w tgt L st) (kf : ¬ x ≤ 0 → jx_At G X fin w (pc + 3) L st) : jx_At G X fin w pc L (.int x :: st) :=
  fun H locs ls hP hD hS hl => lv_if_le hX.1 hX.2.1 hd ht (fun h => kt h H locs ls hP hD hS hl) (fun h => kf h H locs ls hP hD hS hl)
theorem jx_goto (hX : jx_Ok G X cc own ret nL lv) {off : Int} {tgt : Nat} (hd : decode cc pc = .ok (.goto off, 3)) (ht : (pc : Int) + off = (tgt : Int)) (k : jx_At G X fin w tgt L st) : jx_At G X fin w pc L st :=
  fun H locs ls hP hD hS hl => lv_goto hX.1 hX.2.1 hd ht (k H locs ls hP hD hS hl)
theorem jx_tin (hX : jx_Ok G X cc own ret nL lv) {dflt lo hi : Int} {offs : Array Int} {len j : Nat} {x : Int32} {off : Int} {tgt : Nat} (hd : decode cc pc = .ok (.tableswitch dflt lo hi offs, len)) (hj : (x.toInt - lo).toNat = j) (h1 : ¬ x.toInt < lo) (h2 : ¬ hi < x.toInt) (ho : offs[j]? = some off) (ht : (pc : Int) + off = (tgt : Int)) (k : jx_At G X fin w tgt L st) : jx_At G X fin w pc L (.int x :: st) :=
  fun H locs ls hP hD hS hl => lv_tableIn hX.1 hX.2.1 hd h1 h2 (by rw [hj]; exact ho) ht (k H locs ls hP hD hS hl)
theorem jx_tdf (hX : jx_Ok G X cc own ret nL lv) {dflt lo hi : Int} {offs : Array Int} {len : Nat} {x : Int32} {tgt : Nat} (hd : decode cc pc = .ok (.tableswitch dflt lo hi offs, len)) (ho : ¬ x.toInt < lo → ¬ hi < x.toInt → offs[(x.toInt - lo).toNat]? = some dflt) (ht : (pc : Int) + dflt = (tgt : Int)) (k : jx_At G X fin w tgt L st) : jx_At G X fin w pc L (.int x :: st) :=
  fun H locs ls hP hD hS hl => by
    by_cases h1 : x.toInt < lo
    · exact lv_tableOut hX.1 hX.2.1 hd (Or.inl h1) ht (k H locs ls hP hD hS hl)
    · by_cases h2 : hi < x.toInt
      · exact lv_tableOut hX.1 hX.2.1 hd (Or.inr h2) ht (k H locs ls hP hD hS hl)
      · exact lv_tableIn hX.1 hX.2.1 hd h1 h2 (ho h1 h2) ht (k H locs ls hP hD hS hl)
theorem jx_end (hX : jx_Ok G X cc own ret nL lv) {H : Heap} {locs : List Loc} {r : Option Value} (hP : va_P G.1 jx_cl w H) (hD : va_D (jx_A X) w) (hS : va_S (jx_A X) (jx_s X).heap H locs) : ∀ t : State, t.heap = H → (jx_s X).WarmedH t.vm → jx_Q G (jx_A X) (r, w) (jx_a X) (jx_s X) (.returned r) t :=
  fun t ht hW => ⟨⟨rfl, by rw [ht]; exact hP, va_K.moved hW.alike hX.2.2.2.2.2.1, hD⟩, hS.F ht⟩
theorem jx_iret (hX : jx_Ok G X cc own (some .int) nL lv) {v : Int32} (hd : decode cc pc = .ok (.ireturn, 1)) : jx_At G X (some (.int v), w) w pc L [.int v] :=
  fun H locs ls hP hD hS hl => W.iret hX.1 hX.2.1 hX.2.2.2.2.2.2.2.2.1 (jx_end hX hP hD hS) hS.2.2 hd hX.2.2.2.2.2.2.2.1
theorem jx_zret {ty : FieldType} (hX : jx_Ok G X cc own (some ty) nL lv) {v : Int32} (hd : decode cc pc = .ok (.ireturn, 1)) (hn : narrow ty (.int v) = .int v) : jx_At G X (some (.int v), w) w pc L [.int v] :=
  fun H locs ls hP hD hS hl => W.zret hX.1 hX.2.1 hX.2.2.2.2.2.2.2.2.1 hn (jx_end hX hP hD hS) hS.2.2 hd hX.2.2.2.2.2.2.2.1
theorem jx_lret (hX : jx_Ok G X cc own (some .long) nL lv) {v : Int64} (hd : decode cc pc = .ok (.lreturn, 1)) : jx_At G X (some (.long v), w) w pc L [.long v] :=
  fun H locs ls hP hD hS hl => W.lret hX.1 hX.2.1 hX.2.2.2.2.2.2.2.2.1 (jx_end hX hP hD hS) hS.2.2 hd hX.2.2.2.2.2.2.2.1
theorem jx_vret (hX : jx_Ok G X cc own none nL lv) (hd : decode cc pc = .ok (.return_, 1)) : jx_At G X (none, w) w pc L [] :=
  fun H locs ls hP hD hS hl => W.vret hX.1 hX.2.1 hX.2.2.2.2.2.2.2.2.1 (jx_end hX hP hD hS) hS.2.2 hd hX.2.2.2.2.2.2.2.1
theorem jx_get (hX : jx_Ok G X cc own ret nL lv) {C : String} {T : u_T} {N ci index a : Nat} (hin : ∀ w ∈ u_ws C T N, w ∈ jx_W) (q0 : Nat) {fs : List Value} (he : w[q0]? = some (a, .inr (ci, fs))) (hc : jx_cl[ci]? = some (C, T, N)) (j : Nat) (hj : j < N) (h1 : (T j).1 = C) (hlink : Cond.fieldLink own index C (T j).2.1 (T j).2.2.1 ∈ jx_W) {v : Value} (hv : fs[j]? = some v) (hd : decode cc pc = .ok (.getfield index, 3)) (k : jx_At G X fin w (pc + 3) L (v :: st)) : jx_At G X fin w pc L (.ref a :: st) :=
  fun H locs ls hP hD hS hl => va_get hX.1 hX.2.1 hX.2.2.2.2.1 hin hX.2.2.2.1 hX.2.2.2.2.2.1 hP q0 he hc j hj (hX.2.2.2.2.1 _ hlink) (fun x hx => by rw [h1] at hx; exact hx) hv hd (k H locs ls hP hD hS hl)
theorem jx_getN (hX : jx_Ok G X cc own ret nL lv) {C host : String} {T : u_T} {N ci index a : Nat} (hin : ∀ w ∈ u_ws C T N, w ∈ jx_W) (q0 : Nat) {fs : List Value} (he : w[q0]? = some (a, .inr (ci, fs))) (hc : jx_cl[ci]? = some (C, T, N)) (j : Nat) (hj : j < N) (h1 : (T j).1 = C) (hlink : Cond.fieldLinkNest own index C (T j).2.1 (T j).2.2.1 host ∈ jx_Z) {v : Value} (hv : fs[j]? = some v) (hd : decode cc pc = .ok (.getfield index, 3)) (k : jx_At G X fin w (pc + 3) L (v :: st)) : jx_At G X fin w pc L (.ref a :: st) :=
  fun H locs ls hP hD hS hl => va_getN hX.1 hX.2.1 hX.2.2.2.2.1 hin hX.2.2.2.1 hX.2.2.2.2.2.1 hP q0 he hc j hj (va_Nw.use rfl (hX.2.2.2.2.2.2.1 _ hlink)) (fun x hx => by rw [h1] at hx; exact hx) hv hd (k H locs ls hP hD hS hl)
theorem jx_put (hX : jx_Ok G X cc own ret nL lv) {C : String} {T : u_T} {N ci index a : Nat} (hin : ∀ w ∈ u_ws C T N, w ∈ jx_W) (ty0 : Nat → FieldType) (hty : ∀ k, k < N → parseFieldDescriptor (T k).2.2.1 = some (ty0 k)) (hnm : ∀ a, a < N → ∀ b, b < N → a ≠ b → (T a).2.1 ≠ (T b).2.1) (q0 : Nat) {fs : List Value} (he : w[q0]? = some (a, .inr (ci, fs))) (hc : jx_cl[ci]? = some (C, T, N)) (j : Nat) (hj : j < N) (h1 : (T j).1 = C) (hlink : Cond.fieldLink own index C (T j).2.1 (T j).2.2.1 ∈ jx_W) (hfin : (T j).2.2.2 = false) {v : Value} {ty : FieldType} (ht : ty0 j = ty) (hn : narrow ty v = v) (hfit : fits ty v = true) (hl0 : j < fs.length) {w2 : va_W} (hw : w.set q0 (a, .inr (ci, fs.set j v)) = w2) (hd : decode cc pc = .ok (.putfield index, 3)) (k : jx_At G X fin w2 (pc + 3) L st) : jx_At G X fin w pc L (v :: .ref a :: st) :=
  fun H locs ls hP hD hS hl => va_put hX.1 hX.2.1 hX.2.2.2.2.1 hin ty0 hty hnm hX.2.2.2.1 hX.2.2.2.2.2.1 hP hD hS q0 he hc j hj (hX.2.2.2.2.1 _ hlink) (fun x hx => by rw [h1] at hx; exact hx) hfin (by rw [← ht]; exact hty j hj) hn hfit hl0 hd (fun H1 locs1 hP hD hS => k H1 locs1 ls (by rw [hw] at hP; exact hP) (by rw [hw] at hD; exact hD) hS hl)
theorem jx_putN (hX : jx_Ok G X cc own ret nL lv) {C host : String} {T : u_T} {N ci index a : Nat} (hin : ∀ w ∈ u_ws C T N, w ∈ jx_W) (ty0 : Nat → FieldType) (hty : ∀ k, k < N → parseFieldDescriptor (T k).2.2.1 = some (ty0 k)) (hnm : ∀ a, a < N → ∀ b, b < N → a ≠ b → (T a).2.1 ≠ (T b).2.1) (q0 : Nat) {fs : List Value} (he : w[q0]? = some (a, .inr (ci, fs))) (hc : jx_cl[ci]? = some (C, T, N)) (j : Nat) (hj : j < N) (h1 : (T j).1 = C) (hlink : Cond.fieldLinkNest own index C (T j).2.1 (T j).2.2.1 host ∈ jx_Z) (hfin : (T j).2.2.2 = false) {v : Value} {ty : FieldType} (ht : ty0 j = ty) (hn : narrow ty v = v) (hfit : fits ty v = true) (hl0 : j < fs.length) {w2 : va_W} (hw : w.set q0 (a, .inr (ci, fs.set j v)) = w2) (hd : decode cc pc = .ok (.putfield index, 3)) (k : jx_At G X fin w2 (pc + 3) L st) : jx_At G X fin w pc L (v :: .ref a :: st) :=
  fun H locs ls hP hD hS hl => va_putN hX.1 hX.2.1 hX.2.2.2.2.1 hin ty0 hty hnm hX.2.2.2.1 hX.2.2.2.2.2.1 hP hD hS q0 he hc j hj (va_Nw.use rfl (hX.2.2.2.2.2.2.1 _ hlink)) (fun x hx => by rw [h1] at hx; exact hx) hfin (by rw [← ht]; exact hty j hj) hn hfit hl0 hd (fun H1 locs1 hP hD hS => k H1 locs1 ls (by rw [hw] at hP; exact hP) (by rw [hw] at hD; exact hD) hS hl)
theorem jx_iald (hX : jx_Ok G X cc own ret nL lv) {a : Nat} (q0 : Nat) {n : Nat} {f : Nat → Int32} (ha : w[q0]? = some (a, .inl (jx_ca G 0, n, .inl f))) {i : Int32} (hin : jx_in i n = true) (hd : decode cc pc = .ok (.iaload, 1)) (k : jx_At G X fin w (pc + 1) L (.int (f i.toNatClampNeg) :: st)) : jx_At G X fin w pc L (.int i :: .ref a :: st) :=
  fun H locs ls hP hD hS hl => va_iald hX.1 hX.2.1 hX.2.2.2.2.2.1 hP q0 0 ha rfl (jx_in_ok hin) hd (k H locs ls hP hD hS hl)
theorem jx_cald (hX : jx_Ok G X cc own ret nL lv) {a : Nat} (q0 : Nat) {n : Nat} {f : Nat → Int32} (ha : w[q0]? = some (a, .inl (jx_ca G 1, n, .inl f))) {i : Int32} (hin : jx_in i n = true) (hd : decode cc pc = .ok (.caload, 1)) (k : jx_At G X fin w (pc + 1) L (.int (f i.toNatClampNeg) :: st)) : jx_At G X fin w pc L (.int i :: .ref a :: st) :=
  fun H locs ls hP hD hS hl => va_cald hX.1 hX.2.1 hX.2.2.2.2.2.1 hP q0 1 ha rfl (jx_in_ok hin) hd (k H locs ls hP hD hS hl)
theorem jx_iast (hX : jx_Ok G X cc own ret nL lv) {a : Nat} (q0 : Nat) {n : Nat} {f : Nat → Int32} (ha : w[q0]? = some (a, .inl (jx_ca G 0, n, .inl f))) {i x : Int32} (hin : jx_in i n = true) {w2 : va_W} (hw : w.set q0 (a, .inl (jx_ca G 0, n, .inl (upd f i.toNatClampNeg x))) = w2) (hd : decode cc pc = .ok (.iastore, 1)) (k : jx_At G X fin w2 (pc + 1) L st) : jx_At G X fin w pc L (.int x :: .int i :: .ref a :: st) :=
  fun H locs ls hP hD hS hl => va_iast hX.1 hX.2.1 hX.2.2.2.2.2.1 hP hD hS q0 0 ha rfl (jx_in_ok hin) hd (fun H1 locs1 hP hD hS => k H1 locs1 ls (by rw [hw] at hP; exact hP) (by rw [hw] at hD; exact hD) hS hl)
theorem jx_cast (hX : jx_Ok G X cc own ret nL lv) {a : Nat} (q0 : Nat) {n : Nat} {f : Nat → Int32} (ha : w[q0]? = some (a, .inl (jx_ca G 1, n, .inl f))) {i x : Int32} (hin : jx_in i n = true) {w2 : va_W} (hw : w.set q0 (a, .inl (jx_ca G 1, n, .inl (upd f i.toNatClampNeg (vp_nar .char x)))) = w2) (hd : decode cc pc = .ok (.castore, 1)) (k : jx_At G X fin w2 (pc + 1) L st) : jx_At G X fin w pc L (.int x :: .int i :: .ref a :: st) :=
  fun H locs ls hP hD hS hl => va_cast hX.1 hX.2.1 hX.2.2.2.2.2.1 hP hD hS q0 1 ha rfl (jx_in_ok hin) hd (fun H1 locs1 hP hD hS => k H1 locs1 ls (by rw [hw] at hP; exact hP) (by rw [hw] at hD; exact hD) hS hl)
theorem jx_zald (hX : jx_Ok G X cc own ret nL lv) {a : Nat} (q0 : Nat) {n : Nat} {f : Nat → Int32} (ha : w[q0]? = some (a, .inl (jx_ca G 2, n, .inl f))) {i : Int32} (hin : jx_in i n = true) (hd : decode cc pc = .ok (.baload, 1)) (k : jx_At G X fin w (pc + 1) L (.int (f i.toNatClampNeg) :: st)) : jx_At G X fin w pc L (.int i :: .ref a :: st) :=
  fun H locs ls hP hD hS hl => va_zald hX.1 hX.2.1 hX.2.2.2.2.2.1 hP q0 2 ha rfl (jx_in_ok hin) hd (k H locs ls hP hD hS hl)
theorem jx_zast (hX : jx_Ok G X cc own ret nL lv) {a : Nat} (q0 : Nat) {n : Nat} {f : Nat → Int32} (ha : w[q0]? = some (a, .inl (jx_ca G 2, n, .inl f))) {i x : Int32} (hin : jx_in i n = true) {w2 : va_W} (hw : w.set q0 (a, .inl (jx_ca G 2, n, .inl (upd f i.toNatClampNeg (vp_nar .boolean x)))) = w2) (hd : decode cc pc = .ok (.bastore, 1)) (k : jx_At G X fin w2 (pc + 1) L st) : jx_At G X fin w pc L (.int x :: .int i :: .ref a :: st) :=
  fun H locs ls hP hD hS hl => va_zast hX.1 hX.2.1 hX.2.2.2.2.2.1 hP hD hS q0 2 ha rfl (jx_in_ok hin) hd (fun H1 locs1 hP hD hS => k H1 locs1 ls (by rw [hw] at hP; exact hP) (by rw [hw] at hD; exact hD) hS hl)
theorem jx_lald (hX : jx_Ok G X cc own ret nL lv) {a : Nat} (q0 : Nat) {n : Nat} {f : Nat → Int64} (ha : w[q0]? = some (a, .inl (jx_ca G 3, n, .inr (.inl f)))) {i : Int32} (hin : jx_in i n = true) (hd : decode cc pc = .ok (.laload, 1)) (k : jx_At G X fin w (pc + 1) L (.long (f i.toNatClampNeg) :: st)) : jx_At G X fin w pc L (.int i :: .ref a :: st) :=
  fun H locs ls hP hD hS hl => va_lald hX.1 hX.2.1 hX.2.2.2.2.2.1 hP q0 3 ha rfl (jx_in_ok hin) hd (k H locs ls hP hD hS hl)
theorem jx_last (hX : jx_Ok G X cc own ret nL lv) {a : Nat} (q0 : Nat) {n : Nat} {f : Nat → Int64} (ha : w[q0]? = some (a, .inl (jx_ca G 3, n, .inr (.inl f)))) {i : Int32} {x : Int64} (hin : jx_in i n = true) {w2 : va_W} (hw : w.set q0 (a, .inl (jx_ca G 3, n, .inr (.inl (vp_updL f i.toNatClampNeg x)))) = w2) (hd : decode cc pc = .ok (.lastore, 1)) (k : jx_At G X fin w2 (pc + 1) L st) : jx_At G X fin w pc L (.long x :: .int i :: .ref a :: st) :=
  fun H locs ls hP hD hS hl => va_last hX.1 hX.2.1 hX.2.2.2.2.2.1 hP hD hS q0 3 ha rfl (jx_in_ok hin) hd (fun H1 locs1 hP hD hS => k H1 locs1 ls (by rw [hw] at hP; exact hP) (by rw [hw] at hD; exact hD) hS hl)
theorem jx_ldc2 (hX : jx_Ok G X cc own ret nL lv) {index : Nat} {v : Int64} (hc : Cond.constantLong own index v ∈ jx_W) (hd : decode cc pc = .ok (.ldc2_w index, 3)) (k : jx_At G X fin w (pc + 3) L (.long v :: st)) : jx_At G X fin w pc L st :=
  fun H locs ls hP hD hS hl => lv_ldc2 hX.1 hX.2.1 hX.2.2.2.1 (hX.2.2.2.2.1 _ hc) hd (k H locs ls hP hD hS hl)
theorem jx_ai_r (hX : jx_Ok G X cc own ret nL lv) {index : Nat} {x : Int32} (hlink : Cond.methodLink own index Lib.Math.abs.name ∈ jx_W) (hd : decode cc pc = .ok (.invokestatic index, 3)) (hr : (st.map fun v => v.category).sum ≤ 8) (hlv : 0 < lv) (k : jx_At G X fin w (pc + 3) L (.int (jx_ai x) :: st)) : jx_At G X fin w pc L (.int x :: st) :=
  fun H locs ls hP hD hS hl => va_mabs hX.1 hX.2.1 hl.1.symm hX.2.2.2.1 (hX.2.2.2.2.1 _ hlink) (hX.2.2.2.2.1 _ jw_absS) (hX.2.2.2.2.1 _ jw_MathI) (hX.2.2.2.2.1 _ jw_absC) (by rw [hX.2.2.2.2.2.2.2.2.2.2]; exact hlv) (by rw [hX.2.2.2.2.2.2.2.2.2.2]; simp only [jx_rm]; omega) (Nat.zero_le _) (Nat.zero_le _) hd (k H locs ls hP hD hS hl)
theorem jx_mx_r (hX : jx_Ok G X cc own ret nL lv) {index : Nat} {x y : Int32} (hlink : Cond.methodLink own index Lib.Math.max.name ∈ jx_W) (hd : decode cc pc = .ok (.invokestatic index, 3)) (hr : (st.map fun v => v.category).sum ≤ 8) (hlv : 0 < lv) (k : jx_At G X fin w (pc + 3) L (.int (jx_mx x y) :: st)) : jx_At G X fin w pc L (.int y :: .int x :: st) :=
  fun H locs ls hP hD hS hl => va_mmax hX.1 hX.2.1 hl.1.symm hX.2.2.2.1 (hX.2.2.2.2.1 _ hlink) (hX.2.2.2.2.1 _ jw_maxS) (hX.2.2.2.2.1 _ jw_MathI) (hX.2.2.2.2.1 _ jw_maxC) (by rw [hX.2.2.2.2.2.2.2.2.2.2]; exact hlv) (by rw [hX.2.2.2.2.2.2.2.2.2.2]; simp only [jx_rm]; omega) (Nat.zero_le _) (Nat.zero_le _) hd (k H locs ls hP hD hS hl)
theorem jx_al_r (hX : jx_Ok G X cc own ret nL lv) {index : Nat} {x : Int64} (hlink : Cond.methodLink own index Lib.MathLoose.abs_long.x ∈ jx_W) (hd : decode cc pc = .ok (.invokestatic index, 3)) (hr : (st.map fun v => v.category).sum ≤ 8) (hlv : 0 < lv) (k : jx_At G X fin w (pc + 3) L (.long (jx_al x) :: st)) : jx_At G X fin w pc L (.long x :: st) :=
  fun H locs ls hP hD hS hl => va_mabs_long hX.1 hX.2.1 hl.1.symm hX.2.2.2.1 (hX.2.2.2.2.1 _ hlink) (hX.2.2.2.2.1 _ jw_abslS) (hX.2.2.2.2.1 _ jw_MathI) (hX.2.2.2.2.1 _ jw_abslC) (by rw [hX.2.2.2.2.2.2.2.2.2.2]; exact hlv) (by rw [hX.2.2.2.2.2.2.2.2.2.2]; simp only [jx_rm]; omega) (Nat.zero_le _) (Nat.zero_le _) hd (k H locs ls hP hD hS hl)
end JX
def jx_M (l : Launch) (y : MethodName) (b : ByteArray) (nL : Nat) (ret : Option FieldType) (lv : Nat) (G : jx_G) (av : List Value) (w0 : va_W) (fin : Option Value × va_W) : Prop :=
  ∀ sz : Nat, Met l y (Cond.code y b nL ret :: jx_W) (jx_rm lv) (va_Pc av (fun U => U.heap.size = sz ∧ va_P G.1 jx_cl w0 U.heap ∧ va_K G.1 jx_cl (jx_ty G) U ∧ va_D (fun _ => True) w0 ∧ ∀ w ∈ jx_Z, va_Nw w U)) (jx_Q G (va_A w0 sz) fin) 0 0 (va_A w0 sz)
theorem jx_met {l : Launch} {y : MethodName} {b : ByteArray} {nL : Nat} {ret : Option FieldType} {lv : Nat} {G : jx_G} {av : List Value} {w0 : va_W} {fin : Option Value × va_W} {own : String} (hy : plainName y.cls = true) (ho : y.cls = own) (hlen : (lg_sl av).length ≤ nL)
    (h : ∀ X : jx_C, jx_Ok G X b own ret nL lv → jx_l X = l → jx_At G X fin w0 0 (lv_args 0 av) []) : jx_M l y b nL ret lv G av w0 fin := by
  intro sz
  refine Met.ofW (cc := b) (maxL := nL) (ret := ret) hy rfl ?_
  intro p e s m args below meth c s₁ B hml hv
  obtain ⟨rfl, hsz, hP, hK, hD0, hZ⟩ := hv
  subst hsz
  have hts := atoms_spec (ws := Cond.code y b nL ret :: jx_W) B.pre
  have hD := hD0.self (sz := s.heap.size)
  have hl := lv_entry av (n := nL) hlen
  rw [lg_entry_eq]
  have hX : jx_Ok G (p, l, e, jx_rm lv, s, m, av.toArray, below, meth, c, va_A w0 s.heap.size) b own ret nL lv :=
    ⟨B.exec, B.bytes, hml, by rw [← ho]; exact findClass_of_methodNamed B.named, fun w hw => hts w (List.mem_cons_of_mem _ hw), hK, hZ, B.notSynchronized, B.returns, fun q h => Or.inr h, rfl⟩
  exact h (p, l, e, jx_rm lv, s, m, av.toArray, below, meth, c, va_A w0 s.heap.size) hX rfl s.heap [] _ hP hD va_S.rf (by show lv_has _ c.maxLocals _; rw [hml]; exact hl)
theorem jx_Zw {s U : State} (hW : s.WarmedH U.vm) (h : ∀ w ∈ jx_Z, va_Nw w s) : ∀ w ∈ jx_Z, va_Nw w U := by
  intro w hw
  have h1 : jx_isN w = true := List.all_eq_true.mp jx_Zn w hw
  have h2 := h w hw
  cases w <;> first | (simp [jx_isN] at h1; done) | exact va_Nw.warmF hW h2 | exact va_Nw.warmM hW h2
theorem jx_Zs {s U : State} (hvm : s.vm = U.vm) (h : ∀ w ∈ jx_Z, va_Nw w s) : ∀ w ∈ jx_Z, va_Nw w U := by
  intro w hw
  have h1 : jx_isN w = true := List.all_eq_true.mp jx_Zn w hw
  have h2 := h w hw
  cases w <;> first | (simp [jx_isN] at h1; done) | exact va_Nw.same rfl hvm h2
theorem jx_goodW {y : MethodName} {b : ByteArray} {nL : Nat} {ret : Option FieldType} (hc : Cond.code y b nL ret ∈ jx_W) : GoodIn jx_W (Cond.code y b nL ret :: jx_W) := by
  intro w hw
  have hm : w ∈ jx_W := by
    rcases List.mem_cons.mp hw with h | h
    · rw [h]; exact hc
    · exact h
  exact ⟨hm, good_of_word (List.all_eq_true.mp jx_Wg w hm)⟩
section JXC
variable {G : jx_G} {X : jx_C} {cc : ByteArray} {own : String} {ret : Option FieldType} {nL lv : Nat} {fin fin1 : Option Value × va_W} {w : va_W} {pc : Nat} {L : List (Nat × Value)} {st rest : List Value}
theorem jx_behind (hX : jx_Ok G X cc own ret nL lv) {H : Heap} {locs : List Loc} {ls : Array Slot} {a : Array Value} (hD : va_D (jx_A X) w) (hS : va_S (jx_A X) (jx_s X).heap H locs) (hl : lv_has ls (jx_c X).maxLocals L)
    (hr : va_Run (jx_p X) (jx_l X) (jx_e X) (jx_R X) (jx_s X) (jx_m X) (jx_a X) (jx_b X) (jx_h X) (jx_c X) H locs 0 0 0 0 (F0 (jx_m X) pc ls st) rest (jx_Q G (va_A w H.size) fin1 a) (va_A w H.size))
    (k : jx_At G X fin fin1.2 (pc + 3) L (fin1.1.toList ++ rest)) : W (jx_p X) (jx_l X) (jx_e X) (jx_R X) (jx_s X) (jx_m X) (jx_a X) (jx_b X) (jx_h X) (jx_c X) H locs 0 0 (MQ (jx_b X) (jx_Q G (jx_A X) fin) (jx_a X) (jx_s X) 0 0 (jx_A X)) (F0 (jx_m X) pc ls st) := by
  intro T hT X9
  obtain ⟨v, st₀, t, T', L9, h0, X', hL, e1, e2, ⟨⟨hv, hP1, hK1, hD1⟩, hz, hk⟩, stp⟩ := hr T hT X9
  have hv2 : v = fin1.1 := Outcome.returned.inj hv
  subst hv2
  rw [h0] at hz hk
  have hF : ∀ q, va_A w H.size q → jx_A X q := by
    intro q h
    rcases h with ⟨j, e, h⟩ | h
    · exact hD.2 j _ h
    · exact hX.2.2.2.2.2.2.2.2.2.1 q (Nat.le_trans hS.1 h)
  obtain ⟨t2, a1, b1⟩ := k T'.heap (locs ++ L9) ls (by rw [e1]; exact hP1) (hD1.weaken (fun _ q _ h => hF q.1 h))
    ⟨Nat.le_trans hS.1 (by rw [e1]; exact hz), fun q h1 h2 => by rw [e1, hk q (Nat.lt_of_lt_of_le h1 hS.1) (fun z => h2 (hF q z))]; exact hS.2.1 q h1 h2, fun q hq => by
      rcases List.mem_append.mp hq with h | h
      · exact hS.2.2 q h
      · exact hF _ (hL q h)⟩ hl T' rfl X'
  exact ⟨t2, stp t2 a1, b1⟩
variable {y : MethodName} {b : ByteArray} {nL' lv' index n : Nat} {ret' : Option FieldType} {As : List Value}
theorem jx_pre (hX : jx_Ok G X cc own ret nL lv) {H : Heap} (hP : va_P G.1 jx_cl w H) (hD : va_D (jx_A X) w) {av : List Value} : PreS (jx_s X) H (va_Pc av (fun U => U.heap.size = H.size ∧ va_P G.1 jx_cl w U.heap ∧ va_K G.1 jx_cl (jx_ty G) U ∧ va_D (fun _ => True) w ∧ ∀ w ∈ jx_Z, va_Nw w U)) av :=
  ⟨fun a U g mk q => by obtain ⟨q0, q1, qP, qK, qD, qZ⟩ := q; exact ⟨q0, q1, qP, va_K.moved (u := U) (U := U.calling g mk a) (Vm.Alike.refl U.vm) qK, qD, jx_Zs (s := U) (U := U.calling g mk a) rfl qZ⟩,
    fun U hU hW => ⟨rfl, by rw [hU], by rw [hU]; exact hP, va_K.moved hW.alike hX.2.2.2.2.2.1, hD.weaken (fun _ _ _ _ => trivial), jx_Zw hW hX.2.2.2.2.2.2.1⟩⟩
theorem jx_callB (hX : jx_Ok G X cc own ret nL lv) (hcode : Cond.code y b nL' ret' ∈ jx_W) (hini : Cond.initialized y.cls ∈ jx_W) (hlink : Cond.methodLink own index y ∈ jx_W) (hd : y.cls ≠ "java/lang/invoke/MethodHandle" ∧ y.cls ≠ "java/lang/invoke/VarHandle" ∧ (parseMethodDescriptor y.desc).map (fun d => d.parameters.length) = some n) (hlv : lv' < lv) (hn : nL' ≤ 33) :
    CallB (jx_R X) (jx_s X) (jx_a X) own index y b nL' ret' (Cond.code y b nL' ret' :: jx_W) (jx_rm lv') 0 0 n :=
  callB_of n hX.2.2.2.2.1 (jx_goodW hcode) rfl rfl rfl (hX.2.2.2.2.1 _ hini) (hX.2.2.2.2.1 _ hlink) hd (by rw [hX.2.2.2.2.2.2.2.2.2.2]; simp only [jx_rm]; omega)
theorem jx_callV (hX : jx_Ok G X cc own ret nL lv) {C : String} {T : u_T} {N ci a : Nat} {fs : List Value} (hM : jx_M (jx_l X) y b nL' ret' lv' G (.ref a :: As) w fin1) (hcode : Cond.code y b nL' ret' ∈ jx_W) (hini : Cond.initialized y.cls ∈ jx_W) (hlink : Cond.methodLink own index y ∈ jx_W) (hinst : Cond.instanceMethod y ∈ jx_W) (hsel : Cond.selects C y y ∈ jx_W) (hdd : y.cls ≠ "java/lang/invoke/MethodHandle" ∧ y.cls ≠ "java/lang/invoke/VarHandle" ∧ (parseMethodDescriptor y.desc).map (fun d => d.parameters.length) = some n) (q0 : Nat) (he : w[q0]? = some (a, .inr (ci, fs))) (hc : jx_cl[ci]? = some (C, T, N)) (hn : As.length = n) (hst : st = As.reverse ++ .ref a :: rest) (hnL : nL' ≤ 33) (hd : decode cc pc = .ok (.invokevirtual index, 3)) (hlv : lv' < lv) (hroom : (rest.map fun v => v.category).sum ≤ 8)
    (k : jx_At G X fin fin1.2 (pc + 3) L (fin1.1.toList ++ rest)) : jx_At G X fin w pc L st :=
  fun H locs ls hP hD hS hl => jx_behind hX hD hS hl (va_runV (As := As) (rest := rest) (C := C) ⟨hX.1, hX.2.1, rfl, hX.2.2.2.1, hX.2.2.2.2.1⟩ (hM H.size) ⟨jx_callB hX hcode hini hlink hdd hlv hnL, hX.2.2.2.2.1 _ hinst, hX.2.2.2.2.1 _ hsel⟩ ⟨(jx_pre hX hP hD).1, va_recv hX.2.2.2.2.2.1 hP hc he, (jx_pre hX hP hD).2⟩ rfl hn hl.1 hst (lv_room hroom) hd ⟨Nat.zero_le _, Nat.zero_le _⟩) k
theorem jx_callS (hX : jx_Ok G X cc own ret nL lv) (hM : jx_M (jx_l X) y b nL' ret' lv' G As w fin1) (hcode : Cond.code y b nL' ret' ∈ jx_W) (hini : Cond.initialized y.cls ∈ jx_W) (hlink : Cond.methodLink own index y ∈ jx_W) (hstat : Cond.static y ∈ jx_W) (hdd : y.cls ≠ "java/lang/invoke/MethodHandle" ∧ y.cls ≠ "java/lang/invoke/VarHandle" ∧ (parseMethodDescriptor y.desc).map (fun d => d.parameters.length) = some n) (hn : As.length = n) (hst : st = As.reverse ++ rest) (hnL : nL' ≤ 33) (hd : decode cc pc = .ok (.invokestatic index, 3)) (hlv : lv' < lv) (hroom : (rest.map fun v => v.category).sum ≤ 8)
    (k : jx_At G X fin fin1.2 (pc + 3) L (fin1.1.toList ++ rest)) : jx_At G X fin w pc L st :=
  fun H locs ls hP hD hS hl => jx_behind hX hD hS hl (va_runS (As := As) (rest := rest) ⟨hX.1, hX.2.1, rfl, hX.2.2.2.1, hX.2.2.2.2.1⟩ (hM H.size) ⟨jx_callB hX hcode hini hlink hdd hlv hnL, hX.2.2.2.2.1 _ hstat⟩ (jx_pre hX hP hD) rfl hn hl.1 hst (lv_room hroom) hd ⟨Nat.zero_le _, Nat.zero_le _⟩) k
end JXC

