/-! pure rows: triples of Option, loops, states, numbers -/
def jm_T {α : Type} (o : Option α) (P : α → Prop) : Prop := ∃ r, o = some r ∧ P r
theorem jm_ret {α : Type} {r : α} {P : α → Prop} (h : P r) : jm_T (some r) P := ⟨r, rfl, h⟩
theorem jm_bind {α β : Type} {o : Option α} {f : α → Option β} {P : α → Prop} {Q : β → Prop} (h : jm_T o P) (k : ∀ r, P r → jm_T (f r) Q) : jm_T (o.bind f) Q := by
  obtain ⟨r, e, hp⟩ := h
  subst e
  exact k r hp
theorem jm_if {α : Type} {c : Prop} [Decidable c] {x y : Option α} {P : α → Prop} (ht : c → jm_T x P) (hf : ¬ c → jm_T y P) : jm_T (if c then x else y) P := by
  by_cases hc : c
  · rw [if_pos hc]; exact ht hc
  · rw [if_neg hc]; exact hf hc
theorem jm_gd {α : Type} {c : Prop} [Decidable c] {x : Option α} {P : α → Prop} (hc : c) (h : jm_T x P) : jm_T (if c then x else none) P := by rw [if_pos hc]; exact h
theorem jm_mono {α : Type} {o : Option α} {P Q : α → Prop} (h : jm_T o P) (k : ∀ r, P r → Q r) : jm_T o Q := by
  obtain ⟨r, e, hp⟩ := h
  exact ⟨r, e, k r hp⟩
theorem jm_eq {α : Type} {o : Option α} {r : α} {P : α → Prop} (e : o = some r) (h : P r) : jm_T o P := ⟨r, e, h⟩
theorem jm_loop {σ ρ : Type} {f : σ → Option (σ ⊕ ρ)} (I : σ → Prop) (μ : σ → Nat) (Post : ρ → Prop) (step : ∀ s, I s → jm_T (f s) (Sum.elim (fun s' => I s' ∧ μ s' < μ s) Post)) : ∀ n s, I s → μ s < n → jm_T (jx_lp f n s) Post
  | 0, s, _, h => absurd h (Nat.not_lt_zero _)
  | n + 1, s, hI, hn => by
    obtain ⟨o, e, h⟩ := step s hI
    cases o with
    | inl s' => exact ⟨_, by rw [jx_lp, e]; exact (jm_loop I μ Post step n s' h.1 (by have := h.2; omega)).choose_spec.1, (jm_loop I μ Post step n s' h.1 (by have := h.2; omega)).choose_spec.2⟩
    | inr r => exact ⟨r, by rw [jx_lp, e]; rfl, h⟩
theorem js_f1 (S : jx_S) (k : Nat) (v : Int32) (j : Nat) : (jx_f S k v).1 j = if j = k then v else S.1 j := by
  by_cases h : j = k
  · subst h; simp [jx_f]
  · have : Nat.beq j k = false := by
      cases hb : Nat.beq j k with
      | false => rfl
      | true => exact absurd (Nat.eq_of_beq_eq_true hb) h
    simp [jx_f, this, h]
theorem js_f2 (S : jx_S) (k : Nat) (v : Int32) : (jx_f S k v).2 = S.2 := rfl
theorem js_g1 (S : jx_S) (a : Nat) (f : Nat → Int32) : (jx_g S a f).1 = S.1 := rfl
theorem js_g2 (S : jx_S) (a : Nat) (f : Nat → Int32) (b : Nat) : (jx_g S a f).2.1 b = if b = a then f else S.2.1 b := by
  by_cases h : b = a
  · subst h; simp [jx_g]
  · have : Nat.beq b a = false := by
      cases hb : Nat.beq b a with
      | false => rfl
      | true => exact absurd (Nat.eq_of_beq_eq_true hb) h
    simp [jx_g, this, h]
theorem js_g3 (S : jx_S) (a : Nat) (f : Nat → Int32) : (jx_g S a f).2.2 = S.2.2 := rfl
theorem js_l1 (S : jx_S) (a : Nat) (f : Nat → Int64) : (jx_gl S a f).1 = S.1 := rfl
theorem js_l2 (S : jx_S) (a : Nat) (f : Nat → Int64) : (jx_gl S a f).2.1 = S.2.1 := rfl
theorem js_l3 (S : jx_S) (a : Nat) (f : Nat → Int64) (b : Nat) : (jx_gl S a f).2.2 b = if b = a then f else S.2.2 b := by
  by_cases h : b = a
  · subst h; simp [jx_gl]
  · have : Nat.beq b a = false := by
      cases hb : Nat.beq b a with
      | false => rfl
      | true => exact absurd (Nat.eq_of_beq_eq_true hb) h
    simp [jx_gl, this, h]
-- numbers
theorem ji_add {x y : Int32} (h1 : -2147483648 ≤ x.toInt + y.toInt) (h2 : x.toInt + y.toInt < 2147483648) : (x + y).toInt = x.toInt + y.toInt := by
  rw [Int32.toInt_add]; exact Int.bmod_eq_of_le (by omega) (by omega)
theorem ji_sub {x y : Int32} (h1 : -2147483648 ≤ x.toInt - y.toInt) (h2 : x.toInt - y.toInt < 2147483648) : (x - y).toInt = x.toInt - y.toInt := by
  rw [Int32.toInt_sub]; exact Int.bmod_eq_of_le (by omega) (by omega)
theorem ji_mul {x y : Int32} (h1 : -2147483648 ≤ x.toInt * y.toInt) (h2 : x.toInt * y.toInt < 2147483648) : (x * y).toInt = x.toInt * y.toInt := by
  rw [Int32.toInt_mul]; exact Int.bmod_eq_of_le (by omega) (by omega)
theorem ji_neg {x : Int32} (h1 : -2147483648 < x.toInt) : (-x).toInt = -x.toInt := by
  rw [Int32.toInt_neg]; have := Int32.toInt_lt x; exact Int.bmod_eq_of_le (by omega) (by omega)
theorem jl_add {x y : Int64} (h1 : -9223372036854775808 ≤ x.toInt + y.toInt) (h2 : x.toInt + y.toInt < 9223372036854775808) : (x + y).toInt = x.toInt + y.toInt := by
  rw [Int64.toInt_add]; exact Int.bmod_eq_of_le (by omega) (by omega)
theorem jl_sub {x y : Int64} (h1 : -9223372036854775808 ≤ x.toInt - y.toInt) (h2 : x.toInt - y.toInt < 9223372036854775808) : (x - y).toInt = x.toInt - y.toInt := by
  rw [Int64.toInt_sub]; exact Int.bmod_eq_of_le (by omega) (by omega)
theorem jl_mul {x y : Int64} (h1 : -9223372036854775808 ≤ x.toInt * y.toInt) (h2 : x.toInt * y.toInt < 9223372036854775808) : (x * y).toInt = x.toInt * y.toInt := by
  rw [Int64.toInt_mul]; exact Int.bmod_eq_of_le (by omega) (by omega)
theorem jl_neg {x : Int64} (h1 : -9223372036854775808 < x.toInt) : (-x).toInt = -x.toInt := by
  rw [Int64.toInt_neg]; have := Int64.toInt_lt x; exact Int.bmod_eq_of_le (by omega) (by omega)
theorem ji_in {i : Int32} {n : Nat} (h0 : 0 ≤ i.toInt) (h1 : i.toInt < n) : jx_in i n = true := by
  unfold jx_in
  exact decide_eq_true (vp_in_iff.mpr ⟨h0, h1⟩)
theorem ji_inN {k n : Nat} (h : k < n) (hn : n < 2147483648) : jx_in (nI k) n = true := ji_in (by rw [nI_toInt (by omega)]; omega) (by rw [nI_toInt (by omega)]; omega)
theorem ji_ext {x y : Int32} (h : x.toInt = y.toInt) : x = y := Int32.toInt_inj.mp h
theorem ji_ofInt {n : Int} (h1 : -2147483648 ≤ n) (h2 : n < 2147483648) : (Int32.ofInt n).toInt = n := Int32.toInt_ofInt_of_le (by omega) (by omega)
theorem ji_lt {x y : Int32} : x < y ↔ x.toInt < y.toInt := Int32.lt_iff_toInt_lt
theorem ji_le {x y : Int32} : x ≤ y ↔ x.toInt ≤ y.toInt := Int32.le_iff_toInt_le
theorem ji_eq {x y : Int32} : x = y ↔ x.toInt = y.toInt := Int32.toInt_inj.symm
theorem jl_lt {x y : Int64} : x < y ↔ x.toInt < y.toInt := Int64.lt_iff_toInt_lt
theorem jl_le {x y : Int64} : x ≤ y ↔ x.toInt ≤ y.toInt := Int64.le_iff_toInt_le
theorem jl_eq {x y : Int64} : x = y ↔ x.toInt = y.toInt := Int64.toInt_inj.symm
theorem jl_i (x : Int32) : x.toInt64.toInt = x.toInt := Int32.toInt_toInt64 x
theorem ji_ai {x : Int32} (h : -2147483648 < x.toInt) : (jx_ai x).toInt = if 0 ≤ x.toInt then x.toInt else -x.toInt := by
  unfold jx_ai
  by_cases hx : 0 ≤ x
  · have := ji_le.mp hx
    rw [if_pos hx, if_pos (by simpa using this)]
  · have h2 : ¬ 0 ≤ x.toInt := fun q => hx (ji_le.mpr (by simpa using q))
    rw [if_neg hx, if_neg h2, ji_sub] <;> simp <;> omega
theorem jl_al {x : Int64} (h : -9223372036854775808 < x.toInt) : (jx_al x).toInt = if 0 < x.toInt then x.toInt else -x.toInt := by
  unfold jx_al
  by_cases hx : 0 < x
  · have := jl_lt.mp hx
    rw [if_pos hx, if_pos (by simpa using this)]
  · have h2 : ¬ 0 < x.toInt := fun q => hx (jl_lt.mpr (by simpa using q))
    rw [if_neg hx, if_neg h2, jl_neg h]
