/-! the component's sign functions, as signs of whole numbers -/
def jb (x : Int64) (v : Int) (B : Nat) : Prop := B < 9223372036854775808 → x.toInt = v ∧ -(B : Int) ≤ v ∧ v ≤ B
theorem jb_i {x : Int32} {v : Int} {B : Nat} (h : x.toInt = v) (h1 : -(B : Int) ≤ v) (h2 : v ≤ B) : jb x.toInt64 v B := fun _ => ⟨by rw [jl_i, h], h1, h2⟩
theorem jb_wk {x : Int64} {v : Int} {B C : Nat} (h : jb x v B) (hBC : B ≤ C) : jb x v C := fun hC => by
  obtain ⟨e, a, b⟩ := h (by omega)
  exact ⟨e, by omega, by omega⟩
theorem jb_add {x y : Int64} {v u : Int} {B C : Nat} (hx : jb x v B) (hy : jb y u C) : jb (x + y) (v + u) (B + C) := by
  intro h
  obtain ⟨e1, a1, b1⟩ := hx (by omega)
  obtain ⟨e2, a2, b2⟩ := hy (by omega)
  refine ⟨?_, by omega, by omega⟩
  rw [jl_add (by rw [e1, e2]; omega) (by rw [e1, e2]; omega), e1, e2]
theorem jb_sub {x y : Int64} {v u : Int} {B C : Nat} (hx : jb x v B) (hy : jb y u C) : jb (x - y) (v - u) (B + C) := by
  intro h
  obtain ⟨e1, a1, b1⟩ := hx (by omega)
  obtain ⟨e2, a2, b2⟩ := hy (by omega)
  refine ⟨?_, by omega, by omega⟩
  rw [jl_sub (by rw [e1, e2]; omega) (by rw [e1, e2]; omega), e1, e2]
theorem jb_neg {x : Int64} {v : Int} {B : Nat} (hx : jb x v B) : jb (-x) (-v) B := by
  intro h
  obtain ⟨e1, a1, b1⟩ := hx h
  exact ⟨by rw [jl_neg (by rw [e1]; omega), e1], by omega, by omega⟩
theorem jb_al {x : Int64} {v : Int} {B : Nat} (hx : jb x v B) : jb (jx_al x) (jm_ab v) B := by
  intro h
  obtain ⟨e1, a1, b1⟩ := hx h
  refine ⟨by rw [jl_al (by rw [e1]; omega), e1]; rfl, ?_, ?_⟩ <;> unfold jm_ab <;> split <;> omega
theorem jb_mm {v u : Int} {B C : Nat} (a1 : -(B : Int) ≤ v) (b1 : v ≤ B) (a2 : -(C : Int) ≤ u) (b2 : u ≤ C) : -((B * C : Nat) : Int) ≤ v * u ∧ v * u ≤ ((B * C : Nat) : Int) := by
  have h1 : v.natAbs ≤ B := by omega
  have h2 : u.natAbs ≤ C := by omega
  have h3 : (v * u).natAbs ≤ B * C := by rw [Int.natAbs_mul]; exact Nat.mul_le_mul h1 h2
  generalize v * u = w at h3 ⊢
  omega
theorem jb_mul {x y : Int64} {v u : Int} {B C : Nat} (hx : jb x v B) (hy : jb y u C) : jb (x * y) (v * u) (B * C + B + C) := by
  intro h
  obtain ⟨e1, a1, b1⟩ := hx (by omega)
  obtain ⟨e2, a2, b2⟩ := hy (by omega)
  obtain ⟨h3, h4⟩ := jb_mm a1 b1 a2 b2
  refine ⟨?_, by omega, by omega⟩
  rw [jl_mul (by rw [e1, e2]; omega) (by rw [e1, e2]; omega), e1, e2]
theorem jb_0 : jb 0 0 0 := fun _ => ⟨rfl, by decide, by decide⟩
theorem jb_2 : jb 2 2 2 := fun _ => ⟨rfl, by decide, by decide⟩
theorem jb_4 : jb 4 4 4 := fun _ => ⟨rfl, by decide, by decide⟩
theorem js_rng (v : Int) : -1 ≤ v.sign ∧ v.sign ≤ 1 := by
  rcases Int.lt_trichotomy v 0 with h | h | h
  · rw [Int.sign_eq_neg_one_of_neg h]; omega
  · subst h; decide
  · rw [Int.sign_eq_one_of_pos h]; omega
theorem jb_sl {x : Int64} {v : Int} {B : Nat} (h : jb x v B) (hB : B < 9223372036854775808) : jx_sl x = Int32.ofInt v.sign := by
  apply ji_ext
  have := js_rng v
  rw [jx_sl_toInt, (h hB).1, ji_ofInt (by omega) (by omega)]
theorem js_si {x : Int32} {v : Int} (h : x.toInt = v) : jx_si x = Int32.ofInt v.sign := by
  apply ji_ext
  have := js_rng v
  rw [jx_si_toInt, h, ji_ofInt (by omega) (by omega)]
theorem jo_lt0 {v : Int} (h1 : -2147483648 ≤ v) (h2 : v < 2147483648) : Int32.ofInt v < 0 ↔ v < 0 := by rw [ji_lt, ji_ofInt h1 h2]; exact Iff.rfl
theorem jo_le0 {v : Int} (h1 : -2147483648 ≤ v) (h2 : v < 2147483648) : Int32.ofInt v ≤ 0 ↔ v ≤ 0 := by rw [ji_le, ji_ofInt h1 h2]; exact Iff.rfl
theorem jo_0le {v : Int} (h1 : -2147483648 ≤ v) (h2 : v < 2147483648) : 0 ≤ Int32.ofInt v ↔ 0 ≤ v := by rw [ji_le, ji_ofInt h1 h2]; exact Iff.rfl
theorem jo_eq0 {v : Int} (h1 : -2147483648 ≤ v) (h2 : v < 2147483648) : Int32.ofInt v = 0 ↔ v = 0 := by rw [ji_eq, ji_ofInt h1 h2]; exact Iff.rfl
theorem jo_mul (a b : Int) : Int32.ofInt a * Int32.ofInt b = Int32.ofInt (a * b) := (Int32.ofInt_mul a b).symm
theorem jo_neg (a : Int) : -Int32.ofInt a = Int32.ofInt (-a) := (Int32.ofInt_neg a).symm
theorem jo_ite {c : Prop} [Decidable c] (a b : Int) : (if c then Int32.ofInt a else Int32.ofInt b) = Int32.ofInt (if c then a else b) := by split <;> rfl
theorem js_mrng {a b : Int} (ha : -1 ≤ a ∧ a ≤ 1) (hb : -1 ≤ b ∧ b ≤ 1) : -1 ≤ a * b ∧ a * b ≤ 1 := by
  have h := jb_mm (B := 1) (C := 1) (by omega) (by omega) (show -((1 : Nat) : Int) ≤ b by omega) (by omega) (v := a)
  simpa using h
theorem f_C_signAt_eq {S : jx_S} {k : Int32} {c l s : Int64} {t r b cv lv sv : Int} (hk : jx_in k 72 = true) (ht : (S.2.1 6 k.toNatClampNeg).toInt = t) (hr : (S.2.1 7 k.toNatClampNeg).toInt = r) (hb : (S.2.1 8 k.toNatClampNeg).toInt = b) (bt : -100 ≤ t ∧ t ≤ 100) (br : -20000 ≤ r ∧ r ≤ 20000) (bb : -100 ≤ b ∧ b ≤ 100) (hc : jb c cv 1000) (hl : jb l lv 200) (hs : jb s sv 50) : f_C_signAt S k c l s = some (Int32.ofInt (jm_at t r b cv lv sv)) := by
  unfold f_C_signAt
  rw [if_pos hk]
  have hT := jb_i (B := 100) ht (by omega) (by omega)
  have hR := jb_i (B := 20000) hr (by omega) (by omega)
  have hB := jb_i (B := 100) hb (by omega) (by omega)
  have hW := jb_add (jb_add (jb_mul (jb_mul hc hB) hB) (jb_mul (jb_mul hl hT) hB)) (jb_mul hs (jb_add (jb_mul hT hT) (jb_al hR)))
  have hF := jb_add (jb_mul hl hB) (jb_mul (jb_mul jb_2 hs) hT)
  exact congrArg some (jb_sl (jb_add (jb_mul hW (jb_al hW)) (jb_mul (jb_mul hF (jb_al hF)) hR)) (by decide))
/-- the sign of w + R r + R u -/
def jm_wr (w r u : Int) : Int := if w.sign * (r + u).sign < 0 then w.sign * ((w * w - jm_ab r - jm_ab u) * jm_ab (w * w - jm_ab r - jm_ab u) - 4 * r * u).sign else if w.sign = 0 then (r + u).sign else w.sign
theorem f_C_signWithRoots_eq {a1 a2 a3 : Int64} {w r u : Int} (hw : jb a1 w 30000) (hr : jb a2 r 300000000) (hu : jb a3 u 300000000) : f_C_signWithRoots a1 a2 a3 = some (Int32.ofInt (jm_wr w r u)) := by
  unfold f_C_signWithRoots jm_wr
  have hE := jb_sub (jb_sub (jb_mul hw hw) (jb_al hr)) (jb_al hu)
  rw [jb_sl hw (by decide), jb_sl (jb_add hr hu) (by decide), jb_sl (jb_sub (jb_mul hE (jb_al hE)) (jb_mul (jb_mul jb_4 hr) hu)) (by decide), jo_mul, jo_mul]
  have g := js_mrng (js_rng w) (js_rng (r + u))
  have g2 := js_rng w
  simp only [jo_lt0 (show -2147483648 ≤ w.sign * (r + u).sign by omega) (by omega), jo_eq0 (show -2147483648 ≤ w.sign by omega) (by omega)]
  split
  · rfl
  · split <;> rfl
/-- the sign of (t + R r) / b less (t' + R r') / b' -/
def jm_df (t r b t' r' b' : Int) : Int := jm_wr (t * b' - t' * b) (r * b' * b') (-(r' * b * b))
theorem f_C_signOfDifference_eq {S : jx_S} {k a2 a3 a4 : Int32} {t r b t' r' b' : Int} (hk : jx_in k 72 = true) (ht : (S.2.1 6 k.toNatClampNeg).toInt = t) (hr : (S.2.1 7 k.toNatClampNeg).toInt = r) (hb : (S.2.1 8 k.toNatClampNeg).toInt = b) (bt : -100 ≤ t ∧ t ≤ 100) (br : -20000 ≤ r ∧ r ≤ 20000) (bb : -100 ≤ b ∧ b ≤ 100) (ht' : a2.toInt = t') (hr' : a3.toInt = r') (hb' : a4.toInt = b') (bt' : -100 ≤ t' ∧ t' ≤ 100) (br' : -20000 ≤ r' ∧ r' ≤ 20000) (bb' : -100 ≤ b' ∧ b' ≤ 100) : f_C_signOfDifference S k a2 a3 a4 = some (Int32.ofInt (jm_df t r b t' r' b')) := by
  unfold f_C_signOfDifference jm_df
  rw [if_pos hk]
  have hT := jb_i (B := 100) ht (by omega) (by omega)
  have hR := jb_i (B := 20000) hr (by omega) (by omega)
  have hB := jb_i (B := 100) hb (by omega) (by omega)
  have hT' := jb_i (B := 100) ht' (by omega) (by omega)
  have hR' := jb_i (B := 20000) hr' (by omega) (by omega)
  have hB' := jb_i (B := 100) hb' (by omega) (by omega)
  rw [f_C_signWithRoots_eq (jb_wk (jb_sub (jb_mul hT hB') (jb_mul hT' hB)) (by decide)) (jb_wk (jb_mul (jb_mul hR hB') hB') (by decide)) (jb_wk (jb_neg (jb_mul (jb_mul hR' hB) hB)) (by decide))]
  rfl
/-- the sign of a form in column i, the critical numbers given -/
def jm_below (c l s : Int) : Int := if s = 0 then (if l = 0 then c.sign else -l.sign) else s.sign
def jm_col (t r b : Nat → Int) (i : Nat) (c l s : Int) : Int :=
  if i = 0 then jm_below c l s
  else if jm_at (t ((i - 1) / 2)) (r ((i - 1) / 2)) (b ((i - 1) / 2)) c l s = 0 ∧ i % 2 = 0 then
    (if jm_at (t ((i - 1) / 2)) (r ((i - 1) / 2)) (b ((i - 1) / 2)) l (2 * s) 0 = 0 then s.sign else jm_at (t ((i - 1) / 2)) (r ((i - 1) / 2)) (b ((i - 1) / 2)) l (2 * s) 0)
  else jm_at (t ((i - 1) / 2)) (r ((i - 1) / 2)) (b ((i - 1) / 2)) c l s
/-- the component's critical numbers: n of them, in the arrays, within bounds -/
def jm_Cr (S : jx_S) (t r b : Nat → Int) (n : Nat) : Prop := ∀ k, k < n → (S.2.1 6 k).toInt = t k ∧ (S.2.1 7 k).toInt = r k ∧ (S.2.1 8 k).toInt = b k ∧ (-100 ≤ t k ∧ t k ≤ 100) ∧ (-20000 ≤ r k ∧ r k ≤ 20000) ∧ (1 ≤ b k ∧ b k ≤ 100)
theorem jm_at_rng (t r b c l s : Int) : -1 ≤ jm_at t r b c l s ∧ jm_at t r b c l s ≤ 1 := js_rng _
theorem f_C_signAt_k {S : jx_S} {t r b : Nat → Int} {n k : Nat} (hC : jm_Cr S t r b n) (hn : n ≤ 72) (hk : k < n) {c l s : Int64} {cv lv sv : Int} (hc : jb c cv 1000) (hl : jb l lv 200) (hs : jb s sv 50) : f_C_signAt S (nI k) c l s = some (Int32.ofInt (jm_at (t k) (r k) (b k) cv lv sv)) := by
  obtain ⟨h1, h2, h3, h4, h5, h6⟩ := hC k hk
  have e : (nI k).toNatClampNeg = k := nI_clamp (by omega)
  exact f_C_signAt_eq (ji_inN (by omega) (by decide)) (by rw [e]; exact h1) (by rw [e]; exact h2) (by rw [e]; exact h3) h4 h5 (by omega) hc hl hs
theorem f_C_signBelowAll_eq {S : jx_S} {c l s : Int} (hc : (S.1 14).toInt = c) (hl : (S.1 15).toInt = l) (hs : (S.1 16).toInt = s) : f_C_signBelowAll S = some (Int32.ofInt (jm_below c l s)) := by
  unfold f_C_signBelowAll jm_below
  rw [js_si hc, js_si hl, js_si hs, jo_neg]
  have e1 : (S.1 16 = 0) ↔ s = 0 := by rw [ji_eq, hs]; exact Iff.rfl
  have e2 : (S.1 15 = 0) ↔ l = 0 := by rw [ji_eq, hl]; exact Iff.rfl
  simp only [e1, e2]
  split
  · split <;> rfl
  · rfl
theorem f_C_signInColumn_eq {S : jx_S} {t r b : Nat → Int} {n i : Nat} (hC : jm_Cr S t r b n) (hn : n ≤ 72) (hi : i ≤ 2 * n) {c l s : Int} (hc : (S.1 14).toInt = c) (hl : (S.1 15).toInt = l) (hs : (S.1 16).toInt = s) (bc : -50 ≤ c ∧ c ≤ 50) (bl : -100 ≤ l ∧ l ≤ 100) (bs : -50 ≤ s ∧ s ≤ 50) : f_C_signInColumn S (nI i) = some (Int32.ofInt (jm_col t r b i c l s)) := by
  unfold f_C_signInColumn jm_col
  by_cases h0 : i = 0
  · subst h0
    rw [if_pos (show nI 0 = 0 from rfl), if_pos rfl, f_C_signBelowAll_eq hc hl hs]
    rfl
  · rw [if_neg (nI_ne0 (by omega) (by omega)), if_neg h0]
    have ek : (nI i - 1) >>> ((1 : Int32) &&& 31) = nI ((i - 1) / 2) := by
      rw [show nI i - 1 = nI (i - 1) from by rw [show i = (i - 1) + 1 by omega, nI_pred]; rfl]
      exact pk_shrN (by omega) _ 1 (by decide)
    have ea : ((nI i &&& 1) = 1) ↔ i % 2 = 1 := by
      rw [pk_andN (by omega) 1 (by decide), show (1 : Int32) = nI 1 from rfl, nI_eq (by omega) (by omega)]
    have hlt : (i - 1) / 2 < n := by omega
    have es : (2 * S.1 16).toInt = 2 * s := by
      rw [ji_mul (by rw [hs]; show -2147483648 ≤ 2 * s; omega) (by rw [hs]; show 2 * s < 2147483648; omega), hs]; rfl
    rw [ek, f_C_signAt_k hC hn hlt (jb_wk (jb_i (B := 50) hc (by omega) (by omega)) (by decide)) (jb_wk (jb_i (B := 100) hl (by omega) (by omega)) (by decide)) (jb_i (B := 50) hs (by omega) (by omega)), f_C_signAt_k hC hn hlt (jb_wk (jb_i (B := 100) hl (by omega) (by omega)) (by decide)) (jb_wk (jb_i (B := 100) es (by omega) (by omega)) (by decide)) (jb_wk jb_0 (by decide))]
    have g1 := jm_at_rng (t ((i - 1) / 2)) (r ((i - 1) / 2)) (b ((i - 1) / 2)) c l s
    have g2 := jm_at_rng (t ((i - 1) / 2)) (r ((i - 1) / 2)) (b ((i - 1) / 2)) l (2 * s) 0
    simp only [Option.bind_some, ea, js_si hs]
    generalize jm_at (t ((i - 1) / 2)) (r ((i - 1) / 2)) (b ((i - 1) / 2)) c l s = x at g1 ⊢
    generalize jm_at (t ((i - 1) / 2)) (r ((i - 1) / 2)) (b ((i - 1) / 2)) l (2 * s) 0 = y at g2 ⊢
    simp only [jo_eq0 (show -2147483648 ≤ x by omega) (by omega), jo_eq0 (show -2147483648 ≤ y by omega) (by omega)]
    by_cases hx : x = 0
    · by_cases hp : i % 2 = 1
      · simp [hx, hp]
      · have hp2 : i % 2 = 0 := by omega
        by_cases hy : y = 0
        · simp [hx, hp2, hy]
        · simp [hx, hp2, hy]
    · simp [hx]
