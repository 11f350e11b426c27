/-! the reference's sign functions -/
theorem jg_eq0 {x : Int64} : lg_cmp x 0 = 0 ↔ x = 0 := by
  unfold lg_cmp
  by_cases h1 : x > 0
  · have : ¬ x = 0 := fun e => by rw [e] at h1; exact absurd h1 (by decide)
    simp [h1, this]
  · by_cases h2 : x = 0
    · simp [h2]
    · simp [h1, h2]
theorem jg_toInt (x y : Int64) : (lg_cmp x y).toInt = (x.toInt - y.toInt).sign := by
  unfold lg_cmp
  by_cases h1 : x > y
  · have := jl_lt.mp h1
    rw [if_pos h1, Int.sign_eq_one_of_pos (by omega)]; rfl
  · have h3 : ¬ y.toInt < x.toInt := fun q => h1 (jl_lt.mpr q)
    rw [if_neg h1]
    by_cases h2 : x = y
    · subst h2; rw [if_pos rfl, Int.sub_self]; rfl
    · have : x.toInt ≠ y.toInt := fun q => h2 (jl_eq.mpr q)
      rw [if_neg h2, Int.sign_eq_neg_one_of_neg (by omega)]; rfl
theorem jg_le0 {x y : Int64} : lg_cmp x y ≤ 0 ↔ x.toInt ≤ y.toInt := by
  rw [ji_le, jg_toInt]
  show (x.toInt - y.toInt).sign ≤ 0 ↔ _
  rcases Int.lt_trichotomy (x.toInt - y.toInt) 0 with h | h | h
  · rw [Int.sign_eq_neg_one_of_neg h]; omega
  · rw [h]; simp; omega
  · rw [Int.sign_eq_one_of_pos h]; omega
theorem jg_0le {x y : Int64} : 0 ≤ lg_cmp x y ↔ y.toInt ≤ x.toInt := by
  rw [ji_le, jg_toInt]
  show 0 ≤ (x.toInt - y.toInt).sign ↔ _
  rcases Int.lt_trichotomy (x.toInt - y.toInt) 0 with h | h | h
  · rw [Int.sign_eq_neg_one_of_neg h]; omega
  · rw [h]; simp; omega
  · rw [Int.sign_eq_one_of_pos h]; omega
theorem jg_lt0 {x y : Int64} : lg_cmp x y < 0 ↔ x.toInt < y.toInt := by
  rw [ji_lt, jg_toInt]
  show (x.toInt - y.toInt).sign < 0 ↔ _
  rcases Int.lt_trichotomy (x.toInt - y.toInt) 0 with h | h | h
  · rw [Int.sign_eq_neg_one_of_neg h]; omega
  · rw [h]; simp; omega
  · rw [Int.sign_eq_one_of_pos h]; omega
theorem jg_eq {x y : Int64} : lg_cmp x y = 0 ↔ x.toInt = y.toInt := by
  rw [ji_eq, jg_toInt]
  show (x.toInt - y.toInt).sign = 0 ↔ _
  rcases Int.lt_trichotomy (x.toInt - y.toInt) 0 with h | h | h
  · rw [Int.sign_eq_neg_one_of_neg h]; omega
  · rw [h]; simp; omega
  · rw [Int.sign_eq_one_of_pos h]; omega
theorem f_M_sgn_eq {x : Int64} {v : Int} (h : x.toInt = v) : f_M_sgn x = some (Int32.ofInt v.sign) := by
  unfold f_M_sgn
  have e1 : lg_cmp x 0 ≤ 0 ↔ v ≤ 0 := by rw [jg_le0, h]; exact Iff.rfl
  have e2 : 0 ≤ lg_cmp x 0 ↔ 0 ≤ v := by rw [jg_0le, h]; exact Iff.rfl
  simp only [e1, e2]
  rcases Int.lt_trichotomy v 0 with k | k | k
  · rw [Int.sign_eq_neg_one_of_neg k, if_pos (by omega), if_neg (by omega)]; rfl
  · subst k; rfl
  · rw [Int.sign_eq_one_of_pos k, if_neg (by omega)]; rfl
theorem jo_eq {a b : Int} (a1 : -2147483648 ≤ a) (a2 : a < 2147483648) (b1 : -2147483648 ≤ b) (b2 : b < 2147483648) : Int32.ofInt a = Int32.ofInt b ↔ a = b := by rw [ji_eq, ji_ofInt a1 a2, ji_ofInt b1 b2]
theorem f_M_signOf_eq {x y z : Int64} {u v d : Int} (hu : jb x u 40000000) (hv : jb y v 100000) (hd : jb z d 100000) : f_M_signOf x y z = some (Int32.ofInt (jm_of u v d)) := by
  unfold f_M_signOf jm_of
  have hz : lg_cmp z 0 = 0 ↔ d = 0 := by rw [jg_eq, (hd (by decide)).1]; exact Iff.rfl
  rw [f_M_sgn_eq (hu (by decide)).1, f_M_sgn_eq (hv (by decide)).1]
  simp only [Option.bind_some, hz]
  have g1 := js_rng u
  have g2 := js_rng v
  have k1 := (jb_mul hu hu (by decide)).1
  have k2 := (jb_mul (jb_mul hv hv) hd (by decide)).1
  have e1 : lg_cmp (x * x) (y * y * z) ≤ 0 ↔ ¬ v * v * d < u * u := by rw [jg_le0, k1, k2]; omega
  have e2 : 0 ≤ lg_cmp (x * x) (y * y * z) ↔ ¬ u * u < v * v * d := by rw [jg_0le, k1, k2]; omega
  by_cases h0 : d = 0
  · simp only [h0, if_true, or_true]
    unfold k_M_signOf_21
    split
    · rfl
    · rw [if_pos rfl]
  · simp only [if_neg h0]
    unfold k_M_signOf_21
    simp only [e1, e2]
    generalize u.sign = su at g1 ⊢
    generalize v.sign = sv at g2 ⊢
    simp only [jo_eq0 (show -2147483648 ≤ su by omega) (by omega), jo_eq0 (show -2147483648 ≤ sv by omega) (by omega), jo_eq (show -2147483648 ≤ su by omega) (by omega) (show -2147483648 ≤ sv by omega) (by omega)]
    by_cases c1 : su = sv
    · simp [c1]
    · by_cases c2 : sv = 0
      · simp [c2]
      · by_cases c3 : su = 0
        · simp [c3, c2, Ne.symm c2]
        · by_cases c4 : v * v * d < u * u
          · simp [c1, c2, c3, c4]
          · by_cases c5 : u * u < v * v * d
            · simp [c1, c2, c3, c4, c5]
            · simp [c1, c2, c3, c4, c5]
/-- the reference's roots: n of them, in the arrays, within bounds -/
def jm_Rt (T : jx_S) (A B C w : Nat → Int) (n : Nat) : Prop := ∀ k, k < n → (T.2.2 0 k).toInt = A k ∧ (T.2.2 1 k).toInt = B k ∧ (T.2.2 2 k).toInt = C k ∧ (T.2.1 6 k).toInt = w k ∧ (0 ≤ A k ∧ A k ≤ 50) ∧ (-100 ≤ B k ∧ B k ≤ 100) ∧ (-50 ≤ C k ∧ C k ≤ 50) ∧ (w k = 1 ∨ w k = -1) ∧ (A k ≠ 0 → 0 ≤ B k * B k - 4 * A k * C k) ∧ (A k = 0 → 0 < B k)
theorem jb_m {x : Int64} {v : Int} {B : Nat} (h : x.toInt = v) (h1 : -(B : Int) ≤ v) (h2 : v ≤ B) : jb x v B := fun _ => ⟨h, h1, h2⟩
theorem f_M_signAt_k {T : jx_S} {A B C w : Nat → Int} {n k : Nat} (hR : jm_Rt T A B C w n) (hn : n ≤ 80) (hk : k < n) {a b c : Int64} {av bv cv : Int} (ha : jb a av 50) (hb : jb b bv 200) (hc : jb c cv 1000) : f_M_signAt T (nI k) a b c = some (Int32.ofInt (jm_rt (A k) (B k) (C k) (w k) av bv cv)) := by
  obtain ⟨h1, h2, h3, h4, h5, h6, h7, h8, h9, h10⟩ := hR k hk
  have e : (nI k).toNatClampNeg = k := nI_clamp (by omega)
  unfold f_M_signAt jm_rt
  rw [if_pos (ji_inN (by omega) (by decide)), e]
  have hA := jb_m (B := 50) h1 (by omega) (by omega)
  have hB := jb_m (B := 100) h2 (by omega) (by omega)
  have hC := jb_m (B := 50) h3 (by omega) (by omega)
  have hw := jb_i (B := 1) h4 (by omega) (by omega)
  have hz : lg_cmp (T.2.2 0 k) 0 = 0 ↔ A k = 0 := by rw [jg_eq, h1]; exact Iff.rfl
  simp only [hz]
  have hd := jb_sub (jb_mul hB hB) (jb_mul (jb_mul jb_4 hA) hC)
  have hu := jb_add (jb_sub (jb_mul ha (jb_add (jb_mul hB hB) hd)) (jb_mul (jb_mul (jb_mul jb_2 hA) hB) hb)) (jb_mul (jb_mul (jb_mul jb_4 hA) hA) hc)
  have hv := jb_mul hw (jb_sub (jb_mul (jb_mul jb_2 hA) hb) (jb_mul (jb_mul jb_2 ha) hB))
  have h0 := jb_add (jb_sub (jb_mul (jb_mul ha hC) hC) (jb_mul (jb_mul hb hC) hB)) (jb_mul (jb_mul hc hB) hB)
  split
  · rw [f_M_sgn_eq (h0 (by decide)).1]; rfl
  · rw [f_M_signOf_eq (jb_wk hu (by decide)) (jb_wk hv (by decide)) (jb_wk hd (by decide))]; rfl
theorem f_M_signAt_at {T : jx_S} {A B C w : Nat → Int} {n k : Nat} (hR : jm_Rt T A B C w n) (hn : n ≤ 80) (hk : k < n) {a b c : Int64} {av bv cv : Int} (ha : jb a av 50) (hb : jb b bv 200) (hc : jb c cv 1000) : f_M_signAt T (nI k) a b c = some (Int32.ofInt (jm_at (jm_t (A k) (B k) (C k)) (jm_r (A k) (B k) (C k) (w k)) (jm_b (A k) (B k)) cv bv av)) := by
  obtain ⟨h1, h2, h3, h4, h5, h6, h7, h8, h9, h10⟩ := hR k hk
  rw [f_M_signAt_k hR hn hk ha hb hc, jm_rt_at h9 h8]
theorem f_M_signBehind_eq {T : jx_S} {A B C w : Nat → Int} {n i : Nat} (hR : jm_Rt T A B C w n) (hn : n ≤ 80) (hi : i ≤ 2 * n) (hp : i % 2 = 0) {a b c : Int64} {av bv cv : Int} (ha : jb a av 50) (hb : jb b bv 100) (hc : jb c cv 50) : f_M_signBehind T (nI (i / 2) - 1) a b c = some (Int32.ofInt (jm_col (fun k => jm_t (A k) (B k) (C k)) (fun k => jm_r (A k) (B k) (C k) (w k)) (fun k => jm_b (A k) (B k)) i cv bv av)) := by
  unfold f_M_signBehind jm_col
  have za : lg_cmp a 0 = 0 ↔ av = 0 := by rw [jg_eq, (ha (by decide)).1]; exact Iff.rfl
  have zb : lg_cmp b 0 = 0 ↔ bv = 0 := by rw [jg_eq, (hb (by decide)).1]; exact Iff.rfl
  by_cases h0 : i = 0
  · subst h0
    rw [if_neg (by decide), if_pos rfl]
    unfold jm_below
    simp only [za, zb]
    rw [f_M_sgn_eq (ha (by decide)).1, f_M_sgn_eq (hb (by decide)).1, f_M_sgn_eq (hc (by decide)).1]
    simp only [Option.bind_some, jo_neg]
    split
    · split <;> rfl
    · rfl
  · have e : nI (i / 2) - 1 = nI ((i - 1) / 2) := by rw [show i / 2 = (i - 1) / 2 + 1 by omega, nI_pred]
    rw [e, if_pos (nI_pos' (by omega)), if_neg h0]
    have hlt : (i - 1) / 2 < n := by omega
    have h2a : jb (2 * a) (2 * av) 200 := jb_wk (jb_mul jb_2 ha) (by decide)
    rw [f_M_signAt_at hR hn hlt ha (jb_wk hb (by decide)) (jb_wk hc (by decide)), f_M_signAt_at hR hn hlt (jb_wk jb_0 (by decide)) h2a (jb_wk hb (by decide)), f_M_sgn_eq (ha (by decide)).1]
    have g1 := jm_at_rng (jm_t (A ((i - 1) / 2)) (B ((i - 1) / 2)) (C ((i - 1) / 2))) (jm_r (A ((i - 1) / 2)) (B ((i - 1) / 2)) (C ((i - 1) / 2)) (w ((i - 1) / 2))) (jm_b (A ((i - 1) / 2)) (B ((i - 1) / 2))) cv bv av
    have g2 := jm_at_rng (jm_t (A ((i - 1) / 2)) (B ((i - 1) / 2)) (C ((i - 1) / 2))) (jm_r (A ((i - 1) / 2)) (B ((i - 1) / 2)) (C ((i - 1) / 2)) (w ((i - 1) / 2))) (jm_b (A ((i - 1) / 2)) (B ((i - 1) / 2))) bv (2 * av) 0
    simp only [Option.bind_some]
    generalize jm_at (jm_t (A ((i - 1) / 2)) (B ((i - 1) / 2)) (C ((i - 1) / 2))) (jm_r (A ((i - 1) / 2)) (B ((i - 1) / 2)) (C ((i - 1) / 2)) (w ((i - 1) / 2))) (jm_b (A ((i - 1) / 2)) (B ((i - 1) / 2))) cv bv av = x at g1 ⊢
    generalize jm_at (jm_t (A ((i - 1) / 2)) (B ((i - 1) / 2)) (C ((i - 1) / 2))) (jm_r (A ((i - 1) / 2)) (B ((i - 1) / 2)) (C ((i - 1) / 2)) (w ((i - 1) / 2))) (jm_b (A ((i - 1) / 2)) (B ((i - 1) / 2))) bv (2 * av) 0 = y at g2 ⊢
    simp only [jo_eq0 (show -2147483648 ≤ x by omega) (by omega), jo_eq0 (show -2147483648 ≤ y by omega) (by omega)]
    by_cases hx : x = 0
    · by_cases hy : y = 0
      · simp [hx, hy, hp]
      · simp [hx, hy, hp]
    · simp [hx]
theorem f_M_signIn_eq {T : jx_S} {A B C w : Nat → Int} {n i : Nat} (hR : jm_Rt T A B C w n) (hn : n ≤ 80) (hi : i ≤ 2 * n) {a b c : Int64} {av bv cv : Int} (ha : jb a av 50) (hb : jb b bv 100) (hc : jb c cv 50) : f_M_signIn T (nI i) a b c = some (Int32.ofInt (jm_col (fun k => jm_t (A k) (B k) (C k)) (fun k => jm_r (A k) (B k) (C k) (w k)) (fun k => jm_b (A k) (B k)) i cv bv av)) := by
  unfold f_M_signIn
  have e1 : nI i - nI i / 2 * 2 = nI (i % 2) := pk_rem (d := 2) (by omega) (by omega) (by omega)
  have e2 : nI i / 2 = nI (i / 2) := pk_div (d := 2) (by omega) (by omega) (by omega)
  rw [e1, e2]
  by_cases hp : i % 2 = 0
  · rw [hp, if_neg (by decide), f_M_signBehind_eq hR hn hi hp ha hb hc]; rfl
  · have hp1 : i % 2 = 1 := by omega
    rw [hp1, if_pos (by rfl), f_M_signAt_at hR hn (show i / 2 < n by omega) ha (jb_wk hb (by decide)) (jb_wk hc (by decide))]
    unfold jm_col
    rw [if_neg (by omega), if_neg (by omega), show (i - 1) / 2 = i / 2 by omega]
    rfl
