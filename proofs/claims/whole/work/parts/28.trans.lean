/-! the order of the zeros of the polynomials over a column is a total preorder -/
theorem jm_sgInt : jo_Sg (fun x : Int => 0 ≤ x) Int.sign := by
  refine ⟨fun x => ?_, fun x => ?_, fun x => Int.sign_neg x⟩
  · rcases Int.lt_trichotomy x 0 with h | h | h
    · exact Or.inl (Int.sign_eq_neg_one_of_neg h)
    · subst h; exact Or.inr (Or.inl rfl)
    · exact Or.inr (Or.inr (Int.sign_eq_one_of_pos h))
  · rcases Int.lt_trichotomy x 0 with h | h | h
    · rw [Int.sign_eq_neg_one_of_neg h]; omega
    · subst h; decide
    · rw [Int.sign_eq_one_of_pos h]; omega
def jm_sD (D : Int) (x : Int × Int) : Int := (jm_sq x.1 + jm_sq x.2 * D).sign
theorem jm_cone {D u v : Int} (hD : 0 ≤ D) : 0 ≤ (jm_sq u + jm_sq v * D).sign ↔ jo_e (fun x : Int => 0 ≤ x) D u v := by
  rw [jm_sgInt.2.1]
  unfold jo_e
  have hu := Int.mul_nonneg_of_nonpos_of_nonpos (a := u) (b := u)
  have sqn : ∀ x : Int, 0 ≤ x * x := fun x => by rcases Int.le_total 0 x with k | k; exact Int.mul_nonneg k k; exact Int.mul_nonneg_of_nonpos_of_nonpos k k
  have hvD : 0 ≤ v * v * D := Int.mul_nonneg (sqn v) hD
  have huu := sqn u
  rcases Int.le_total 0 u with a | a <;> rcases Int.le_total 0 v with b | b
  · rw [jm_sq_pos a, jm_sq_pos b]
    refine ⟨fun _ => ?_, fun _ => by omega⟩
    by_cases k : 0 ≤ u * u - v * v * D
    · exact Or.inl ⟨a, k⟩
    · exact Or.inr ⟨b, by omega⟩
  · rw [jm_sq_pos a, jm_sq_np b, show u * u + -(v * v) * D = u * u - v * v * D by grind]
    refine ⟨fun k => Or.inl ⟨a, k⟩, fun k => ?_⟩
    rcases k with k | k
    · exact k.2
    · have : v = 0 := by omega
      subst this
      simp at *
      omega
  · rw [jm_sq_np a, jm_sq_pos b, show -(u * u) + v * v * D = v * v * D - u * u by omega]
    refine ⟨fun k => Or.inr ⟨b, k⟩, fun k => ?_⟩
    rcases k with k | k
    · have : u = 0 := by omega
      subst this
      simp at *
      omega
    · exact k.2
  · rw [jm_sq_np a, jm_sq_np b, show -(u * u) + -(v * v) * D = -(u * u + v * v * D) by grind]
    refine ⟨fun k => ?_, fun k => ?_⟩
    · have e1 : u * u = 0 := by omega
      have e2 : v * v * D = 0 := by omega
      have e3 : u = 0 := by rcases Int.mul_eq_zero.mp e1 with z | z <;> exact z
      refine Or.inl ⟨by omega, by omega⟩
    · rcases k with k | k
      · have : u = 0 := by omega
        subst this
        have := k.2
        simp at *
        omega
      · have : v = 0 := by omega
        subst this
        have := k.2
        simp at *
        omega
theorem jm_sgD {D : Int} (hD : 0 ≤ D) : @jo_Sg (Int × Int) (jo_ring D) (fun x => jo_e (fun x : Int => 0 ≤ x) D x.1 x.2) (jm_sD D) := by
  refine ⟨fun x => jm_sgInt.1 _, fun x => jm_cone hD, fun x => ?_⟩
  show (jm_sq (-x.1) + jm_sq (-x.2) * D).sign = -(jm_sq x.1 + jm_sq x.2 * D).sign
  rw [jm_sq_neg, jm_sq_neg, show -jm_sq x.1 + -jm_sq x.2 * D = -(jm_sq x.1 + jm_sq x.2 * D) by grind, Int.sign_neg]
theorem jm_nD {D : Int} (hD : 0 ≤ D) : @jo_N (Int × Int) (jo_ring D) (fun x => jo_e (fun x : Int => 0 ≤ x) D x.1 x.2) := jo_ext jo_int hD
def jm_ep (r : Int) : Int := if r < 0 then -1 else 1
theorem jm_ep_r (r : Int) : jm_ep r * jm_ab r = r := by
  unfold jm_ep jm_ab
  split <;> split <;> omega
theorem jm_ep_sq (r v : Int) : jm_sq (jm_ep r * v) * jm_ab r = jm_sq v * r := by
  have h := jm_ep_r r
  unfold jm_ep at *
  split at h
  · rw [if_pos (by assumption), show (-1 : Int) * v = -v by omega, jm_sq_neg]
    grind
  · rw [if_neg (by assumption), Int.one_mul]
    grind
theorem jm_scale {k x : Int} (hk : 0 < k) : (k * x).sign = x.sign := by rw [Int.sign_mul, Int.sign_eq_one_of_pos hk, Int.one_mul]
theorem jm_at_sD (t r b c l s : Int) : jm_at t r b c l s = jm_sD (jm_ab r) (c * b * b + l * t * b + s * (t * t + jm_ab r), jm_ep r * (l * b + 2 * s * t)) := by
  unfold jm_at jm_sD
  rw [jm_ep_sq]
theorem jm_at_lin {t r b c l : Int} (hb : 0 < b) : jm_at t r b c l 0 = jm_sD (jm_ab r) (c * b + l * t, jm_ep r * l) := by
  unfold jm_at jm_sD
  show _ = (jm_sq (c * b + l * t) + jm_sq (jm_ep r * l) * jm_ab r).sign
  rw [jm_ep_sq, show c * b * b + l * t * b + 0 * (t * t + jm_ab r) = b * (c * b + l * t) by grind, show l * b + 2 * 0 * t = b * l by grind, jm_sq_mul, jm_sq_mul, jm_sq_pos (x := b) (by omega), show b * b * jm_sq (c * b + l * t) + b * b * jm_sq l * r = b * b * (jm_sq (c * b + l * t) + jm_sq l * r) by grind]
  exact jm_scale (Int.mul_pos hb hb)
/-- numbers of the pair p, q -/
def jm_pc (m : Nat → Int) (p q : Nat) : Int := m (4 * p + 2) * m (4 * q) - m (4 * q + 2) * m (4 * p)
def jm_pl (m : Nat → Int) (p q : Nat) : Int := m (4 * p + 2) * m (4 * q + 1) + m (4 * p + 3) * m (4 * q) - m (4 * q + 2) * m (4 * p + 1) - m (4 * q + 3) * m (4 * p)
def jm_ps (m : Nat → Int) (p q : Nat) : Int := m (4 * p + 3) * m (4 * q + 1) - m (4 * q + 3) * m (4 * p + 1)
def jm_sA (t r b : Nat → Int) (i : Nat) (m : Nat → Int) (p : Nat) : Int := jm_col t r b i (m (4 * p + 2)) (m (4 * p + 3)) 0
def jm_sB (t r b : Nat → Int) (i : Nat) (m : Nat → Int) (p : Nat) : Int := jm_col t r b i (m (4 * p)) (m (4 * p + 1)) 0
def jm_sP (t r b : Nat → Int) (i : Nat) (m : Nat → Int) (p q : Nat) : Int := jm_col t r b i (jm_pc m p q) (jm_pl m p q) (jm_ps m p q)
def jm_cm (t r b : Nat → Int) (i : Nat) (m : Nat → Int) (p q : Nat) : Int := jm_sP t r b i m p q * jm_sA t r b i m p * jm_sA t r b i m q
theorem jm_col_rng (t r b : Nat → Int) (i : Nat) (c l s : Int) : jm_col t r b i c l s = -1 ∨ jm_col t r b i c l s = 0 ∨ jm_col t r b i c l s = 1 := by
  have k : ∀ x : Int, x.sign = -1 ∨ x.sign = 0 ∨ x.sign = 1 := jm_sgInt.1
  have ka : ∀ t r b c l s : Int, jm_at t r b c l s = -1 ∨ jm_at t r b c l s = 0 ∨ jm_at t r b c l s = 1 := fun t r b c l s => k _
  unfold jm_col jm_below
  split
  · split
    · split
      · exact k _
      · have := k l; omega
    · exact k _
  · split
    · split
      · exact k _
      · exact ka _ _ _ _ _ _
    · exact ka _ _ _ _ _ _
theorem jm_trans {t r b : Nat → Int} {i : Nat} {m : Nat → Int} {p q u : Nat} (hb : i ≠ 0 → 0 < b ((i - 1) / 2)) (hp : jm_sA t r b i m p ≠ 0) (hq : jm_sA t r b i m q ≠ 0) (hu : jm_sA t r b i m u ≠ 0) (h1 : 0 ≤ jm_cm t r b i m p q) (h2 : 0 ≤ jm_cm t r b i m q u) : 0 ≤ jm_cm t r b i m p u ∧ ((0 < jm_cm t r b i m p q ∨ 0 < jm_cm t r b i m q u) → 0 < jm_cm t r b i m p u) := by
  have rng : ∀ p, jm_sA t r b i m p ≠ 0 → jm_sA t r b i m p = 1 ∨ jm_sA t r b i m p = -1 := fun p h => by
    have := jm_col_rng t r b i (m (4 * p + 2)) (m (4 * p + 3)) 0
    unfold jm_sA at *
    omega
  by_cases h0 : i = 0
  · have eA : ∀ p, jm_sA t r b i m p = jo_l2 Int.sign (-m (4 * p + 3)) (m (4 * p + 2)) := fun p => by
      unfold jm_sA jm_col jm_below jo_l2
      rw [if_pos h0, if_pos rfl, Int.sign_neg]
      by_cases k : m (4 * p + 3) = 0
      · rw [if_pos k, if_pos (by rw [k]; rfl)]
      · have k2 : ¬ -(m (4 * p + 3)).sign = 0 := fun q => k (Int.sign_eq_zero_iff_zero.mp (by omega))
        rw [if_neg k, if_neg k2]
    have eP : ∀ p q, jm_sP t r b i m p q = jo_F Int.sign (-m (4 * p + 3)) (m (4 * p + 2)) (-m (4 * p + 1)) (m (4 * p)) (-m (4 * q + 3)) (m (4 * q + 2)) (-m (4 * q + 1)) (m (4 * q)) := fun p q => by
      unfold jm_sP jm_col jm_below jo_F jo_l3 jo_l2
      rw [if_pos h0]
      have e1 : -m (4 * p + 3) * -m (4 * q + 1) - -m (4 * q + 3) * -m (4 * p + 1) = jm_ps m p q := by unfold jm_ps; grind
      have e2 : -m (4 * p + 3) * m (4 * q) + m (4 * p + 2) * -m (4 * q + 1) - -m (4 * q + 3) * m (4 * p) - m (4 * q + 2) * -m (4 * p + 1) = -jm_pl m p q := by unfold jm_pl; grind
      have e3 : m (4 * p + 2) * m (4 * q) - m (4 * q + 2) * m (4 * p) = jm_pc m p q := rfl
      rw [e1, e2, e3, Int.sign_neg]
      have z : ∀ x : Int, x.sign = 0 ↔ x = 0 := fun x => Int.sign_eq_zero_iff_zero
      have z2 : ∀ x : Int, -x.sign = 0 ↔ x = 0 := fun x => by have := z x; omega
      simp only [z, z2]
    exact jo_T jo_int jm_sgInt (eA p).symm (eA q).symm (eA u).symm (rng p hp) (rng q hq) (rng u hu) (by rw [← eP]; rfl) (by rw [← eP]; rfl) (by rw [← eP]; rfl) h1 h2
  · have hb' := hb h0
    generalize ht : t ((i - 1) / 2) = tt
    generalize hr : r ((i - 1) / 2) = rr
    generalize hbb : b ((i - 1) / 2) = bb at hb'
    have hD : 0 ≤ jm_ab rr := jm_ab_nn rr
    -- the part that moves: nought in an odd column
    obtain ⟨d, hd⟩ : ∃ d : Int, d = if i % 2 = 0 then 1 else 0 := ⟨_, rfl⟩
    have s0 : ∀ x : Int, jm_sD (jm_ab rr) (x, 0) = x.sign := fun x => by
      unfold jm_sD
      show (jm_sq x + jm_sq 0 * jm_ab rr).sign = _
      rw [show jm_sq 0 = 0 from rfl, Int.zero_mul, Int.add_zero, jm_sq_sign]
    have eA : ∀ p, jm_sA t r b i m p = jo_l2 (jm_sD (jm_ab rr)) (m (4 * p + 2) * bb + m (4 * p + 3) * tt, jm_ep rr * m (4 * p + 3)) (d * m (4 * p + 3), 0) := fun p => by
      unfold jm_sA jm_col jo_l2
      rw [if_neg h0, ht, hr, hbb, jm_at_lin hb', s0]
      by_cases k : i % 2 = 0
      · rw [if_pos k] at hd
        subst hd
        rw [Int.one_mul]
        have e : jm_at tt rr bb (m (4 * p + 3)) (2 * 0) 0 = (m (4 * p + 3)).sign := by
          rw [show (2 : Int) * 0 = 0 by rfl, jm_at_lin hb', show jm_ep rr * 0 = 0 by omega, show m (4 * p + 3) * bb + 0 * tt = bb * m (4 * p + 3) by grind, s0, jm_scale hb']
        rw [e]
        generalize jm_sD (jm_ab rr) (m (4 * p + 2) * bb + m (4 * p + 3) * tt, jm_ep rr * m (4 * p + 3)) = x
        by_cases hx : x = 0
        · by_cases hy : (m (4 * p + 3)).sign = 0
          · simp [hx, hy, k]
          · simp [hx, hy, k]
        · simp [hx]
      · rw [if_neg k] at hd
        subst hd
        rw [Int.zero_mul]
        generalize jm_sD (jm_ab rr) (m (4 * p + 2) * bb + m (4 * p + 3) * tt, jm_ep rr * m (4 * p + 3)) = x
        by_cases hx : x = 0
        · simp [hx, k]
        · simp [hx]
    have ep2 : jm_ep rr * jm_ep rr = 1 := by unfold jm_ep; split <;> rfl
    have eP : ∀ p q, jm_sP t r b i m p q = @jo_F (Int × Int) (jo_ring (jm_ab rr)) (jm_sD (jm_ab rr)) (m (4 * p + 2) * bb + m (4 * p + 3) * tt, jm_ep rr * m (4 * p + 3)) (d * m (4 * p + 3), 0) (m (4 * p) * bb + m (4 * p + 1) * tt, jm_ep rr * m (4 * p + 1)) (d * m (4 * p + 1), 0) (m (4 * q + 2) * bb + m (4 * q + 3) * tt, jm_ep rr * m (4 * q + 3)) (d * m (4 * q + 3), 0) (m (4 * q) * bb + m (4 * q + 1) * tt, jm_ep rr * m (4 * q + 1)) (d * m (4 * q + 1), 0) := fun p q => by
      have e0 : ((m (4 * p + 2) * bb + m (4 * p + 3) * tt) * (m (4 * q) * bb + m (4 * q + 1) * tt) + jm_ep rr * m (4 * p + 3) * (jm_ep rr * m (4 * q + 1)) * jm_ab rr - ((m (4 * q + 2) * bb + m (4 * q + 3) * tt) * (m (4 * p) * bb + m (4 * p + 1) * tt) + jm_ep rr * m (4 * q + 3) * (jm_ep rr * m (4 * p + 1)) * jm_ab rr), (m (4 * p + 2) * bb + m (4 * p + 3) * tt) * (jm_ep rr * m (4 * q + 1)) + jm_ep rr * m (4 * p + 3) * (m (4 * q) * bb + m (4 * q + 1) * tt) - ((m (4 * q + 2) * bb + m (4 * q + 3) * tt) * (jm_ep rr * m (4 * p + 1)) + jm_ep rr * m (4 * q + 3) * (m (4 * p) * bb + m (4 * p + 1) * tt))) = (jm_pc m p q * bb * bb + jm_pl m p q * tt * bb + jm_ps m p q * (tt * tt + jm_ab rr), jm_ep rr * (jm_pl m p q * bb + 2 * jm_ps m p q * tt)) := by
        unfold jm_pc jm_pl jm_ps
        generalize jm_ep rr = e at ep2
        generalize jm_ab rr = D
        apply Prod.ext
        · dsimp only
          grind
        · dsimp only
          grind
      have e1 : ((m (4 * p + 2) * bb + m (4 * p + 3) * tt) * (d * m (4 * q + 1)) + jm_ep rr * m (4 * p + 3) * 0 * jm_ab rr + (d * m (4 * p + 3) * (m (4 * q) * bb + m (4 * q + 1) * tt) + 0 * (jm_ep rr * m (4 * q + 1)) * jm_ab rr) - ((m (4 * q + 2) * bb + m (4 * q + 3) * tt) * (d * m (4 * p + 1)) + jm_ep rr * m (4 * q + 3) * 0 * jm_ab rr) - (d * m (4 * q + 3) * (m (4 * p) * bb + m (4 * p + 1) * tt) + 0 * (jm_ep rr * m (4 * p + 1)) * jm_ab rr), (m (4 * p + 2) * bb + m (4 * p + 3) * tt) * 0 + jm_ep rr * m (4 * p + 3) * (d * m (4 * q + 1)) + (d * m (4 * p + 3) * (jm_ep rr * m (4 * q + 1)) + 0 * (m (4 * q) * bb + m (4 * q + 1) * tt)) - ((m (4 * q + 2) * bb + m (4 * q + 3) * tt) * 0 + jm_ep rr * m (4 * q + 3) * (d * m (4 * p + 1))) - (d * m (4 * q + 3) * (jm_ep rr * m (4 * p + 1)) + 0 * (m (4 * p) * bb + m (4 * p + 1) * tt))) = (d * (jm_pl m p q * bb + 2 * jm_ps m p q * tt), jm_ep rr * (d * (2 * jm_ps m p q))) := by
        unfold jm_pl jm_ps
        generalize jm_ep rr = e
        generalize jm_ab rr = D
        apply Prod.ext
        · dsimp only
          grind
        · dsimp only
          grind
      have e2 : (d * m (4 * p + 3) * (d * m (4 * q + 1)) + 0 * 0 * jm_ab rr - (d * m (4 * q + 3) * (d * m (4 * p + 1)) + 0 * 0 * jm_ab rr), d * m (4 * p + 3) * 0 + 0 * (d * m (4 * q + 1)) - (d * m (4 * q + 3) * 0 + 0 * (d * m (4 * p + 1)))) = (d * d * jm_ps m p q, 0) := by
        unfold jm_ps
        apply Prod.ext
        · dsimp only
          grind
        · dsimp only
          grind
      refine Eq.trans ?_ (b := jo_l3 (jm_sD (jm_ab rr)) (jm_pc m p q * bb * bb + jm_pl m p q * tt * bb + jm_ps m p q * (tt * tt + jm_ab rr), jm_ep rr * (jm_pl m p q * bb + 2 * jm_ps m p q * tt)) (d * (jm_pl m p q * bb + 2 * jm_ps m p q * tt), jm_ep rr * (d * (2 * jm_ps m p q))) (d * d * jm_ps m p q, 0)) (by rw [← e0, ← e1, ← e2]; rfl)
      unfold jm_sP jm_col jo_l3 jo_l2
      rw [if_neg h0, ht, hr, hbb, ← jm_at_sD, s0]
      by_cases k : i % 2 = 0
      · rw [if_pos k] at hd
        subst hd
        rw [Int.one_mul, Int.one_mul, Int.one_mul, Int.one_mul, ← jm_at_lin hb']
        generalize jm_at tt rr bb (jm_pc m p q) (jm_pl m p q) (jm_ps m p q) = x
        generalize jm_at tt rr bb (jm_pl m p q) (2 * jm_ps m p q) 0 = y
        by_cases hx : x = 0
        · by_cases hy : y = 0
          · simp [hx, hy, k]
          · simp [hx, hy, k]
        · simp [hx]
      · rw [if_neg k] at hd
        subst hd
        rw [Int.zero_mul, Int.zero_mul, Int.mul_zero, s0, Int.zero_mul, Int.zero_mul]
        generalize jm_at tt rr bb (jm_pc m p q) (jm_pl m p q) (jm_ps m p q) = x
        by_cases hx : x = 0
        · simp [hx, k]
        · simp [hx]
    exact @jo_T (Int × Int) (jo_ring (jm_ab rr)) _ _ (jm_nD hD) (jm_sgD hD) _ _ _ _ _ _ _ _ _ _ _ _ _ _ _ _ _ _ (eA p).symm (eA q).symm (eA u).symm (rng p hp) (rng q hq) (rng u hu) (by rw [← eP]; rfl) (by rw [← eP]; rfl) (by rw [← eP]; rfl) h1 h2
