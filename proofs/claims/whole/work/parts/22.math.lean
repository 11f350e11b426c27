/-! whole numbers: the signed square, signs at surds -/
def jm_ab (x : Int) : Int := if 0 < x then x else -x
def jm_sq (x : Int) : Int := x * jm_ab x
theorem jm_ab_nn (x : Int) : 0 ≤ jm_ab x := by unfold jm_ab; split <;> omega
theorem jm_ab_neg (x : Int) : jm_ab (-x) = jm_ab x := by unfold jm_ab; split <;> split <;> omega
theorem jm_ab_pos {x : Int} (h : 0 ≤ x) : jm_ab x = x := by unfold jm_ab; split <;> omega
theorem jm_ab_np {x : Int} (h : x ≤ 0) : jm_ab x = -x := by unfold jm_ab; split <;> omega
theorem jm_ab_eq0 {x : Int} : jm_ab x = 0 ↔ x = 0 := by unfold jm_ab; split <;> omega
theorem jm_ab_sq (x : Int) : jm_ab x * jm_ab x = x * x := by unfold jm_ab; split <;> grind
theorem jm_ab_mul (x y : Int) : jm_ab (x * y) = jm_ab x * jm_ab y := by
  have hx := jm_ab_nn x
  have hy := jm_ab_nn y
  rcases Int.le_total 0 x with h | h <;> rcases Int.le_total 0 y with k | k
  · rw [jm_ab_pos h, jm_ab_pos k, jm_ab_pos (Int.mul_nonneg h k)]
  · rw [jm_ab_pos h, jm_ab_np k, jm_ab_np (Int.mul_nonpos_of_nonneg_of_nonpos h k)]; grind
  · rw [jm_ab_np h, jm_ab_pos k, jm_ab_np (Int.mul_nonpos_of_nonpos_of_nonneg h k)]; grind
  · rw [jm_ab_np h, jm_ab_np k, jm_ab_pos (Int.mul_nonneg_of_nonpos_of_nonpos h k)]; grind
theorem jm_sq_neg (x : Int) : jm_sq (-x) = -jm_sq x := by unfold jm_sq; rw [jm_ab_neg]; grind
theorem jm_sq_mul (x y : Int) : jm_sq (x * y) = jm_sq x * jm_sq y := by unfold jm_sq; rw [jm_ab_mul]; grind
theorem jm_sq_pos {x : Int} (h : 0 ≤ x) : jm_sq x = x * x := by unfold jm_sq; rw [jm_ab_pos h]
theorem jm_sq_np {x : Int} (h : x ≤ 0) : jm_sq x = -(x * x) := by unfold jm_sq; rw [jm_ab_np h]; grind
theorem jm_sq_sign (x : Int) : (jm_sq x).sign = x.sign := by
  rcases Int.lt_trichotomy x 0 with h | h | h
  · rw [Int.sign_eq_neg_one_of_neg h, jm_sq_np (by omega)]
    exact Int.sign_eq_neg_one_of_neg (by have := Int.mul_pos_of_neg_of_neg h h; omega)
  · subst h; rfl
  · rw [Int.sign_eq_one_of_pos h, jm_sq_pos (by omega)]
    exact Int.sign_eq_one_of_pos (Int.mul_pos h h)
/-- the sign of c + l x + s x x at x = (t + R r) / b -/
def jm_at (t r b c l s : Int) : Int := (jm_sq (c * b * b + l * t * b + s * (t * t + jm_ab r)) + jm_sq (l * b + 2 * s * t) * r).sign
/-- the reference's sign of u + v * root of d -/
def jm_of (u v d : Int) : Int :=
  if u.sign = (if d = 0 then 0 else v.sign) ∨ (if d = 0 then 0 else v.sign) = 0 then u.sign
  else if u.sign = 0 then (if d = 0 then 0 else v.sign)
  else if v * v * d < u * u then u.sign else if u * u < v * v * d then (if d = 0 then 0 else v.sign) else 0
theorem jm_of_eq {u v d : Int} (hd : 0 ≤ d) : jm_of u v d = (jm_sq u + jm_sq v * d).sign := by
  unfold jm_of
  by_cases h0 : d = 0
  · subst h0
    simp only [if_true, or_true, Int.mul_zero, Int.add_zero, jm_sq_sign]
  · have hdp : 0 < d := by omega
    simp only [if_neg h0]
    rcases Int.lt_trichotomy u 0 with hu | hu | hu <;> rcases Int.lt_trichotomy v 0 with hv | hv | hv
    · rw [Int.sign_eq_neg_one_of_neg hu, Int.sign_eq_neg_one_of_neg hv, if_pos (Or.inl rfl), jm_sq_np (by omega), jm_sq_np (by omega)]
      have h1 := Int.mul_pos_of_neg_of_neg hu hu
      have h2 := Int.mul_pos (Int.mul_pos_of_neg_of_neg hv hv) hdp
      exact (Int.sign_eq_neg_one_of_neg (by grind)).symm
    · subst hv
      rw [Int.sign_zero, if_pos (Or.inr rfl)]
      simp only [jm_sq, Int.zero_mul, Int.add_zero]
      exact (jm_sq_sign u).symm
    · rw [Int.sign_eq_neg_one_of_neg hu, Int.sign_eq_one_of_pos hv, if_neg (by decide), if_neg (by decide), jm_sq_np (by omega), jm_sq_pos (by omega)]
      split
      · exact (Int.sign_eq_neg_one_of_neg (by grind)).symm
      · split
        · exact (Int.sign_eq_one_of_pos (by grind)).symm
        · rw [show -(u * u) + v * v * d = 0 by omega]; rfl
    · subst hu
      rw [Int.sign_zero, Int.sign_eq_neg_one_of_neg hv, if_neg (by decide), if_pos rfl]
      simp only [jm_sq_np (show v ≤ 0 by omega)]
      have h2 := Int.mul_pos (Int.mul_pos_of_neg_of_neg hv hv) hdp
      exact (Int.sign_eq_neg_one_of_neg (by simp only [jm_sq]; grind)).symm
    · subst hu; subst hv
      rw [Int.sign_zero, if_pos (Or.inl rfl)]
      simp [jm_sq]
    · subst hu
      rw [Int.sign_zero, Int.sign_eq_one_of_pos hv, if_neg (by decide), if_pos rfl]
      simp only [jm_sq_pos (show 0 ≤ v by omega)]
      have h2 := Int.mul_pos (Int.mul_pos hv hv) hdp
      exact (Int.sign_eq_one_of_pos (by simp only [jm_sq]; grind)).symm
    · rw [Int.sign_eq_one_of_pos hu, Int.sign_eq_neg_one_of_neg hv, if_neg (by decide), if_neg (by decide), jm_sq_pos (by omega), jm_sq_np (by omega)]
      split
      · exact (Int.sign_eq_one_of_pos (by grind)).symm
      · split
        · exact (Int.sign_eq_neg_one_of_neg (by grind)).symm
        · rw [show u * u + -(v * v) * d = 0 by grind]; rfl
    · subst hv
      rw [Int.sign_zero, if_pos (Or.inr rfl)]
      simp only [jm_sq, Int.zero_mul, Int.add_zero]
      exact (jm_sq_sign u).symm
    · rw [Int.sign_eq_one_of_pos hu, Int.sign_eq_one_of_pos hv, if_pos (Or.inl rfl), jm_sq_pos (by omega), jm_sq_pos (by omega)]
      have h1 := Int.mul_pos hu hu
      have h2 := Int.mul_pos (Int.mul_pos hv hv) hdp
      exact (Int.sign_eq_one_of_pos (by grind)).symm
/-- a root of the reference as a surd -/
def jm_t (A B C : Int) : Int := if A = 0 then -C else -B
def jm_r (A B C w : Int) : Int := if A = 0 then 0 else w * (B * B - 4 * A * C)
def jm_b (A B : Int) : Int := if A = 0 then B else 2 * A
/-- the reference's sign of c + b x + a x x at a root -/
def jm_rt (A B C w a b c : Int) : Int :=
  if A = 0 then (a * C * C - b * C * B + c * B * B).sign
  else jm_of (a * (B * B + (B * B - 4 * A * C)) - 2 * A * B * b + 4 * A * A * c) (w * (2 * A * b - 2 * a * B)) (B * B - 4 * A * C)
theorem jm_rt_at {A B C w a b c : Int} (hA : A ≠ 0 → 0 ≤ B * B - 4 * A * C) (hw : w = 1 ∨ w = -1) : jm_rt A B C w a b c = jm_at (jm_t A B C) (jm_r A B C w) (jm_b A B) c b a := by
  unfold jm_rt jm_at jm_t jm_r jm_b
  by_cases h : A = 0
  · simp only [if_pos h]
    rw [show jm_ab 0 = 0 from rfl, Int.mul_zero, Int.add_zero, jm_sq_sign]
    congr 1
    grind
  · simp only [if_neg h]
    have hd := hA h
    rw [jm_of_eq hd]
    have e1 : jm_ab (w * (B * B - 4 * A * C)) = B * B - 4 * A * C := by
      rcases hw with rfl | rfl
      · rw [Int.one_mul, jm_ab_pos hd]
      · rw [show (-1 : Int) * (B * B - 4 * A * C) = -(B * B - 4 * A * C) by omega, jm_ab_neg, jm_ab_pos hd]
    rw [e1]
    congr 1
    have e2 : jm_sq (w * (2 * A * b - 2 * a * B)) = w * jm_sq (b * (2 * A) + 2 * a * -B) := by
      rw [show b * (2 * A) + 2 * a * -B = 2 * A * b - 2 * a * B by grind]
      rcases hw with rfl | rfl
      · rw [Int.one_mul, Int.one_mul]
      · rw [show (-1 : Int) * (2 * A * b - 2 * a * B) = -(2 * A * b - 2 * a * B) by omega, jm_sq_neg]; omega
    rw [e2]
    have e3 : a * (B * B + (B * B - 4 * A * C)) - 2 * A * B * b + 4 * A * A * c = c * (2 * A) * (2 * A) + b * -B * (2 * A) + a * (-B * -B + (B * B - 4 * A * C)) := by grind
    rw [e3]
    grind
