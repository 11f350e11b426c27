/-! signs of sums with roots; the order of surds -/
theorem jm_sg_ab (x : Int) : x.sign * jm_ab x = x := by
  rcases Int.lt_trichotomy x 0 with h | h | h
  · rw [Int.sign_eq_neg_one_of_neg h, jm_ab_np (by omega)]; omega
  · subst h; rfl
  · rw [Int.sign_eq_one_of_pos h, jm_ab_pos (by omega)]; omega
theorem jm_sq_sg (x : Int) : jm_sq x = x.sign * (x * x) := by
  rcases Int.lt_trichotomy x 0 with h | h | h
  · rw [Int.sign_eq_neg_one_of_neg h, jm_sq_np (by omega)]; omega
  · subst h; rfl
  · rw [Int.sign_eq_one_of_pos h, jm_sq_pos (by omega)]; omega
section CX
theorem cx_c2 {R : Type} {I : Lean.Grind.CommRing R} {N : R → Prop} {s : R → Int} {e : Int → R} (h : jo_Cx I N s e) {x : R} {T : Int} (hT : 0 ≤ T) (hx : x * x = e T) (a : Int) : s (e a - x) = (jm_sq a - s x * T).sign := by
  obtain ⟨hN, hS, ha, hm, h1, hs⟩ := id h
  have M := sg_mul hN hS
  have hTx : s x * s x = T.sign := by rw [← M, hx, hs]
  have pr : s (e a - x) * s (e a + x) = (a * a - T).sign := by
    rw [← M, show (e a - x) * (e a + x) = e a * e a - x * x by grind, hx, ← hm, ← cx_sub h, hs]
  rcases hS.1 x with k | k | k
  · have Tp : 0 < T := by
      rw [k] at hTx
      have := (Int.sign_eq_one_iff_pos (a := T)).mp (by omega)
      omega
    rw [k]
    rcases Int.lt_or_le a 0 with q | q
    · have s2 : s (e a + x) = -1 := by
        have := sg_addS hN hS (x := -e a) (y := -x) (by rw [hS.2.2, hs, Int.sign_eq_neg_one_of_neg q]; rfl) (by rw [hS.2.2, k]; decide)
        rw [show -e a + -x = -(e a + x) by grind, hS.2.2] at this
        omega
      rw [s2] at pr
      rw [jm_sq_np (by omega), show -(a * a) - -1 * T = -(a * a - T) by omega, Int.sign_neg]
      omega
    · have s2 : s (e a - x) = 1 := by
        rw [show e a - x = -x + e a by grind]
        exact sg_addS hN hS (by rw [hS.2.2, k]; rfl) (by rw [hs, jm_sgInt.2.1]; exact q)
      rw [s2, jm_sq_pos q]
      have := Int.mul_nonneg q q
      exact (Int.sign_eq_one_of_pos (by omega)).symm
  · rw [k, Int.zero_mul, Int.sub_zero, jm_sq_sign, show e a - x = -x + e a by grind, sg_add0 hN hS (by rw [hS.2.2, k]; rfl), hs]
  · have Tp : 0 < T := by
      rw [k] at hTx
      have := (Int.sign_eq_one_iff_pos (a := T)).mp (by omega)
      omega
    rw [k]
    rcases Int.lt_or_le 0 a with q | q
    · have s2 : s (e a + x) = 1 := sg_addS hN hS (by rw [hs, Int.sign_eq_one_of_pos q]) (by omega)
      rw [s2] at pr
      rw [jm_sq_pos (by omega), Int.one_mul]
      omega
    · have s2 : s (e a - x) = -1 := by
        have := sg_addS hN hS (x := x) (y := -e a) k (by rw [hS.2.2, hs, ← Int.sign_neg, jm_sgInt.2.1]; omega)
        rw [show x + -e a = -(e a - x) by grind, hS.2.2] at this
        omega
      rw [s2, jm_sq_np q]
      have := Int.mul_nonneg_of_nonpos_of_nonpos q q
      exact (Int.sign_eq_neg_one_of_neg (by omega)).symm
theorem cx_c1 {R : Type} {I : Lean.Grind.CommRing R} {N : R → Prop} {s : R → Int} {e : Int → R} (h : jo_Cx I N s e) {r u : Int} {x y : R} (hx : jo_Rt I s e r x) (hy : jo_Rt I s e u y) : s (x + y) = (r + u).sign := by
  obtain ⟨hN, hS, ha, hm, h1, hs⟩ := id h
  have M := sg_mul hN hS
  obtain ⟨x2, sx⟩ := hx
  obtain ⟨y2, sy⟩ := hy
  have pr : s (x + y) * s (x - y) = (jm_ab r - jm_ab u).sign := by
    rw [← M, show (x + y) * (x - y) = x * x - y * y by grind, x2, y2, ← cx_sub h, hs]
  rcases Int.lt_trichotomy r 0 with a | a | a <;> rcases Int.lt_trichotomy u 0 with b | b | b
  · rw [Int.sign_eq_neg_one_of_neg a] at sx; rw [Int.sign_eq_neg_one_of_neg b] at sy
    have := sg_addS hN hS (x := -x) (y := -y) (by rw [hS.2.2, sx]; rfl) (by rw [hS.2.2, sy]; decide)
    rw [show -x + -y = -(x + y) by grind, hS.2.2] at this
    rw [Int.sign_eq_neg_one_of_neg (by omega)]; omega
  · subst b
    rw [show x + y = y + x by grind, sg_add0 hN hS (by rw [sy]; rfl), sx, Int.add_zero]
  · rw [Int.sign_eq_neg_one_of_neg a] at sx; rw [Int.sign_eq_one_of_pos b] at sy
    have q := sg_addS hN hS (x := y) (y := -x) sy (by rw [hS.2.2, sx]; decide)
    rw [show y + -x = -(x - y) by grind, hS.2.2] at q
    rw [jm_ab_np (x := r) (by omega), jm_ab_pos (x := u) (by omega), show -r - u = -(r + u) by omega, Int.sign_neg] at pr
    have q2 : s (x - y) = -1 := by omega
    rw [q2] at pr
    omega
  · subst a
    rw [sg_add0 hN hS (by rw [sx]; rfl), sy, Int.zero_add]
  · subst a
    rw [sg_add0 hN hS (by rw [sx]; rfl), sy, Int.zero_add]
  · subst a
    rw [sg_add0 hN hS (by rw [sx]; rfl), sy, Int.zero_add]
  · rw [Int.sign_eq_one_of_pos a] at sx; rw [Int.sign_eq_neg_one_of_neg b] at sy
    have q := sg_addS hN hS (x := x) (y := -y) sx (by rw [hS.2.2, sy]; decide)
    rw [show x + -y = x - y by grind] at q
    rw [jm_ab_pos (x := r) (by omega), jm_ab_np (x := u) (by omega), show r - -u = r + u by omega, q] at pr
    omega
  · subst b
    rw [show x + y = y + x by grind, sg_add0 hN hS (by rw [sy]; rfl), sx, Int.add_zero]
  · rw [Int.sign_eq_one_of_pos a] at sx; rw [Int.sign_eq_one_of_pos b] at sy
    rw [sg_addS hN hS sx (by omega), Int.sign_eq_one_of_pos (by omega)]
theorem cx_scale {R : Type} {I : Lean.Grind.CommRing R} {N : R → Prop} {s : R → Int} {e : Int → R} (h : jo_Cx I N s e) {k : Int} (hk : 0 < k) (x : R) : s (e k * x) = s x := by
  rw [sg_mul h.1 h.2.1, h.2.2.2.2.2, Int.sign_eq_one_of_pos hk, Int.one_mul]
theorem cx_wr {R : Type} {I : Lean.Grind.CommRing R} {N : R → Prop} {s : R → Int} {e : Int → R} (h : jo_Cx I N s e) {r u : Int} {x y : R} (hx : jo_Rt I s e r x) (hy : jo_Rt I s e u y) (w : Int) : s (e w + (x + y)) = jm_wr w r u := by
  obtain ⟨hN, hS, ha, hm, h1, hs⟩ := id h
  have M := sg_mul hN hS
  have c1 := cx_c1 h hx hy
  unfold jm_wr
  rw [← c1]
  have key : s (e w + (x + y)) * s (e w - (x + y)) = ((w * w - jm_ab r - jm_ab u) * jm_ab (w * w - jm_ab r - jm_ab u) - 4 * r * u).sign := by
    have t2 : (e 2 * (x * y)) * (e 2 * (x * y)) = e (4 * jm_ab r * jm_ab u) := by
      rw [show (e 2 * (x * y)) * (e 2 * (x * y)) = (e 2 * e 2) * (x * x) * (y * y) by grind, hx.1, hy.1, ← hm, ← hm, ← hm]; rfl
    have q := cx_c2 h (x := e 2 * (x * y)) (T := 4 * jm_ab r * jm_ab u) (Int.mul_nonneg (by have := jm_ab_nn r; omega) (jm_ab_nn u)) t2 (w * w - jm_ab r - jm_ab u)
    rw [cx_scale h (by decide), M, hx.2, hy.2] at q
    rw [← M, show (e w + (x + y)) * (e w - (x + y)) = e w * e w - x * x - y * y - (1 + 1) * (x * y) by grind, hx.1, hy.1, show (1 : R) + 1 = e 2 by rw [show (2 : Int) = 1 + 1 by rfl, ha, h1], ← hm, ← cx_sub h, ← cx_sub h, q]
    congr 1
    have g1 := jm_sg_ab r
    have g2 := jm_sg_ab u
    show (w * w - jm_ab r - jm_ab u) * jm_ab (w * w - jm_ab r - jm_ab u) - r.sign * u.sign * (4 * jm_ab r * jm_ab u) = _
    have : r.sign * u.sign * (4 * jm_ab r * jm_ab u) = 4 * r * u := by
      rw [show r.sign * u.sign * (4 * jm_ab r * jm_ab u) = 4 * (r.sign * jm_ab r) * (u.sign * jm_ab u) by grind, g1, g2]
    omega
  generalize ((w * w - jm_ab r - jm_ab u) * jm_ab (w * w - jm_ab r - jm_ab u) - 4 * r * u).sign = E at key
  generalize hk : x + y = k at key c1
  rcases Int.lt_trichotomy w 0 with a | a | a
  · have sw := Int.sign_eq_neg_one_of_neg a
    rw [sw]
    rcases hS.1 k with z | z | z
    · rw [z, if_neg (by decide), if_neg (by decide)]
      have := sg_addS hN hS (x := -e w) (y := -k) (by rw [hS.2.2, hs, sw]; rfl) (by rw [hS.2.2, z]; decide)
      rw [show -e w + -k = -(e w + k) by grind, hS.2.2] at this
      omega
    · rw [z, if_neg (by decide), if_neg (by decide), show e w + k = k + e w by grind, sg_add0 hN hS z, hs, sw]
    · rw [z, if_pos (by decide)]
      have q : s (e w - k) = -1 := by
        have := sg_addS hN hS (x := -e w) (y := k) (by rw [hS.2.2, hs, sw]; rfl) (by omega)
        rw [show -e w + k = -(e w - k) by grind, hS.2.2] at this
        omega
      rw [q] at key
      omega
  · subst a
    rw [cx_0 h, show (0 : R) + k = k by grind, show Int.sign 0 = 0 by rfl, Int.zero_mul, if_neg (by decide), if_pos rfl]
  · have sw := Int.sign_eq_one_of_pos a
    rw [sw]
    rcases hS.1 k with z | z | z
    · rw [z, if_pos (by decide)]
      have q : s (e w - k) = 1 := by
        rw [show e w - k = e w + -k by grind]
        exact sg_addS hN hS (by rw [hs, sw]) (by rw [hS.2.2, z]; decide)
      rw [q] at key
      omega
    · rw [z, if_neg (by decide), if_neg (by decide), show e w + k = k + e w by grind, sg_add0 hN hS z, hs, sw]
    · rw [z, if_neg (by decide), if_neg (by decide)]
      exact sg_addS hN hS (by rw [hs, sw]) (by omega)
theorem cx_df {R : Type} {I : Lean.Grind.CommRing R} {N : R → Prop} {s : R → Int} {e : Int → R} (h : jo_Cx I N s e) {t r b t' r' b' : Int} {x y : R} (hx : jo_Rt I s e r x) (hy : jo_Rt I s e r' y) (hb : 0 < b) (hb' : 0 < b') : s (e b' * (e t + x) - e b * (e t' + y)) = jm_df t r b t' r' b' := by
  obtain ⟨hN, hS, ha, hm, h1, hs⟩ := id h
  have ab2 : ∀ r k : Int, jm_ab (r * k * k) = jm_ab r * (k * k) := fun r k => by rw [jm_ab_mul, jm_ab_mul]; have := jm_ab_sq k; grind
  have k1 : jo_Rt I s e (r * b' * b') (e b' * x) := by
    refine ⟨?_, ?_⟩
    · rw [show e b' * x * (e b' * x) = (x * x) * (e b' * e b') by grind, hx.1, ← hm, ← hm, ab2]
    · rw [cx_scale h hb', hx.2, show r * b' * b' = (b' * b') * r by grind, jm_scale (Int.mul_pos hb' hb')]
  have k2 : jo_Rt I s e (-(r' * b * b)) (-(e b * y)) := by
    refine ⟨?_, ?_⟩
    · rw [show -(e b * y) * -(e b * y) = (y * y) * (e b * e b) by grind, hy.1, ← hm, ← hm, jm_ab_neg, ab2]
    · rw [hS.2.2, cx_scale h hb, hy.2, Int.sign_neg, show r' * b * b = (b * b) * r' by grind, jm_scale (Int.mul_pos hb hb)]
  have := cx_wr h k1 k2 (t * b' - t' * b)
  unfold jm_df
  rw [← this, cx_sub h, hm, hm]
  congr 1
  grind
end CX
theorem jm_df_tr {t1 r1 b1 t2 r2 b2 t3 r3 b3 : Int} (h1 : 0 < b1) (h2 : 0 < b2) (h3 : 0 < b3) (p : 0 ≤ jm_df t1 r1 b1 t2 r2 b2) (q : 0 ≤ jm_df t2 r2 b2 t3 r3 b3) : 0 ≤ jm_df t1 r1 b1 t3 r3 b3 ∧ ((0 < jm_df t1 r1 b1 t2 r2 b2 ∨ 0 < jm_df t2 r2 b2 t3 r3 b3) → 0 < jm_df t1 r1 b1 t3 r3 b3) := by
  obtain ⟨R, I, N, s, e, x1, x2, x3, h, k1, k2, k3⟩ := cx_three r1 r2 r3
  have d12 := cx_df h (t := t1) (t' := t2) k1 k2 h1 h2
  have d23 := cx_df h (t := t2) (t' := t3) k2 k3 h2 h3
  have d13 := cx_df h (t := t1) (t' := t3) k1 k3 h1 h3
  rw [← d12] at p ⊢
  rw [← d23] at q ⊢
  rw [← d13]
  rw [← cx_scale h h3] at p
  rw [← cx_scale h h1] at q
  rw [← cx_scale h h2 (e b3 * (e t1 + x1) - e b1 * (e t3 + x3)), ← cx_scale h h3 (e b2 * (e t1 + x1) - e b1 * (e t2 + x2)), ← cx_scale h h1 (e b3 * (e t2 + x2) - e b2 * (e t3 + x3))]
  have id1 : e b2 * (e b3 * (e t1 + x1) - e b1 * (e t3 + x3)) = e b3 * (e b2 * (e t1 + x1) - e b1 * (e t2 + x2)) + e b1 * (e b3 * (e t2 + x2) - e b2 * (e t3 + x3)) := by grind
  rw [id1]
  generalize e b3 * (e b2 * (e t1 + x1) - e b1 * (e t2 + x2)) = X at p ⊢
  generalize e b1 * (e b3 * (e t2 + x2) - e b2 * (e t3 + x3)) = Y at q ⊢
  refine ⟨sg_add h.1 h.2.1 p q, fun k => ?_⟩
  have a := h.2.1.1 X
  have b := h.2.1.1 Y
  rcases k with k | k
  · rw [sg_addS h.1 h.2.1 (by omega) q]; decide
  · rw [show X + Y = Y + X by grind, sg_addS h.1 h.2.1 (by omega) p]; decide
theorem jm_df_neg {t1 r1 b1 t2 r2 b2 : Int} (h1 : 0 < b1) (h2 : 0 < b2) : jm_df t2 r2 b2 t1 r1 b1 = -jm_df t1 r1 b1 t2 r2 b2 := by
  obtain ⟨R, I, N, s, e, x1, x2, x3, h, k1, k2, k3⟩ := cx_three r1 r2 0
  rw [← cx_df h (t := t1) (t' := t2) k1 k2 h1 h2, ← cx_df h (t := t2) (t' := t1) k2 k1 h2 h1, ← h.2.1.2.2]
  congr 1
  grind
theorem jm_df_rng {t1 r1 b1 t2 r2 b2 : Int} (h1 : 0 < b1) (h2 : 0 < b2) : jm_df t1 r1 b1 t2 r2 b2 = -1 ∨ jm_df t1 r1 b1 t2 r2 b2 = 0 ∨ jm_df t1 r1 b1 t2 r2 b2 = 1 := by
  obtain ⟨R, I, N, s, e, x1, x2, x3, h, k1, k2, k3⟩ := cx_three r1 r2 0
  rw [← cx_df h (t := t1) (t' := t2) k1 k2 h1 h2]
  exact h.2.1.1 _
/-- the sign at a surd, in the ring -/
theorem cx_at {R : Type} {I : Lean.Grind.CommRing R} {N : R → Prop} {s : R → Int} {e : Int → R} (h : jo_Cx I N s e) {t r : Int} {x : R} (hx : jo_Rt I s e r x) (b c l q : Int) : s (e (c * b * b) + e (l * b) * (e t + x) + e q * ((e t + x) * (e t + x))) = jm_at t r b c l q := by
  obtain ⟨hN, hS, ha, hm, h1, hs⟩ := id h
  have M := sg_mul hN hS
  have e1 : e (c * b * b) + e (l * b) * (e t + x) + e q * ((e t + x) * (e t + x)) = e (c * b * b + l * t * b + q * (t * t + jm_ab r)) - -(e (l * b + 2 * q * t) * x) := by
    have x2 := hx.1
    have two : e 2 = 1 + 1 := by rw [show (2 : Int) = 1 + 1 by rfl, ha, h1]
    simp only [ha, hm, two]
    grind
  have t2 : -(e (l * b + 2 * q * t) * x) * -(e (l * b + 2 * q * t) * x) = e ((l * b + 2 * q * t) * (l * b + 2 * q * t) * jm_ab r) := by
    rw [show -(e (l * b + 2 * q * t) * x) * -(e (l * b + 2 * q * t) * x) = e (l * b + 2 * q * t) * e (l * b + 2 * q * t) * (x * x) by grind, hx.1, ← hm, ← hm]
  have sqn : ∀ x : Int, 0 ≤ x * x := fun x => by rcases Int.le_total 0 x with k | k; exact Int.mul_nonneg k k; exact Int.mul_nonneg_of_nonpos_of_nonpos k k
  rw [e1, cx_c2 h (Int.mul_nonneg (sqn _) (jm_ab_nn r)) t2, hS.2.2, M, hs, hx.2]
  unfold jm_at
  congr 1
  have g := jm_sg_ab r
  rw [jm_sq_sg (l * b + 2 * q * t)]
  generalize l * b + 2 * q * t = F
  have : -(F.sign * r.sign) * (F * F * jm_ab r) = -(F.sign * (F * F) * r) := by
    rw [show -(F.sign * r.sign) * (F * F * jm_ab r) = -(F.sign * (F * F) * (r.sign * jm_ab r)) by grind, g]
  omega
/-- how the reference places a critical number against a root -/
def jm_ag (t r b A B C w : Int) : Int :=
  if A = 0 then jm_at t r b C B A
  else if jm_at t r b C B A = 0 ∧ jm_at t r b B (2 * A) 0 = 0 then 0
  else (if jm_at t r b C B A ≤ 0 then (if 0 ≤ jm_at t r b C B A then (if 0 ≤ jm_at t r b B (2 * A) 0 then 3 else 1) else 2) else (if 0 ≤ jm_at t r b B (2 * A) 0 then 4 else 0)) - (if 0 ≤ w then 3 else 1)
theorem jm_ag_df {t r b A B C w : Int} (hb : 0 < b) (hA : 0 ≤ A) (hB : A = 0 → 0 < B) (hD : A ≠ 0 → 0 ≤ B * B - 4 * A * C) (hw : w = 1 ∨ w = -1) : (jm_ag t r b A B C w).sign = jm_df t r b (jm_t A B C) (jm_r A B C w) (jm_b A B) := by
  unfold jm_ag jm_t jm_r jm_b
  by_cases h0 : A = 0
  · subst h0
    simp only [if_true]
    obtain ⟨R, I, N, s, e, x1, x2, x3, h, k1, k2, k3⟩ := cx_three r 0 0
    rw [← cx_df h k1 k2 hb (hB rfl)]
    have e2 : s (e B * (e t + x1) - e b * (e (-C) + x2)) = s (e b * (e B * (e t + x1) - e b * e (-C))) := by
      rw [cx_scale h hb]
      have z : s (-(e b * x2)) = 0 := by rw [h.2.1.2.2, cx_scale h hb, k2.2]; rfl
      rw [show e B * (e t + x1) - e b * (e (-C) + x2) = -(e b * x2) + (e B * (e t + x1) - e b * e (-C)) by grind, sg_add0 h.1 h.2.1 z]
    rw [e2, ← cx_at h k1 b C B 0, cx_0 h, cx_neg h, h.2.2.2.1, h.2.2.2.1, h.2.2.2.1]
    rw [show e C * e b * e b + e B * e b * (e t + x1) + 0 * ((e t + x1) * (e t + x1)) = e b * (e B * (e t + x1) - e b * -e C) by grind]
    generalize e b * (e B * (e t + x1) - e b * -e C) = z
    rcases h.2.1.1 z with k | k | k <;> rw [k] <;> rfl
  · simp only [if_neg h0]
    have hDD := hD h0
    have hAp : 0 < A := by omega
    generalize hd : B * B - 4 * A * C = D at hDD
    obtain ⟨R, I, N, s, e, x, y, x3, h, k1, k2, k3⟩ := cx_three r D 0
    obtain ⟨hN, hS, ha, hm, h1, hs⟩ := id h
    have M := sg_mul hN hS
    have two : e 2 = 1 + 1 := by rw [show (2 : Int) = 1 + 1 by rfl, ha, h1]
    have four : e 4 = 1 + 1 + 1 + 1 := by rw [show (4 : Int) = 1 + 1 + 1 + 1 by rfl, ha, ha, ha, h1]
    have y2 : y * y = e B * e B - (1 + 1 + 1 + 1) * e A * e C := by
      rw [k2.1, jm_ab_pos hDD, ← hd, cx_sub h, hm, hm, hm, four]
    -- the two factors
    obtain ⟨Yp, hYp⟩ : ∃ z, z = (1 + 1) * e A * (e t + x) + e b * e B - e b * y := ⟨_, rfl⟩
    obtain ⟨Ym, hYm⟩ : ∃ z, z = (1 + 1) * e A * (e t + x) + e b * e B + e b * y := ⟨_, rfl⟩
    have f1 : jm_at t r b C B A = s Yp * s Ym := by
      rw [← cx_at h k1 b C B A, ← M, ← cx_scale h (show (0 : Int) < 4 * A by omega), hYp, hYm]
      congr 1
      simp only [ha, hm, four]
      grind
    have f2 : jm_at t r b B (2 * A) 0 = s (Yp + Ym) := by
      rw [← cx_at h k1 b B (2 * A) 0, ← cx_scale h hb (Yp + Ym), ← cx_scale h (show (0 : Int) < 2 by decide), hYp, hYm, cx_0 h]
      congr 1
      simp only [ha, hm, two]
      grind
    have dlt : 0 ≤ s (Ym + -Yp) := by
      rw [show Ym + -Yp = (1 + 1) * (e b * y) by rw [hYp, hYm]; grind, ← two, cx_scale h (by decide), cx_scale h hb, k2.2, jm_sgInt.2.1]
      exact hDD
    have dfw : jm_df t r b (-B) (w * D) (2 * A) = if 0 ≤ w then s Yp else s Ym := by
      rcases hw with rfl | rfl
      · rw [if_pos (by decide), Int.one_mul, ← cx_df h k1 k2 hb (by omega), hYp, cx_neg h, hm, two]
        congr 1
        grind
      · rw [if_neg (by decide), show (-1 : Int) * D = -D by omega]
        have k2' : jo_Rt I s e (-D) (-y) := ⟨by rw [show -y * -y = y * y by grind, k2.1, jm_ab_neg], by rw [hS.2.2, k2.2, Int.sign_neg]⟩
        rw [← cx_df h k1 k2' hb (by omega), hYm, cx_neg h, hm, two]
        congr 1
        grind
    rw [dfw, f1, f2]
    have a := hS.1 Yp
    have c := hS.1 Ym
    have add1 : 0 ≤ s Yp → 0 ≤ s Ym → 0 ≤ s (Yp + Ym) := fun p q => sg_add hN hS p q
    have addP : s Yp = 1 → 0 ≤ s Ym → s (Yp + Ym) = 1 := fun p q => sg_addS hN hS p q
    have addM : s Ym = 1 → 0 ≤ s Yp → s (Yp + Ym) = 1 := fun p q => by rw [show Yp + Ym = Ym + Yp by grind]; exact sg_addS hN hS p q
    have zP : s Yp = 0 → s (Yp + Ym) = s Ym := fun p => sg_add0 hN hS p
    have zM : s Ym = 0 → s (Yp + Ym) = s Yp := fun p => by rw [show Yp + Ym = Ym + Yp by grind]; exact sg_add0 hN hS p
    have nn : s Yp = -1 → s Ym = -1 → s (Yp + Ym) = -1 := fun p q => by
      have := sg_addS hN hS (x := -Yp) (y := -Ym) (by rw [hS.2.2, p]; rfl) (by rw [hS.2.2, q]; decide)
      rw [show -Yp + -Ym = -(Yp + Ym) by grind, hS.2.2] at this
      omega
    -- Ym is not below Yp
    have no1 : s Yp = 1 → s Ym = 1 := fun p => by
      have := sg_addS hN hS (x := Yp) (y := Ym + -Yp) p dlt
      rw [show Yp + (Ym + -Yp) = Ym by grind] at this
      exact this
    have no2 : s Yp = 0 → 0 ≤ s Ym := fun p => by
      have := sg_add hN hS (x := Yp) (y := Ym + -Yp) (by omega) dlt
      rw [show Yp + (Ym + -Yp) = Ym by grind] at this
      exact this
    rcases a with a | a | a <;> rcases c with c | c | c
    · rw [nn a c, a, c]; rcases hw with rfl | rfl <;> rfl
    · rw [zM c, a, c]; rcases hw with rfl | rfl <;> rfl
    · rw [a, c]; rcases hw with rfl | rfl <;> rfl
    · have := no2 a; omega
    · rw [zP a, a, c]; rcases hw with rfl | rfl <;> rfl
    · rw [zP a, a, c]; rcases hw with rfl | rfl <;> rfl
    · have := no1 a; omega
    · have := no1 a; omega
    · rw [addP a (by omega), a, c]; rcases hw with rfl | rfl <;> rfl
