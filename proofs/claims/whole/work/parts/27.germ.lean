/-! signs by a cone; germs; the order of quotients -/
def jo_Sg {R : Type} [Lean.Grind.CommRing R] (N : R → Prop) (s : R → Int) : Prop := (∀ x, s x = -1 ∨ s x = 0 ∨ s x = 1) ∧ (∀ x, 0 ≤ s x ↔ N x) ∧ ∀ x, s (-x) = -s x
section SG
theorem sg_z {R : Type} [Lean.Grind.CommRing R] {N : R → Prop} {s : R → Int} (hs : jo_Sg N s) {x : R} : s x = 0 ↔ N x ∧ N (-x) := by
  have h1 := hs.2.1 x
  have h2 := hs.2.1 (-x)
  rw [hs.2.2] at h2
  rw [← h1, ← h2]
  omega
theorem sg_add {R : Type} [Lean.Grind.CommRing R] {N : R → Prop} {s : R → Int} (h : jo_N N) (hs : jo_Sg N s) {x y : R} (hx : 0 ≤ s x) (hy : 0 ≤ s y) : 0 ≤ s (x + y) := (hs.2.1 _).mpr (h.2.1 _ _ ((hs.2.1 _).mp hx) ((hs.2.1 _).mp hy))
theorem sg_add0 {R : Type} [Lean.Grind.CommRing R] {N : R → Prop} {s : R → Int} (h : jo_N N) (hs : jo_Sg N s) {x y : R} (hx : s x = 0) : s (x + y) = s y := by
  have nx : s (-x) = 0 := by rw [hs.2.2, hx]; rfl
  have k1 : ∀ {z : R}, 0 ≤ s z → 0 ≤ s (x + z) := fun hz => sg_add h hs (by omega) hz
  have k2 : ∀ {z : R}, 0 ≤ s (x + z) → 0 ≤ s z := fun {z} hz => by
    have := sg_add h hs (x := -x) (y := x + z) (by omega) hz
    rw [show -x + (x + z) = z by grind] at this
    exact this
  have k3 : ∀ {z : R}, 0 ≤ s (-z) → 0 ≤ s (-(x + z)) := fun {z} hz => by
    have := sg_add h hs (x := -x) (y := -z) (by omega) hz
    rw [show -x + -z = -(x + z) by grind] at this
    exact this
  have k4 : ∀ {z : R}, 0 ≤ s (-(x + z)) → 0 ≤ s (-z) := fun {z} hz => by
    have := sg_add h hs (x := x) (y := -(x + z)) (by omega) hz
    rw [show x + -(x + z) = -z by grind] at this
    exact this
  have a1 := hs.1 (x + y)
  have a2 := hs.1 y
  have b1 := k1 (z := y)
  have b2 := k2 (z := y)
  have b3 := k3 (z := y)
  have b4 := k4 (z := y)
  rw [hs.2.2] at b3 b4
  rw [hs.2.2] at b3 b4
  omega
theorem sg_addS {R : Type} [Lean.Grind.CommRing R] {N : R → Prop} {s : R → Int} (h : jo_N N) (hs : jo_Sg N s) {x y : R} (hx : s x = 1) (hy : 0 ≤ s y) : s (x + y) = 1 := by
  have a := hs.1 (x + y)
  have b := sg_add h hs (x := x) (y := y) (by omega) hy
  have c : ¬ s (x + y) = 0 := fun e => by
    have := sg_add h hs (x := -(x + y)) (y := y) (by rw [hs.2.2, e]; decide) hy
    rw [show -(x + y) + y = -x by grind, hs.2.2, hx] at this
    omega
  omega
theorem sg_zmul {R : Type} [Lean.Grind.CommRing R] {N : R → Prop} {s : R → Int} (h : jo_N N) (hs : jo_Sg N s) {x y : R} (hx : s x = 0) : s (y * x) = 0 := by
  rw [sg_z hs] at hx ⊢
  exact jo_zm h y hx.1 hx.2
theorem sg_mul {R : Type} [Lean.Grind.CommRing R] {N : R → Prop} {s : R → Int} (h : jo_N N) (hs : jo_Sg N s) (x y : R) : s (x * y) = s x * s y := by
  have pp : ∀ x y : R, s x = 1 → s y = 1 → s (x * y) = 1 := by
    intro x y hx hy
    have a := hs.1 (x * y)
    have b : 0 ≤ s (x * y) := (hs.2.1 _).mpr (h.2.2.1 _ _ ((hs.2.1 _).mp (by omega)) ((hs.2.1 _).mp (by omega)))
    have c : ¬ s (x * y) = 0 := fun e => by
      obtain ⟨e1, e2⟩ := (sg_z hs).mp e
      rcases h.2.2.2.1 _ _ e1 e2 with z | z
      · have := (sg_z hs).mpr z; omega
      · have := (sg_z hs).mpr z; omega
    omega
  rcases hs.1 x with hx | hx | hx <;> rcases hs.1 y with hy | hy | hy
  · have := pp (-x) (-y) (by rw [hs.2.2, hx]; rfl) (by rw [hs.2.2, hy]; rfl)
    rw [show -x * -y = x * y by grind] at this
    rw [this, hx, hy]; rfl
  · rw [sg_zmul h hs hy, hx, hy]; rfl
  · have := pp (-x) y (by rw [hs.2.2, hx]; rfl) hy
    rw [show -x * y = -(x * y) by grind, hs.2.2] at this
    rw [hx, hy]; omega
  · rw [show x * y = y * x by grind, sg_zmul h hs hx, hx]; simp
  · rw [sg_zmul h hs hy, hy]; simp
  · rw [show x * y = y * x by grind, sg_zmul h hs hx, hx]; simp
  · have := pp x (-y) hx (by rw [hs.2.2, hy]; rfl)
    rw [show x * -y = -(x * y) by grind, hs.2.2] at this
    rw [hx, hy]; omega
  · rw [sg_zmul h hs hy, hy]; simp
  · rw [pp x y hx hy, hx, hy]; rfl
end SG
def jo_l2 {R : Type} (s : R → Int) (x0 x1 : R) : Int := if s x0 = 0 then s x1 else s x0
def jo_l3 {R : Type} (s : R → Int) (x0 x1 x2 : R) : Int := if s x0 = 0 then jo_l2 s x1 x2 else s x0
def jo_l4 {R : Type} (s : R → Int) (x0 x1 x2 x3 : R) : Int := if s x0 = 0 then jo_l3 s x1 x2 x3 else s x0
section LX
theorem l4_mul {R : Type} [Lean.Grind.CommRing R] {N : R → Prop} {s : R → Int} (h : jo_N N) (hs : jo_Sg N s) (a0 a1 f0 f1 f2 : R) : jo_l4 s (a0 * f0) (a0 * f1 + a1 * f0) (a0 * f2 + a1 * f1) (a1 * f2) = jo_l2 s a0 a1 * jo_l3 s f0 f1 f2 := by
  have M := sg_mul h hs
  have zl : ∀ {x y : R}, s x = 0 → s (x + y) = s y := fun e => sg_add0 h hs e
  have zr : ∀ {x y : R}, s y = 0 → s (x + y) = s x := fun {x y} e => by rw [show x + y = y + x by grind]; exact sg_add0 h hs e
  unfold jo_l4 jo_l3 jo_l2
  by_cases ha : s a0 = 0
  · have m : ∀ z : R, s (a0 * z) = 0 := fun z => by rw [M, ha, Int.zero_mul]
    rw [zl (m f1), zl (m f2)]
    simp only [M, ha, Int.zero_mul, if_true]
    by_cases hb : s a1 = 0
    · simp [hb]
    · by_cases h0 : s f0 = 0
      · by_cases h1 : s f1 = 0
        · simp [h0, h1]
        · simp [h0, h1, hb, Int.mul_eq_zero]
      · simp [h0, hb, Int.mul_eq_zero]
  · by_cases h0 : s f0 = 0
    · have m : ∀ z : R, s (z * f0) = 0 := fun z => by rw [M, h0, Int.mul_zero]
      rw [zr (m a1)]
      by_cases h1 : s f1 = 0
      · have m1 : ∀ z : R, s (z * f1) = 0 := fun z => by rw [M, h1, Int.mul_zero]
        rw [zr (m1 a1)]
        by_cases h2 : s f2 = 0
        · simp [M, h0, h1, h2]
        · simp [M, h0, h1, h2, ha, Int.mul_eq_zero]
      · simp [M, h0, h1, ha, Int.mul_eq_zero]
    · simp [M, h0, ha, Int.mul_eq_zero]
theorem l2_add {R : Type} [Lean.Grind.CommRing R] {N : R → Prop} {s : R → Int} (h : jo_N N) (hs : jo_Sg N s) {x0 x1 y0 y1 : R} (hx : 0 ≤ jo_l2 s x0 x1) (hy : 0 ≤ jo_l2 s y0 y1) : 0 ≤ jo_l2 s (x0 + y0) (x1 + y1) ∧ ((0 < jo_l2 s x0 x1 ∨ 0 < jo_l2 s y0 y1) → 0 < jo_l2 s (x0 + y0) (x1 + y1)) := by
  have zr : ∀ {x y : R}, s y = 0 → s (x + y) = s x := fun {x y} e => by rw [show x + y = y + x by grind]; exact sg_add0 h hs e
  have Sr : ∀ {x y : R}, 0 ≤ s x → s y = 1 → s (x + y) = 1 := fun {x y} a b => by rw [show x + y = y + x by grind]; exact sg_addS h hs b a
  have one : ∀ {x : R}, 0 ≤ s x → ¬ s x = 0 → s x = 1 := fun {x} a b => by have := hs.1 x; omega
  unfold jo_l2 at *
  by_cases hx0 : s x0 = 0
  · rw [if_pos hx0] at hx ⊢
    rw [sg_add0 h hs hx0]
    by_cases hy0 : s y0 = 0
    · rw [if_pos hy0] at hy ⊢
      rw [if_pos hy0]
      refine ⟨sg_add h hs hx hy, fun k => ?_⟩
      rcases k with k | k
      · rw [sg_addS h hs (one hx (by omega)) hy]; decide
      · rw [Sr hx (one hy (by omega))]; decide
    · rw [if_neg hy0] at hy ⊢
      rw [if_neg hy0]
      exact ⟨hy, fun _ => by have := one hy hy0; omega⟩
  · rw [if_neg hx0] at hx ⊢
    have e1 := one hx hx0
    have hy' : 0 ≤ s y0 := by
      by_cases hy0 : s y0 = 0
      · omega
      · rw [if_neg hy0] at hy; exact hy
    rw [sg_addS h hs e1 hy', if_neg (by decide)]
    exact ⟨by decide, fun _ => by decide⟩
theorem lx_step {R : Type} [Lean.Grind.CommRing R] {N : R → Prop} {s : R → Int} (h : jo_N N) (hs : jo_Sg N s) {x0 y0 : R} {X Y Z : Int} (hx : 0 ≤ (if s x0 = 0 then X else s x0)) (hy : 0 ≤ (if s y0 = 0 then Y else s y0)) (ih : 0 ≤ X → 0 ≤ Y → 0 ≤ Z ∧ ((0 < X ∨ 0 < Y) → 0 < Z)) : 0 ≤ (if s (x0 + y0) = 0 then Z else s (x0 + y0)) ∧ ((0 < (if s x0 = 0 then X else s x0) ∨ 0 < (if s y0 = 0 then Y else s y0)) → 0 < (if s (x0 + y0) = 0 then Z else s (x0 + y0))) := by
  have one : ∀ {x : R}, 0 ≤ s x → ¬ s x = 0 → s x = 1 := fun {x} a b => by have := hs.1 x; omega
  by_cases hx0 : s x0 = 0
  · rw [if_pos hx0] at hx ⊢
    rw [sg_add0 h hs hx0]
    by_cases hy0 : s y0 = 0
    · rw [if_pos hy0] at hy ⊢
      rw [if_pos hy0]
      exact ih hx hy
    · rw [if_neg hy0] at hy ⊢
      rw [if_neg hy0]
      exact ⟨hy, fun _ => by have := one hy hy0; omega⟩
  · rw [if_neg hx0] at hx ⊢
    have e1 := one hx hx0
    have hy' : 0 ≤ s y0 := by
      by_cases hy0 : s y0 = 0
      · omega
      · rw [if_neg hy0] at hy; exact hy
    rw [sg_addS h hs e1 hy', if_neg (by decide)]
    exact ⟨by decide, fun _ => by decide⟩
theorem l4_add {R : Type} [Lean.Grind.CommRing R] {N : R → Prop} {s : R → Int} (h : jo_N N) (hs : jo_Sg N s) {x0 x1 x2 x3 y0 y1 y2 y3 : R} (hx : 0 ≤ jo_l4 s x0 x1 x2 x3) (hy : 0 ≤ jo_l4 s y0 y1 y2 y3) : 0 ≤ jo_l4 s (x0 + y0) (x1 + y1) (x2 + y2) (x3 + y3) ∧ ((0 < jo_l4 s x0 x1 x2 x3 ∨ 0 < jo_l4 s y0 y1 y2 y3) → 0 < jo_l4 s (x0 + y0) (x1 + y1) (x2 + y2) (x3 + y3)) :=
  lx_step h hs hx hy (fun a b => lx_step h hs a b (fun a b => l2_add h hs a b))
theorem l4_neg {R : Type} [Lean.Grind.CommRing R] {N : R → Prop} {s : R → Int} (hs : jo_Sg N s) (x0 x1 x2 x3 : R) : jo_l4 s (-x0) (-x1) (-x2) (-x3) = -jo_l4 s x0 x1 x2 x3 := by
  unfold jo_l4 jo_l3 jo_l2
  simp only [hs.2.2]
  by_cases h0 : s x0 = 0 <;> by_cases h1 : s x1 = 0 <;> by_cases h2 : s x2 = 0 <;> simp [h0, h1, h2]
/-- the sign of a germ of degree two made of two of degree one: a b' less a' b -/
def jo_F {R : Type} [Lean.Grind.CommRing R] (s : R → Int) (a0 a1 b0 b1 a0' a1' b0' b1' : R) : Int := jo_l3 s (a0 * b0' - a0' * b0) (a0 * b1' + a1 * b0' - a0' * b1 - a1' * b0) (a1 * b1' - a1' * b1)
theorem jo_T {R : Type} [Lean.Grind.CommRing R] {N : R → Prop} {s : R → Int} (h : jo_N N) (hs : jo_Sg N s) {a0 a1 b0 b1 a0' a1' b0' b1' a0'' a1'' b0'' b1'' : R} {A A' A'' c1 c2 c3 : Int} (hA : jo_l2 s a0 a1 = A) (hA' : jo_l2 s a0' a1' = A') (hA'' : jo_l2 s a0'' a1'' = A'') (sA : A = 1 ∨ A = -1) (sA' : A' = 1 ∨ A' = -1) (sA'' : A'' = 1 ∨ A'' = -1)
    (h1 : jo_F s a0 a1 b0 b1 a0' a1' b0' b1' * A * A' = c1) (h2 : jo_F s a0' a1' b0' b1' a0'' a1'' b0'' b1'' * A' * A'' = c2) (h3 : jo_F s a0 a1 b0 b1 a0'' a1'' b0'' b1'' * A * A'' = c3) (p1 : 0 ≤ c1) (p2 : 0 ≤ c2) : 0 ≤ c3 ∧ ((0 < c1 ∨ 0 < c2) → 0 < c3) := by
  have m1 := l4_mul h hs a0'' a1'' (a0 * b0' - a0' * b0) (a0 * b1' + a1 * b0' - a0' * b1 - a1' * b0) (a1 * b1' - a1' * b1)
  have m2 := l4_mul h hs a0 a1 (a0' * b0'' - a0'' * b0') (a0' * b1'' + a1' * b0'' - a0'' * b1' - a1'' * b0') (a1' * b1'' - a1'' * b1')
  have m3 := l4_mul h hs a0' a1' (a0 * b0'' - a0'' * b0) (a0 * b1'' + a1 * b0'' - a0'' * b1 - a1'' * b0) (a1 * b1'' - a1'' * b1)
  have e1 : jo_l3 s (a0 * b0' - a0' * b0) (a0 * b1' + a1 * b0' - a0' * b1 - a1' * b0) (a1 * b1' - a1' * b1) = jo_F s a0 a1 b0 b1 a0' a1' b0' b1' := rfl
  have e2 : jo_l3 s (a0' * b0'' - a0'' * b0') (a0' * b1'' + a1' * b0'' - a0'' * b1' - a1'' * b0') (a1' * b1'' - a1'' * b1') = jo_F s a0' a1' b0' b1' a0'' a1'' b0'' b1'' := rfl
  have e3 : jo_l3 s (a0 * b0'' - a0'' * b0) (a0 * b1'' + a1 * b0'' - a0'' * b1 - a1'' * b0) (a1 * b1'' - a1'' * b1) = jo_F s a0 a1 b0 b1 a0'' a1'' b0'' b1'' := rfl
  rw [e1, hA''] at m1
  rw [e2, hA] at m2
  rw [e3, hA'] at m3
  have g0 : a0' * (a0 * b0'' - a0'' * b0) = a0'' * (a0 * b0' - a0' * b0) + a0 * (a0' * b0'' - a0'' * b0') := by grind
  have g1 : a0' * (a0 * b1'' + a1 * b0'' - a0'' * b1 - a1'' * b0) + a1' * (a0 * b0'' - a0'' * b0) = a0'' * (a0 * b1' + a1 * b0' - a0' * b1 - a1' * b0) + a1'' * (a0 * b0' - a0' * b0) + (a0 * (a0' * b1'' + a1' * b0'' - a0'' * b1' - a1'' * b0') + a1 * (a0' * b0'' - a0'' * b0')) := by grind
  have g2 : a0' * (a1 * b1'' - a1'' * b1) + a1' * (a0 * b1'' + a1 * b0'' - a0'' * b1 - a1'' * b0) = a0'' * (a1 * b1' - a1' * b1) + a1'' * (a0 * b1' + a1 * b0' - a0' * b1 - a1' * b0) + (a0 * (a1' * b1'' - a1'' * b1') + a1 * (a0' * b1'' + a1' * b0'' - a0'' * b1' - a1'' * b0')) := by grind
  have g3 : a1' * (a1 * b1'' - a1'' * b1) = a1'' * (a1 * b1' - a1' * b1) + a1 * (a1' * b1'' - a1'' * b1') := by grind
  rw [g0, g1, g2, g3] at m3
  generalize hX : jo_F s a0 a1 b0 b1 a0' a1' b0' b1' = F1 at m1 h1
  generalize hY : jo_F s a0' a1' b0' b1' a0'' a1'' b0'' b1'' = F2 at m2 h2
  generalize hZ : jo_F s a0 a1 b0 b1 a0'' a1'' b0'' b1'' = F3 at m3 h3
  have n1 := l4_neg hs (a0'' * (a0 * b0' - a0' * b0)) (a0'' * (a0 * b1' + a1 * b0' - a0' * b1 - a1' * b0) + a1'' * (a0 * b0' - a0' * b0)) (a0'' * (a1 * b1' - a1' * b1) + a1'' * (a0 * b1' + a1 * b0' - a0' * b1 - a1' * b0)) (a1'' * (a1 * b1' - a1' * b1))
  have n2 := l4_neg hs (a0 * (a0' * b0'' - a0'' * b0')) (a0 * (a0' * b1'' + a1' * b0'' - a0'' * b1' - a1'' * b0') + a1 * (a0' * b0'' - a0'' * b0')) (a0 * (a1' * b1'' - a1'' * b1') + a1 * (a0' * b1'' + a1' * b0'' - a0'' * b1' - a1'' * b0')) (a1 * (a1' * b1'' - a1'' * b1'))
  have n3 := l4_neg hs (a0'' * (a0 * b0' - a0' * b0) + a0 * (a0' * b0'' - a0'' * b0')) (a0'' * (a0 * b1' + a1 * b0' - a0' * b1 - a1' * b0) + a1'' * (a0 * b0' - a0' * b0) + (a0 * (a0' * b1'' + a1' * b0'' - a0'' * b1' - a1'' * b0') + a1 * (a0' * b0'' - a0'' * b0'))) (a0'' * (a1 * b1' - a1' * b1) + a1'' * (a0 * b1' + a1 * b0' - a0' * b1 - a1' * b0) + (a0 * (a1' * b1'' - a1'' * b1') + a1 * (a0' * b1'' + a1' * b0'' - a0'' * b1' - a1'' * b0'))) (a1'' * (a1 * b1' - a1' * b1) + a1 * (a1' * b1'' - a1'' * b1'))
  rw [m1] at n1
  rw [m2] at n2
  rw [m3] at n3
  by_cases ep : A * A' * A'' = 1
  · have q1 : A'' * F1 = c1 := by rcases sA with rfl | rfl <;> rcases sA' with rfl | rfl <;> rcases sA'' with rfl | rfl <;> omega
    have q2 : A * F2 = c2 := by rcases sA with rfl | rfl <;> rcases sA' with rfl | rfl <;> rcases sA'' with rfl | rfl <;> omega
    have q3 : A' * F3 = c3 := by rcases sA with rfl | rfl <;> rcases sA' with rfl | rfl <;> rcases sA'' with rfl | rfl <;> omega
    rw [q1] at m1; rw [q2] at m2; rw [q3] at m3
    have r := l4_add h hs (by rw [m1]; exact p1) (by rw [m2]; exact p2)
    rw [m1, m2, m3] at r
    exact r
  · have q1 : -(A'' * F1) = c1 := by rcases sA with rfl | rfl <;> rcases sA' with rfl | rfl <;> rcases sA'' with rfl | rfl <;> omega
    have q2 : -(A * F2) = c2 := by rcases sA with rfl | rfl <;> rcases sA' with rfl | rfl <;> rcases sA'' with rfl | rfl <;> omega
    have q3 : -(A' * F3) = c3 := by rcases sA with rfl | rfl <;> rcases sA' with rfl | rfl <;> rcases sA'' with rfl | rfl <;> omega
    rw [q1] at n1; rw [q2] at n2; rw [q3] at n3
    have r := l4_add h hs (by rw [n1]; exact p1) (by rw [n2]; exact p2)
    rw [n1, n2] at r
    have ne : ∀ x y : R, -(x + y) = -x + -y := fun x y => by grind
    rw [ne, ne, ne (a0'' * (a1 * b1' - a1' * b1) + a1'' * (a0 * b1' + a1 * b0' - a0' * b1 - a1' * b0)), ne (a1'' * (a1 * b1' - a1' * b1))] at n3
    rw [n3] at r
    exact r
end LX
