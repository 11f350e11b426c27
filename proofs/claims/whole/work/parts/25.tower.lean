/-! cones: what is not below nought, in a ring; a ring with one more square root -/
def jo_N {R : Type} [Lean.Grind.CommRing R] (N : R → Prop) : Prop :=
  (∀ x, N x ∨ N (-x)) ∧ (∀ x y, N x → N y → N (x + y)) ∧ (∀ x y, N x → N y → N (x * y)) ∧ (∀ x y, N (x * y) → N (-(x * y)) → (N x ∧ N (-x)) ∨ (N y ∧ N (-y))) ∧ ¬ N (-1)
theorem jo_sq {R : Type} [Lean.Grind.CommRing R] {N : R → Prop} (h : jo_N N) (x : R) : N (x * x) := by
  rcases h.1 x with k | k
  · exact h.2.2.1 _ _ k k
  · have := h.2.2.1 _ _ k k
    rw [show -x * -x = x * x by grind] at this
    exact this
theorem jo_one {R : Type} [Lean.Grind.CommRing R] {N : R → Prop} (h : jo_N N) : N 1 := by
  have := jo_sq h 1
  rw [show (1 : R) * 1 = 1 by grind] at this
  exact this
theorem jo_zero {R : Type} [Lean.Grind.CommRing R] {N : R → Prop} (h : jo_N N) : N 0 := by
  have := jo_sq h 0
  rw [show (0 : R) * 0 = 0 by grind] at this
  exact this
theorem jo_q {R : Type} [Lean.Grind.CommRing R] {N : R → Prop} (h : jo_N N) {a b : R} (ha : N a) (hab : N (a * a - b * b)) : N (a + b) := by
  have h1 := jo_one h
  obtain ⟨n0, n1, n2, n3, n4⟩ := h
  rcases n0 (a + b) with k | k
  · exact k
  · rcases n0 (a - b) with k2 | k2
    · have e : N (-((a + b) * (a - b))) := by
        have := n2 _ _ k k2
        rw [show -(a + b) * (a - b) = -((a + b) * (a - b)) by grind] at this
        exact this
      have e2 : N ((a + b) * (a - b)) := by rw [show (a + b) * (a - b) = a * a - b * b by grind]; exact hab
      rcases n3 _ _ e2 e with z | z
      · exact z.1
      · have := n1 _ _ (n1 _ _ ha ha) z.2
        rw [show a + a + -(a - b) = a + b by grind] at this
        exact this
    · have s : N (-((1 + 1) * a)) := by
        have := n1 _ _ k k2
        rw [show -(a + b) + -(a - b) = -((1 + 1) * a) by grind] at this
        exact this
      have s2 : N ((1 + 1) * a) := by
        have := n1 _ _ ha ha
        rw [show a + a = (1 + 1) * a by grind] at this
        exact this
      rcases n3 _ _ s2 s with z | z
      · exfalso
        have := n1 _ _ z.2 h1
        rw [show -((1 : R) + 1) + 1 = -1 by grind] at this
        exact n4 this
      · have hb : N b := by
          have := n1 _ _ k2 z.1
          rw [show -(a - b) + a = b by grind] at this
          exact this
        exact n1 _ _ ha hb
theorem jo_q2 {R : Type} [Lean.Grind.CommRing R] {N : R → Prop} (h : jo_N N) {a b : R} (ha : N a) (hab : N (a * a - b * b)) : N (a - b) := by
  have := jo_q h (a := a) (b := -b) ha (by rw [show -b * -b = b * b by grind]; exact hab)
  rw [show a + -b = a - b by grind] at this
  exact this
/-- a factor above nought goes away -/
theorem jo_c {R : Type} [Lean.Grind.CommRing R] {N : R → Prop} (h : jo_N N) {d x : R} (hd : N d) (hs : ¬ N (-d)) (hx : N (d * x)) : N x := by
  obtain ⟨n0, n1, n2, n3, n4⟩ := h
  rcases n0 x with k | k
  · exact k
  · have := n2 _ _ hd k
    rw [show d * -x = -(d * x) by grind] at this
    rcases n3 _ _ hx this with z | z
    · exact absurd z.2 hs
    · exact z.1
theorem jo_sum {R : Type} [Lean.Grind.CommRing R] {N : R → Prop} (h : jo_N N) {x y : R} (hx : ¬ N (-x)) (hy : N y) : ¬ N (-(x + y)) := fun k => by
  have := h.2.1 _ _ k hy
  rw [show -(x + y) + y = -x by grind] at this
  exact hx this
theorem jo_prod {R : Type} [Lean.Grind.CommRing R] {N : R → Prop} (h : jo_N N) {x y : R} (hx : N x) (hy : N y) (sx : ¬ N (-x)) (sy : ¬ N (-y)) : ¬ N (-(x * y)) := fun k => by
  rcases h.2.2.2.1 _ _ (h.2.2.1 _ _ hx hy) k with z | z
  · exact sx z.2
  · exact sy z.2
theorem jo_tot {R : Type} [Lean.Grind.CommRing R] {N : R → Prop} (h : jo_N N) {x : R} (k : ¬ N x) : N (-x) := (h.1 x).resolve_left k
theorem jo_tot2 {R : Type} [Lean.Grind.CommRing R] {N : R → Prop} (h : jo_N N) {x : R} (k : ¬ N (-x)) : N x := (h.1 x).resolve_right k
/-- u + v * root of D is not below nought -/
def jo_e {R : Type} [Lean.Grind.CommRing R] (N : R → Prop) (D u v : R) : Prop := (N u ∧ N (u * u - v * v * D)) ∨ (N v ∧ N (v * v * D - u * u))
section EXT
theorem jo_e0 {R : Type} [Lean.Grind.CommRing R] {N : R → Prop} (h : jo_N N) (D u v : R) : jo_e N D u v ∨ jo_e N D (-u) (-v) := by
  unfold jo_e
  rw [show -u * -u = u * u by grind, show -v * -v = v * v by grind]
  rcases h.1 (u * u - v * v * D) with k | k
  · rcases h.1 u with k2 | k2
    · exact Or.inl (Or.inl ⟨k2, k⟩)
    · exact Or.inr (Or.inl ⟨k2, k⟩)
  · rw [show -(u * u - v * v * D) = v * v * D - u * u by grind] at k
    rcases h.1 v with k2 | k2
    · exact Or.inl (Or.inr ⟨k2, k⟩)
    · exact Or.inr (Or.inr ⟨k2, k⟩)
theorem jo_e2 {R : Type} [Lean.Grind.CommRing R] {N : R → Prop} (h : jo_N N) {D u v u' v' : R} (hD : N D) (hx : jo_e N D u v) (hy : jo_e N D u' v') : jo_e N D (u * u' + v * v' * D) (u * v' + v * u') := by
  have sq := jo_sq h
  have I12 : ∀ {u v u' v' : R}, N u → N (u * u - v * v * D) → N v' → N (v' * v' * D - u' * u') → jo_e N D (u * u' + v * v' * D) (u * v' + v * u') := by
    intro u v u' v' h1 h2 h3 h4
    refine Or.inr ⟨?_, ?_⟩
    · by_cases sD : N (-D)
      · -- D is nought: u' too
        have k1 : N (-(u' * u')) := by
          have k2 : N (v' * v' * -D) := h.2.2.1 _ _ (sq v') sD
          have := h.2.1 _ _ h4 k2
          rw [show v' * v' * D - u' * u' + v' * v' * -D = -(u' * u') by grind] at this
          exact this
        have k3 : N u' ∧ N (-u') := by
          rcases h.2.2.2.1 _ _ (sq u') k1 with z | z <;> exact z
        have k4 : N (v * u') := by
          rcases h.1 v with z | z
          · exact h.2.2.1 _ _ z k3.1
          · have := h.2.2.1 _ _ z k3.2
            rw [show -v * -u' = v * u' by grind] at this
            exact this
        exact h.2.1 _ _ (h.2.2.1 _ _ h1 h3) k4
      · refine jo_q h (h.2.2.1 _ _ h1 h3) (jo_c h hD sD ?_)
        have := h.2.1 _ _ (h.2.2.1 _ _ (sq u) h4) (h.2.2.1 _ _ (sq u') h2)
        rw [show u * u * (v' * v' * D - u' * u') + u' * u' * (u * u - v * v * D) = D * (u * v' * (u * v') - v * u' * (v * u')) by grind] at this
        exact this
    · have := h.2.2.1 _ _ h2 h4
      rw [show (u * u - v * v * D) * (v' * v' * D - u' * u') = (u * v' + v * u') * (u * v' + v * u') * D - (u * u' + v * v' * D) * (u * u' + v * v' * D) by grind] at this
      exact this
  rcases hx with ⟨h1, h2⟩ | ⟨h1, h2⟩ <;> rcases hy with ⟨h3, h4⟩ | ⟨h3, h4⟩
  · refine Or.inl ⟨jo_q h (h.2.2.1 _ _ h1 h3) ?_, ?_⟩
    · have := h.2.1 _ _ (h.2.2.1 _ _ (sq u) h4) (h.2.2.1 _ _ (h.2.2.1 _ _ (sq v') hD) h2)
      rw [show u * u * (u' * u' - v' * v' * D) + v' * v' * D * (u * u - v * v * D) = u * u' * (u * u') - v * v' * D * (v * v' * D) by grind] at this
      exact this
    · have := h.2.2.1 _ _ h2 h4
      rw [show (u * u - v * v * D) * (u' * u' - v' * v' * D) = (u * u' + v * v' * D) * (u * u' + v * v' * D) - (u * v' + v * u') * (u * v' + v * u') * D by grind] at this
      exact this
  · exact I12 h1 h2 h3 h4
  · have := I12 h3 h4 h1 h2
    rw [show u' * u + v' * v * D = u * u' + v * v' * D by grind, show u' * v + v' * u = u * v' + v * u' by grind] at this
    exact this
  · refine Or.inl ⟨?_, ?_⟩
    · have k := jo_q h (a := v * v' * D) (b := u * u') (h.2.2.1 _ _ (h.2.2.1 _ _ h1 h3) hD) (by
        have := h.2.1 _ _ (h.2.2.1 _ _ (h.2.2.1 _ _ (sq v) hD) h4) (h.2.2.1 _ _ (sq u') h2)
        rw [show v * v * D * (v' * v' * D - u' * u') + u' * u' * (v * v * D - u * u) = v * v' * D * (v * v' * D) - u * u' * (u * u') by grind] at this
        exact this)
      rw [show v * v' * D + u * u' = u * u' + v * v' * D by grind] at k
      exact k
    · have := h.2.2.1 _ _ h2 h4
      rw [show (v * v * D - u * u) * (v' * v' * D - u' * u') = (u * u' + v * v' * D) * (u * u' + v * v' * D) - (u * v' + v * u') * (u * v' + v * u') * D by grind] at this
      exact this

theorem jo_e1 {R : Type} [Lean.Grind.CommRing R] {N : R → Prop} (h : jo_N N) {D u v u' v' : R} (hD : N D) (hx : jo_e N D u v) (hy : jo_e N D u' v') : jo_e N D (u + u') (v + v') := by
  have sq := jo_sq h
  have one := jo_one h
  have two : ∀ {x : R}, N x → N (x + x) := fun k => h.2.1 _ _ k k
  have I12 : ∀ {u v u' v' : R}, N u → N (u * u - v * v * D) → N v' → N (v' * v' * D - u' * u') → jo_e N D (u + u') (v + v') := by
    intro u v u' v' h1 h2 h3 h4
    by_cases kU : N (u + u')
    · by_cases kV : N (v + v')
      · rcases h.1 ((u + u') * (u + u') - (v + v') * (v + v') * D) with k | k
        · exact Or.inl ⟨kU, k⟩
        · rw [show -((u + u') * (u + u') - (v + v') * (v + v') * D) = (v + v') * (v + v') * D - (u + u') * (u + u') by grind] at k
          exact Or.inr ⟨kV, k⟩
      · -- V below nought: the first kind
        have nV := jo_tot h kV
        refine Or.inl ⟨kU, ?_⟩
        by_cases k : N ((u + u') * (u + u') - (v + v') * (v + v') * D)
        · exact k
        · exfalso
          have k2 := jo_tot h k
          have e1 : N (v' * -(v + v') * D + u' * (u + u')) := by
            refine jo_q h (h.2.2.1 _ _ (h.2.2.1 _ _ h3 nV) hD) ?_
            have := h.2.1 _ _ (h.2.2.1 _ _ (h.2.2.1 _ _ (sq (v + v')) hD) h4) (h.2.2.1 _ _ (sq u') k2)
            rw [show (v + v') * (v + v') * D * (v' * v' * D - u' * u') + u' * u' * -((u + u') * (u + u') - (v + v') * (v + v') * D) = v' * -(v + v') * D * (v' * -(v + v') * D) - u' * (u + u') * (u' * (u + u')) by grind] at this
            exact this
          have e2 := jo_sum h (x := -((u + u') * (u + u') - (v + v') * (v + v') * D)) (y := (v' * -(v + v') * D + u' * (u + u')) + (v' * -(v + v') * D + u' * (u + u')) + (v' * v' * D - u' * u')) (by rw [show - -((u + u') * (u + u') - (v + v') * (v + v') * D) = (u + u') * (u + u') - (v + v') * (v + v') * D by grind]; exact k) (h.2.1 _ _ (two e1) h4)
          apply e2
          rw [show -(-((u + u') * (u + u') - (v + v') * (v + v') * D) + ((v' * -(v + v') * D + u' * (u + u')) + (v' * -(v + v') * D + u' * (u + u')) + (v' * v' * D - u' * u'))) = u * u - v * v * D by grind]
          exact h2
    · have nU := jo_tot h kU
      by_cases kV : N (v + v')
      · refine Or.inr ⟨kV, ?_⟩
        by_cases k : N ((v + v') * (v + v') * D - (u + u') * (u + u'))
        · exact k
        · exfalso
          have k2 := jo_tot h k
          have e1 : N (u * -(u + u') + v * (v + v') * D) := by
            refine jo_q h (h.2.2.1 _ _ h1 nU) ?_
            have := h.2.1 _ _ (h.2.2.1 _ _ (sq u) k2) (h.2.2.1 _ _ (h.2.2.1 _ _ (sq (v + v')) hD) h2)
            rw [show u * u * -((v + v') * (v + v') * D - (u + u') * (u + u')) + (v + v') * (v + v') * D * (u * u - v * v * D) = u * -(u + u') * (u * -(u + u')) - v * (v + v') * D * (v * (v + v') * D) by grind] at this
            exact this
          have e2 := jo_sum h (x := -((v + v') * (v + v') * D - (u + u') * (u + u'))) (y := (u * -(u + u') + v * (v + v') * D) + (u * -(u + u') + v * (v + v') * D) + (u * u - v * v * D)) (by rw [show - -((v + v') * (v + v') * D - (u + u') * (u + u')) = (v + v') * (v + v') * D - (u + u') * (u + u') by grind]; exact k) (h.2.1 _ _ (two e1) h2)
          apply e2
          rw [show -(-((v + v') * (v + v') * D - (u + u') * (u + u')) + ((u * -(u + u') + v * (v + v') * D) + (u * -(u + u') + v * (v + v') * D) + (u * u - v * v * D))) = v' * v' * D - u' * u' by grind]
          exact h4
      · exfalso
        have nV := jo_tot h kV
        -- u < -u', v' < -v
        have p1 : ¬ N (-(-(u + u') * (-(u + u') + (u + u)))) := by
          refine jo_prod h nU (h.2.1 _ _ nU (two h1)) (by rw [show - -(u + u') = u + u' by grind]; exact kU) ?_
          exact jo_sum h (by rw [show - -(u + u') = u + u' by grind]; exact kU) (two h1)
        apply p1
        have k1 : N (-(v + v') * (-(v + v') + (v' + v')) * D) := h.2.2.1 _ _ (h.2.2.1 _ _ nV (h.2.1 _ _ nV (two h3))) hD
        have := h.2.1 _ _ (h.2.1 _ _ h2 k1) h4
        rw [show u * u - v * v * D + -(v + v') * (-(v + v') + (v' + v')) * D + (v' * v' * D - u' * u') = -(-(u + u') * (-(u + u') + (u + u))) by grind] at this
        exact this
  rcases hx with ⟨h1, h2⟩ | ⟨h1, h2⟩ <;> rcases hy with ⟨h3, h4⟩ | ⟨h3, h4⟩
  · refine Or.inl ⟨h.2.1 _ _ h1 h3, ?_⟩
    have k := jo_q2 h (a := u * u') (b := v * v' * D) (h.2.2.1 _ _ h1 h3) (by
      have := h.2.1 _ _ (h.2.2.1 _ _ (sq u) h4) (h.2.2.1 _ _ (h.2.2.1 _ _ (sq v') hD) h2)
      rw [show u * u * (u' * u' - v' * v' * D) + v' * v' * D * (u * u - v * v * D) = u * u' * (u * u') - v * v' * D * (v * v' * D) by grind] at this
      exact this)
    have := h.2.1 _ _ (h.2.1 _ _ h2 h4) (two k)
    rw [show u * u - v * v * D + (u' * u' - v' * v' * D) + (u * u' - v * v' * D + (u * u' - v * v' * D)) = (u + u') * (u + u') - (v + v') * (v + v') * D by grind] at this
    exact this
  · exact I12 h1 h2 h3 h4
  · have := I12 h3 h4 h1 h2
    rw [show u' + u = u + u' by grind, show v' + v = v + v' by grind] at this
    exact this
  · refine Or.inr ⟨h.2.1 _ _ h1 h3, ?_⟩
    have k := jo_q2 h (a := v * v' * D) (b := u * u') (h.2.2.1 _ _ (h.2.2.1 _ _ h1 h3) hD) (by
      have := h.2.1 _ _ (h.2.2.1 _ _ (h.2.2.1 _ _ (sq v) hD) h4) (h.2.2.1 _ _ (sq u') h2)
      rw [show v * v * D * (v' * v' * D - u' * u') + u' * u' * (v * v * D - u * u) = v * v' * D * (v * v' * D) - u * u' * (u * u') by grind] at this
      exact this)
    have := h.2.1 _ _ (h.2.1 _ _ h2 h4) (two k)
    rw [show v * v * D - u * u + (v' * v' * D - u' * u') + (v * v' * D - u * u' + (v * v' * D - u * u')) = (v + v') * (v + v') * D - (u + u') * (u + u') by grind] at this
    exact this
/-- what is nought: its norm is, and its parts point apart -/
theorem jo_en {R : Type} [Lean.Grind.CommRing R] {N : R → Prop} (h : jo_N N) {D u v : R} (hD : N D) (hx : jo_e N D u v) (hy : jo_e N D (-u) (-v)) : (N (u * u - v * v * D) ∧ N (v * v * D - u * u)) ∧ ((N u ∧ N (-v)) ∨ (N (-u) ∧ N v)) := by
  have sq := jo_sq h
  unfold jo_e at hy
  rw [show -u * -u = u * u by grind, show -v * -v = v * v by grind] at hy
  have zz : ∀ {x : R}, N x → N (-x) → N (-(x * x)) := fun a b => by
    have := h.2.2.1 _ _ a b
    rw [show ∀ x : R, x * -x = -(x * x) by intro x; grind] at this
    exact this
  rcases hx with ⟨h1, h2⟩ | ⟨h1, h2⟩ <;> rcases hy with ⟨h3, h4⟩ | ⟨h3, h4⟩
  · have k : N (v * v * D - u * u) := by
      have := h.2.1 _ _ (h.2.2.1 _ _ (sq v) hD) (zz h1 h3)
      rw [show v * v * D + -(u * u) = v * v * D - u * u by grind] at this
      exact this
    refine ⟨⟨h2, k⟩, ?_⟩
    rcases h.1 v with z | z
    · exact Or.inr ⟨h3, z⟩
    · exact Or.inl ⟨h1, z⟩
  · exact ⟨⟨h2, h4⟩, Or.inl ⟨h1, h3⟩⟩
  · exact ⟨⟨h4, h2⟩, Or.inr ⟨h3, h1⟩⟩
  · have k : N (u * u - v * v * D) := by
      have k2 : N (-(v * v) * D) := h.2.2.1 _ _ (zz h1 h3) hD
      have := h.2.1 _ _ (sq u) k2
      rw [show u * u + -(v * v) * D = u * u - v * v * D by grind] at this
      exact this
    refine ⟨⟨k, h2⟩, ?_⟩
    rcases h.1 u with z | z
    · exact Or.inl ⟨z, h3⟩
    · exact Or.inr ⟨z, h1⟩
theorem jo_en2 {R : Type} [Lean.Grind.CommRing R] {N : R → Prop} {D u v : R} (h1 : N (u * u - v * v * D)) (h2 : N (v * v * D - u * u)) (h3 : (N u ∧ N (-v)) ∨ (N (-u) ∧ N v)) : jo_e N D u v ∧ jo_e N D (-u) (-v) := by
  unfold jo_e
  rw [show -u * -u = u * u by grind, show -v * -v = v * v by grind]
  rcases h3 with ⟨a, b⟩ | ⟨a, b⟩
  · exact ⟨Or.inl ⟨a, h1⟩, Or.inr ⟨b, h2⟩⟩
  · exact ⟨Or.inr ⟨b, h2⟩, Or.inl ⟨a, h1⟩⟩
end EXT
