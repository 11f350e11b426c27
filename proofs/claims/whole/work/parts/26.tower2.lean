theorem jo_zm {R : Type} [Lean.Grind.CommRing R] {N : R → Prop} (h : jo_N N) (x : R) {n : R} (h1 : N n) (h2 : N (-n)) : N (x * n) ∧ N (-(x * n)) := by
  rcases h.1 x with k | k
  · refine ⟨h.2.2.1 _ _ k h1, ?_⟩
    have := h.2.2.1 _ _ k h2
    rw [show x * -n = -(x * n) by grind] at this
    exact this
  · refine ⟨?_, ?_⟩
    · have := h.2.2.1 _ _ k h2
      rw [show -x * -n = x * n by grind] at this
      exact this
    · have := h.2.2.1 _ _ k h1
      rw [show -x * n = -(x * n) by grind] at this
      exact this
theorem jo_e3p {R : Type} [Lean.Grind.CommRing R] {N : R → Prop} (h : jo_N N) {D u v u' v' : R} (hu : N u) (su : ¬ N (-u)) (hv : N v) (sv : ¬ N (-v)) (nx1 : N (u * u - v * v * D)) (nx2 : N (v * v * D - u * u)) (hs : (N (u * u' + v * v' * D) ∧ N (-(u * v' + v * u'))) ∨ (N (-(u * u' + v * v' * D)) ∧ N (u * v' + v * u'))) : jo_e N D u' v' ∧ jo_e N D (-u') (-v') := by
  have nx2' : N (-(u * u - v * v * D)) := by rw [show -(u * u - v * v * D) = v * v * D - u * u by grind]; exact nx2
  obtain ⟨w1, w2⟩ := jo_zm h v' nx1 nx2'
  -- v P - u Q = - v' (norm)
  have hQ : N (u * v' + v * u') ∧ N (-(u * v' + v * u')) := by
    have key : N (u * (u * v' + v * u')) ∧ N (-(u * (u * v' + v * u'))) := by
      rcases hs with ⟨a, b⟩ | ⟨a, b⟩
      · refine ⟨?_, ?_⟩
        · have := h.2.1 _ _ (h.2.2.1 _ _ hv a) w1
          rw [show v * (u * u' + v * v' * D) + v' * (u * u - v * v * D) = u * (u * v' + v * u') by grind] at this
          exact this
        · have := h.2.2.1 _ _ hu b
          rw [show u * -(u * v' + v * u') = -(u * (u * v' + v * u')) by grind] at this
          exact this
      · refine ⟨h.2.2.1 _ _ hu b, ?_⟩
        have := h.2.1 _ _ (h.2.2.1 _ _ hv a) w2
        rw [show v * -(u * u' + v * v' * D) + -(v' * (u * u - v * v * D)) = -(u * (u * v' + v * u')) by grind] at this
        exact this
    rcases h.2.2.2.1 _ _ key.1 key.2 with z | z
    · exact absurd z.2 su
    · exact z
  obtain ⟨q1, q2⟩ := jo_zm h (u * v' - v * u') hQ.1 hQ.2
  have nx3 : N (-(v * v * D - u * u)) := by rw [show -(v * v * D - u * u) = u * u - v * v * D by grind]; exact nx1
  obtain ⟨y1, y2⟩ := jo_zm h (v' * v') nx2 nx3
  have svv := jo_prod h hv hv sv sv
  have hvv := h.2.2.1 _ _ hv hv
  have m1 : N (v' * v' * D - u' * u') := by
    refine jo_c h hvv svv ?_
    have := h.2.1 _ _ y1 q1
    rw [show v' * v' * (v * v * D - u * u) + (u * v' - v * u') * (u * v' + v * u') = v * v * (v' * v' * D - u' * u') by grind] at this
    exact this
  have m2 : N (u' * u' - v' * v' * D) := by
    refine jo_c h hvv svv ?_
    have := h.2.1 _ _ y2 q2
    rw [show -(v' * v' * (v * v * D - u * u)) + -((u * v' - v * u') * (u * v' + v * u')) = v * v * (u' * u' - v' * v' * D) by grind] at this
    exact this
  refine jo_en2 m2 m1 ?_
  rcases h.1 v' with z | z
  · refine Or.inr ⟨jo_c h hv sv ?_, z⟩
    have := h.2.1 _ _ (h.2.2.1 _ _ hu z) hQ.2
    rw [show u * v' + -(u * v' + v * u') = v * -u' by grind] at this
    exact this
  · refine Or.inl ⟨jo_c h hv sv ?_, z⟩
    have := h.2.1 _ _ (h.2.2.1 _ _ hu z) hQ.1
    rw [show u * -v' + (u * v' + v * u') = v * u' by grind] at this
    exact this
theorem jo_e3h {R : Type} [Lean.Grind.CommRing R] {N : R → Prop} (h : jo_N N) {D u v u' v' : R} (nx1 : N (u * u - v * v * D)) (nx2 : N (v * v * D - u * u)) (hs : (N (u * u' + v * v' * D) ∧ N (-(u * v' + v * u'))) ∨ (N (-(u * u' + v * v' * D)) ∧ N (u * v' + v * u'))) : (jo_e N D u v ∧ jo_e N D (-u) (-v)) ∨ (jo_e N D u' v' ∧ jo_e N D (-u') (-v')) := by
  by_cases a : N u
  · by_cases b : N v
    · by_cases a2 : N (-u)
      · exact Or.inl (jo_en2 nx1 nx2 (Or.inr ⟨a2, b⟩))
      · by_cases b2 : N (-v)
        · exact Or.inl (jo_en2 nx1 nx2 (Or.inl ⟨a, b2⟩))
        · exact Or.inr (jo_e3p h a a2 b b2 nx1 nx2 hs)
    · exact Or.inl (jo_en2 nx1 nx2 (Or.inl ⟨a, jo_tot h b⟩))
  · by_cases b : N v
    · exact Or.inl (jo_en2 nx1 nx2 (Or.inr ⟨jo_tot h a, b⟩))
    · refine Or.inr (jo_e3p (u := -u) (v := -v) h (jo_tot h a) (by rw [show - -u = u by grind]; exact a) (jo_tot h b) (by rw [show - -v = v by grind]; exact b) (by rw [show -u * -u - -v * -v * D = u * u - v * v * D by grind]; exact nx1) (by rw [show -v * -v * D - -u * -u = v * v * D - u * u by grind]; exact nx2) ?_)
      rw [show -u * u' + -v * v' * D = -(u * u' + v * v' * D) by grind, show -u * v' + -v * u' = -(u * v' + v * u') by grind, show - -(u * u' + v * v' * D) = u * u' + v * v' * D by grind, show - -(u * v' + v * u') = u * v' + v * u' by grind]
      exact hs.symm
theorem jo_e3 {R : Type} [Lean.Grind.CommRing R] {N : R → Prop} (h : jo_N N) {D u v u' v' : R} (hD : N D) (hx : jo_e N D (u * u' + v * v' * D) (u * v' + v * u')) (hy : jo_e N D (-(u * u' + v * v' * D)) (-(u * v' + v * u'))) : (jo_e N D u v ∧ jo_e N D (-u) (-v)) ∨ (jo_e N D u' v' ∧ jo_e N D (-u') (-v')) := by
  obtain ⟨⟨n1, n2⟩, hs⟩ := jo_en h hD hx hy
  rw [show (u * u' + v * v' * D) * (u * u' + v * v' * D) - (u * v' + v * u') * (u * v' + v * u') * D = (u * u - v * v * D) * (u' * u' - v' * v' * D) by grind] at n1
  rw [show (u * v' + v * u') * (u * v' + v * u') * D - (u * u' + v * v' * D) * (u * u' + v * v' * D) = -((u * u - v * v * D) * (u' * u' - v' * v' * D)) by grind] at n2
  rcases h.2.2.2.1 _ _ n1 n2 with ⟨a, b⟩ | ⟨a, b⟩
  · rw [show -(u * u - v * v * D) = v * v * D - u * u by grind] at b
    exact jo_e3h h a b hs
  · rw [show -(u' * u' - v' * v' * D) = v' * v' * D - u' * u' by grind] at b
    have := jo_e3h (u := u') (v := v') (u' := u) (v' := v) h a b (by
      rw [show u' * u + v' * v * D = u * u' + v * v' * D by grind, show u' * v + v' * u = u * v' + v * u' by grind]
      exact hs)
    exact this.symm
theorem jo_e4 {R : Type} [Lean.Grind.CommRing R] {N : R → Prop} (h : jo_N N) {D : R} : ¬ jo_e N D (-1) 0 := by
  intro k
  rcases k with ⟨a, b⟩ | ⟨a, b⟩
  · exact h.2.2.2.2 a
  · rw [show (0 : R) * 0 * D - -1 * -1 = -1 by grind] at b
    exact h.2.2.2.2 b
/-- the ring with a root of D: pairs -/
def jo_ring {R : Type} [I : Lean.Grind.CommRing R] (D : R) : Lean.Grind.CommRing (R × R) where
  add := fun x y => (x.1 + y.1, x.2 + y.2)
  mul := fun x y => (x.1 * y.1 + x.2 * y.2 * D, x.1 * y.2 + x.2 * y.1)
  neg := fun x => (-x.1, -x.2)
  sub := fun x y => (x.1 - y.1, x.2 - y.2)
  natCast := ⟨fun n => (OfNat.ofNat n, 0)⟩
  ofNat := fun n => ⟨(OfNat.ofNat n, 0)⟩
  nsmul := ⟨fun n x => (OfNat.ofNat n * x.1, OfNat.ofNat n * x.2)⟩
  npow := ⟨fun x n => Nat.rec ((1 : R), (0 : R)) (fun _ y => (y.1 * x.1 + y.2 * x.2 * D, y.1 * x.2 + y.2 * x.1)) n⟩
  intCast := ⟨fun i => (@Int.cast R I.intCast i, 0)⟩
  zsmul := ⟨fun i x => (@Int.cast R I.intCast i * x.1, @Int.cast R I.intCast i * x.2)⟩
  add_zero := fun a => Prod.ext (show a.1 + 0 = a.1 by grind) (show a.2 + 0 = a.2 by grind)
  add_comm := fun a b => Prod.ext (show a.1 + b.1 = b.1 + a.1 by grind) (show a.2 + b.2 = b.2 + a.2 by grind)
  add_assoc := fun a b c => Prod.ext (show a.1 + b.1 + c.1 = a.1 + (b.1 + c.1) by grind) (show a.2 + b.2 + c.2 = a.2 + (b.2 + c.2) by grind)
  mul_assoc := fun a b c => Prod.ext (show (a.1 * b.1 + a.2 * b.2 * D) * c.1 + (a.1 * b.2 + a.2 * b.1) * c.2 * D = a.1 * (b.1 * c.1 + b.2 * c.2 * D) + a.2 * (b.1 * c.2 + b.2 * c.1) * D by grind) (show (a.1 * b.1 + a.2 * b.2 * D) * c.2 + (a.1 * b.2 + a.2 * b.1) * c.1 = a.1 * (b.1 * c.2 + b.2 * c.1) + a.2 * (b.1 * c.1 + b.2 * c.2 * D) by grind)
  mul_one := fun a => Prod.ext (show a.1 * 1 + a.2 * 0 * D = a.1 by grind) (show a.1 * 0 + a.2 * 1 = a.2 by grind)
  one_mul := fun a => Prod.ext (show 1 * a.1 + 0 * a.2 * D = a.1 by grind) (show 1 * a.2 + 0 * a.1 = a.2 by grind)
  left_distrib := fun a b c => Prod.ext (show a.1 * (b.1 + c.1) + a.2 * (b.2 + c.2) * D = a.1 * b.1 + a.2 * b.2 * D + (a.1 * c.1 + a.2 * c.2 * D) by grind) (show a.1 * (b.2 + c.2) + a.2 * (b.1 + c.1) = a.1 * b.2 + a.2 * b.1 + (a.1 * c.2 + a.2 * c.1) by grind)
  right_distrib := fun a b c => Prod.ext (show (a.1 + b.1) * c.1 + (a.2 + b.2) * c.2 * D = a.1 * c.1 + a.2 * c.2 * D + (b.1 * c.1 + b.2 * c.2 * D) by grind) (show (a.1 + b.1) * c.2 + (a.2 + b.2) * c.1 = a.1 * c.2 + a.2 * c.1 + (b.1 * c.2 + b.2 * c.1) by grind)
  zero_mul := fun a => Prod.ext (show 0 * a.1 + 0 * a.2 * D = 0 by grind) (show 0 * a.2 + 0 * a.1 = 0 by grind)
  mul_zero := fun a => Prod.ext (show a.1 * 0 + a.2 * 0 * D = 0 by grind) (show a.1 * 0 + a.2 * 0 = 0 by grind)
  pow_zero := fun a => rfl
  pow_succ := fun a n => rfl
  ofNat_succ := fun n => Prod.ext (Lean.Grind.Semiring.ofNat_succ n) (show (0 : R) = 0 + 0 by grind)
  ofNat_eq_natCast := fun n => rfl
  nsmul_eq_natCast_mul := fun n a => Prod.ext (show OfNat.ofNat n * a.1 = OfNat.ofNat n * a.1 + 0 * a.2 * D by grind) (show OfNat.ofNat n * a.2 = OfNat.ofNat n * a.2 + 0 * a.1 by grind)
  neg_add_cancel := fun a => Prod.ext (show -a.1 + a.1 = 0 by grind) (show -a.2 + a.2 = 0 by grind)
  sub_eq_add_neg := fun a b => Prod.ext (show a.1 - b.1 = a.1 + -b.1 by grind) (show a.2 - b.2 = a.2 + -b.2 by grind)
  neg_zsmul := fun i a => Prod.ext (show @Int.cast R I.intCast (-i) * a.1 = -(@Int.cast R I.intCast i * a.1) by rw [I.intCast_neg]; grind) (show @Int.cast R I.intCast (-i) * a.2 = -(@Int.cast R I.intCast i * a.2) by rw [I.intCast_neg]; grind)
  zsmul_natCast_eq_nsmul := fun n a => Prod.ext (show @Int.cast R I.intCast (OfNat.ofNat n) * a.1 = OfNat.ofNat n * a.1 by rw [I.intCast_ofNat]) (show @Int.cast R I.intCast (OfNat.ofNat n) * a.2 = OfNat.ofNat n * a.2 by rw [I.intCast_ofNat])
  intCast_ofNat := fun n => Prod.ext (I.intCast_ofNat n) rfl
  intCast_neg := fun i => Prod.ext (I.intCast_neg i) (show (0 : R) = -0 by grind)
  mul_comm := fun a b => Prod.ext (show a.1 * b.1 + a.2 * b.2 * D = b.1 * a.1 + b.2 * a.2 * D by grind) (show a.1 * b.2 + a.2 * b.1 = b.1 * a.2 + b.2 * a.1 by grind)
theorem jo_ext {R : Type} [I : Lean.Grind.CommRing R] {N : R → Prop} (h : jo_N N) {D : R} (hD : N D) : @jo_N (R × R) (jo_ring D) (fun x => jo_e N D x.1 x.2) := by
  refine ⟨fun x => jo_e0 h D x.1 x.2, fun x y hx hy => jo_e1 h hD hx hy, fun x y hx hy => jo_e2 h hD hx hy, fun x y hx hy => jo_e3 h hD hx hy, ?_⟩
  intro k
  have k2 : jo_e N D (-(1 : R)) (-(0 : R)) := k
  rw [show -(0 : R) = 0 by grind] at k2
  exact jo_e4 h k2
theorem jo_int : jo_N (fun x : Int => 0 ≤ x) := by
  refine ⟨fun x => by omega, fun x y hx hy => by omega, fun x y hx hy => Int.mul_nonneg hx hy, fun x y hx hy => ?_, by decide⟩
  have e : x * y = 0 := by omega
  rcases Int.mul_eq_zero.mp e with z | z
  · exact Or.inl (by omega)
  · exact Or.inr (by omega)
