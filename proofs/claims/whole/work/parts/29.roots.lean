/-! a ring with signs that holds the roots of given whole numbers -/
noncomputable def jo_s {R : Type} [Lean.Grind.CommRing R] (N : R → Prop) (x : R) : Int := @ite Int (N x) (Classical.propDecidable _) (@ite Int (N (-x)) (Classical.propDecidable _) 0 1) (-1)
theorem jo_sSg {R : Type} [Lean.Grind.CommRing R] {N : R → Prop} (h : jo_N N) : jo_Sg N (jo_s N) := by
  have nn : ∀ x : R, - -x = x := fun x => by grind
  refine ⟨fun x => ?_, fun x => ?_, fun x => ?_⟩
  · unfold jo_s
    split
    · split
      · exact Or.inr (Or.inl rfl)
      · exact Or.inr (Or.inr rfl)
    · exact Or.inl rfl
  · unfold jo_s
    split
    · split <;> simp_all
    · simp_all
  · have t := h.1 x
    unfold jo_s
    rw [nn]
    by_cases a : N x <;> by_cases b : N (-x) <;> simp_all
theorem sg_uni {R : Type} [Lean.Grind.CommRing R] {N : R → Prop} {s : R → Int} (hs : jo_Sg N s) {x : R} {v : Int} (hv : v = -1 ∨ v = 0 ∨ v = 1) (h1 : 0 ≤ v ↔ N x) (h2 : v ≤ 0 ↔ N (-x)) : s x = v := by
  have a := hs.1 x
  have b := hs.2.1 x
  have c := hs.2.1 (-x)
  rw [hs.2.2] at c
  rw [← b] at h1
  rw [← c] at h2
  omega
def jo_Cx {R : Type} (I : Lean.Grind.CommRing R) (N : R → Prop) (s : R → Int) (e : Int → R) : Prop := jo_N N ∧ jo_Sg N s ∧ (∀ a b, e (a + b) = e a + e b) ∧ (∀ a b, e (a * b) = e a * e b) ∧ e 1 = 1 ∧ ∀ a, s (e a) = a.sign
def jo_Rt {R : Type} (I : Lean.Grind.CommRing R) (s : R → Int) (e : Int → R) (r : Int) (x : R) : Prop := x * x = e (jm_ab r) ∧ s x = r.sign
theorem cx_0 {R : Type} {I : Lean.Grind.CommRing R} {N : R → Prop} {s : R → Int} {e : Int → R} (h : jo_Cx I N s e) : e 0 = 0 := by
  have := h.2.2.1 0 0
  rw [show (0 : Int) + 0 = 0 by rfl] at this
  grind
theorem cx_neg {R : Type} {I : Lean.Grind.CommRing R} {N : R → Prop} {s : R → Int} {e : Int → R} (h : jo_Cx I N s e) (a : Int) : e (-a) = -e a := by
  have h1 := h.2.2.1 a (-a)
  rw [show a + -a = 0 by omega, cx_0 h] at h1
  grind
theorem cx_sub {R : Type} {I : Lean.Grind.CommRing R} {N : R → Prop} {s : R → Int} {e : Int → R} (h : jo_Cx I N s e) (a b : Int) : e (a - b) = e a - e b := by
  rw [show a - b = a + -b by omega, h.2.2.1, cx_neg h]
  grind
theorem cx_N {R : Type} {I : Lean.Grind.CommRing R} {N : R → Prop} {s : R → Int} {e : Int → R} (h : jo_Cx I N s e) (a : Int) : N (e a) ↔ 0 ≤ a := by
  rw [← h.2.1.2.1, h.2.2.2.2.2, jm_sgInt.2.1]
theorem cx_int : jo_Cx (inferInstance : Lean.Grind.CommRing Int) (fun x : Int => 0 ≤ x) Int.sign id := ⟨jo_int, jm_sgInt, fun _ _ => rfl, fun _ _ => rfl, rfl, fun _ => rfl⟩
theorem cx_step {R : Type} {I : Lean.Grind.CommRing R} {N : R → Prop} {s : R → Int} {e : Int → R} (h : jo_Cx I N s e) (r : Int) :
    ∃ (R' : Type) (I' : Lean.Grind.CommRing R') (N' : R' → Prop) (s' : R' → Int) (e' : Int → R') (f : R → R') (x : R'), jo_Cx I' N' s' e' ∧ jo_Rt I' s' e' r x ∧ ∀ r0 x0, jo_Rt I s e r0 x0 → jo_Rt I' s' e' r0 (f x0) := by
  have hN := h.1
  have hD : N (e (jm_ab r)) := (cx_N h _).mpr (jm_ab_nn r)
  have z0 : N (0 : R) := jo_zero hN
  have n0 : -(0 : R) = 0 := by grind
  have ex := jo_ext hN hD
  have sx := @jo_sSg (R × R) (jo_ring (e (jm_ab r))) _ ex
  have emb : ∀ x : R, jo_e N (e (jm_ab r)) x 0 ↔ N x := fun x => by
    unfold jo_e
    rw [show x * x - 0 * 0 * e (jm_ab r) = x * x by grind, show 0 * 0 * e (jm_ab r) - x * x = -(x * x) by grind]
    refine ⟨fun k => ?_, fun k => Or.inl ⟨k, jo_sq hN x⟩⟩
    rcases k with k | k
    · exact k.1
    · rcases hN.2.2.2.1 _ _ (jo_sq hN x) k.2 with z | z <;> exact z.1
  have embs : ∀ x : R, @jo_s (R × R) (jo_ring (e (jm_ab r))) (fun x => jo_e N (e (jm_ab r)) x.1 x.2) (x, 0) = s x := fun x => by
    refine @sg_uni (R × R) (jo_ring (e (jm_ab r))) _ _ sx (x, 0) (s x) (h.2.1.1 x) ?_ ?_
    · show 0 ≤ s x ↔ jo_e N (e (jm_ab r)) x 0
      rw [emb, h.2.1.2.1]
    · show s x ≤ 0 ↔ jo_e N (e (jm_ab r)) (-x) (-0)
      rw [n0, emb, ← h.2.1.2.1, h.2.1.2.2]
      omega
  refine ⟨R × R, jo_ring (e (jm_ab r)), fun x => jo_e N (e (jm_ab r)) x.1 x.2, @jo_s (R × R) (jo_ring (e (jm_ab r))) (fun x => jo_e N (e (jm_ab r)) x.1 x.2), fun a => (e a, 0), fun x => (x, 0), (0, e (jm_ep r)), ⟨ex, sx, fun a b => ?_, fun a b => ?_, ?_, fun a => ?_⟩, ⟨?_, ?_⟩, fun r0 x0 k => ⟨?_, ?_⟩⟩
  · exact Prod.ext (h.2.2.1 a b) (show (0 : R) = 0 + 0 by grind)
  · exact Prod.ext (show e (a * b) = e a * e b + 0 * 0 * e (jm_ab r) by rw [h.2.2.2.1]; grind) (show (0 : R) = e a * 0 + 0 * e b by grind)
  · exact Prod.ext h.2.2.2.2.1 rfl
  · rw [embs, h.2.2.2.2.2]
  · have e2 : e (jm_ep r) * e (jm_ep r) = 1 := by
      rw [← h.2.2.2.1, ← h.2.2.2.2.1]
      congr 1
      unfold jm_ep
      split <;> rfl
    exact Prod.ext (show 0 * 0 + e (jm_ep r) * e (jm_ep r) * e (jm_ab r) = e (jm_ab r) by grind) (show (0 : R) * e (jm_ep r) + e (jm_ep r) * 0 = 0 by grind)
  · have one := jo_one hN
    have mone : ¬ N (-1) := hN.2.2.2.2
    have key : ∀ v : R, jo_e N (e (jm_ab r)) 0 v ↔ (N (-(v * v * e (jm_ab r))) ∨ N v) := fun v => by
      unfold jo_e
      rw [show (0 : R) * 0 - v * v * e (jm_ab r) = -(v * v * e (jm_ab r)) by grind, show v * v * e (jm_ab r) - 0 * 0 = v * v * e (jm_ab r) by grind]
      refine ⟨fun k => ?_, fun k => ?_⟩
      · rcases k with k | k
        · exact Or.inl k.2
        · exact Or.inr k.1
      · rcases k with k | k
        · exact Or.inl ⟨z0, k⟩
        · exact Or.inr ⟨k, hN.2.2.1 _ _ (jo_sq hN v) hD⟩
    have nD : N (-e (jm_ab r)) ↔ r = 0 := by
      rw [← cx_neg h, cx_N h]
      have := jm_ab_nn r
      have := @jm_ab_eq0 r
      omega
    refine @sg_uni (R × R) (jo_ring (e (jm_ab r))) _ _ sx (0, e (jm_ep r)) r.sign (jm_sgInt.1 r) ?_ ?_
    · show 0 ≤ r.sign ↔ jo_e N (e (jm_ab r)) 0 (e (jm_ep r))
      rw [key, jm_sgInt.2.1, cx_N h]
      have e2 : e (jm_ep r) * e (jm_ep r) * e (jm_ab r) = e (jm_ab r) := by
        have e2 : e (jm_ep r) * e (jm_ep r) = 1 := by
          rw [← h.2.2.2.1, ← h.2.2.2.2.1]
          congr 1
          unfold jm_ep
          split <;> rfl
        grind
      rw [e2, nD]
      unfold jm_ep
      split <;> omega
    · show r.sign ≤ 0 ↔ jo_e N (e (jm_ab r)) (-0) (-e (jm_ep r))
      rw [n0, key, ← cx_neg h, cx_N h]
      have e2 : e (-jm_ep r) * e (-jm_ep r) * e (jm_ab r) = e (jm_ab r) := by
        have e2 : e (-jm_ep r) * e (-jm_ep r) = 1 := by
          rw [← h.2.2.2.1, ← h.2.2.2.2.1]
          congr 1
          unfold jm_ep
          split <;> rfl
        grind
      rw [e2, nD]
      have q : r.sign ≤ 0 ↔ r ≤ 0 := by
        have := jm_sgInt.2.1 (-r)
        rw [Int.sign_neg] at this
        omega
      rw [q]
      unfold jm_ep
      split <;> omega
  · show (x0 * x0 + 0 * 0 * e (jm_ab r), x0 * 0 + 0 * x0) = (e (jm_ab r0), 0)
    rw [show x0 * x0 + 0 * 0 * e (jm_ab r) = x0 * x0 by grind, show x0 * 0 + 0 * x0 = 0 by grind, k.1]
  · rw [embs, k.2]
/-- all three roots in one ring -/
theorem cx_three (r1 r2 r3 : Int) : ∃ (R : Type) (I : Lean.Grind.CommRing R) (N : R → Prop) (s : R → Int) (e : Int → R) (x1 x2 x3 : R), jo_Cx I N s e ∧ jo_Rt I s e r1 x1 ∧ jo_Rt I s e r2 x2 ∧ jo_Rt I s e r3 x3 := by
  obtain ⟨R1, I1, N1, s1, e1, f1, x1, h1, k1, t1⟩ := cx_step cx_int r1
  obtain ⟨R2, I2, N2, s2, e2, f2, x2, h2, k2, t2⟩ := cx_step h1 r2
  obtain ⟨R3, I3, N3, s3, e3, f3, x3, h3, k3, t3⟩ := cx_step h2 r3
  exact ⟨R3, I3, N3, s3, e3, f3 (f2 x1), f3 x2, x3, h3, t3 _ _ (t2 _ _ k1), t3 _ _ k2, k3⟩
