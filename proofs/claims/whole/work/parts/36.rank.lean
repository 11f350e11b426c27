/-! ranks in a total preorder -/
def jn_cnt (P : Nat → Bool) : Nat → Nat
  | 0 => 0
  | n + 1 => jn_cnt P n + (if P n = true then 1 else 0)
theorem jn_cnt_le {P Q : Nat → Bool} : ∀ n, (∀ q, q < n → P q = true → Q q = true) → jn_cnt P n ≤ jn_cnt Q n
  | 0, _ => Nat.le_refl _
  | n + 1, h => by
    have ih := jn_cnt_le n (fun q hq => h q (by omega))
    have h0 := h n (by omega)
    unfold jn_cnt
    by_cases k : P n = true
    · rw [if_pos k, if_pos (h0 k)]; omega
    · rw [if_neg k]; omega
theorem jn_cnt_eq {P Q : Nat → Bool} (n : Nat) (h : ∀ q, q < n → (P q = true ↔ Q q = true)) : jn_cnt P n = jn_cnt Q n :=
  Nat.le_antisymm (jn_cnt_le n (fun q hq => (h q hq).mp)) (jn_cnt_le n (fun q hq => (h q hq).mpr))
theorem jn_cnt_n {P : Nat → Bool} : ∀ n, jn_cnt P n ≤ n
  | 0 => Nat.le_refl _
  | n + 1 => by
    have ih := jn_cnt_n (P := P) n
    unfold jn_cnt
    split <;> omega
theorem jn_cnt_add {P Q : Nat → Bool} {u : Nat} (hP : ¬ P u = true) (hQ : Q u = true) : ∀ n, u < n → (∀ q, q < n → q ≠ u → (Q q = true ↔ P q = true)) → jn_cnt Q n = jn_cnt P n + 1
  | 0, h, _ => absurd h (Nat.not_lt_zero _)
  | n + 1, h, k => by
    unfold jn_cnt
    by_cases e : n = u
    · subst e
      rw [if_pos hQ, if_neg hP, jn_cnt_eq n (fun q hq => k q (by omega) (by omega))]
    · rw [jn_cnt_add hP hQ n (by omega) (fun q hq hu => k q (by omega) hu)]
      have k0 := k n (by omega) e
      by_cases z : P n = true
      · rw [if_pos z, if_pos (k0.mpr z)]
      · rw [if_neg z, if_neg (fun y => z (k0.mp y))]
theorem jn_cnt_lt {P Q : Nat → Bool} {u n : Nat} (hu : u < n) (hP : ¬ P u = true) (hQ : Q u = true) (h : ∀ q, q < n → P q = true → Q q = true) : jn_cnt P n + 1 ≤ jn_cnt Q n := by
  have e := jn_cnt_add (P := P) (Q := fun q => P q || decide (q = u)) hP (by simp) n hu (fun q _ hq => by simp [hq])
  rw [← e]
  refine jn_cnt_le n (fun q hq k => ?_)
  by_cases z : q = u
  · rw [z]; exact hQ
  · exact h q hq (by simpa [z] using k)
def jn_Ord (a : Nat → Int) (cm : Nat → Nat → Int) : Prop := (∀ p q, cm q p = -cm p q) ∧ ∀ p q u, a p ≠ 0 → a q ≠ 0 → a u ≠ 0 → 0 ≤ cm p q → 0 ≤ cm q u → 0 ≤ cm p u ∧ ((0 < cm p q ∨ 0 < cm q u) → 0 < cm p u)
def jn_first (a : Nat → Int) (cm : Nat → Nat → Int) (q : Nat) : Bool := decide (a q ≠ 0 ∧ ∀ p, p < q → a p ≠ 0 → cm p q ≠ 0)
def jn_rank (a : Nat → Int) (cm : Nat → Nat → Int) (m p : Nat) : Nat := jn_cnt (fun q => jn_first a cm q && decide (0 < cm p q)) m
def jn_hts (a : Nat → Int) (cm : Nat → Nat → Int) (m : Nat) : Nat := jn_cnt (jn_first a cm) m
section JN
variable {a : Nat → Int} {cm : Nat → Nat → Int}
theorem jn_first_iff {q : Nat} : jn_first a cm q = true ↔ a q ≠ 0 ∧ ∀ p, p < q → a p ≠ 0 → cm p q ≠ 0 := by unfold jn_first; exact decide_eq_true_iff
theorem jn_refl (h : jn_Ord a cm) (p : Nat) : cm p p = 0 := by have := h.1 p p; omega
theorem jn_rep (h : jn_Ord a cm) : ∀ n q, q ≤ n → a q ≠ 0 → ∃ u, u ≤ q ∧ jn_first a cm u = true ∧ cm q u = 0
  | 0, q, hq, ha => ⟨q, Nat.le_refl _, jn_first_iff.mpr ⟨ha, fun p hp => by omega⟩, jn_refl h q⟩
  | n + 1, q, hq, ha => by
    by_cases k : jn_first a cm q = true
    · exact ⟨q, Nat.le_refl _, k, jn_refl h q⟩
    · have : ∃ p, p < q ∧ a p ≠ 0 ∧ cm p q = 0 := by
        refine Classical.byContradiction (fun z => k (jn_first_iff.mpr ⟨ha, fun p hp hap hc => z ⟨p, hp, hap, hc⟩⟩))
      obtain ⟨p, h1, h2, h3⟩ := this
      obtain ⟨u, g1, g2, g3⟩ := jn_rep h n p (by omega) h2
      have hu := (jn_first_iff.mp g2).1
      have e1 := h.1 p q
      have e2 := h.2 q p u ha h2 hu (by omega) (by omega)
      have e3 := h.1 p u
      have e4 := h.2 u p q hu h2 ha (by omega) (by omega)
      have e5 := h.1 u q
      exact ⟨u, by omega, g2, by omega⟩
theorem jn_uniq (h : jn_Ord a cm) {u v : Nat} (hu : jn_first a cm u = true) (hv : jn_first a cm v = true) (e : cm u v = 0) : u = v := by
  have k1 := jn_first_iff.mp hu
  have k2 := jn_first_iff.mp hv
  rcases Nat.lt_trichotomy u v with z | z | z
  · exact absurd e (k2.2 u z k1.1)
  · exact z
  · have := h.1 u v
    exact absurd (by omega) (k1.2 v z k2.1)
/-- equal ones have one rank -/
theorem jn_rank_eq (h : jn_Ord a cm) {m p q : Nat} (hp : a p ≠ 0) (hq : a q ≠ 0) (e : cm p q = 0) : jn_rank a cm m p = jn_rank a cm m q := by
  unfold jn_rank
  refine jn_cnt_eq m (fun u _ => ?_)
  simp only [Bool.and_eq_true, decide_eq_true_iff]
  refine and_congr_right (fun hu => ?_)
  have ha := (jn_first_iff.mp hu).1
  have e1 := h.1 p q
  exact ⟨fun k => (h.2 q p u hq hp ha (by omega) (by omega)).2 (Or.inr k), fun k => (h.2 p q u hp hq ha (by omega) (by omega)).2 (Or.inr k)⟩
theorem jn_rank_mono (h : jn_Ord a cm) {m p q : Nat} (hp : a p ≠ 0) (hq : a q ≠ 0) (e : 0 ≤ cm p q) : jn_rank a cm m q ≤ jn_rank a cm m p := by
  unfold jn_rank
  refine jn_cnt_le m (fun u _ => ?_)
  simp only [Bool.and_eq_true, decide_eq_true_iff]
  intro ⟨hu, k⟩
  exact ⟨hu, (h.2 p q u hp hq (jn_first_iff.mp hu).1 e (by omega)).2 (Or.inr k)⟩
theorem jn_rank_lt (h : jn_Ord a cm) {m p q : Nat} (hp : a p ≠ 0) (hq : a q ≠ 0) (hm : q < m) (e : 0 < cm p q) : jn_rank a cm m q + 1 ≤ jn_rank a cm m p := by
  obtain ⟨u, g1, g2, g3⟩ := jn_rep h q q (Nat.le_refl _) hq
  unfold jn_rank
  refine jn_cnt_lt (u := u) (by omega) ?_ ?_ ?_
  · simp only [Bool.and_eq_true, decide_eq_true_iff]
    omega
  · simp only [Bool.and_eq_true, decide_eq_true_iff]
    exact ⟨g2, (h.2 p q u hp hq (jn_first_iff.mp g2).1 (by omega) (by omega)).2 (Or.inl e)⟩
  · intro v _
    simp only [Bool.and_eq_true, decide_eq_true_iff]
    intro ⟨hv, k⟩
    exact ⟨hv, (h.2 p q v hp hq (jn_first_iff.mp hv).1 (by omega) (by omega)).2 (Or.inl e)⟩
/-- the highest of those below p -/
theorem jn_best (h : jn_Ord a cm) {p : Nat} : ∀ j, (∀ q, q < j → jn_first a cm q = true → ¬ 0 < cm p q) ∨ ∃ u, u < j ∧ jn_first a cm u = true ∧ 0 < cm p u ∧ ∀ q, q < j → jn_first a cm q = true → 0 < cm p q → 0 ≤ cm u q
  | 0 => Or.inl (fun q hq => by omega)
  | j + 1 => by
    by_cases k : jn_first a cm j = true ∧ 0 < cm p j
    · rcases jn_best h j with g | ⟨u, g1, g2, g3, g4⟩
      · refine Or.inr ⟨j, by omega, k.1, k.2, fun q hq hf hc => ?_⟩
        by_cases e : q = j
        · rw [e, jn_refl h]; omega
        · exact absurd hc (g q (by omega) hf)
      · by_cases z : 0 ≤ cm u j
        · refine Or.inr ⟨u, by omega, g2, g3, fun q hq hf hc => ?_⟩
          by_cases e : q = j
          · rw [e]; exact z
          · exact g4 q (by omega) hf hc
        · refine Or.inr ⟨j, by omega, k.1, k.2, fun q hq hf hc => ?_⟩
          by_cases e : q = j
          · rw [e, jn_refl h]; omega
          · have e1 := h.1 u j
            exact (h.2 j u q (jn_first_iff.mp k.1).1 (jn_first_iff.mp g2).1 (jn_first_iff.mp hf).1 (by omega) (g4 q (by omega) hf hc)).1
    · rcases jn_best h j with g | ⟨u, g1, g2, g3, g4⟩
      · refine Or.inl (fun q hq hf hc => ?_)
        by_cases e : q = j
        · rw [e] at hf hc; exact k ⟨hf, hc⟩
        · exact g q (by omega) hf hc
      · refine Or.inr ⟨u, by omega, g2, g3, fun q hq hf hc => ?_⟩
        by_cases e : q = j
        · rw [e] at hf hc; exact absurd ⟨hf, hc⟩ k
        · exact g4 q (by omega) hf hc
theorem jn_rank_best (h : jn_Ord a cm) {m p : Nat} (hp : a p ≠ 0) : jn_rank a cm m p = 0 ∨ ∃ u, u < m ∧ a u ≠ 0 ∧ 0 < cm p u ∧ jn_rank a cm m p = jn_rank a cm m u + 1 := by
  rcases jn_best h (p := p) m with g | ⟨u, g1, g2, g3, g4⟩
  · left
    have : jn_rank a cm m p ≤ jn_cnt (fun _ => false) m := by
      refine jn_cnt_le m (fun q hq => ?_)
      simp only [Bool.and_eq_true, decide_eq_true_iff]
      exact fun k => absurd k.2 (g q hq k.1)
    have z : ∀ n, jn_cnt (fun _ => false) n = 0 := fun n => by
      induction n with
      | zero => rfl
      | succ n ih => unfold jn_cnt; rw [ih]; rfl
    rw [z] at this
    omega
  · right
    have hu := (jn_first_iff.mp g2).1
    refine ⟨u, g1, hu, g3, ?_⟩
    unfold jn_rank
    refine jn_cnt_add (u := u) ?_ ?_ m g1 ?_
    · simp only [Bool.and_eq_true, decide_eq_true_iff, jn_refl h]
      omega
    · simp only [Bool.and_eq_true, decide_eq_true_iff]
      exact ⟨g2, g3⟩
    · intro q hq hne
      simp only [Bool.and_eq_true, decide_eq_true_iff]
      refine and_congr_right (fun hf => ⟨fun k => ?_, fun k => ?_⟩)
      · have := g4 q hq hf k
        have n0 : cm u q ≠ 0 := fun e => hne (jn_uniq h g2 hf e).symm
        omega
      · exact (h.2 p u q hp hu (jn_first_iff.mp hf).1 (by omega) (by omega)).2 (Or.inl g3)
theorem jn_rank_succ (m p : Nat) : jn_rank a cm (m + 1) p = jn_rank a cm m p + (if jn_first a cm m = true ∧ 0 < cm p m then 1 else 0) := by
  unfold jn_rank
  rw [jn_cnt]
  congr 1
  simp only [Bool.and_eq_true, decide_eq_true_iff]
theorem jn_hts_succ (m : Nat) : jn_hts a cm (m + 1) = jn_hts a cm m + (if jn_first a cm m = true then 1 else 0) := rfl
end JN
/-! the order over a column is such -/
theorem jm_at_neg (t r b c l s : Int) : jm_at t r b (-c) (-l) (-s) = -jm_at t r b c l s := by
  unfold jm_at
  rw [← Int.sign_neg]
  congr 1
  rw [show -c * b * b + -l * t * b + -s * (t * t + jm_ab r) = -(c * b * b + l * t * b + s * (t * t + jm_ab r)) by grind, show -l * b + 2 * -s * t = -(l * b + 2 * s * t) by grind, jm_sq_neg, jm_sq_neg]
  grind
theorem jm_col_neg (t r b : Nat → Int) (i : Nat) (c l s : Int) : jm_col t r b i (-c) (-l) (-s) = -jm_col t r b i c l s := by
  unfold jm_col jm_below
  have e1 := jm_at_neg (t ((i - 1) / 2)) (r ((i - 1) / 2)) (b ((i - 1) / 2)) c l s
  have e2 := jm_at_neg (t ((i - 1) / 2)) (r ((i - 1) / 2)) (b ((i - 1) / 2)) l (2 * s) 0
  rw [show -(2 * s) = 2 * -s by omega, show -(0 : Int) = 0 by rfl] at e2
  rw [e1, e2]
  generalize jm_at (t ((i - 1) / 2)) (r ((i - 1) / 2)) (b ((i - 1) / 2)) c l s = x
  generalize jm_at (t ((i - 1) / 2)) (r ((i - 1) / 2)) (b ((i - 1) / 2)) l (2 * s) 0 = y
  simp only [Int.sign_neg, Int.neg_eq_zero]
  repeat' split
  all_goals first | rfl | omega
theorem jm_cm_neg (t r b : Nat → Int) (i : Nat) (m : Nat → Int) (p q : Nat) : jm_cm t r b i m q p = -jm_cm t r b i m p q := by
  unfold jm_cm jm_sP
  have e1 : jm_pc m q p = -jm_pc m p q := by unfold jm_pc; omega
  have e2 : jm_pl m q p = -jm_pl m p q := by unfold jm_pl; omega
  have e3 : jm_ps m q p = -jm_ps m p q := by unfold jm_ps; omega
  rw [e1, e2, e3, jm_col_neg]
  grind
theorem jm_Ord {t r b : Nat → Int} {i : Nat} {m : Nat → Int} (hb : i ≠ 0 → 0 < b ((i - 1) / 2)) : jn_Ord (jm_sA t r b i m) (jm_cm t r b i m) :=
  ⟨fun p q => jm_cm_neg t r b i m p q, fun _ _ _ hp hq hu h1 h2 => jm_trans hb hp hq hu h1 h2⟩
