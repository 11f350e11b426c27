/-! both lists of critical numbers, side by side -/
def ja (x : Int32) (v : Int) (B : Nat) : Prop := B < 2147483648 → x.toInt = v ∧ -(B : Int) ≤ v ∧ v ≤ B
theorem ja_m {x : Int32} {v : Int} {B : Nat} (h : x.toInt = v) (h1 : -(B : Int) ≤ v) (h2 : v ≤ B) : ja x v B := fun _ => ⟨h, h1, h2⟩
theorem ja_add {x y : Int32} {v u : Int} {B C : Nat} (hx : ja x v B) (hy : ja y u C) : ja (x + y) (v + u) (B + C) := by
  intro h
  obtain ⟨e1, a1, b1⟩ := hx (by omega)
  obtain ⟨e2, a2, b2⟩ := hy (by omega)
  refine ⟨?_, by omega, by omega⟩
  rw [ji_add (by rw [e1, e2]; omega) (by rw [e1, e2]; omega), e1, e2]
theorem ja_sub {x y : Int32} {v u : Int} {B C : Nat} (hx : ja x v B) (hy : ja y u C) : ja (x - y) (v - u) (B + C) := by
  intro h
  obtain ⟨e1, a1, b1⟩ := hx (by omega)
  obtain ⟨e2, a2, b2⟩ := hy (by omega)
  refine ⟨?_, by omega, by omega⟩
  rw [ji_sub (by rw [e1, e2]; omega) (by rw [e1, e2]; omega), e1, e2]
theorem ja_neg {x : Int32} {v : Int} {B : Nat} (hx : ja x v B) : ja (-x) (-v) B := by
  intro h
  obtain ⟨e1, a1, b1⟩ := hx h
  exact ⟨by rw [ji_neg (by rw [e1]; omega), e1], by omega, by omega⟩
theorem ja_ai {x : Int32} {v : Int} {B : Nat} (hx : ja x v B) : ja (jx_ai x) (jm_ab v) B := by
  intro h
  obtain ⟨e1, a1, b1⟩ := hx h
  refine ⟨?_, ?_, ?_⟩
  · rw [ji_ai (by rw [e1]; omega), e1]
    unfold jm_ab
    split <;> split <;> omega
  · unfold jm_ab; split <;> omega
  · unfold jm_ab; split <;> omega
theorem ja_mul {x y : Int32} {v u : Int} {B C : Nat} (hx : ja x v B) (hy : ja y u C) : ja (x * y) (v * u) (B * C + B + C) := by
  intro h
  obtain ⟨e1, a1, b1⟩ := hx (by omega)
  obtain ⟨e2, a2, b2⟩ := hy (by omega)
  obtain ⟨h3, h4⟩ := jb_mm a1 b1 a2 b2
  refine ⟨?_, by omega, by omega⟩
  rw [ji_mul (by rw [e1, e2]; omega) (by rw [e1, e2]; omega), e1, e2]
theorem ja_2 : ja 2 2 2 := fun _ => ⟨rfl, by decide, by decide⟩
theorem ja_4 : ja 4 4 4 := fun _ => ⟨rfl, by decide, by decide⟩
def jm_CR (S T : jx_S) (A B C w : Nat → Int) (n : Nat) : Prop := S.1 13 = nI n ∧ T.1 8 = nI n ∧ jm_Rt T A B C w n ∧ jm_Cr S (fun k => jm_t (A k) (B k) (C k)) (fun k => jm_r (A k) (B k) (C k) (w k)) (fun k => jm_b (A k) (B k)) n ∧
  ∀ i j, i < j → j < n → jm_df (jm_t (A i) (B i) (C i)) (jm_r (A i) (B i) (C i) (w i)) (jm_b (A i) (B i)) (jm_t (A j) (B j) (C j)) (jm_r (A j) (B j) (C j) (w j)) (jm_b (A j) (B j)) < 0
theorem jm_b_pos {A B : Int} (hA : 0 ≤ A) (hB : A = 0 → 0 < B) : 0 < jm_b A B := by
  unfold jm_b
  split
  · exact hB (by assumption)
  · omega
theorem jm_add_step {S T : jx_S} {A B C w : Nat → Int} {n : Nat} (h : jm_CR S T A B C w n) (h72 : n < 72) {x y z : Int32} {a b c : Int64} {u : Int32} {av bv cv wv : Int} (hA : 0 ≤ av ∧ av ≤ 50) (bB : -100 ≤ bv ∧ bv ≤ 100) (bC : -50 ≤ cv ∧ cv ≤ 50) (hB : av = 0 → 0 < bv) (hD : av ≠ 0 → 0 ≤ bv * bv - 4 * av * cv) (hw : wv = 1 ∨ wv = -1)
    (hx : x.toInt = jm_t av bv cv) (hy : y.toInt = jm_r av bv cv wv) (hz : z.toInt = jm_b av bv) (ha : a.toInt = av) (hb : b.toInt = bv) (hc : c.toInt = cv) (hu : u.toInt = wv) :
    ∃ S' T' A' B' C' w' n', f_C_add S x y z = some S' ∧ f_M_addRoot T a b c u = some T' ∧ jm_CR S' T' A' B' C' w' n' ∧ n' ≤ n + 1 ∧ jf [13] [6, 7, 8] S S' ∧ jg [8] [6] [0, 1, 2] T T' := by
  obtain ⟨k1, k2, k3, k4, k5⟩ := h
  have jA := jb_m (B := 50) ha (by omega) (by omega)
  have jB := jb_m (B := 100) hb (by omega) (by omega)
  have jC := jb_m (B := 50) hc (by omega) (by omega)
  have bp := jm_b_pos hA.1 hB
  have b1 : ∀ j, j < n → 0 < jm_b (A j) (B j) := fun j hj => by
    obtain ⟨g1, g2, g3, g4, g5, g6, g7, g8, g9, g10⟩ := k3 j hj
    exact jm_b_pos g5.1 g10
  have dB := jb_mm (B := 100) (C := 100) (v := bv) (u := bv) (by omega) (by omega) (by omega) (by omega)
  have dC := jb_mm (B := 200) (C := 50) (v := 4 * av) (u := cv) (by omega) (by omega) (by omega) (by omega)
  have bt' : -100 ≤ jm_t av bv cv ∧ jm_t av bv cv ≤ 100 := by unfold jm_t; split <;> omega
  have br' : -20000 ≤ jm_r av bv cv wv ∧ jm_r av bv cv wv ≤ 20000 := by
    unfold jm_r
    split
    · omega
    · obtain ⟨D, hDv⟩ : ∃ D, D = bv * bv - 4 * av * cv := ⟨_, rfl⟩
      rw [← hDv]
      rcases hw with rfl | rfl <;> omega
  have bb' : 1 ≤ jm_b av bv ∧ jm_b av bv ≤ 100 := ⟨by omega, by unfold jm_b; split <;> omega⟩
  obtain ⟨S', e1, hS⟩ := f_C_add_ok k4 k1 h72 hx hy hz bt' br' bb'
  rcases hS with ⟨rfl, k, hd⟩ | ⟨k, hp, hf, hn', hC'⟩
  · exact ⟨S', T, A, B, C, w, n, e1, f_M_addRoot_dup k3 k2 (by omega) jA jB jC hu hw hA.1 hB hD hd, ⟨k1, k2, k3, k4, k5⟩, by omega, jf_refl _ _ _, jg_refl _ _ _ _⟩
  · have hkn := hp.1
    have hg : ∀ j, k < j → j < n → 0 < jm_df (jm_t (A j) (B j) (C j)) (jm_r (A j) (B j) (C j) (w j)) (jm_b (A j) (B j)) (jm_t av bv cv) (jm_r av bv cv wv) (jm_b av bv) := fun j q1 q2 => by
      have d1 := k5 k j q1 q2
      have d2 := hp.2.2 (by omega)
      dsimp only at d2
      have d3 := jm_df_neg (t1 := jm_t (A k) (B k) (C k)) (r1 := jm_r (A k) (B k) (C k) (w k)) (t2 := jm_t (A j) (B j) (C j)) (r2 := jm_r (A j) (B j) (C j) (w j)) (b1 k (by omega)) (b1 j q2)
      exact (jm_df_tr (b1 j q2) (b1 k (by omega)) bp (by rw [d3]; omega) (by omega)).2 (Or.inr d2)
    obtain ⟨T', e2, hT1, hT2, hT3⟩ := f_M_addRoot_ok k3 k2 (by omega) jA jB jC hu hw hA.1 hB hD hA.2 bB bC hp hg
    have fold : ∀ j, jm_t (jm_ins A k av j) (jm_ins B k bv j) (jm_ins C k cv j) = jm_ins (fun k => jm_t (A k) (B k) (C k)) k (jm_t av bv cv) j ∧ jm_r (jm_ins A k av j) (jm_ins B k bv j) (jm_ins C k cv j) (jm_ins w k wv j) = jm_ins (fun k => jm_r (A k) (B k) (C k) (w k)) k (jm_r av bv cv wv) j ∧ jm_b (jm_ins A k av j) (jm_ins B k bv j) = jm_ins (fun k => jm_b (A k) (B k)) k (jm_b av bv) j := fun j => by
      unfold jm_ins
      by_cases c1 : j < k
      · simp only [if_pos c1, and_self]
      · by_cases c2 : j = k
        · simp only [if_neg c1, if_pos c2, and_self]
        · simp only [if_neg c1, if_neg c2, and_self]
    refine ⟨S', T', _, _, _, _, n + 1, e1, e2, ⟨hn', hT2, hT3, fun j hj => ?_, fun i j hij hj => ?_⟩, Nat.le_refl _, hf, hT1⟩
    · have := hC' j hj
      dsimp only
      rw [(fold j).1, (fold j).2.1, (fold j).2.2]
      exact this
    · rw [(fold i).1, (fold i).2.1, (fold i).2.2, (fold j).1, (fold j).2.1, (fold j).2.2]
      unfold jm_ins
      by_cases i1 : i < k
      · simp only [if_pos i1]
        by_cases j1 : j < k
        · simp only [if_pos j1]
          exact k5 i j hij (by omega)
        · simp only [if_neg j1]
          by_cases j2 : j = k
          · simp only [if_pos j2]
            exact hp.2.1 i i1
          · simp only [if_neg j2]
            exact k5 i (j - 1) (by omega) (by omega)
      · simp only [if_neg i1]
        have j1 : ¬ j < k := by omega
        have j2 : ¬ j = k := by omega
        simp only [if_neg j1, if_neg j2]
        by_cases i2 : i = k
        · simp only [if_pos i2]
          have q : 0 < jm_df (jm_t (A (j - 1)) (B (j - 1)) (C (j - 1))) (jm_r (A (j - 1)) (B (j - 1)) (C (j - 1)) (w (j - 1))) (jm_b (A (j - 1)) (B (j - 1))) (jm_t av bv cv) (jm_r av bv cv wv) (jm_b av bv) := by
            by_cases q : j - 1 = k
            · rw [q]
              exact hp.2.2 (by omega)
            · exact hg (j - 1) (by omega) (by omega)
          rw [jm_df_neg (b1 (j - 1) (by omega)) bp]
          omega
        · simp only [if_neg i2]
          exact k5 (i - 1) (j - 1) (by omega) (by omega)
/-- the zeros of a form go in on both sides -/
theorem jm_zeros_step {S T : jx_S} {A B C w : Nat → Int} {n : Nat} (h : jm_CR S T A B C w n) (h72 : n + 2 ≤ 72) {cv lv sv : Int} (hc : (S.1 14).toInt = cv) (hl : (S.1 15).toInt = lv) (hs : (S.1 16).toInt = sv) (bc : -50 ≤ cv ∧ cv ≤ 50) (bl : -100 ≤ lv ∧ lv ≤ 100) (bs : -50 ≤ sv ∧ sv ≤ 50) {a b c : Int64} (ea : a.toInt = sv) (eb : b.toInt = lv) (ec : c.toInt = cv) :
    ∃ S' T' A' B' C' w' n', f_C_addZerosOf S = some S' ∧ f_M_addRoots T a b c = some T' ∧ jm_CR S' T' A' B' C' w' n' ∧ n' ≤ n + 2 ∧ jf [13] [6, 7, 8] S S' ∧ jg [8] [6] [0, 1, 2] T T' := by
  have z16 : S.1 16 = 0 ↔ sv = 0 := by rw [ji_eq, hs]; exact Iff.rfl
  have z15 : S.1 15 = 0 ↔ lv = 0 := by rw [ji_eq, hl]; exact Iff.rfl
  have jc := ja_m (B := 50) hc (by omega) (by omega)
  have jl := ja_m (B := 100) hl (by omega) (by omega)
  have jsq := ja_m (B := 50) hs (by omega) (by omega)
  have kins := ja_sub (ja_mul jl jl) (ja_mul (ja_mul ja_4 jsq) jc)
  have eins := (kins (by decide)).1
  have p16 : S.1 16 ≤ 0 ↔ sv ≤ 0 := by rw [ji_le, hs]; exact Iff.rfl
  have p15 : S.1 15 ≤ 0 ↔ lv ≤ 0 := by rw [ji_le, hl]; exact Iff.rfl
  have pin : (S.1 15 * S.1 15 - 4 * S.1 16 * S.1 14 < 0) ↔ lv * lv - 4 * sv * cv < 0 := by rw [ji_lt, eins]; exact Iff.rfl
  -- the reference's turn
  have ga : lg_cmp a 0 < 0 ↔ sv < 0 := by rw [jg_lt0, ea]; exact Iff.rfl
  have ga0 : lg_cmp a 0 = 0 ↔ sv = 0 := by rw [jg_eq, ea]; exact Iff.rfl
  have gb : 0 ≤ lg_cmp b 0 ↔ 0 ≤ lv := by rw [jg_0le, eb]; exact Iff.rfl
  obtain ⟨g, hg⟩ : ∃ g : Int, g = if sv < 0 ∨ (sv = 0 ∧ lv < 0) then -1 else 1 := ⟨_, rfl⟩
  sorry
