/-! both lists of critical numbers, side by side -/
def ja (x : Int32) (v : Int) (B : Nat) : Prop := B < 2147483648 → x.toInt = v ∧ -(B : Int) ≤ v ∧ v ≤ B
theorem ja_m {x : Int32} {v : Int} {B : Nat} (h : x.toInt = v) (h1 : -(B : Int) ≤ v) (h2 : v ≤ B) : ja x v B := fun _ => ⟨h, h1, h2⟩
theorem ja_add {x y : Int32} {v u : Int} {B C : Nat} (hx : ja x v B) (hy : ja y u C) : ja (x + y) (v + u) (B + C) := by
  intro h
  obtain ⟨e1, a1, b1⟩ := hx (by omega)
  obtain ⟨e2, a2, b2⟩ := hy (by omega)
  refine ⟨?_, by omega, by omega⟩
  rw [ji_add (by rw [e1, e2]; omega) (by rw [e1, e2]; omega), e1, e2]
theorem ja_sub {x y : Int32} {v u : Int} {B C : Nat} (hx : ja x v B) (hy : ja y u C) : ja (x - y) (v - u) (B + C) := by
  intro h
  obtain ⟨e1, a1, b1⟩ := hx (by omega)
  obtain ⟨e2, a2, b2⟩ := hy (by omega)
  refine ⟨?_, by omega, by omega⟩
  rw [ji_sub (by rw [e1, e2]; omega) (by rw [e1, e2]; omega), e1, e2]
theorem ja_neg {x : Int32} {v : Int} {B : Nat} (hx : ja x v B) : ja (-x) (-v) B := by
  intro h
  obtain ⟨e1, a1, b1⟩ := hx h
  exact ⟨by rw [ji_neg (by rw [e1]; omega), e1], by omega, by omega⟩
theorem ja_ai {x : Int32} {v : Int} {B : Nat} (hx : ja x v B) : ja (jx_ai x) (jm_ab v) B := by
  intro h
  obtain ⟨e1, a1, b1⟩ := hx h
  refine ⟨?_, ?_, ?_⟩
  · rw [ji_ai (by rw [e1]; omega), e1]
    unfold jm_ab
    split <;> split <;> omega
  · unfold jm_ab; split <;> omega
  · unfold jm_ab; split <;> omega
theorem ja_mul {x y : Int32} {v u : Int} {B C : Nat} (hx : ja x v B) (hy : ja y u C) : ja (x * y) (v * u) (B * C + B + C) := by
  intro h
  obtain ⟨e1, a1, b1⟩ := hx (by omega)
  obtain ⟨e2, a2, b2⟩ := hy (by omega)
  obtain ⟨h3, h4⟩ := jb_mm a1 b1 a2 b2
  refine ⟨?_, by omega, by omega⟩
  rw [ji_mul (by rw [e1, e2]; omega) (by rw [e1, e2]; omega), e1, e2]
theorem ja_2 : ja 2 2 2 := fun _ => ⟨rfl, by decide, by decide⟩
theorem ja_4 : ja 4 4 4 := fun _ => ⟨rfl, by decide, by decide⟩
def jm_CR (S T : jx_S) (A B C w : Nat → Int) (n : Nat) : Prop := S.1 13 = nI n ∧ T.1 8 = nI n ∧ jm_Rt T A B C w n ∧ jm_Cr S (fun k => jm_t (A k) (B k) (C k)) (fun k => jm_r (A k) (B k) (C k) (w k)) (fun k => jm_b (A k) (B k)) n ∧
  ∀ i j, i < j → j < n → jm_df (jm_t (A i) (B i) (C i)) (jm_r (A i) (B i) (C i) (w i)) (jm_b (A i) (B i)) (jm_t (A j) (B j) (C j)) (jm_r (A j) (B j) (C j) (w j)) (jm_b (A j) (B j)) < 0
theorem jm_b_pos {A B : Int} (hA : 0 ≤ A) (hB : A = 0 → 0 < B) : 0 < jm_b A B := by
  unfold jm_b
  split
  · exact hB (by assumption)
  · omega
theorem jm_add_step {S T : jx_S} {A B C w : Nat → Int} {n : Nat} (h : jm_CR S T A B C w n) (h72 : n < 72) {x y z : Int32} {a b c : Int64} {u : Int32} {av bv cv wv : Int} (hA : 0 ≤ av ∧ av ≤ 50) (bB : -100 ≤ bv ∧ bv ≤ 100) (bC : -50 ≤ cv ∧ cv ≤ 50) (hB : av = 0 → 0 < bv) (hD : av ≠ 0 → 0 ≤ bv * bv - 4 * av * cv) (hw : wv = 1 ∨ wv = -1)
    (hx : x.toInt = jm_t av bv cv) (hy : y.toInt = jm_r av bv cv wv) (hz : z.toInt = jm_b av bv) (ha : a.toInt = av) (hb : b.toInt = bv) (hc : c.toInt = cv) (hu : u.toInt = wv) :
    ∃ S' T' A' B' C' w' n', f_C_add S x y z = some S' ∧ f_M_addRoot T a b c u = some T' ∧ jm_CR S' T' A' B' C' w' n' ∧ n' ≤ n + 1 ∧ jf [13] [6, 7, 8] S S' ∧ jg [8] [6] [0, 1, 2] T T' := by
  obtain ⟨k1, k2, k3, k4, k5⟩ := h
  have jA := jb_m (B := 50) ha (by omega) (by omega)
  have jB := jb_m (B := 100) hb (by omega) (by omega)
  have jC := jb_m (B := 50) hc (by omega) (by omega)
  have bp := jm_b_pos hA.1 hB
  have b1 : ∀ j, j < n → 0 < jm_b (A j) (B j) := fun j hj => by
    obtain ⟨g1, g2, g3, g4, g5, g6, g7, g8, g9, g10⟩ := k3 j hj
    exact jm_b_pos g5.1 g10
  have dB := jb_mm (B := 100) (C := 100) (v := bv) (u := bv) (by omega) (by omega) (by omega) (by omega)
  have dC := jb_mm (B := 200) (C := 50) (v := 4 * av) (u := cv) (by omega) (by omega) (by omega) (by omega)
  have bt' : -100 ≤ jm_t av bv cv ∧ jm_t av bv cv ≤ 100 := by unfold jm_t; split <;> omega
  have br' : -20000 ≤ jm_r av bv cv wv ∧ jm_r av bv cv wv ≤ 20000 := by
    unfold jm_r
    split
    · omega
    · obtain ⟨D, hDv⟩ : ∃ D, D = bv * bv - 4 * av * cv := ⟨_, rfl⟩
      rw [← hDv]
      rcases hw with rfl | rfl <;> omega
  have bb' : 1 ≤ jm_b av bv ∧ jm_b av bv ≤ 100 := ⟨by omega, by unfold jm_b; split <;> omega⟩
  obtain ⟨S', e1, hS⟩ := f_C_add_ok k4 k1 h72 hx hy hz bt' br' bb'
  rcases hS with ⟨rfl, k, hd⟩ | ⟨k, hp, hf, hn', hC'⟩
  · exact ⟨S', T, A, B, C, w, n, e1, f_M_addRoot_dup k3 k2 (by omega) jA jB jC hu hw hA.1 hB hD hd, ⟨k1, k2, k3, k4, k5⟩, by omega, jf_refl _ _ _, jg_refl _ _ _ _⟩
  · have hkn := hp.1
    have hg : ∀ j, k < j → j < n → 0 < jm_df (jm_t (A j) (B j) (C j)) (jm_r (A j) (B j) (C j) (w j)) (jm_b (A j) (B j)) (jm_t av bv cv) (jm_r av bv cv wv) (jm_b av bv) := fun j q1 q2 => by
      have d1 := k5 k j q1 q2
      have d2 := hp.2.2 (by omega)
      dsimp only at d2
      have d3 := jm_df_neg (t1 := jm_t (A k) (B k) (C k)) (r1 := jm_r (A k) (B k) (C k) (w k)) (t2 := jm_t (A j) (B j) (C j)) (r2 := jm_r (A j) (B j) (C j) (w j)) (b1 k (by omega)) (b1 j q2)
      exact (jm_df_tr (b1 j q2) (b1 k (by omega)) bp (by rw [d3]; omega) (by omega)).2 (Or.inr d2)
    obtain ⟨T', e2, hT1, hT2, hT3⟩ := f_M_addRoot_ok k3 k2 (by omega) jA jB jC hu hw hA.1 hB hD hA.2 bB bC hp hg
    have fold : ∀ j, jm_t (jm_ins A k av j) (jm_ins B k bv j) (jm_ins C k cv j) = jm_ins (fun k => jm_t (A k) (B k) (C k)) k (jm_t av bv cv) j ∧ jm_r (jm_ins A k av j) (jm_ins B k bv j) (jm_ins C k cv j) (jm_ins w k wv j) = jm_ins (fun k => jm_r (A k) (B k) (C k) (w k)) k (jm_r av bv cv wv) j ∧ jm_b (jm_ins A k av j) (jm_ins B k bv j) = jm_ins (fun k => jm_b (A k) (B k)) k (jm_b av bv) j := fun j => by
      unfold jm_ins
      by_cases c1 : j < k
      · simp only [if_pos c1, and_self]
      · by_cases c2 : j = k
        · simp only [if_neg c1, if_pos c2, and_self]
        · simp only [if_neg c1, if_neg c2, and_self]
    refine ⟨S', T', _, _, _, _, n + 1, e1, e2, ⟨hn', hT2, hT3, fun j hj => ?_, fun i j hij hj => ?_⟩, Nat.le_refl _, hf, hT1⟩
    · have := hC' j hj
      dsimp only
      rw [(fold j).1, (fold j).2.1, (fold j).2.2]
      exact this
    · rw [(fold i).1, (fold i).2.1, (fold i).2.2, (fold j).1, (fold j).2.1, (fold j).2.2]
      unfold jm_ins
      by_cases i1 : i < k
      · simp only [if_pos i1]
        by_cases j1 : j < k
        · simp only [if_pos j1]
          exact k5 i j hij (by omega)
        · simp only [if_neg j1]
          by_cases j2 : j = k
          · simp only [if_pos j2]
            exact hp.2.1 i i1
          · simp only [if_neg j2]
            exact k5 i (j - 1) (by omega) (by omega)
      · simp only [if_neg i1]
        have j1 : ¬ j < k := by omega
        have j2 : ¬ j = k := by omega
        simp only [if_neg j1, if_neg j2]
        by_cases i2 : i = k
        · simp only [if_pos i2]
          have q : 0 < jm_df (jm_t (A (j - 1)) (B (j - 1)) (C (j - 1))) (jm_r (A (j - 1)) (B (j - 1)) (C (j - 1)) (w (j - 1))) (jm_b (A (j - 1)) (B (j - 1))) (jm_t av bv cv) (jm_r av bv cv wv) (jm_b av bv) := by
            by_cases q : j - 1 = k
            · rw [q]
              exact hp.2.2 (by omega)
            · exact hg (j - 1) (by omega) (by omega)
          rw [jm_df_neg (b1 (j - 1) (by omega)) bp]
          omega
        · simp only [if_neg i2]
          exact k5 (i - 1) (j - 1) (by omega) (by omega)
/-- the zeros of a form go in on both sides -/
theorem jm_turn {x : Int64} {v g : Int} (h : x.toInt = v) (bv : -100 ≤ v ∧ v ≤ 100) {y : Int32} (hy : y = if g = -1 then 1 else 0) (hg : g = 1 ∨ g = -1) : (if y = 0 then x else -x : Int64).toInt = g * v := by
  rcases hg with rfl | rfl
  · rw [hy, if_neg (show ¬ (1 : Int) = -1 by decide), if_pos rfl, h]; omega
  · rw [hy, if_pos rfl, if_neg (by decide), jl_neg (by omega), h]; omega
theorem jm_zeros_step {S T : jx_S} {A B C w : Nat → Int} {n : Nat} (h : jm_CR S T A B C w n) {cv lv sv : Int} (h72 : n + (if sv = 0 then 1 else 2) ≤ 72) (hc : (S.1 14).toInt = cv) (hl : (S.1 15).toInt = lv) (hs : (S.1 16).toInt = sv) (bc : -50 ≤ cv ∧ cv ≤ 50) (bl : -100 ≤ lv ∧ lv ≤ 100) (bs : -50 ≤ sv ∧ sv ≤ 50) {a b c : Int64} (ea : a.toInt = sv) (eb : b.toInt = lv) (ec : c.toInt = cv) :
    ∃ S' T' A' B' C' w' n', f_C_addZerosOf S = some S' ∧ f_M_addRoots T a b c = some T' ∧ jm_CR S' T' A' B' C' w' n' ∧ n' ≤ n + (if sv = 0 then 1 else 2) ∧ jf [13] [6, 7, 8] S S' ∧ jg [8] [6] [0, 1, 2] T T' := by
  have z16 : S.1 16 = 0 ↔ sv = 0 := by rw [ji_eq, hs]; exact Iff.rfl
  have z15 : S.1 15 = 0 ↔ lv = 0 := by rw [ji_eq, hl]; exact Iff.rfl
  have jc := ja_m (B := 50) hc (by omega) (by omega)
  have jl := ja_m (B := 100) hl (by omega) (by omega)
  have jsq := ja_m (B := 50) hs (by omega) (by omega)
  have kins := ja_sub (ja_mul jl jl) (ja_mul (ja_mul ja_4 jsq) jc)
  have eins := (kins (by decide)).1
  have enin := (ja_neg kins (by decide)).1
  have p16 : S.1 16 ≤ 0 ↔ sv ≤ 0 := by rw [ji_le, hs]; exact Iff.rfl
  have p15 : S.1 15 ≤ 0 ↔ lv ≤ 0 := by rw [ji_le, hl]; exact Iff.rfl
  have pin : (S.1 15 * S.1 15 - 4 * S.1 16 * S.1 14 < 0) ↔ lv * lv - 4 * sv * cv < 0 := by rw [ji_lt, eins]; exact Iff.rfl
  -- the reference's turn
  have ga : lg_cmp a 0 < 0 ↔ sv < 0 := by rw [jg_lt0, ea]; exact Iff.rfl
  have ga0 : lg_cmp a 0 = 0 ↔ sv = 0 := by rw [jg_eq, ea]; exact Iff.rfl
  have gb : 0 ≤ lg_cmp b 0 ↔ 0 ≤ lv := by rw [jg_0le, eb]; exact Iff.rfl
  obtain ⟨g, hg⟩ : ∃ g : Int, g = if sv < 0 ∨ (sv = 0 ∧ lv < 0) then -1 else 1 := ⟨_, rfl⟩
  have hg1 : g = 1 ∨ g = -1 := by rw [hg]; split <;> omega
  unfold f_M_addRoots
  have ey : (if (lg_cmp a 0) < 0 then 1 else (if (lg_cmp a 0) = 0 then (if 0 ≤ (lg_cmp b 0) then 0 else 1 : Int32) else 0 : Int32) : Int32) = if g = -1 then 1 else 0 := by
    simp only [ga, ga0, gb]
    rw [hg]
    by_cases q1 : sv < 0
    · simp [q1]
    · by_cases q2 : sv = 0
      · by_cases q3 : lv < 0
        · have : ¬ 0 ≤ lv := by omega
          simp [q2, q3, this]
        · have : 0 ≤ lv := by omega
          simp [q2, q3, this]
      · simp [q1, q2]
  generalize (if (lg_cmp a 0) < 0 then 1 else (if (lg_cmp a 0) = 0 then (if 0 ≤ (lg_cmp b 0) then 0 else 1 : Int32) else 0 : Int32) : Int32) = y at ey ⊢
  unfold k_M_addRoots_23
  have ta := jm_turn ea (by omega) ey hg1
  have tb := jm_turn eb (by omega) ey hg1
  have tc := jm_turn ec (by omega) ey hg1
  generalize (if y = 0 then a else -a : Int64) = a' at ta ⊢
  generalize (if y = 0 then b else -b : Int64) = b' at tb ⊢
  generalize (if y = 0 then c else -c : Int64) = c' at tc ⊢
  have za : lg_cmp a' 0 = 0 ↔ sv = 0 := by
    rw [jg_eq, ta]
    show g * sv = 0 ↔ _
    rcases hg1 with rfl | rfl <;> omega
  have zb : lg_cmp b' 0 = 0 ↔ lv = 0 := by
    rw [jg_eq, tb]
    show g * lv = 0 ↔ _
    rcases hg1 with rfl | rfl <;> omega
  unfold k_M_addRoots_80 k_M_addRoots_108 f_C_addZerosOf
  simp only [za, zb, z16, z15, p16, p15, pin]
  have bA : 0 ≤ g * sv ∧ g * sv ≤ 50 := by
    rw [hg]
    split <;> omega
  have bB : -100 ≤ g * lv ∧ g * lv ≤ 100 := by rcases hg1 with rfl | rfl <;> omega
  have bC : -50 ≤ g * cv ∧ g * cv ≤ 50 := by rcases hg1 with rfl | rfl <;> omega
  have sq : g * lv * (g * lv) - 4 * (g * sv) * (g * cv) = lv * lv - 4 * sv * cv := by rcases hg1 with rfl | rfl <;> grind
  by_cases q0 : sv = 0
  · rw [if_pos q0] at h72
    simp only [if_pos q0]
    by_cases q1 : lv = 0
    · simp only [if_pos q1]
      exact ⟨S, T, A, B, C, w, n, rfl, rfl, h, by omega, jf_refl _ _ _, jg_refl _ _ _ _⟩
    · simp only [if_neg q1]
      have e0 : g * sv = 0 := by rw [q0]; omega
      have hB : 0 < g * lv := by rw [hg]; split <;> omega
      have gl : (lv ≤ 0 → g = -1) ∧ (¬ lv ≤ 0 → g = 1) := by rw [hg]; constructor <;> intro _ <;> split <;> omega
      obtain ⟨S', T', A', B', C', w', n', f1, f2, f3, f4, f5, f6⟩ := jm_add_step h (by omega) (x := if lv ≤ 0 then S.1 14 else -S.1 14) (y := 0) (z := jx_ai (S.1 15)) (a := a') (b := b') (c := c') (u := 1) bA bB bC (fun _ => hB) (fun k => absurd e0 k) (Or.inl rfl)
        (by
          unfold jm_t
          rw [if_pos e0]
          split
          · rw [gl.1 (by assumption), hc]; omega
          · rw [gl.2 (by assumption), ji_neg (by omega), hc]; omega)
        (by unfold jm_r; rw [if_pos e0]; rfl)
        (by
          rw [(ja_ai jl (by decide)).1]
          unfold jm_b jm_ab
          rw [if_pos e0]
          by_cases q : lv ≤ 0
          · rw [gl.1 q, if_neg (by omega)]; omega
          · rw [gl.2 q, if_pos (by omega)]; omega)
        ta tb tc rfl
      refine ⟨S', T', A', B', C', w', n', ?_, ?_, f3, by omega, f5, f6⟩
      · rw [f1]; rfl
      · rw [f2]; rfl
  · rw [if_neg q0] at h72
    simp only [if_neg q0]
    have dl : 0 ≤ lg_cmp (b' * b' - 4 * a' * c') 0 ↔ 0 ≤ lv * lv - 4 * sv * cv := by
      have ja' := jb_m (B := 50) ta (by omega) (by omega)
      have jb' := jb_m (B := 100) tb (by omega) (by omega)
      have jc' := jb_m (B := 50) tc (by omega) (by omega)
      rw [jg_0le, (jb_sub (jb_mul jb' jb') (jb_mul (jb_mul jb_4 ja') jc') (by decide)).1, sq]
      exact Iff.rfl
    simp only [dl]
    by_cases q1 : lv * lv - 4 * sv * cv < 0
    · rw [if_pos q1, if_neg (show ¬ 0 ≤ lv * lv - 4 * sv * cv by omega)]
      exact ⟨S, T, A, B, C, w, n, rfl, rfl, h, by omega, jf_refl _ _ _, jg_refl _ _ _ _⟩
    · rw [if_neg q1, if_pos (show 0 ≤ lv * lv - 4 * sv * cv by omega)]
      have gl : (sv ≤ 0 → g = -1) ∧ (¬ sv ≤ 0 → g = 1) := by rw [hg]; constructor <;> intro _ <;> split <;> omega
      have e0 : g * sv ≠ 0 := by rcases hg1 with rfl | rfl <;> omega
      have hx : (if sv ≤ 0 then S.1 15 else -S.1 15).toInt = jm_t (g * sv) (g * lv) (g * cv) := by
        unfold jm_t
        rw [if_neg e0]
        split
        · rw [gl.1 (by assumption), hl]; omega
        · rw [gl.2 (by assumption), ji_neg (by omega), hl]; omega
      have hz : ∀ v : Int32, v.toInt = sv → (2 * jx_ai v).toInt = jm_b (g * sv) (g * lv) := fun v hv => by
        rw [(ja_mul ja_2 (ja_ai (ja_m (B := 50) hv (by omega) (by omega))) (by decide)).1]
        unfold jm_b jm_ab
        rw [if_neg e0]
        by_cases q : sv ≤ 0
        · rw [gl.1 q, if_neg (by omega)]; omega
        · rw [gl.2 q, if_pos (by omega)]; omega
      obtain ⟨S', T', A', B', C', w', n', f1, f2, f3, f4, f5, f6⟩ := jm_add_step h (by omega) (x := if sv ≤ 0 then S.1 15 else -S.1 15) (y := -(S.1 15 * S.1 15 - 4 * S.1 16 * S.1 14)) (z := 2 * jx_ai (S.1 16)) (a := a') (b := b') (c := c') (u := -1) bA bB bC (fun k => absurd k e0) (fun _ => by rw [sq]; omega) (Or.inr rfl) hx
        (by rw [enin]; unfold jm_r; rw [if_neg e0, sq]; omega) (hz _ hs) ta tb tc rfl
      obtain ⟨S2, T2, A2, B2, C2, w2, n2, g1, g2, g3, g4, g5, g6⟩ := jm_add_step f3 (by omega) (x := if sv ≤ 0 then S.1 15 else -S.1 15) (y := S.1 15 * S.1 15 - 4 * S.1 16 * S.1 14) (z := 2 * jx_ai (S'.1 16)) (a := a') (b := b') (c := c') (u := 1) bA bB bC (fun k => absurd k e0) (fun _ => by rw [sq]; omega) (Or.inl rfl) hx
        (by rw [eins]; unfold jm_r; rw [if_neg e0, sq]; omega) (hz _ (by rw [f5.1 16 (by decide)]; exact hs)) ta tb tc rfl
      refine ⟨S2, T2, A2, B2, C2, w2, n2, ?_, ?_, g3, by omega, jf_trans f5 g5, jg_trans f6 g6⟩
      · rw [f1]
        show (f_C_add S' _ _ _).bind _ = _
        rw [g1]; rfl
      · rw [f2]
        show (f_M_addRoot T' _ _ _ _).bind _ = _
        rw [g2]; rfl
