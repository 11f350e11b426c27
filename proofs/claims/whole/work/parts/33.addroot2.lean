theorem f_M_addRoot_pos {T : jx_S} {A B C w : Nat → Int} {n k : Nat} (hR : jm_Rt T A B C w n) (hn : T.1 8 = nI n) (h80 : n < 80) {a b c : Int64} {x : Int32} {av bv cv wv : Int} (ha : jb a av 50) (hb : jb b bv 100) (hc : jb c cv 50) (hx : x.toInt = wv) (hw : wv = 1 ∨ wv = -1) (hA : 0 ≤ av) (hB : av = 0 → 0 < bv) (hD : av ≠ 0 → 0 ≤ bv * bv - 4 * av * cv)
    (hp : jm_pos (fun k => jm_t (A k) (B k) (C k)) (fun k => jm_r (A k) (B k) (C k) (w k)) (fun k => jm_b (A k) (B k)) n (jm_t av bv cv) (jm_r av bv cv wv) (jm_b av bv) k) (hg : ∀ j, k < j → j < n → 0 < jm_df (jm_t (A j) (B j) (C j)) (jm_r (A j) (B j) (C j) (w j)) (jm_b (A j) (B j)) (jm_t av bv cv) (jm_r av bv cv wv) (jm_b av bv)) :
    jm_T (f_M_addRoot T a b c x) (fun T' => jg [8] [6] [0, 1, 2] T T' ∧ T'.1 8 = nI (n + 1) ∧ (∀ j, j ≤ n → T'.2.2 0 j = (if j < k then T.2.2 0 j else if j = k then a else T.2.2 0 (j - 1))) ∧ (∀ j, j ≤ n → T'.2.2 1 j = (if j < k then T.2.2 1 j else if j = k then b else T.2.2 1 (j - 1))) ∧ (∀ j, j ≤ n → T'.2.2 2 j = (if j < k then T.2.2 2 j else if j = k then c else T.2.2 2 (j - 1))) ∧ (∀ j, j ≤ n → T'.2.1 6 j = (if j < k then T.2.1 6 j else if j = k then x else T.2.1 6 (j - 1)))) := by
  have hkn := hp.1
  have key : jm_T (jx_lp (b_M_addRoot_9 T a b c x) jx_N (T.1 8, 0)) (fun o => o = Sum.inl (nI k)) := by
    refine jm_loop (fun z => ∃ i, i ≤ n ∧ z.2 = nI i ∧ z.1 = nI (if k < i then k else n)) (fun z => n - z.2.toNatClampNeg) _ ?_ jx_N _ ⟨0, by omega, rfl, by rw [if_neg (by omega)]; exact hn⟩ (by unfold jx_N; show n - _ < _; omega)
    rintro ⟨z1, z2⟩ ⟨i, h1, h2, h3⟩
    dsimp only at h2 h3
    subst h2
    subst h3
    unfold b_M_addRoot_9
    rw [hn]
    dsimp only
    by_cases q : i = n
    · rw [if_pos (nI_le (by omega) (by omega))]
      refine jm_ret ?_
      show Sum.inl _ = Sum.inl _
      congr 2
      subst q
      split <;> omega
    · rw [if_neg (nI_ge (by omega) (by omega))]
      obtain ⟨d, e1, e2, e3, e4⟩ := jm_scan hR (by omega) (i := i) (by omega) ha hb hc hx hw hA hB hD
      rw [e1, Option.bind_some, nI_1]
      have mu : n - (nI (i + 1)).toNatClampNeg < n - (nI i).toNatClampNeg := by
        rw [nI_clamp (by omega), nI_clamp (by omega)]
        omega
      by_cases q1 : i < k
      · have z1 : d < 0 := by
          have := hp.2.1 i q1
          dsimp only at this
          rw [← e4, jm_sgn_lt] at this
          exact this
        rw [if_neg (by rw [jo_eq0 (by omega) (by omega)]; omega), if_pos ((jo_le0 (by omega) (by omega)).mpr (by omega))]
        exact jm_ret ⟨⟨i + 1, by omega, rfl, by rw [if_neg (by omega), if_neg (by omega)]⟩, mu⟩
      · have z1 : 0 < d := by
          by_cases q2 : i = k
          · have := hp.2.2 (by omega)
            dsimp only at this
            rw [← q2, ← e4, jm_sgn_gt] at this
            exact this
          · have := hg i (by omega) (by omega)
            rw [← e4, jm_sgn_gt] at this
            exact this
        rw [if_neg (by rw [jo_eq0 (by omega) (by omega)]; omega), if_neg (by rw [jo_le0 (by omega) (by omega)]; omega)]
        refine jm_ret ⟨⟨i + 1, by omega, rfl, ?_⟩, mu⟩
        dsimp only
        rw [if_pos (show k < i + 1 by omega)]
        by_cases q2 : i = k
        · rw [if_neg (show ¬ k < i by omega), if_neg (nI_ge (by omega) (by omega)), q2]
        · rw [if_pos (show k < i by omega), if_pos (nI_le (by omega) (by omega))]
  obtain ⟨o, ho, rfl⟩ := key
  unfold f_M_addRoot
  rw [ho]
  show jm_T ((jx_lp (b_M_addRoot_71 a b c x (nI k)) jx_N (T, T.1 8)).bind _) _
  refine jm_bind (jm_loop (fun z => ∃ i, k ≤ i ∧ i ≤ n ∧ z.2 = nI i ∧ jg [] [6] [0, 1, 2] T z.1 ∧ (∀ j, j ≤ n → z.1.2.2 0 j = if i < j then T.2.2 0 (j - 1) else T.2.2 0 j) ∧ (∀ j, j ≤ n → z.1.2.2 1 j = if i < j then T.2.2 1 (j - 1) else T.2.2 1 j) ∧ (∀ j, j ≤ n → z.1.2.2 2 j = if i < j then T.2.2 2 (j - 1) else T.2.2 2 j) ∧ (∀ j, j ≤ n → z.1.2.1 6 j = if i < j then T.2.1 6 (j - 1) else T.2.1 6 j)) (fun z => z.2.toNatClampNeg)
    (fun T1 => jg [] [6] [0, 1, 2] T T1 ∧ (∀ j, j ≤ n → T1.2.2 0 j = if k < j then T.2.2 0 (j - 1) else T.2.2 0 j) ∧ (∀ j, j ≤ n → T1.2.2 1 j = if k < j then T.2.2 1 (j - 1) else T.2.2 1 j) ∧ (∀ j, j ≤ n → T1.2.2 2 j = if k < j then T.2.2 2 (j - 1) else T.2.2 2 j) ∧ (∀ j, j ≤ n → T1.2.1 6 j = if k < j then T.2.1 6 (j - 1) else T.2.1 6 j)) ?_ jx_N _ ?_ ?_) ?_
  · rintro ⟨S1, zi⟩ ⟨i, h1, h2, h3, h4, g0, g1, g2, g3⟩
    dsimp only at h3 h4 g0 g1 g2 g3
    subst h3
    unfold b_M_addRoot_71
    dsimp only
    by_cases q : i = k
    · rw [if_pos (show nI i ≤ nI k by rw [q]; exact nI_le (Nat.le_refl _) (by omega))]
      subst q
      exact jm_ret ⟨h4, g0, g1, g2, g3⟩
    · rw [if_neg (nI_ge (by omega) (by omega))]
      have e1 : nI i - 1 = nI (i - 1) := by rw [show i = (i - 1) + 1 by omega, nI_pred]; rfl
      rw [e1]
      refine jm_gd (ji_inN (by omega) (by decide)) (jm_gd (ji_inN (by omega) (by decide)) (jm_ret ?_))
      have ci : (nI i).toNatClampNeg = i := nI_clamp (by omega)
      have ci1 : (nI (i - 1)).toNatClampNeg = i - 1 := nI_clamp (by omega)
      have e2 : nI i + (-1) = nI (i - 1) := by rw [show i = (i - 1) + 1 by omega]; exact pk_m1 (i - 1)
      refine ⟨⟨i - 1, by omega, by omega, e2, ?_, ?_, ?_, ?_, ?_⟩, ?_⟩
      · exact jg_trans h4 (jg_trans (jg_trans (jg_trans (jg_l (by decide)) (jg_l (by decide))) (jg_l (by decide))) (jg_g (by decide)))
      · intro j hj
        show vp_updL (S1.2.2 0) (nI i).toNatClampNeg (S1.2.2 0 (nI (i - 1)).toNatClampNeg) j = _
        rw [ci, ci1]
        unfold vp_updL
        by_cases a : j = i
        · rw [if_pos a, g0 (i - 1) (by omega), if_neg (by omega), if_pos (by omega), a]
        · rw [if_neg a, g0 j hj]
          by_cases b : i < j
          · rw [if_pos b, if_pos (by omega)]
          · rw [if_neg b, if_neg (by omega)]
      · intro j hj
        show vp_updL (S1.2.2 1) (nI i).toNatClampNeg (S1.2.2 1 (nI (i - 1)).toNatClampNeg) j = _
        rw [ci, ci1]
        unfold vp_updL
        by_cases a : j = i
        · rw [if_pos a, g1 (i - 1) (by omega), if_neg (by omega), if_pos (by omega), a]
        · rw [if_neg a, g1 j hj]
          by_cases b : i < j
          · rw [if_pos b, if_pos (by omega)]
          · rw [if_neg b, if_neg (by omega)]
      · intro j hj
        show vp_updL (S1.2.2 2) (nI i).toNatClampNeg (S1.2.2 2 (nI (i - 1)).toNatClampNeg) j = _
        rw [ci, ci1]
        unfold vp_updL
        by_cases a : j = i
        · rw [if_pos a, g2 (i - 1) (by omega), if_neg (by omega), if_pos (by omega), a]
        · rw [if_neg a, g2 j hj]
          by_cases b : i < j
          · rw [if_pos b, if_pos (by omega)]
          · rw [if_neg b, if_neg (by omega)]
      · intro j hj
        show upd (S1.2.1 6) (nI i).toNatClampNeg (S1.2.1 6 (nI (i - 1)).toNatClampNeg) j = _
        rw [ci, ci1]
        unfold upd
        by_cases a : j = i
        · rw [if_pos a, g3 (i - 1) (by omega), if_neg (by omega), if_pos (by omega), a]
        · rw [if_neg a, g3 j hj]
          by_cases b : i < j
          · rw [if_pos b, if_pos (by omega)]
          · rw [if_neg b, if_neg (by omega)]
      · show (nI i + (-1)).toNatClampNeg < (nI i).toNatClampNeg
        rw [e2, ci, ci1]
        omega
  · exact ⟨n, hkn, Nat.le_refl _, hn, jg_refl _ _ _ _, fun j hj => by rw [if_neg (by omega)], fun j hj => by rw [if_neg (by omega)], fun j hj => by rw [if_neg (by omega)], fun j hj => by rw [if_neg (by omega)]⟩
  · show (T.1 8).toNatClampNeg < jx_N
    rw [hn, nI_clamp (by omega)]
    unfold jx_N
    omega
  · intro S1 ⟨h4, g0, g1, g2, g3⟩
    refine jm_gd (ji_inN (by omega) (by decide)) (jm_ret ?_)
    have ck : (nI k).toNatClampNeg = k := nI_clamp (by omega)
    have e8 : S1.1 8 = nI n := (h4.1 8 (by decide)).trans hn
    refine ⟨?_, ?_, ?_, ?_, ?_, ?_⟩
    · exact jg_trans (jg_wk h4 (fun _ h => by cases h) (fun _ h => h) (fun _ h => h)) (jg_trans (jg_trans (jg_trans (jg_trans (jg_l (by decide)) (jg_l (by decide))) (jg_l (by decide))) (jg_g (by decide))) (jg_f (by decide)))
    · show S1.1 8 + 1 = _
      rw [e8, nI_succ]
    · intro j hj
      show vp_updL (S1.2.2 0) (nI k).toNatClampNeg a j = _
      rw [ck]
      unfold vp_updL
      by_cases a : j = k
      · rw [if_pos a, if_neg (by omega), if_pos a]
      · rw [if_neg a, g0 j hj]
        by_cases b : k < j
        · rw [if_pos b, if_neg (by omega), if_neg a]
        · rw [if_neg b, if_pos (by omega)]
    · intro j hj
      show vp_updL (S1.2.2 1) (nI k).toNatClampNeg b j = _
      rw [ck]
      unfold vp_updL
      by_cases a : j = k
      · rw [if_pos a, if_neg (by omega), if_pos a]
      · rw [if_neg a, g1 j hj]
        by_cases b : k < j
        · rw [if_pos b, if_neg (by omega), if_neg a]
        · rw [if_neg b, if_pos (by omega)]
    · intro j hj
      show vp_updL (S1.2.2 2) (nI k).toNatClampNeg c j = _
      rw [ck]
      unfold vp_updL
      by_cases a : j = k
      · rw [if_pos a, if_neg (by omega), if_pos a]
      · rw [if_neg a, g2 j hj]
        by_cases b : k < j
        · rw [if_pos b, if_neg (by omega), if_neg a]
        · rw [if_neg b, if_pos (by omega)]
    · intro j hj
      show upd (S1.2.1 6) (nI k).toNatClampNeg x j = _
      rw [ck]
      unfold upd
      by_cases a : j = k
      · rw [if_pos a, if_neg (by omega), if_pos a]
      · rw [if_neg a, g3 j hj]
        by_cases b : k < j
        · rw [if_pos b, if_neg (by omega), if_neg a]
        · rw [if_neg b, if_pos (by omega)]
theorem f_M_addRoot_ok {T : jx_S} {A B C w : Nat → Int} {n k : Nat} (hR : jm_Rt T A B C w n) (hn : T.1 8 = nI n) (h80 : n < 80) {a b c : Int64} {x : Int32} {av bv cv wv : Int} (ha : jb a av 50) (hb : jb b bv 100) (hc : jb c cv 50) (hx : x.toInt = wv) (hw : wv = 1 ∨ wv = -1) (hA : 0 ≤ av) (hB : av = 0 → 0 < bv) (hD : av ≠ 0 → 0 ≤ bv * bv - 4 * av * cv) (bA : av ≤ 50) (bB : -100 ≤ bv ∧ bv ≤ 100) (bC : -50 ≤ cv ∧ cv ≤ 50)
    (hp : jm_pos (fun k => jm_t (A k) (B k) (C k)) (fun k => jm_r (A k) (B k) (C k) (w k)) (fun k => jm_b (A k) (B k)) n (jm_t av bv cv) (jm_r av bv cv wv) (jm_b av bv) k) (hg : ∀ j, k < j → j < n → 0 < jm_df (jm_t (A j) (B j) (C j)) (jm_r (A j) (B j) (C j) (w j)) (jm_b (A j) (B j)) (jm_t av bv cv) (jm_r av bv cv wv) (jm_b av bv)) :
    jm_T (f_M_addRoot T a b c x) (fun T' => jg [8] [6] [0, 1, 2] T T' ∧ T'.1 8 = nI (n + 1) ∧ jm_Rt T' (jm_ins A k av) (jm_ins B k bv) (jm_ins C k cv) (jm_ins w k wv) (n + 1)) := by
  refine jm_mono (f_M_addRoot_pos hR hn h80 ha hb hc hx hw hA hB hD hp hg) (fun T' h => ⟨h.1, h.2.1, fun j hj => ?_⟩)
  obtain ⟨-, -, a0, a1, a2, a3⟩ := h
  rw [a0 j (by omega), a1 j (by omega), a2 j (by omega), a3 j (by omega)]
  have hkn := hp.1
  unfold jm_ins
  by_cases c1 : j < k
  · simp only [if_pos c1]
    exact hR j (by omega)
  · simp only [if_neg c1]
    by_cases c2 : j = k
    · simp only [if_pos c2]
      exact ⟨(ha (by decide)).1, (hb (by decide)).1, (hc (by decide)).1, hx, ⟨hA, bA⟩, bB, bC, hw, hD, hB⟩
    · simp only [if_neg c2]
      exact hR (j - 1) (by omega)
