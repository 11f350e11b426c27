/-! whether a column holds -/
def jt_all (tv : Nat → Bool) : Nat → Bool
  | 0 => true
  | n + 1 => jt_all tv n && tv n
def jt_any (tv : Nat → Bool) : Nat → Bool
  | 0 => false
  | n + 1 => jt_any tv n || tv n
def jt_hd (ay : Bool) (tv : Nat → Bool) (n : Nat) : Bool := if ay = true then jt_all tv n else jt_any tv n
theorem jt_all_iff {tv : Nat → Bool} : ∀ {n}, jt_all tv n = true ↔ ∀ j, j < n → tv j = true
  | 0 => ⟨fun _ j hj => by omega, fun _ => rfl⟩
  | n + 1 => by
    unfold jt_all
    rw [Bool.and_eq_true, jt_all_iff]
    refine ⟨fun h j hj => ?_, fun h => ⟨fun j hj => h j (by omega), h n (by omega)⟩⟩
    by_cases e : j = n
    · rw [e]; exact h.2
    · exact h.1 j (by omega)
theorem jt_any_iff {tv : Nat → Bool} : ∀ {n}, jt_any tv n = true ↔ ∃ j, j < n ∧ tv j = true
  | 0 => ⟨fun h => (by cases h), fun ⟨j, hj, _⟩ => (by omega)⟩
  | n + 1 => by
    unfold jt_any
    rw [Bool.or_eq_true, jt_any_iff]
    constructor
    · rintro (⟨j, h1, h2⟩ | h)
      · exact ⟨j, by omega, h2⟩
      · exact ⟨n, by omega, h⟩
    · rintro ⟨j, h1, h2⟩
      by_cases e : j = n
      · rw [e] at h2; exact Or.inr h2
      · exact Or.inl ⟨j, by omega, h2⟩
/-- one that differs decides; none: all are as asked -/
theorem jt_hd_ne {ay : Bool} {tv : Nat → Bool} {n j : Nat} (hj : j < n) (h : tv j ≠ ay) : jt_hd ay tv n = !ay := by
  unfold jt_hd
  cases ay
  · rw [if_neg (by decide)]
    have : tv j = true := by cases e : tv j <;> simp_all
    exact jt_any_iff.mpr ⟨j, hj, this⟩
  · rw [if_pos rfl]
    have : tv j = false := by cases e : tv j <;> simp_all
    cases e : jt_all tv n with
    | false => rfl
    | true => rw [jt_all_iff.mp e j hj] at this; cases this
theorem jt_hd_eq {ay : Bool} {tv : Nat → Bool} {n : Nat} (h : ∀ j, j < n → tv j = ay) : jt_hd ay tv n = ay := by
  unfold jt_hd
  cases ay
  · rw [if_neg (by decide)]
    cases e : jt_any tv n with
    | false => rfl
    | true =>
      obtain ⟨j, h1, h2⟩ := jt_any_iff.mp e
      rw [h j h1] at h2
      cases h2
  · rw [if_pos rfl]
    exact jt_all_iff.mpr h
theorem f_Q_columnHolds_eq {S : jx_S} {h : Nat} {ay : Bool} {tv : Nat → Bool} (hh : h ≤ 8) (h12 : S.1 12 = nI (2 * h + 1)) (h6 : S.1 6 = jt_b ay) (ht : ∀ j, j < 1000 → f_Q_trueIn S (nI j) = some (jt_b (tv j))) : f_Q_columnHolds S = some (jt_b (jt_hd ay tv (2 * h + 1))) := by
  have key : jm_T (jx_lp (b_Q_columnHolds_2 S) jx_N 0) (Sum.elim (fun _ => ∀ j, j < 2 * h + 1 → tv j = ay) (fun y => y = jt_b (jt_hd ay tv (2 * h + 1)))) := by
    refine jm_loop (fun z => ∃ j, j ≤ 2 * h + 1 ∧ z = nI j ∧ ∀ q, q < j → tv q = ay) (fun z => 2 * h + 1 - z.toNatClampNeg) _ ?_ jx_N _ ⟨0, by omega, rfl, fun q hq => by omega⟩ ?_
    · rintro z ⟨j, k1, rfl, k3⟩
      unfold b_Q_columnHolds_2
      rw [h12]
      by_cases e : j = 2 * h + 1
      · rw [if_pos (nI_le (by omega) (by omega))]
        exact jm_ret (fun q hq => k3 q (by omega))
      · rw [if_neg (nI_ge (by omega) (by omega)), ht j (by omega), Option.bind_some, h6]
        simp only [jt_b_inj]
        by_cases e2 : tv j = ay
        · rw [if_pos e2, nI_1]
          refine jm_ret ⟨⟨j + 1, by omega, rfl, fun q hq => ?_⟩, ?_⟩
          · by_cases e3 : q = j
            · rw [e3]; exact e2
            · exact k3 q (by omega)
          · rw [nI_clamp (by omega), nI_clamp (by omega)]
            omega
        · rw [if_neg e2]
          refine jm_ret ?_
          show _ = jt_b _
          rw [jt_hd_ne (show j < 2 * h + 1 by omega) e2]
          cases ay <;> rfl
    · show _ - _ < jx_N
      unfold jx_N
      omega
  obtain ⟨o, e, ho⟩ := key
  unfold f_Q_columnHolds
  rw [e, Option.bind_some]
  cases o with
  | inl u =>
    show (if jx_nb (S.1 6) = true then some (S.1 6) else none) = _
    rw [h6, if_pos (jt_b_nb ay), jt_hd_eq ho]
  | inr y =>
    show some y = _
    rw [show y = _ from ho]
/-- the words of one sentence that was read, and what both sides hold of it -/
def jd_V (m : Nat) (rl cd : Nat → Nat) (L n : Nat) : Prop := m ≤ 8 ∧ n ≤ 72 ∧ (∀ p, p < m → rl p = 60 ∨ rl p = 61 ∨ rl p = 62) ∧ jt_ok cd m L
def jd_S (S : jx_S) (m : Nat) (c : Nat → Int) (rl cd : Nat → Nat) (L : Nat) (ax ay : Bool) (t r b : Nat → Int) (n : Nat) : Prop :=
  S.1 4 = nI m ∧ jm_nb (S.2.1 0) m c ∧ (∀ p, p < m → S.2.1 1 p = nI (rl p)) ∧ S.1 3 = nI L ∧ (∀ k, k < L → S.2.1 2 k = nI (cd k)) ∧ S.1 5 = jt_b ax ∧ S.1 6 = jt_b ay ∧ jm_Cr S t r b n ∧ S.1 1 = nI (2 * n + 1)
def jd_T (T : jx_S) (m : Nat) (c : Nat → Int) (rl cd : Nat → Nat) (L : Nat) (ax ay : Bool) (A B C w : Nat → Int) (n : Nat) : Prop :=
  T.1 5 = nI m ∧ jm_nb (T.2.1 2) m c ∧ (∀ p, p < m → T.2.1 9 p = nI (rl p)) ∧ T.1 6 = nI L ∧ (∀ k, k < L → T.2.1 3 k = nI (jd_cd (cd k))) ∧ T.1 3 = jt_b ax ∧ T.1 4 = jt_b ay ∧ jm_Rt T A B C w n ∧ T.1 11 = nI (2 * n + 1)
theorem jd_S_f {S S' : jx_S} {m : Nat} {c : Nat → Int} {rl cd : Nat → Nat} {L : Nat} {ax ay : Bool} {t r b : Nat → Int} {n : Nat} (h : jd_S S m c rl cd L ax ay t r b n) (f : jf [0, 2, 7, 8, 9, 10, 11, 12, 14, 15, 16] [3, 4, 5, 9, 10, 11] S S') : jd_S S' m c rl cd L ax ay t r b n := by
  obtain ⟨h1, h2, h3, h4, h5, h6, h7, h8, h9⟩ := h
  refine ⟨(f.1 4 (by decide)).trans h1, jm_nb_f h2 (f.2.1 0 (by decide)), ?_, (f.1 3 (by decide)).trans h4, ?_, (f.1 5 (by decide)).trans h6, (f.1 6 (by decide)).trans h7, jm_Cr_f h8 (f.2.1 6 (by decide)) (f.2.1 7 (by decide)) (f.2.1 8 (by decide)), (f.1 1 (by decide)).trans h9⟩
  · rw [f.2.1 1 (by decide)]; exact h3
  · rw [f.2.1 2 (by decide)]; exact h5
theorem jd_T_g {T T' : jx_S} {m : Nat} {c : Nat → Int} {rl cd : Nat → Nat} {L : Nat} {ax ay : Bool} {A B C w : Nat → Int} {n : Nat} (h : jd_T T m c rl cd L ax ay A B C w n) (f : jg [0, 1, 2, 7, 9, 10] [0, 1, 4, 5, 7, 8] [] T T') : jd_T T' m c rl cd L ax ay A B C w n := by
  obtain ⟨h1, h2, h3, h4, h5, h6, h7, h8, h9⟩ := h
  refine ⟨(f.1 5 (by decide)).trans h1, jm_nb_f h2 (f.2.1 2 (by decide)), ?_, (f.1 6 (by decide)).trans h4, ?_, (f.1 3 (by decide)).trans h6, (f.1 4 (by decide)).trans h7, jm_Rt_g h8 (f.2.1 6 (by decide)) (jg_l2 f), (f.1 11 (by decide)).trans h9⟩
  · rw [f.2.1 9 (by decide)]; exact h3
  · rw [f.2.1 3 (by decide)]; exact h5
/-- truth, height, holding, in column i -/
def jd_tv (t r b : Nat → Int) (c : Nat → Int) (m : Nat) (rl cd : Nat → Nat) (L i j : Nat) : Bool := jt_val (fun p => jt_tr (rl p) (jt_sg t r b i c m j p)) cd L
def jd_ht (t r b : Nat → Int) (c : Nat → Int) (m i : Nat) : Nat := jn_hts (jm_sA t r b i c) (jm_cm t r b i c) m
def jd_hd (t r b : Nat → Int) (c : Nat → Int) (m : Nat) (rl cd : Nat → Nat) (L : Nat) (ay : Bool) (i : Nat) : Bool := jt_hd ay (jd_tv t r b c m rl cd L i) (2 * jd_ht t r b c m i + 1)
def jd_K (T : jx_S) (t r b : Nat → Int) (c : Nat → Int) (m n : Nat) : Prop := T.1 9 = -1 ∨ ∃ i, i ≤ 2 * n ∧ T.1 9 = nI i ∧ jn_L T t r b i c m
section JD
variable {S T : jx_S} {m : Nat} {c : Nat → Int} {rl cd : Nat → Nat} {L : Nat} {ax ay : Bool} {t r b A B C w : Nat → Int} {n i : Nat}
theorem jd_ht_le (t r b c : Nat → Int) (m i : Nat) : jd_ht t r b c m i ≤ m := jn_cnt_n m
theorem jd_enter (v : jd_V m rl cd L n) (h : jd_S S m c rl cd L ax ay t r b n) (hi : i ≤ 2 * n) : jm_T (f_Q_enter S (nI i)) (fun S' => jf [12, 14, 15, 16] [9, 10, 11] S S' ∧ jn_E S' t r b i c m) :=
  f_Q_enter_ok h.2.2.2.2.2.2.2.1 v.2.1 hi h.2.1 v.1 h.1
theorem jd_trueIn (v : jd_V m rl cd L n) (h : jd_S S m c rl cd L ax ay t r b n) (hE : jn_E S t r b i c m) {j : Nat} (hj : j < 1000) : f_Q_trueIn S (nI j) = some (jt_b (jd_tv t r b c m rl cd L i j)) :=
  f_Q_trueIn_eq hE v.1 hj (fun p hp => ⟨h.2.2.1 p hp, v.2.2.1 p hp⟩) h.2.2.2.1 h.2.2.2.2.1 v.2.2.2
theorem jd_holds (v : jd_V m rl cd L n) (h : jd_S S m c rl cd L ax ay t r b n) (hE : jn_E S t r b i c m) : f_Q_columnHolds S = some (jt_b (jd_hd t r b c m rl cd L ay i)) := by
  have := jd_ht_le t r b c m i
  have := v.1
  exact f_Q_columnHolds_eq (h := jd_ht t r b c m i) (by omega) hE.2 h.2.2.2.2.2.2.1 (fun j hj => jd_trueIn v h hE hj)
theorem jd_look (et : t = fun k => jm_t (A k) (B k) (C k)) (er : r = fun k => jm_r (A k) (B k) (C k) (w k)) (eb : b = fun k => jm_b (A k) (B k)) (v : jd_V m rl cd L n) (h : jd_T T m c rl cd L ax ay A B C w n) (hi : i ≤ 2 * n) (hK : jd_K T t r b c m n) : jm_T (f_M_look T (nI i)) (fun T' => jg [9, 10] [7, 8] [] T T' ∧ T'.1 9 = nI i ∧ jn_L T' t r b i c m) := by
  have n72 := v.2.1
  refine f_M_look_ok et er eb h.2.2.2.2.2.2.2.1 (by omega) hi (fun h0 => ?_) h.2.1 v.1 h.1 (fun h9 => ?_)
  · obtain ⟨g1, g2, g3, g4, g5, g6, g7, g8, g9, g10⟩ := h.2.2.2.2.2.2.2.1 ((i - 1) / 2) (by omega)
    rw [eb]
    exact jm_b_pos g5.1 g10
  · rcases hK with k | ⟨j, k1, k2, k3⟩
    · rw [h9] at k
      have := congrArg Int32.toInt k
      rw [nI_toInt (by omega)] at this
      exact absurd this (by show ¬ (i : Int) = -1; omega)
    · rw [h9] at k2
      rw [(nI_eq (by omega) (by omega)).mp k2]
      exact k3
theorem jd_K_g {T' : jx_S} (h : jd_K T t r b c m n) (f : jg [0, 1, 2, 7] [0, 1, 4, 5] [] T T') : jd_K T' t r b c m n := by
  rcases h with k | ⟨j, k1, k2, k3⟩
  · exact Or.inl ((f.1 9 (by decide)).trans k)
  · refine Or.inr ⟨j, k1, (f.1 9 (by decide)).trans k2, fun p hp => ?_, (f.1 10 (by decide)).trans k3.2⟩
    rw [f.2.1 7 (by decide), f.2.1 8 (by decide)]
    exact k3.1 p hp
theorem jd_formulaIn (et : t = fun k => jm_t (A k) (B k) (C k)) (er : r = fun k => jm_r (A k) (B k) (C k) (w k)) (eb : b = fun k => jm_b (A k) (B k)) (v : jd_V m rl cd L n) (h : jd_T T m c rl cd L ax ay A B C w n) (hi : i ≤ 2 * n) (h9 : T.1 9 = nI i) (hL : jn_L T t r b i c m) {j : Nat} (hj : j < 1000) : jm_T (f_M_formulaIn T (nI i) (nI j)) (fun o => o.1 = jt_b (jd_tv t r b c m rl cd L i j) ∧ jg [] [5] [] T o.2) :=
  f_M_formulaIn_ok et er eb h.2.2.2.2.2.2.2.1 (by have := v.2.1; omega) hi h.2.1 v.1 h9 hL hj (fun p hp => ⟨h.2.2.1 p hp, v.2.2.1 p hp⟩) h.2.2.2.1 h.2.2.2.2.1 v.2.2.2
theorem jn_L_g {T' : jx_S} (h : jn_L T t r b i c m) (f : jg [] [5] [] T T') : jn_L T' t r b i c m := by
  refine ⟨fun p hp => ?_, (f.1 10 (by decide)).trans h.2⟩
  rw [f.2.1 7 (by decide), f.2.1 8 (by decide)]
  exact h.1 p hp
theorem jd_columnHolds (et : t = fun k => jm_t (A k) (B k) (C k)) (er : r = fun k => jm_r (A k) (B k) (C k) (w k)) (eb : b = fun k => jm_b (A k) (B k)) (v : jd_V m rl cd L n) (h : jd_T T m c rl cd L ax ay A B C w n) (hi : i ≤ 2 * n) (hK : jd_K T t r b c m n) : jm_T (f_M_columnHolds T (nI i)) (fun o => o.1 = jt_b (jd_hd t r b c m rl cd L ay i) ∧ jg [9, 10] [5, 7, 8] [] T o.2 ∧ jd_K o.2 t r b c m n) := by
  have m8 := v.1
  have hle := jd_ht_le t r b c m i
  unfold f_M_columnHolds
  refine jm_bind (jd_look et er eb v h hi hK) (fun T1 ⟨k1, k2, k3⟩ => ?_)
  have h1 : jd_T T1 m c rl cd L ax ay A B C w n := jd_T_g h (jg_wk k1 (by decide) (by decide) (by decide))
  refine jm_bind (jm_loop (fun z => ∃ j, j ≤ 2 * jd_ht t r b c m i + 1 ∧ z.2.2.2 = nI j ∧ z.2.1 = jt_b (jt_all (jd_tv t r b c m rl cd L i) j) ∧ z.2.2.1 = jt_b (jt_any (jd_tv t r b c m rl cd L i) j) ∧ jg [] [5] [] T1 z.1) (fun z => 2 * jd_ht t r b c m i + 1 - z.2.2.2.toNatClampNeg)
    (fun o => o.2.1 = jt_b (jt_all (jd_tv t r b c m rl cd L i) (2 * jd_ht t r b c m i + 1)) ∧ o.2.2 = jt_b (jt_any (jd_tv t r b c m rl cd L i) (2 * jd_ht t r b c m i + 1)) ∧ jg [] [5] [] T1 o.1) ?_ jx_N _ ?_ ?_) ?_
  · rintro ⟨T2, x, y, j1⟩ ⟨j, g1, g2, g3, g4, g5⟩
    dsimp only at g2 g3 g4 g5
    subst g2
    subst g3
    subst g4
    unfold b_M_columnHolds_12
    dsimp only
    have e10 : T2.1 10 = nI (jd_ht t r b c m i) := (g5.1 10 (by decide)).trans k3.2
    rw [e10, show (2 * nI (jd_ht t r b c m i) : Int32) = nI (2 * jd_ht t r b c m i) from nI_mul 2 _]
    by_cases e : j = 2 * jd_ht t r b c m i + 1
    · rw [if_pos (nI_lt (by omega) (by omega))]
      subst e
      exact jm_ret ⟨rfl, rfl, g5⟩
    · rw [if_neg (nI_nlt (by omega) (by omega))]
      have h2 : jd_T T2 m c rl cd L ax ay A B C w n := jd_T_g h1 (jg_wk g5 (by decide) (by decide) (by decide))
      obtain ⟨⟨x2, T3⟩, l1, l2, l3⟩ := jd_formulaIn et er eb v h2 hi ((g5.1 9 (by decide)).trans k2) (jn_L_g k3 g5) (show j < 1000 by omega)
      dsimp only at l2 l3
      subst l2
      rw [l1, Option.bind_some]
      unfold k_M_columnHolds_12_46
      rw [nI_1]
      refine jm_ret ⟨⟨j + 1, by omega, rfl, ?_, ?_, jg_trans g5 l3⟩, ?_⟩
      · dsimp only
        show _ = jt_b (jt_all _ j && jd_tv t r b c m rl cd L i j)
        cases jt_all (jd_tv t r b c m rl cd L i) j <;> cases jd_tv t r b c m rl cd L i j <;> rfl
      · dsimp only
        show _ = jt_b (jt_any _ j || jd_tv t r b c m rl cd L i j)
        cases jt_any (jd_tv t r b c m rl cd L i) j <;> cases jd_tv t r b c m rl cd L i j <;> rfl
      · dsimp only
        rw [nI_clamp (by omega), nI_clamp (by omega)]
        omega
  · exact ⟨0, by omega, rfl, rfl, rfl, jg_refl _ _ _ _⟩
  · show _ - _ < jx_N
    unfold jx_N
    omega
  · rintro ⟨T2, x, y⟩ ⟨g1, g2, g3⟩
    dsimp only at g1 g2 g3
    subst g1
    subst g2
    dsimp only
    have e4 : T2.1 4 = jt_b ay := (g3.1 4 (by decide)).trans h1.2.2.2.2.2.2.1
    have ee : (if T2.1 4 = 0 then jt_b (jt_any (jd_tv t r b c m rl cd L i) (2 * jd_ht t r b c m i + 1)) else jt_b (jt_all (jd_tv t r b c m rl cd L i) (2 * jd_ht t r b c m i + 1)) : Int32) = jt_b (jd_hd t r b c m rl cd L ay i) := by
      rw [e4]
      unfold jd_hd jt_hd
      cases ay
      · rw [if_pos (by rfl), if_neg (by decide)]
      · rw [if_neg (by decide), if_pos rfl]
    rw [ee, if_pos (jt_b_nb _)]
    refine jm_ret ⟨rfl, jg_trans (jg_wk k1 (by decide) (by decide) (by decide)) (jg_wk g3 (by decide) (by decide) (by decide)), Or.inr ⟨i, hi, (g3.1 9 (by decide)).trans k2, jn_L_g k3 g3⟩⟩
end JD
