/-! the relation of both states, and the calls that ask -/
def jd_WS (S : jx_S) (hd : Nat → Bool) (ax : Bool) (N : Nat) : Prop := (S.1 2 = -1 ∧ ∀ j, j < N → hd j = ax) ∨ ∃ w, w < N ∧ S.1 2 = nI w ∧ hd w ≠ ax ∧ ∀ j, j < w → hd j = ax
def jd_t (A B C : Nat → Int) : Nat → Int := fun k => jm_t (A k) (B k) (C k)
def jd_r (A B C w : Nat → Int) : Nat → Int := fun k => jm_r (A k) (B k) (C k) (w k)
def jd_b (A B : Nat → Int) : Nat → Int := fun k => jm_b (A k) (B k)
def jz_D (S T : jx_S) (m : Nat) (c : Nat → Int) (rl cd : Nat → Nat) (L : Nat) (ax ay : Bool) (A B C w : Nat → Int) (n : Nat) : Prop :=
  jd_V m rl cd L n ∧ jd_S S m c rl cd L ax ay (jd_t A B C) (jd_r A B C w) (jd_b A B) n ∧ jd_T T m c rl cd L ax ay A B C w n ∧ jd_K T (jd_t A B C) (jd_r A B C w) (jd_b A B) c m n ∧ jd_WS S (jd_hd (jd_t A B C) (jd_r A B C w) (jd_b A B) c m rl cd L ay) ax (2 * n + 1)
def jz_E (S T : jx_S) : Prop := S.1 4 = 0 ∧ T.1 5 = 0 ∧ S.1 1 = 0 ∧ T.1 11 = 0 ∧ S.1 2 = -1
def jz_Rel (S T : jx_S) : Prop := jy_W S T ∧ S.1 0 = T.1 2 ∧ (jz_E S T ∨ ∃ m c rl cd L ax ay A B C w n, jz_D S T m c rl cd L ax ay A B C w n)
theorem jt_b_if (x : Bool) : (if jt_b x = 0 then 0 else 1 : Int32) = jt_b x := by cases x <;> rfl
theorem jz_ck (x : Int32) (N : Nat) (hN : N < 1000000) : ((if x < 0 then 0 else (if nI N ≤ x then 0 else 1 : Int32) : Int32) = 0 ∧ (x < 0 ∨ nI N ≤ x)) ∨ ((if x < 0 then 0 else (if nI N ≤ x then 0 else 1 : Int32) : Int32) = 1 ∧ ¬ x < 0 ∧ ¬ nI N ≤ x ∧ ∃ i, i < N ∧ x = nI i) := by
  by_cases c1 : x < 0
  · exact Or.inl ⟨by rw [if_pos c1], Or.inl c1⟩
  · by_cases c2 : nI N ≤ x
    · exact Or.inl ⟨by rw [if_neg c1, if_pos c2], Or.inr c2⟩
    · obtain ⟨i, h1, h2⟩ := nI_of c1
      refine Or.inr ⟨by rw [if_neg c1, if_neg c2], c1, c2, i, ?_, h2⟩
      refine Classical.byContradiction (fun z => c2 (by rw [h2]; exact nI_le (by omega) (by omega)))
theorem jz_W_f {S T S' T' : jx_S} (h : jy_W S T) (f : jf [2, 12, 14, 15, 16] [9, 10, 11] S S') (g : jg [9, 10] [5, 7, 8] [] T T') : jy_W S' T' := by
  obtain ⟨W, w, h1, h2, h3, h4, h5⟩ := h
  refine ⟨W, w, h1, (g.1 0 (by decide)).trans h2, (f.1 7 (by decide)).trans h3, (f.1 8 (by decide)).trans h4, fun k hk => ?_⟩
  rw [g.2.1 0 (by decide), f.2.1 3 (by decide)]
  exact h5 k hk
section JQ
variable {S T : jx_S} {m : Nat} {c : Nat → Int} {rl cd : Nat → Nat} {L : Nat} {ax ay : Bool} {A B C w : Nat → Int} {n : Nat}
theorem jz_D_f {S' T' : jx_S} (h : jz_D S T m c rl cd L ax ay A B C w n) (f : jf [12, 14, 15, 16] [9, 10, 11] S S') (g : jg [9, 10] [5, 7, 8] [] T T') (hK : jd_K T' (jd_t A B C) (jd_r A B C w) (jd_b A B) c m n) : jz_D S' T' m c rl cd L ax ay A B C w n := by
  obtain ⟨h1, h2, h3, h4, h5⟩ := h
  refine ⟨h1, jd_S_f h2 (jf_wk f (by decide) (by decide)), jd_T_g h3 (jg_wk g (by decide) (by decide) (by decide)), hK, ?_⟩
  unfold jd_WS
  rw [f.1 2 (by decide)]
  exact h5
theorem jz_Rel_f {S' T' : jx_S} (hR : jz_Rel S T) (h : jz_D S T m c rl cd L ax ay A B C w n) (f : jf [12, 14, 15, 16] [9, 10, 11] S S') (g : jg [9, 10] [5, 7, 8] [] T T') (hK : jd_K T' (jd_t A B C) (jd_r A B C w) (jd_b A B) c m n) : jz_Rel S' T' :=
  ⟨jz_W_f hR.1 (jf_wk f (by decide) (by decide)) g, by rw [f.1 0 (by decide), g.1 2 (by decide)]; exact hR.2.1, Or.inr ⟨m, c, rl, cd, L, ax, ay, A, B, C, w, n, jz_D_f h f g hK⟩⟩
theorem jz_E_col (h : jz_E S T) (a : Int32) : f_P_hasColumn S a = some 0 ∧ f_M_isColumn T a = some 0 := by
  have key : (if a < 0 then 0 else (if (0 : Int32) ≤ a then 0 else 1 : Int32) : Int32) = 0 := by
    by_cases c1 : a < 0
    · rw [if_pos c1]
    · rw [if_neg c1, if_pos]
      rw [ji_lt] at c1
      rw [ji_le]
      exact Int.not_lt.mp c1
  unfold f_P_hasColumn f_M_isColumn
  rw [h.2.2.1, h.2.2.2.1, key]
  exact ⟨rfl, rfl⟩
theorem jz_D_col (h : jz_D S T m c rl cd L ax ay A B C w n) (a : Int32) : (f_P_hasColumn S a = some 0 ∧ f_M_isColumn T a = some 0) ∨ (f_P_hasColumn S a = some 1 ∧ f_M_isColumn T a = some 1 ∧ ∃ i, i ≤ 2 * n ∧ a = nI i) := by
  have e1 : S.1 1 = nI (2 * n + 1) := h.2.1.2.2.2.2.2.2.2.2
  have e2 : T.1 11 = nI (2 * n + 1) := h.2.2.1.2.2.2.2.2.2.2.2
  have n72 := h.1.2.1
  unfold f_P_hasColumn f_M_isColumn
  rw [e1, e2]
  rcases jz_ck a (2 * n + 1) (by omega) with ⟨k1, k2⟩ | ⟨k1, k2, k3, i, k4, k5⟩
  · exact Or.inl ⟨by rw [k1], by rw [k1]⟩
  · exact Or.inr ⟨by rw [k1], by rw [k1], i, by omega, k5⟩
/-- both enter column i -/
theorem jz_enter (hR : jz_Rel S T) (h : jz_D S T m c rl cd L ax ay A B C w n) {i : Nat} (hi : i ≤ 2 * n) : ∃ S' T', f_Q_enter S (nI i) = some S' ∧ f_M_look T (nI i) = some T' ∧ jn_E S' (jd_t A B C) (jd_r A B C w) (jd_b A B) i c m ∧ T'.1 9 = nI i ∧ jn_L T' (jd_t A B C) (jd_r A B C w) (jd_b A B) i c m ∧ jz_Rel S' T' ∧ jz_D S' T' m c rl cd L ax ay A B C w n := by
  obtain ⟨S', e1, f1, E⟩ := jd_enter h.1 h.2.1 hi
  obtain ⟨T', e2, g1, g2, g3⟩ := jd_look (t := jd_t A B C) (r := jd_r A B C w) (b := jd_b A B) rfl rfl rfl h.1 h.2.2.1 hi h.2.2.2.1
  have hK : jd_K T' (jd_t A B C) (jd_r A B C w) (jd_b A B) c m n := Or.inr ⟨i, hi, g2, g3⟩
  have g1' : jg [9, 10] [5, 7, 8] [] T T' := jg_wk g1 (by decide) (by decide) (by decide)
  exact ⟨S', T', e1, e2, E, g2, g3, jz_Rel_f hR h f1 g1' hK, jz_D_f h f1 g1' hK⟩
theorem jz_cell {h : Nat} (hh : h ≤ 8) (x : Int32) : (if x < 0 then 0 else (if nI (2 * h + 1) ≤ x then 0 else 1 : Int32) : Int32) = (if x < 0 then 0 else (if nI (2 * h) < x then 0 else 1 : Int32) : Int32) := by
  by_cases c1 : x < 0
  · rw [if_pos c1, if_pos c1]
  · rw [if_neg c1, if_neg c1]
    obtain ⟨i, h1, h2⟩ := nI_of c1
    subst h2
    by_cases c2 : 2 * h + 1 ≤ i
    · rw [if_pos (nI_le c2 (by omega)), if_pos (nI_lt (by omega) (by omega))]
    · rw [if_neg (nI_ge (by omega) (by omega)), if_neg (nI_nlt (by omega) (by omega))]
end JQ
theorem jz_cells {S T : jx_S} (hR : jz_Rel S T) (a : Int32) : ∃ r S' T', f_P_cells S a = some (r, S') ∧ f_M_cells T a = some (r, T') ∧ jz_Rel S' T' := by
  unfold f_P_cells f_P_enterColumn f_M_cells
  have none : f_P_hasColumn S a = some 0 ∧ f_M_isColumn T a = some 0 → ∃ r S' T', (((f_P_hasColumn S a).bind fun q2_1 => if q2_1 = 0 then some ((0 : Int32), S) else (f_Q_enter S a).bind fun q15_2 => some ((1 : Int32), q15_2)).bind fun q2_1 => some ((if q2_1.1 = 0 then 0 else (q2_1.2.1 12) : Int32), q2_1.2)) = some (r, S') ∧ ((f_M_isColumn T a).bind fun q2_1 => if q2_1 = 0 then some ((0 : Int32), T) else (f_M_look T a).bind fun q12_2 => some (((2 * (q12_2.1 10)) + 1), q12_2)) = some (r, T') ∧ jz_Rel S' T' := fun ⟨e1, e2⟩ => ⟨0, S, T, by rw [e1]; rfl, by rw [e2]; rfl, hR⟩
  rcases hR.2.2 with h | ⟨m, c, rl, cd, L, ax, ay, A, B, C, w, n, h⟩
  · exact none (jz_E_col h a)
  · rcases jz_D_col h a with k | ⟨k1, k2, i, k3, rfl⟩
    · exact none k
    · obtain ⟨S', T', e1, e2, e3, e4, e5, e6, e7⟩ := jz_enter hR h k3
      refine ⟨nI (2 * jd_ht (jd_t A B C) (jd_r A B C w) (jd_b A B) c m i + 1), S', T', ?_, ?_, e6⟩
      · rw [k1, Option.bind_some, if_neg (by decide), e1, Option.bind_some, Option.bind_some]
        dsimp only
        rw [if_neg (by decide), e3.2]
        rfl
      · rw [k2, Option.bind_some, if_neg (by decide), e2, Option.bind_some, e5.2, show (2 : Int32) = nI 2 from rfl, nI_mul, nI_1]
        rfl
theorem jz_holds {S T : jx_S} (hR : jz_Rel S T) (a : Int32) : ∃ r S' T', f_P_holds S a = some (r, S') ∧ f_M_holds T a = some (r, T') ∧ jz_Rel S' T' := by
  unfold f_P_holds f_P_enterColumn f_M_holds
  have none : f_P_hasColumn S a = some 0 ∧ f_M_isColumn T a = some 0 → ∃ r S' T', (((f_P_hasColumn S a).bind fun q2_1 => if q2_1 = 0 then some ((0 : Int32), S) else (f_Q_enter S a).bind fun q15_2 => some ((1 : Int32), q15_2)).bind fun q2_1 => if q2_1.1 = 0 then some ((9 : Int32), q2_1.2) else (f_Q_columnHolds q2_1.2).bind fun q15_2 => some ((if q15_2 = 0 then 0 else 1 : Int32), q2_1.2)) = some (r, S') ∧ ((f_M_isColumn T a).bind fun q2_1 => if q2_1 = 0 then some ((9 : Int32), T) else (f_M_columnHolds T a).bind fun q15_2 => some ((if q15_2.1 = 0 then 0 else 1 : Int32), q15_2.2)) = some (r, T') ∧ jz_Rel S' T' := fun ⟨e1, e2⟩ => ⟨9, S, T, by rw [e1]; rfl, by rw [e2]; rfl, hR⟩
  rcases hR.2.2 with h | ⟨m, c, rl, cd, L, ax, ay, A, B, C, w, n, h⟩
  · exact none (jz_E_col h a)
  · rcases jz_D_col h a with k | ⟨k1, k2, i, k3, rfl⟩
    · exact none k
    · obtain ⟨S', e1, f1, E⟩ := jd_enter h.1 h.2.1 k3
      obtain ⟨⟨r, T'⟩, e2, g1, g2, g3⟩ := jd_columnHolds (t := jd_t A B C) (r := jd_r A B C w) (b := jd_b A B) rfl rfl rfl h.1 h.2.2.1 k3 h.2.2.2.1
      dsimp only at g1 g2 g3
      subst g1
      refine ⟨jt_b (jd_hd (jd_t A B C) (jd_r A B C w) (jd_b A B) c m rl cd L ay i), S', T', ?_, ?_, jz_Rel_f hR h f1 g2 g3⟩
      · rw [k1, Option.bind_some, if_neg (by decide), e1, Option.bind_some, Option.bind_some]
        dsimp only
        rw [if_neg (by decide), jd_holds h.1 (jd_S_f h.2.1 (jf_wk f1 (by decide) (by decide))) E, Option.bind_some, jt_b_if]
      · rw [k2, Option.bind_some, if_neg (by decide), e2, Option.bind_some]
        dsimp only
        rw [jt_b_if]
theorem jz_truth {S T : jx_S} (hR : jz_Rel S T) (a x : Int32) : ∃ r S' T', f_P_truth S a x = some (r, S') ∧ f_M_truth T a x = some (r, T') ∧ jz_Rel S' T' := by
  unfold f_P_truth f_P_enterColumn f_M_truth f_M_isCell
  have none : f_P_hasColumn S a = some 0 ∧ f_M_isColumn T a = some 0 → ∃ r S' T', (((f_P_hasColumn S a).bind fun q2_1 => if q2_1 = 0 then some ((0 : Int32), S) else (f_Q_enter S a).bind fun q15_2 => some ((1 : Int32), q15_2)).bind fun q2_1 => if q2_1.1 = 0 then some ((9 : Int32), q2_1.2) else (f_P_hasCell q2_1.2 x).bind fun q10_2 => if q10_2 = 0 then some (9, q2_1.2) else (f_Q_trueIn q2_1.2 x).bind fun q24_3 => some ((if q24_3 = 0 then 0 else 1 : Int32), q2_1.2)) = some (r, S') ∧ (((f_M_isColumn T a).bind fun q2_1 => if q2_1 = 0 then some ((0 : Int32), T) else (f_M_look T a).bind fun q12_2 => some ((if x < 0 then 0 else (if (2 * (q12_2.1 10)) < x then 0 else 1 : Int32) : Int32), q12_2)).bind fun q3_1 => if q3_1.1 = 0 then some ((9 : Int32), q3_1.2) else (f_M_formulaIn q3_1.2 a x).bind fun q17_2 => some ((if q17_2.1 = 0 then 0 else 1 : Int32), q17_2.2)) = some (r, T') ∧ jz_Rel S' T' := fun ⟨e1, e2⟩ => ⟨9, S, T, by rw [e1]; rfl, by rw [e2]; rfl, hR⟩
  rcases hR.2.2 with h | ⟨m, c, rl, cd, L, ax, ay, A, B, C, w, n, h⟩
  · exact none (jz_E_col h a)
  · rcases jz_D_col h a with k | ⟨k1, k2, i, k3, rfl⟩
    · exact none k
    · obtain ⟨S', T', e1, e2, e3, e4, e5, e6, e7⟩ := jz_enter hR h k3
      have m8 := h.1.1
      have hle := jd_ht_le (jd_t A B C) (jd_r A B C w) (jd_b A B) c m i
      rw [k1, k2, Option.bind_some, Option.bind_some, if_neg (by decide), if_neg (by decide), e1, e2, Option.bind_some, Option.bind_some, Option.bind_some, Option.bind_some]
      dsimp only
      rw [if_neg (by decide), e5.2, show (2 * nI (jn_hts (jm_sA (jd_t A B C) (jd_r A B C w) (jd_b A B) i c) (jm_cm (jd_t A B C) (jd_r A B C w) (jd_b A B) i c) m) : Int32) = nI (2 * jd_ht (jd_t A B C) (jd_r A B C w) (jd_b A B) c m i) from nI_mul 2 _, ← jz_cell (show jd_ht (jd_t A B C) (jd_r A B C w) (jd_b A B) c m i ≤ 8 by omega)]
      have hc : f_P_hasCell S' x = some (if x < 0 then 0 else (if nI (2 * jd_ht (jd_t A B C) (jd_r A B C w) (jd_b A B) c m i + 1) ≤ x then 0 else 1 : Int32) : Int32) := by
        unfold f_P_hasCell
        rw [e3.2]
        rfl
      rw [hc, Option.bind_some]
      rcases jz_ck x (2 * jd_ht (jd_t A B C) (jd_r A B C w) (jd_b A B) c m i + 1) (by omega) with ⟨z1, -⟩ | ⟨z1, -, -, j, z2, rfl⟩
      · rw [z1, if_pos rfl, if_pos rfl]
        exact ⟨9, S', T', rfl, rfl, e6⟩
      · rw [z1, if_neg (by decide), if_neg (by decide), jd_trueIn e7.1 e7.2.1 e3 (show j < 1000 by omega), Option.bind_some]
        obtain ⟨⟨r, T2⟩, y1, y2, y3⟩ := jd_formulaIn (t := jd_t A B C) (r := jd_r A B C w) (b := jd_b A B) rfl rfl rfl e7.1 e7.2.2.1 k3 e4 e5 (show j < 1000 by omega)
        dsimp only at y2 y3
        subst y2
        rw [y1, Option.bind_some]
        dsimp only
        rw [jt_b_if]
        refine ⟨_, S', T2, rfl, rfl, jz_Rel_f e6 e7 (jf_refl _ _ _) (jg_wk y3 (by decide) (by decide) (by decide)) (Or.inr ⟨i, k3, (y3.1 9 (by decide)).trans e4, jn_L_g e5 y3⟩)⟩
theorem jz_poly {S T : jx_S} (hR : jz_Rel S T) (x : Int32) : (f_P_hasPolynomial S x = some 0 ∧ (x < 0 ∨ (¬ x < 0 ∧ T.1 5 ≤ x))) ∨ (f_P_hasPolynomial S x = some 1 ∧ ¬ x < 0 ∧ ¬ T.1 5 ≤ x ∧ ∃ m c rl cd L ax ay A B C w n p, jz_D S T m c rl cd L ax ay A B C w n ∧ p < m ∧ x = nI p) := by
  have mk : ∀ N : Nat, N ≤ 8 → S.1 4 = nI N → T.1 5 = nI N → (f_P_hasPolynomial S x = some 0 ∧ (x < 0 ∨ (¬ x < 0 ∧ T.1 5 ≤ x))) ∨ (f_P_hasPolynomial S x = some 1 ∧ ¬ x < 0 ∧ ¬ T.1 5 ≤ x ∧ ∃ p, p < N ∧ x = nI p) := by
    intro N hN e1 e2
    unfold f_P_hasPolynomial
    rw [e1, e2]
    rcases jz_ck x N (by omega) with ⟨k1, k2⟩ | ⟨k1, k2, k3, i, k4, k5⟩
    · refine Or.inl ⟨by rw [k1], ?_⟩
      by_cases c1 : x < 0
      · exact Or.inl c1
      · exact Or.inr ⟨c1, k2.resolve_left c1⟩
    · exact Or.inr ⟨by rw [k1], k2, k3, i, k4, k5⟩
  rcases hR.2.2 with h | ⟨m, c, rl, cd, L, ax, ay, A, B, C, w, n, h⟩
  · rcases mk 0 (by omega) h.1 h.2.1 with k | ⟨k1, k2, k3, p, k4, k5⟩
    · exact Or.inl k
    · omega
  · rcases mk m h.1.1 h.2.1.1 h.2.2.1.1 with k | ⟨k1, k2, k3, p, k4, k5⟩
    · exact Or.inl k
    · exact Or.inr ⟨k1, k2, k3, m, c, rl, cd, L, ax, ay, A, B, C, w, n, p, h, k4, k5⟩
theorem jz_sign {S T : jx_S} (hR : jz_Rel S T) (a x y : Int32) : ∃ r S' T', f_P_sign S a x y = some (r, S') ∧ f_M_sign T a x y = some (r, T') ∧ jz_Rel S' T' := by
  unfold f_P_sign f_P_enterColumn f_M_sign f_M_isCell
  rcases jz_poly hR y with ⟨k1, k2⟩ | ⟨k1, k2, k3, m, c, rl, cd, L, ax, ay, A, B, C, w, n, p, h, hp, rfl⟩
  · refine ⟨9, S, T, by rw [k1]; rfl, ?_, hR⟩
    rcases k2 with k | ⟨k, k'⟩
    · rw [if_pos k]
    · rw [if_neg k, if_pos k']
  · rw [k1, Option.bind_some, if_neg (by decide), if_neg k2, if_neg k3]
    rcases jz_D_col h a with ⟨e1, e2⟩ | ⟨q1, q2, i, q3, rfl⟩
    · exact ⟨9, S, T, by rw [e1]; rfl, by rw [e2]; rfl, hR⟩
    · obtain ⟨S', T', e1, e2, e3, e4, e5, e6, e7⟩ := jz_enter hR h q3
      have m8 := h.1.1
      have n72 := h.1.2.1
      have hle := jd_ht_le (jd_t A B C) (jd_r A B C w) (jd_b A B) c m i
      rw [q1, q2, Option.bind_some, Option.bind_some, if_neg (by decide), if_neg (by decide), e1, e2, Option.bind_some, Option.bind_some, Option.bind_some, Option.bind_some]
      dsimp only
      rw [if_neg (by decide), e5.2, show (2 * nI (jn_hts (jm_sA (jd_t A B C) (jd_r A B C w) (jd_b A B) i c) (jm_cm (jd_t A B C) (jd_r A B C w) (jd_b A B) i c) m) : Int32) = nI (2 * jd_ht (jd_t A B C) (jd_r A B C w) (jd_b A B) c m i) from nI_mul 2 _, ← jz_cell (show jd_ht (jd_t A B C) (jd_r A B C w) (jd_b A B) c m i ≤ 8 by omega)]
      have hc : f_P_hasCell S' x = some (if x < 0 then 0 else (if nI (2 * jd_ht (jd_t A B C) (jd_r A B C w) (jd_b A B) c m i + 1) ≤ x then 0 else 1 : Int32) : Int32) := by
        unfold f_P_hasCell
        rw [e3.2]
        rfl
      rw [hc, Option.bind_some]
      rcases jz_ck x (2 * jd_ht (jd_t A B C) (jd_r A B C w) (jd_b A B) c m i + 1) (by omega) with ⟨z1, -⟩ | ⟨z1, -, -, j, z2, rfl⟩
      · rw [z1, if_pos rfl, if_pos rfl]
        exact ⟨9, S', T', rfl, rfl, e6⟩
      · rw [z1, if_neg (by decide), if_neg (by decide), f_Q_signIn_eq e3 m8 hp (show j < 1000 by omega), Option.bind_some,
          f_M_signOfCell_eq (t := jd_t A B C) (r := jd_r A B C w) (b := jd_b A B) rfl rfl rfl e7.2.2.1.2.2.2.2.2.2.2.1 (by omega) q3 e7.2.2.1.2.1 m8 e4 e5 hp (show j < 1000 by omega), Option.bind_some]
        exact ⟨_, S', T', rfl, rfl, e6⟩
theorem jz_coef {S T : jx_S} (hR : jz_Rel S T) (x y : Int32) : ∃ r, f_P_coefficient S x y = some r ∧ f_M_coefficient T x y = some r := by
  unfold f_P_coefficient f_M_coefficient
  rcases jz_poly hR x with ⟨k1, k2⟩ | ⟨k1, k2, k3, m, c, rl, cd, L, ax, ay, A, B, C, w, n, p, h, hp, rfl⟩
  · refine ⟨9, by rw [k1]; rfl, ?_⟩
    rcases k2 with k | ⟨k, k'⟩
    · rw [if_pos k]
    · rw [if_neg k, if_pos k']
  · rw [k1, Option.bind_some, if_neg (by decide), if_neg k2, if_neg k3]
    by_cases c1 : y < 0
    · rw [if_pos c1, if_pos c1]
      exact ⟨9, rfl, rfl⟩
    · rw [if_neg c1, if_neg c1]
      obtain ⟨k, h1, h2⟩ := nI_of c1
      subst h2
      by_cases c2 : k < 4
      · have m8 := h.1.1
        have a1 := h.2.1.2.1 (4 * p + k) (by omega)
        have a2 := h.2.2.1.2.1 (4 * p + k) (by omega)
        rw [if_pos (show nI k < 4 from nI_lt (b := 4) c2 (by omega)), if_pos (show nI k ≤ 3 from nI_le (b := 3) (by omega) (by omega)), f_S_number_eq (by omega) c2, ji_4q, if_pos (ji_inN (by omega) (by decide)), nI_clamp (by omega)]
        refine ⟨_, rfl, ?_⟩
        rw [ji_ext (a2.1.trans a1.1.symm)]
      · rw [if_neg (show ¬ nI k < 4 from nI_nlt (b := 4) (by omega) (by omega)), if_neg (show ¬ nI k ≤ 3 from nI_ge (a := 3) (by omega) (by omega))]
        exact ⟨9, rfl, rfl⟩
theorem jz_witness {S T : jx_S} (hR : jz_Rel S T) : ∃ r T', f_P_witness S = some r ∧ f_M_witness T = some (r, T') ∧ jz_Rel S T' := by
  unfold f_P_witness f_M_witness
  rcases hR.2.2 with h | ⟨m, c, rl, cd, L, ax, ay, A, B, C, w, n, h⟩
  · refine ⟨S.1 2, T, rfl, ?_, hR⟩
    rw [show jx_N = (jx_N - 1) + 1 by decide, jx_lp]
    have eb : b_M_witness_2 (T, 0) = some (Sum.inr (Sum.inl T)) := by
      unfold b_M_witness_2
      dsimp only
      rw [h.2.2.2.1, if_pos (by decide)]
    rw [eb, h.2.2.2.2]
    rfl
  · have n72 := h.1.2.1
    obtain ⟨hd, hhd⟩ : ∃ hd, hd = jd_hd (jd_t A B C) (jd_r A B C w) (jd_b A B) c m rl cd L ay := ⟨_, rfl⟩
    have ws := h.2.2.2.2
    rw [← hhd] at ws
    have key : jm_T (jx_lp b_M_witness_2 jx_N (T, 0)) (Sum.elim (fun T' => jg [9, 10] [5, 7, 8] [] T T' ∧ jd_K T' (jd_t A B C) (jd_r A B C w) (jd_b A B) c m n ∧ ∀ j, j < 2 * n + 1 → hd j = ax) (fun o => jg [9, 10] [5, 7, 8] [] T o.2 ∧ jd_K o.2 (jd_t A B C) (jd_r A B C w) (jd_b A B) c m n ∧ ∃ i, i < 2 * n + 1 ∧ o.1 = nI i ∧ hd i ≠ ax ∧ ∀ j, j < i → hd j = ax)) := by
      refine jm_loop (fun z => ∃ i, i ≤ 2 * n + 1 ∧ z.2 = nI i ∧ jg [9, 10] [5, 7, 8] [] T z.1 ∧ jd_K z.1 (jd_t A B C) (jd_r A B C w) (jd_b A B) c m n ∧ ∀ j, j < i → hd j = ax) (fun z => 2 * n + 1 - z.2.toNatClampNeg) _ ?_ jx_N _ ⟨0, by omega, rfl, jg_refl _ _ _ _, h.2.2.2.1, fun j hj => by omega⟩ (by show 2 * n + 1 - _ < jx_N; unfold jx_N; omega)
      rintro ⟨T1, i1⟩ ⟨i, k1, k2, k3, k4, k5⟩
      dsimp only at k2 k3 k4
      subst k2
      have dT := jd_T_g h.2.2.1 (jg_wk k3 (by decide) (by decide) (by decide))
      unfold b_M_witness_2
      dsimp only
      rw [dT.2.2.2.2.2.2.2.2]
      by_cases e : i = 2 * n + 1
      · rw [if_pos (nI_le (by omega) (by omega))]
        exact jm_ret ⟨k3, k4, fun j hj => k5 j (by omega)⟩
      · rw [if_neg (nI_ge (by omega) (by omega))]
        obtain ⟨⟨r, T2⟩, e2, g1, g2, g3⟩ := jd_columnHolds (t := jd_t A B C) (r := jd_r A B C w) (b := jd_b A B) rfl rfl rfl h.1 dT (show i ≤ 2 * n by omega) k4
        dsimp only at g1 g2 g3
        rw [← hhd] at g1
        subst g1
        rw [e2, Option.bind_some]
        dsimp only
        have e3 : T2.1 3 = jt_b ax := (g2.1 3 (by decide)).trans dT.2.2.2.2.2.1
        rw [e3]
        by_cases c1 : hd i = ax
        · rw [if_pos (by rw [c1]), nI_1]
          refine jm_ret ⟨⟨i + 1, by omega, rfl, jg_trans k3 g2, g3, fun j hj => ?_⟩, ?_⟩
          · by_cases e4 : j = i
            · rw [e4]; exact c1
            · exact k5 j (by omega)
          · dsimp only
            rw [nI_clamp (by omega), nI_clamp (by omega)]
            omega
        · rw [if_neg (fun z => c1 (jt_b_inj.mp z))]
          exact jm_ret ⟨jg_trans k3 g2, g3, i, by omega, rfl, c1, k5⟩
    obtain ⟨o, e1, e2⟩ := key
    rw [e1, Option.bind_some]
    cases o with
    | inl T' =>
      obtain ⟨g1, g2, g3⟩ := e2
      refine ⟨S.1 2, T', rfl, ?_, jz_Rel_f hR h (jf_refl _ _ _) g1 g2⟩
      show some ((-1 : Int32), T') = _
      rcases ws with ⟨w1, -⟩ | ⟨v, w1, w2, w3, w4⟩
      · rw [w1]
      · exact absurd (g3 v w1) w3
    | inr o =>
      obtain ⟨r, T'⟩ := o
      obtain ⟨g1, g2, i, g3, g4, g5, g6⟩ := e2
      refine ⟨S.1 2, T', rfl, ?_, jz_Rel_f hR h (jf_refl _ _ _) g1 g2⟩
      show some (r, T') = _
      dsimp only at g4
      rcases ws with ⟨-, w1⟩ | ⟨v, w1, w2, w3, w4⟩
      · exact absurd (w1 i g3) g5
      · have : i = v := by
          rcases Nat.lt_trichotomy i v with z | z | z
          · exact absurd (w4 i z) g5
          · exact z
          · exact absurd (g6 v z) w3
        rw [g4, w2, this]
theorem jz_compare {S T : jx_S} (hR : jz_Rel S T) (a x y : Int32) : ∃ r, f_P_compare S a x y = some r ∧ f_M_compare T a x y = some r := by
  unfold f_P_compare k_P_compare_30 f_M_compare
  obtain ⟨fl, hfl⟩ : ∃ fl : Int32, fl = (if x < (-1000) then 0 else (if 1000 < x then 0 else (if y < 1 then 0 else (if 100 < y then 0 else 1 : Int32) : Int32) : Int32) : Int32) := ⟨_, rfl⟩
  rw [← hfl]
  have none : f_P_hasColumn S a = some 0 → (if fl = 0 then some (9 : Int32) else (f_P_hasColumn S a).bind fun q39_1 => if q39_1 = 0 then some 9 else if (a &&& 1) = 0 then some 9 else (f_C_signAt S (a >>> (1 &&& 31)) (((-x)).toInt64) ((y).toInt64) 0).bind fun q70_2 => some q70_2) = some 9 := fun e1 => by
    by_cases z : fl = 0
    · rw [if_pos z]
    · rw [if_neg z, e1]; rfl
  rcases hR.2.2 with h | ⟨m, c, rl, cd, L, ax, ay, A, B, C, w, n, h⟩
  · obtain ⟨e1, e2⟩ := jz_E_col h a
    exact ⟨9, none e1, by rw [e2]; rfl⟩
  · rcases jz_D_col h a with ⟨e1, e2⟩ | ⟨q1, q2, i, q3, rfl⟩
    · exact ⟨9, none e1, by rw [e2]; rfl⟩
    · have n72 := h.1.2.1
      rw [q1, q2, Option.bind_some, Option.bind_some, if_neg (show ¬ (1 : Int32) = 0 by decide), if_neg (show ¬ (1 : Int32) = 0 by decide)]
      have o1 : nI i - nI i / 2 * 2 = nI (i % 2) := pk_rem (d := 2) (by omega) (by omega) (by omega)
      have o2 : nI i / 2 = nI (i / 2) := pk_div (d := 2) (by omega) (by omega) (by omega)
      have o3 : (nI i &&& 1) = nI (i % 2) := pk_andN (by omega) 1 (by decide)
      have o4 : nI i >>> ((1 : Int32) &&& 31) = nI (i / 2) := pk_shrN (by omega) _ 1 (by decide)
      rw [o1, o2, o3, o4]
      by_cases c1 : i % 2 = 0
      · rw [c1, if_pos (show nI 0 = 0 from rfl), if_pos (show nI 0 = 0 from rfl)]
        refine ⟨9, ?_, rfl⟩
        by_cases z : fl = 0
        · rw [if_pos z]
        · rw [if_neg z]
      · have c1' : i % 2 = 1 := by omega
        rw [c1', if_neg (show ¬ nI 1 = 0 by decide), if_neg (show ¬ nI 1 = 0 by decide)]
        by_cases b1 : x < -1000
        · rw [if_pos b1] at hfl
          rw [hfl, if_pos rfl, if_pos b1]; exact ⟨9, rfl, rfl⟩
        · rw [if_neg b1] at hfl
          rw [if_neg b1]
          by_cases b2 : 1000 < x
          · rw [if_pos b2] at hfl
            rw [hfl, if_pos rfl, if_pos b2]; exact ⟨9, rfl, rfl⟩
          · rw [if_neg b2] at hfl
            rw [if_neg b2]
            by_cases b3 : y < 1
            · rw [if_pos b3] at hfl
              rw [hfl, if_pos rfl, if_pos b3]; exact ⟨9, rfl, rfl⟩
            · rw [if_neg b3] at hfl
              rw [if_neg b3]
              by_cases b4 : y ≤ 100
              · have b4' : ¬ 100 < y := fun z => by rw [ji_lt] at z; rw [ji_le] at b4; exact absurd z (Int.not_lt.mpr b4)
                rw [if_neg b4'] at hfl
                rw [hfl, if_neg (show ¬ (1 : Int32) = 0 by decide), if_pos b4]
                have x1 : -1000 ≤ x.toInt := by rw [ji_lt] at b1; exact Int.not_lt.mp b1
                have x2 : x.toInt ≤ 1000 := by rw [ji_lt] at b2; exact Int.not_lt.mp b2
                have y1 : 1 ≤ y.toInt := by rw [ji_lt] at b3; exact Int.not_lt.mp b3
                have y2 : y.toInt ≤ 100 := by rw [ji_le] at b4; exact b4
                have ex : (-x).toInt = -x.toInt := ji_neg (by omega)
                have lt : i / 2 < n := by omega
                rw [f_C_signAt_k h.2.1.2.2.2.2.2.2.2.1 (by omega) lt (jb_i (B := 1000) ex (by omega) (by omega)) (jb_wk (jb_i (B := 100) rfl (by omega) (by omega)) (by decide)) (jb_wk jb_0 (by decide)),
                  f_M_signAt_at h.2.2.1.2.2.2.2.2.2.2.1 (by omega) lt (jb_wk jb_0 (by decide)) (jb_wk (jb_i (B := 100) rfl (by omega) (by omega)) (by decide)) (jb_i (B := 1000) ex (by omega) (by omega))]
                exact ⟨_, rfl, rfl⟩
              · have b4' : 100 < y := by
                  rw [ji_le] at b4
                  rw [ji_lt]
                  exact Int.not_le.mp b4
                rw [if_pos b4'] at hfl
                rw [hfl, if_pos rfl, if_neg b4]; exact ⟨9, rfl, rfl⟩
