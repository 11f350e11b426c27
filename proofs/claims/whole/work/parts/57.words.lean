/-! counts, ranges, the text as it is written -/
def jr_ct (ch : Nat → Int32) (x : Int32) (k : Nat) : Nat := jn_cnt (fun j => decide (ch j = x)) k
section JZ
variable {ch : Nat → Int32} {U : Nat}
theorem f_R_countOpenings_eq {S : jx_S} (hc : jr_ch ch U) (hS : jr_S S ch U) : f_R_countOpenings S = some (nI (jr_ct ch 40 U)) := by
  have u80 := hc.1
  have key : jm_T (jx_lp (b_R_countOpenings_4 S) jx_N (0, 0)) (fun o => o = nI (jr_ct ch 40 U)) := by
    refine jm_loop (fun z => ∃ k, k ≤ U ∧ z.2 = nI k ∧ z.1 = nI (jr_ct ch 40 k)) (fun z => U - z.2.toNatClampNeg) _ ?_ jx_N _ ⟨0, by omega, rfl, rfl⟩ (by show U - _ < jx_N; unfold jx_N; omega)
    rintro ⟨x, k1⟩ ⟨k, g1, g2, g3⟩
    dsimp only at g2 g3
    subst g2
    subst g3
    unfold b_R_countOpenings_4
    dsimp only
    rw [hS.1]
    by_cases e : k = U
    · rw [if_pos (nI_le (by omega) (by omega)), e]
      exact jm_ret rfl
    · have mu : U - (nI (k + 1)).toNatClampNeg < U - k := by
        rw [nI_clamp (by omega)]
        omega
      rw [if_neg (nI_ge (by omega) (by omega)), if_pos (ji_inN (by omega) (by decide)), nI_clamp (by omega), hS.2 k (by omega), nI_1, nI_1]
      have st : jr_ct ch 40 (k + 1) = jr_ct ch 40 k + (if ch k = 40 then 1 else 0) := by
        unfold jr_ct
        rw [jn_cnt]
        simp only [decide_eq_true_iff]
      by_cases c : ch k = 40
      · rw [if_pos c]
        rw [if_pos c] at st
        exact jm_ret ⟨⟨k + 1, by omega, rfl, by rw [st]⟩, mu⟩
      · rw [if_neg c]
        rw [if_neg c] at st
        exact jm_ret ⟨⟨k + 1, by omega, rfl, by rw [st]; rfl⟩, mu⟩
  obtain ⟨o, h1, h2⟩ := key
  unfold f_R_countOpenings
  rw [h1, h2]
  rfl
theorem f_M_count_eq {T : jx_S} (hc : jr_ch ch U) (hT : jr_T T ch U) (x : Int32) : f_M_count T x = some (nI (jr_ct ch x U)) := by
  have u80 := hc.1
  have key : jm_T (jx_lp (b_M_count_4 T x) jx_N (0, 0)) (fun o => o = nI (jr_ct ch x U)) := by
    refine jm_loop (fun z => ∃ k, k ≤ U ∧ z.2 = nI k ∧ z.1 = nI (jr_ct ch x k)) (fun z => U - z.2.toNatClampNeg) _ ?_ jx_N _ ⟨0, by omega, rfl, rfl⟩ (by show U - _ < jx_N; unfold jx_N; omega)
    rintro ⟨x, k1⟩ ⟨k, g1, g2, g3⟩
    dsimp only at g2 g3
    subst g2
    subst g3
    unfold b_M_count_4
    dsimp only
    rw [hT.1]
    by_cases e : k = U
    · rw [if_pos (nI_le (by omega) (by omega)), e]
      exact jm_ret rfl
    · have mu : U - (nI (k + 1)).toNatClampNeg < U - k := by
        rw [nI_clamp (by omega)]
        omega
      rw [if_neg (nI_ge (by omega) (by omega)), if_pos (ji_inN (by omega) (by decide)), nI_clamp (by omega), hT.2 k (by omega), nI_1, nI_1]
      have st : ∀ x, jr_ct ch x (k + 1) = jr_ct ch x k + (if ch k = x then 1 else 0) := fun x => by
        unfold jr_ct
        rw [jn_cnt]
        simp only [decide_eq_true_iff]
      split
      · rename_i c
        refine jm_ret ⟨⟨k + 1, by omega, rfl, ?_⟩, mu⟩
        rw [st, if_pos c]
      · rename_i c
        refine jm_ret ⟨⟨k + 1, by omega, rfl, ?_⟩, mu⟩
        rw [st, if_neg c]
        rfl
  obtain ⟨o, h1, h2⟩ := key
  unfold f_M_count
  rw [h1, h2]
  rfl
theorem jr_rc_sum (ch : Nat → Int32) : ∀ k, jr_rc ch k = jr_ct ch 60 k + jr_ct ch 61 k + jr_ct ch 62 k
  | 0 => rfl
  | k + 1 => by
    have ih := jr_rc_sum ch k
    unfold jr_rc jr_ct at *
    rw [jn_cnt, jn_cnt, jn_cnt, jn_cnt, ih]
    simp only [decide_eq_true_iff]
    by_cases c0 : ch k = 60
    · have c1 : ¬ ch k = 61 := by rw [c0]; decide
      have c2 : ¬ ch k = 62 := by rw [c0]; decide
      rw [if_pos (Or.inl c0), if_pos c0, if_neg c1, if_neg c2]; omega
    · by_cases c1 : ch k = 61
      · have c2 : ¬ ch k = 62 := by rw [c1]; decide
        rw [if_pos (Or.inr (Or.inl c1)), if_neg c0, if_pos c1, if_neg c2]; omega
      · by_cases c2 : ch k = 62
        · rw [if_pos (Or.inr (Or.inr c2)), if_neg c0, if_neg c1, if_pos c2]; omega
        · rw [if_neg (show ¬ (ch k = 60 ∨ ch k = 61 ∨ ch k = 62) from fun h => h.elim c0 (fun h => h.elim c1 c2)), if_neg c0, if_neg c1, if_neg c2]
          rfl
theorem f_M_relations_eq {T : jx_S} (hc : jr_ch ch U) (hT : jr_T T ch U) : f_M_relations T = some (nI (jr_rc ch U)) := by
  unfold f_M_relations
  rw [f_M_count_eq hc hT, f_M_count_eq hc hT, f_M_count_eq hc hT, Option.bind_some, Option.bind_some, Option.bind_some, nI_add, nI_add, jr_rc_sum]
end JZ
def jr_in5 (x : Int32) : Prop := -5 ≤ x.toInt ∧ x.toInt ≤ 5
theorem jr_lt5 {x : Int32} : x < -5 ↔ x.toInt < -5 := by rw [ji_lt]; exact Iff.rfl
theorem jr_le5 {x : Int32} : x ≤ 5 ↔ x.toInt ≤ 5 := by rw [ji_le]; exact Iff.rfl
theorem f_S_fits_ok {S : jx_S} {a : Nat} (h4 : S.1 4 = nI a) (ha : a ≤ 8) : (f_S_fits S = some 1 ∧ ∀ j, j < 4 * a → jr_in5 (S.2.1 0 j)) ∨ (f_S_fits S = some 0 ∧ ¬ ∀ j, j < 4 * a → jr_in5 (S.2.1 0 j)) := by
  have key : jm_T (jx_lp (b_S_fits_13 S) jx_N 0) (fun o => (o = Sum.inl () ∧ ∀ j, j < 4 * a → jr_in5 (S.2.1 0 j)) ∨ (o = Sum.inr 0 ∧ ¬ ∀ j, j < 4 * a → jr_in5 (S.2.1 0 j))) := by
    refine jm_loop (fun z => ∃ k, k ≤ 4 * a ∧ z = nI k ∧ ∀ j, j < k → jr_in5 (S.2.1 0 j)) (fun z => 4 * a - z.toNatClampNeg) _ ?_ jx_N _ ⟨0, by omega, rfl, fun j hj => by omega⟩ (by show 4 * a - _ < jx_N; unfold jx_N; omega)
    rintro z ⟨k, g1, rfl, g3⟩
    unfold b_S_fits_13
    rw [h4, show (nI a * 4 : Int32) = nI (4 * a) by rw [show (4 : Int32) = nI 4 from rfl, nI_mul, Nat.mul_comm]]
    by_cases e : k = 4 * a
    · rw [if_pos (nI_le (by omega) (by omega))]
      exact jm_ret (Or.inl ⟨rfl, fun j hj => g3 j (by omega)⟩)
    · rw [if_neg (nI_ge (by omega) (by omega)), if_pos (ji_inN (by omega) (by decide)), nI_clamp (by omega), nI_1]
      simp only [jr_lt5, jr_le5]
      by_cases c1 : (S.2.1 0 k).toInt < -5
      · rw [if_pos c1]
        exact jm_ret (Or.inr ⟨rfl, fun h => by have := (h k (by omega)).1; omega⟩)
      · rw [if_neg c1]
        by_cases c2 : (S.2.1 0 k).toInt ≤ 5
        · rw [if_pos c2]
          refine jm_ret ⟨⟨k + 1, by omega, rfl, fun j hj => ?_⟩, ?_⟩
          · by_cases e2 : j = k
            · rw [e2]; exact ⟨by omega, c2⟩
            · exact g3 j (by omega)
          · rw [nI_clamp (by omega)]
            omega
        · rw [if_neg c2]
          exact jm_ret (Or.inr ⟨rfl, fun h => by have := (h k (by omega)).2; omega⟩)
  unfold f_S_fits
  rw [h4, if_pos (show nI a ≤ 8 from nI_le (b := 8) ha (by omega))]
  obtain ⟨o, h1, h2⟩ := key
  rw [h1]
  rcases h2 with ⟨rfl, h2⟩ | ⟨rfl, h2⟩
  · exact Or.inl ⟨rfl, h2⟩
  · exact Or.inr ⟨rfl, h2⟩
theorem f_S_fits_no {S : jx_S} {a : Nat} (h4 : S.1 4 = nI a) (ha : 8 < a) (hb : a ≤ 80) : f_S_fits S = some 0 := by
  unfold f_S_fits
  rw [h4, if_neg (show ¬ nI a ≤ 8 from nI_ge (a := 8) ha (by omega))]
theorem jr_105 {T : jx_S} {x : Int32} : (jx_lp (b_M_decide_105 T x) jx_N 0 = some (Sum.inl ()) ∧ ∀ j, j < 32 → jr_in5 (T.2.1 2 j)) ∨ (jx_lp (b_M_decide_105 T x) jx_N 0 = some (Sum.inr (-2, jx_f (jx_f (jx_f T 5 0) 11 0) 2 (-1))) ∧ ¬ ∀ j, j < 32 → jr_in5 (T.2.1 2 j)) := by
  have key : jm_T (jx_lp (b_M_decide_105 T x) jx_N 0) (fun o => (o = Sum.inl () ∧ ∀ j, j < 32 → jr_in5 (T.2.1 2 j)) ∨ (o = Sum.inr (-2, jx_f (jx_f (jx_f T 5 0) 11 0) 2 (-1)) ∧ ¬ ∀ j, j < 32 → jr_in5 (T.2.1 2 j))) := by
    refine jm_loop (fun z => ∃ k, k ≤ 32 ∧ z = nI k ∧ ∀ j, j < k → jr_in5 (T.2.1 2 j)) (fun z => 32 - z.toNatClampNeg) _ ?_ jx_N _ ⟨0, by omega, rfl, fun j hj => by omega⟩ (by show 32 - _ < jx_N; unfold jx_N; omega)
    rintro z ⟨k, g1, rfl, g3⟩
    unfold b_M_decide_105 f_M_wrong
    by_cases e : k = 32
    · subst e
      rw [if_pos (by decide)]
      exact jm_ret (Or.inl ⟨rfl, fun j hj => g3 j (by omega)⟩)
    · rw [if_neg (show ¬ (32 : Int32) ≤ nI k from nI_ge (b := 32) (by omega) (by omega)), if_pos (ji_inN (by omega) (by decide)), nI_clamp (by omega), nI_1]
      simp only [jr_lt5, jr_le5]
      by_cases c1 : (T.2.1 2 k).toInt < -5
      · rw [if_pos c1]
        exact jm_ret (Or.inr ⟨rfl, fun h => by have := (h k (by omega)).1; omega⟩)
      · rw [if_neg c1]
        by_cases c2 : (T.2.1 2 k).toInt ≤ 5
        · rw [if_pos c2]
          refine jm_ret ⟨⟨k + 1, by omega, rfl, fun j hj => ?_⟩, ?_⟩
          · by_cases e2 : j = k
            · rw [e2]; exact ⟨by omega, c2⟩
            · exact g3 j (by omega)
          · rw [nI_clamp (by omega)]
            omega
        · rw [if_neg c2]
          exact jm_ret (Or.inr ⟨rfl, fun h => by have := (h k (by omega)).2; omega⟩)
  obtain ⟨o, h1, h2⟩ := key
  rcases h2 with ⟨rfl, h2⟩ | ⟨rfl, h2⟩
  · exact Or.inl ⟨h1, h2⟩
  · exact Or.inr ⟨h1, h2⟩
/-- the text on both sides: the reference keeps blanks -/
def jy_nb (w : Nat → Nat) (k : Nat) : Nat := jn_cnt (fun j => decide (w j ≠ 32)) k
theorem jy_nb_succ (w : Nat → Nat) (k : Nat) : jy_nb w (k + 1) = jy_nb w k + (if w k = 32 then 0 else 1) := by
  unfold jy_nb
  rw [jn_cnt]
  by_cases c : w k = 32
  · simp [c]
  · simp [c]
theorem jy_nb_le (w : Nat → Nat) (k : Nat) : jy_nb w k ≤ k := jn_cnt_n k
theorem jy_nb_lt {w : Nat → Nat} {j : Nat} : ∀ k, j < k → w j ≠ 32 → jy_nb w j < jy_nb w k
  | 0, h, _ => by omega
  | k + 1, h, n => by
    rw [jy_nb_succ]
    by_cases e : j = k
    · rw [e, if_neg (by rw [← e]; exact n)]; omega
    · have := jy_nb_lt k (by omega) n
      omega
theorem jy_nb_on {w : Nat → Nat} : ∀ k p, p < jy_nb w k → ∃ j, j < k ∧ w j ≠ 32 ∧ jy_nb w j = p
  | 0, p, h => by exact absurd h (Nat.not_lt_zero _)
  | k + 1, p, h => by
    rw [jy_nb_succ] at h
    by_cases e : p < jy_nb w k
    · obtain ⟨j, h1, h2, h3⟩ := jy_nb_on k p e
      exact ⟨j, by omega, h2, h3⟩
    · by_cases c : w k = 32
      · rw [if_pos c] at h; omega
      · rw [if_neg c] at h
        exact ⟨k, by omega, c, by omega⟩
def jy_W (S T : jx_S) : Prop := ∃ (W : Nat) (w : Nat → Nat), W ≤ 80 ∧ T.1 0 = nI W ∧ S.1 7 = nI W ∧ S.1 8 = nI (jy_nb w W) ∧ ∀ k, k < W → 32 ≤ w k ∧ w k ≤ 126 ∧ T.2.1 0 k = nI (w k) ∧ (w k ≠ 32 → S.2.1 3 (jy_nb w k) = nI (w k))
theorem jy_nb_c {w v : Nat → Nat} : ∀ k, (∀ j, j < k → v j = w j) → jy_nb v k = jy_nb w k
  | 0, _ => rfl
  | k + 1, h => by rw [jy_nb_succ, jy_nb_succ, jy_nb_c k (fun j hj => h j (by omega)), h k (by omega)]
theorem jy_nb0 (S : jx_S) : ((some ((0 : Int32), S)).bind fun q : Int32 × jx_S => if jx_nb q.1 = true then some (q.1, q.2) else none) = some (0, S) := by
  rw [Option.bind_some]
  dsimp only
  rw [if_pos (by decide)]
theorem jy_nb1 (S : jx_S) : ((some ((1 : Int32), S)).bind fun q : Int32 × jx_S => if jx_nb q.1 = true then some (q.1, q.2) else none) = some (1, S) := by
  rw [Option.bind_some]
  dsimp only
  rw [if_pos (by decide)]
theorem jy_write {S T : jx_S} (h : jy_W S T) (x : Int32) : ∃ r S' T', f_P_write S x = some (r, S') ∧ f_M_write T x = some (r, T') ∧ jy_W S' T' ∧ jf [7, 8] [3] S S' ∧ jg [0] [0] [] T T' := by
  obtain ⟨W, w, h1, h2, h3, h4, h5⟩ := h
  have h0 : jy_W S T := ⟨W, w, h1, h2, h3, h4, h5⟩
  have same : f_P_write S x = some (0, S) → f_M_write T x = some (0, T) → ∃ r S' T', f_P_write S x = some (r, S') ∧ f_M_write T x = some (r, T') ∧ jy_W S' T' ∧ jf [7, 8] [3] S S' ∧ jg [0] [0] [] T T' := fun a b => ⟨0, S, T, a, b, h0, jf_refl _ _ _, jg_refl _ _ _ _⟩
  unfold f_P_write f_R_append f_M_write at *
  by_cases c1 : x < 32
  · refine same ?_ ?_
    · rw [if_pos c1]; exact jy_nb0 S
    · rw [if_pos c1]
  · by_cases c2 : 126 < x
    · refine same ?_ ?_
      · rw [if_neg c1, if_pos c2]; exact jy_nb0 S
      · rw [if_neg c1, if_pos c2]
    · by_cases c3 : W = 80
      · refine same ?_ ?_
        · rw [if_neg c1, if_neg c2, h3, if_neg (by rw [c3]; decide)]; exact jy_nb0 S
        · rw [if_neg c1, if_neg c2, h2, if_pos (by rw [c3]; rfl)]
      · obtain ⟨v, v1, v2⟩ := nI_of (x := x) (fun z => c1 (by rw [ji_lt] at *; exact Int.lt_trans z (by decide)))
        subst v2
        have v32 : 32 ≤ v := Classical.byContradiction (fun z => c1 (nI_lt (b := 32) (by omega) (by omega)))
        have v126 : v ≤ 126 := Classical.byContradiction (fun z => c2 (nI_lt (a := 126) (by omega) (by omega)))
        have nbW := jy_nb_le w W
        rw [if_neg c1, if_neg c2, if_neg c1, if_neg c2, h3, h2, if_pos (show nI W < 80 from nI_lt (b := 80) (by omega) (by omega)), if_neg (show ¬ nI W = 80 from fun z => c3 ((nI_eq (b := 80) (by omega) (by omega)).mp z)), if_pos (ji_inN (by omega) (by decide)), nI_clamp (show W < 2147483648 by omega), nI_1]
        obtain ⟨w', hw'⟩ : ∃ w' : Nat → Nat, w' = fun k => if k = W then v else w k := ⟨_, rfl⟩
        have wlt : ∀ j, j < W → w' j = w j := fun j hj => by rw [hw']; dsimp only; rw [if_neg (by omega)]
        have weq : w' W = v := by rw [hw']; dsimp only; rw [if_pos rfl]
        have nbe : ∀ k, k ≤ W → jy_nb w' k = jy_nb w k := fun k hk => jy_nb_c k (fun j hj => wlt j (by omega))
        have T2 : ∀ k, k < W + 1 → (jx_f (jx_g T 0 (upd (T.2.1 0) W (nI v))) 0 (nI (W + 1))).2.1 0 k = nI (w' k) := fun k hk => by
          rw [js_f2, js_g2, if_pos rfl]
          unfold upd
          by_cases e : k = W
          · rw [if_pos e, e, weq]
          · rw [if_neg e, wlt k (by omega)]
            exact (h5 k (by omega)).2.2.1
        have rng : ∀ k, k < W + 1 → 32 ≤ w' k ∧ w' k ≤ 126 := fun k hk => by
          by_cases e : k = W
          · rw [e, weq]; omega
          · rw [wlt k (by omega)]
            have := h5 k (by omega)
            exact ⟨this.1, this.2.1⟩
        by_cases c4 : v = 32
        · rw [if_pos (show nI v = 32 by rw [c4]; rfl)]
          refine ⟨_, _, _, jy_nb1 _, rfl, ⟨W + 1, w', by omega, by rw [js_f1, if_pos rfl], by rw [js_f1, if_pos rfl], ?_, fun k hk => ⟨(rng k hk).1, (rng k hk).2, T2 k hk, fun hne => ?_⟩⟩, jf_f (by decide), jg_trans (jg_g (by decide)) (jg_f (by decide))⟩
          · rw [js_f1, if_neg (by decide), h4, jy_nb_succ, weq, if_pos c4, nbe W (by omega)]
            rfl
          · have e : k ≠ W := fun e => hne (by rw [e, weq]; exact c4)
            rw [js_f2, nbe k (by omega), wlt k (by omega)]
            exact (h5 k (by omega)).2.2.2 (by rw [← wlt k (by omega)]; exact hne)
        · rw [if_neg (show ¬ nI v = 32 from fun z => c4 ((nI_eq (b := 32) (by omega) (by omega)).mp z)), h4, if_pos (ji_inN (by omega) (by decide)), nI_clamp (show jy_nb w W < 2147483648 by omega), nI_1]
          have nar : vp_nar .char (nI v) = nI v := by
            have e : ∀ v, v < 127 → vp_nar .char (nI v) = nI v := by decide +kernel
            exact e v (by omega)
          rw [nar]
          refine ⟨_, _, _, jy_nb1 _, rfl, ⟨W + 1, w', by omega, by rw [js_f1, if_pos rfl], ?_, ?_, fun k hk => ⟨(rng k hk).1, (rng k hk).2, T2 k hk, fun hne => ?_⟩⟩, ?_, jg_trans (jg_g (by decide)) (jg_f (by decide))⟩
          · rw [js_f1, if_neg (by decide), js_g1, js_f1, if_pos rfl]
          · rw [js_f1, if_pos rfl, jy_nb_succ, weq, if_neg c4, nbe W (by omega)]
          · rw [js_f2, js_g2, if_pos rfl, nbe k (by omega)]
            unfold upd
            by_cases e : k = W
            · rw [if_pos (by rw [e]), e, weq]
            · have nk : w k ≠ 32 := by rw [← wlt k (by omega)]; exact hne
              have := jy_nb_lt (w := w) (j := k) W (by omega) nk
              rw [if_neg (by omega), wlt k (by omega)]
              exact (h5 k (by omega)).2.2.2 nk
          · exact jf_trans (jf_trans (jf_f (by decide)) (jf_g (by decide))) (jf_f (by decide))
/-- the reference takes its text -/
theorem jy_take {S T : jx_S} (h : jy_W S T) : ∃ ch U, jr_ch ch U ∧ jr_S S ch U ∧ jm_T (f_M_takeText T) (fun T' => jr_T T' ch U ∧ T'.1 0 = 0 ∧ jg [0, 1] [1] [] T T') := by
  obtain ⟨W, w, h1, h2, h3, h4, h5⟩ := h
  have nbW := jy_nb_le w W
  refine ⟨fun k => if k < jy_nb w W then S.2.1 3 k else 0, jy_nb w W, ⟨by omega, fun k hk => if_neg (by omega), fun k hk => ?_⟩, ⟨h4, fun k hk => (if_pos hk).symm⟩, ?_⟩
  · obtain ⟨j, j1, j2, j3⟩ := jy_nb_on W k hk
    have := h5 j j1
    refine ⟨w j, by omega, this.2.1, ?_⟩
    dsimp only
    rw [if_pos hk, ← j3]
    exact this.2.2.2 j2
  · unfold f_M_takeText
    refine jm_bind (jm_loop (fun z => ∃ k, k ≤ W ∧ z.2 = nI k ∧ jg [1] [1] [] T z.1 ∧ z.1.1 1 = nI (jy_nb w k) ∧ ∀ j, j < k → w j ≠ 32 → z.1.2.1 1 (jy_nb w j) = nI (w j)) (fun z => W - z.2.toNatClampNeg) (fun T1 => jg [1] [1] [] T T1 ∧ T1.1 1 = nI (jy_nb w W) ∧ ∀ j, j < W → w j ≠ 32 → T1.2.1 1 (jy_nb w j) = nI (w j)) ?_ jx_N _ ⟨0, by omega, rfl, jg_f (by decide), by dsimp only; rw [js_f1, if_pos rfl]; rfl, fun j hj => by omega⟩ (by show W - _ < jx_N; unfold jx_N; omega)) ?_
    · rintro ⟨T1, k1⟩ ⟨k, g1, g2, g3, g4, g5⟩
      dsimp only at g2 g3 g4 g5
      subst g2
      unfold b_M_takeText_7
      dsimp only
      rw [g3.1 0 (by decide), h2]
      by_cases e : k = W
      · rw [if_pos (nI_le (by omega) (by omega))]
        subst e
        exact jm_ret ⟨g3, g4, g5⟩
      · have mu : W - (nI (k + 1)).toNatClampNeg < W - k := by
          rw [nI_clamp (by omega)]
          omega
        obtain ⟨r1, r2, r3, r4⟩ := h5 k (by omega)
        have nk := jy_nb_le w k
        rw [if_neg (nI_ge (by omega) (by omega)), if_pos (ji_inN (by omega) (by decide)), nI_clamp (show k < 2147483648 by omega), g3.2.1 0 (by decide), r3, nI_1]
        by_cases c : w k = 32
        · rw [if_pos (show nI (w k) = 32 by rw [c]; rfl)]
          refine jm_ret ⟨⟨k + 1, by omega, rfl, g3, ?_, fun j hj hn => ?_⟩, mu⟩
          · dsimp only
            rw [g4, jy_nb_succ, if_pos c]
            rfl
          · by_cases e2 : j = k
            · rw [e2] at hn; exact absurd c hn
            · exact g5 j (by omega) hn
        · rw [if_neg (show ¬ nI (w k) = 32 from fun z => c ((nI_eq (b := 32) (by omega) (by omega)).mp z)), g4, if_pos (ji_inN (by omega) (by decide)), nI_clamp (show jy_nb w k < 2147483648 by omega), nI_1]
          refine jm_ret ⟨⟨k + 1, by omega, rfl, jg_trans g3 (jg_trans (jg_g (by decide)) (jg_f (by decide))), ?_, fun j hj hn => ?_⟩, mu⟩
          · dsimp only
            rw [js_f1, if_pos rfl, jy_nb_succ, if_neg c]
          · dsimp only
            rw [js_f2, js_g2, if_pos rfl]
            unfold upd
            by_cases e2 : j = k
            · rw [if_pos (by rw [e2]), e2]
            · have := jy_nb_lt (w := w) (j := j) k (by omega) hn
              rw [if_neg (by omega)]
              exact g5 j (by omega) hn
    · intro T1 ⟨g3, g4, g5⟩
      refine jm_ret ⟨⟨by rw [js_f1, if_neg (by decide)]; exact g4, fun k hk => ?_⟩, by rw [js_f1, if_pos rfl], jg_trans (jg_wk g3 (by decide) (by decide) (by decide)) (jg_f (by decide))⟩
      obtain ⟨j, j1, j2, j3⟩ := jy_nb_on W k hk
      dsimp only
      rw [js_f2, if_pos hk, ← j3, g5 j j1 j2]
      exact ((h5 j j1).2.2.2 j2).symm
