/-! a sentence, on both sides -/
def jw_T (S T : jx_S) (a : Nat) : Prop := T.1 5 = nI a ∧ (∀ j, j < 4 * a → S.2.1 0 j = T.2.1 2 j) ∧ (∀ j, 4 * a ≤ j → j < 32 → T.2.1 2 j = 0) ∧ ∀ p, p < a → S.2.1 1 p = T.2.1 9 p ∧ (T.2.1 9 p = nI 60 ∨ T.2.1 9 p = nI 61 ∨ T.2.1 9 p = nI 62)
def jw_R (ch : Nat → Int32) (U : Nat) (Tb S : jx_S) (wl sl : List Nat) (a k : Nat) : Prop := a ≤ 8 → ∃ T f, f ≤ k ∧ jr_T T ch U ∧ jw_P T wl sl ∧ jw_T S T a ∧ jg [5, 6, 7] [2, 3, 4, 9] [] Tb T ∧ jx_lp b_M_readFormula_38 jx_N (Tb, 5) = jx_lp b_M_readFormula_38 (jx_N - f) (T, nI k)
def jv (T0 Tb : jx_S) (ch : Nat → Int32) (U : Nat) (S : jx_S) (q : Int32) (wl sl : List Nat) (a l k d : Nat) : Prop := jr_S S ch U ∧ S.1 9 = nI k ∧ jq T0 ch U q l k a ∧ jw_S S wl sl a l ∧ jw_I wl sl a l k d ∧ jw_R ch U Tb S wl sl a k
theorem jw_S_f {S S' : jx_S} {wl sl : List Nat} {a l : Nat} (h : jw_S S wl sl a l) (f : jf [0, 1, 2, 5, 6, 7, 8, 9, 12, 13, 14, 15, 16] [0, 1, 3, 5, 6, 7, 8, 9, 10, 11] S S') : jw_S S' wl sl a l := by
  obtain ⟨h1, h2, h3, h4, h5, h6⟩ := h
  exact ⟨(f.1 10 (by decide)).trans h1, by rw [f.2.1 4 (by decide)]; exact h2, (f.1 3 (by decide)).trans h3, by rw [f.2.1 2 (by decide)]; exact h4, (f.1 4 (by decide)).trans h5, (f.1 11 (by decide)).trans h6⟩
theorem jw_S_11 {S : jx_S} {wl sl : List Nat} {a l : Nat} (h : jw_S S wl sl a l) (m : Nat) : jw_S (jx_f S 11 (nI m)) wl sl a m := by
  obtain ⟨h1, h2, h3, h4, h5, h6⟩ := h
  exact ⟨by rw [js_f1, if_neg (by decide)]; exact h1, h2, by rw [js_f1, if_neg (by decide)]; exact h3, h4, by rw [js_f1, if_neg (by decide)]; exact h5, by rw [js_f1, if_pos rfl]⟩
theorem jw_T_c {S S' T T' : jx_S} {a : Nat} (h : jw_T S T a) (e0 : S'.2.1 0 = S.2.1 0) (e1 : S'.2.1 1 = S.2.1 1) (t5 : T'.1 5 = T.1 5) (t2 : T'.2.1 2 = T.2.1 2) (t9 : T'.2.1 9 = T.2.1 9) : jw_T S' T' a := by
  unfold jw_T
  rw [e0, e1, t5, t2, t9]
  exact h
def jq_bh (x lv : Int32) : Int32 := if x = 38 then 5 else if x = 124 then 5 else if x = 41 then (if lv ≤ 0 then -1 else 18) else -1
theorem jq_a18 {x lv : Int32} : f_M_after 18 x lv = some (jq_bh x lv) := by
  unfold f_M_after
  rw [if_neg (by decide), if_neg (by decide), if_neg (by decide), if_neg (by decide), if_neg (by decide), if_neg (by decide), if_pos rfl]
  rfl
theorem jq_tail12 {x lv : Int32} (h1 : x ≠ 43) (h2 : x ≠ 45) : jq_tail 12 x lv = jq_bh x lv := by
  unfold jq_tail jq_bh
  rw [if_neg h1, if_neg h2, if_pos rfl]
def jq_C (ch : Nat → Int32) (q : Int32) (l k : Nat) : Prop := (q = 14 ∨ q = 15 ∨ q = 16 ∨ q = 17 ∨ q = 18) ∧ f_M_after q (ch k) (nI l) = some (jq_bh (ch k) (nI l))
section JW
variable {ch : Nat → Int32} {U : Nat} {T0 Tb : jx_S}
theorem jw_R_step {S S' : jx_S} {wl sl wl' sl' : List Nat} {a a' k k' : Nat} (h : jw_R ch U Tb S wl sl a k) (hk : k ≤ 80) (kk : k < k') (ha : a ≤ a') (step : a' ≤ 8 → ∀ T, jr_T T ch U → jw_P T wl sl → jw_T S T a → ∃ T', b_M_readFormula_38 (T, nI k) = some (Sum.inl (T', nI k')) ∧ jg [5, 6, 7] [2, 3, 4, 9] [] T T' ∧ jw_P T' wl' sl' ∧ jw_T S' T' a') : jw_R ch U Tb S' wl' sl' a' k' := by
  intro a8
  obtain ⟨T, f, h1, h2, h3, h4, h5, h6⟩ := h (by omega)
  obtain ⟨T', g1, g2, g3, g4⟩ := step a8 T h2 h3 h4
  refine ⟨T', f + 1, by omega, jr_T_g h2 (g2.1 1 (by decide)) (g2.2.1 1 (by decide)), g3, g4, jg_trans h5 g2, ?_⟩
  rw [h6, show jx_N - f = (jx_N - (f + 1)) + 1 by unfold jx_N; omega, jx_lp, g1]
  rfl
theorem jw_R_c {S S' : jx_S} {wl sl : List Nat} {a k : Nat} (h : jw_R ch U Tb S wl sl a k) (e0 : S'.2.1 0 = S.2.1 0) (e1 : S'.2.1 1 = S.2.1 1) : jw_R ch U Tb S' wl sl a k := by
  intro a8
  obtain ⟨T, f, h1, h2, h3, h4, h5, h6⟩ := h a8
  exact ⟨T, f, h1, h2, h3, jw_T_c h4 e0 e1 rfl rfl rfl, h5, h6⟩
theorem jq_a5o {x lv : Int32} (h : x = 126 ∨ x = 40) : f_M_after 5 x lv = some 5 := by
  unfold f_M_after
  rw [if_neg (by decide), if_neg (by decide), if_neg (by decide), if_neg (by decide), if_neg (by decide), if_pos rfl]
  rcases h with rfl | rfl
  · rw [if_pos rfl]
  · rw [if_neg (by decide), if_pos rfl]
theorem f_R_takeOpenings_ok {S : jx_S} {wl sl : List Nat} {a l k : Nat} (hc : jr_ch ch U) (hT : jr_T T0 ch U) (h : jv T0 Tb ch U S 5 wl sl a l k 0) : jm_T (f_R_takeOpenings S) (fun S' => jf [9, 10, 11] [4] S S' ∧ ∃ wl' l' k', k ≤ k' ∧ jv T0 Tb ch U S' 5 wl' sl a l' k' 0 ∧ ch k' ≠ 126 ∧ ch k' ≠ 40) := by
  have u80 := hc.1
  unfold f_R_takeOpenings
  refine jm_bind (jm_loop (fun z => jf [9, 10, 11] [4] S z ∧ ∃ wl' l' k', k ≤ k' ∧ jv T0 Tb ch U z 5 wl' sl a l' k' 0) (fun z => U - (z.1 9).toNatClampNeg) (fun S' => jf [9, 10, 11] [4] S S' ∧ ∃ wl' l' k', k ≤ k' ∧ jv T0 Tb ch U S' 5 wl' sl a l' k' 0 ∧ ch k' ≠ 126 ∧ ch k' ≠ 40) ?_ jx_N _ ⟨jf_refl _ _ _, wl, l, k, Nat.le_refl _, h⟩ (by unfold jx_N; omega)) (fun S' h => jm_ret h)
  rintro S1 ⟨f1, w1, l1, k1, hk1, hS, h9, hq, hw, hI, hR⟩
  have kU := hq.1
  have lk := hq.2.1
  unfold b_R_takeOpenings_0
  rw [hS.1, h9]
  by_cases e : k1 = U
  · rw [if_pos (nI_le (by omega) (by omega))]
    have z := hc.2.1 k1 (by omega)
    exact jm_ret ⟨f1, w1, l1, k1, hk1, ⟨hS, h9, hq, hw, hI, hR⟩, by rw [z]; decide, by rw [z]; decide⟩
  · have k1U : k1 < U := by omega
    rw [if_neg (nI_ge (by omega) (by omega)), if_pos (ji_inN (by omega) (by decide)), nI_clamp (show k1 < 2147483648 by omega), hS.2 k1 k1U]
    have mu : U - (nI (k1 + 1)).toNatClampNeg < U - k1 := by
      rw [nI_clamp (by omega)]
      omega
    obtain ⟨i1, i2, i3, i4, i5⟩ := hI
    by_cases c40 : ch k1 = 40
    · have n126 : ch k1 ≠ 126 := by rw [c40]; decide
      rw [if_neg n126, if_pos c40]
      unfold k_R_takeOpenings_0_39
      rw [h9, if_pos (ji_inN (by omega) (by decide)), nI_clamp (show k1 < 2147483648 by omega), hS.2 k1 k1U, if_pos c40, hw.2.2.2.2.2, nI_1]
      have hw1 := jw_S_11 hw (l1 + 1)
      rw [f_R_hold_eq hw1.1 (by omega), Option.bind_some]
      have f2 : jf [9, 10, 11] [4] S1 (jx_f (jx_g (jx_f S1 11 (nI (l1 + 1))) 4 (upd ((jx_f S1 11 (nI (l1 + 1))).2.1 4) w1.length 0)) 10 (nI (w1.length + 1))) := jf_trans (jf_trans (jf_f (by decide)) (jf_g (by decide))) (jf_f (by decide))
      have hw2 := jw_S_push hw1 0
      rw [show (nI 0 : Int32) = 0 from rfl] at hw2
      generalize hS2 : (jx_f (jx_g (jx_f S1 11 (nI (l1 + 1))) 4 (upd ((jx_f S1 11 (nI (l1 + 1))).2.1 4) w1.length 0)) 10 (nI (w1.length + 1))) = S2 at f2 hw2 ⊢
      have h92 : S2.1 9 = nI k1 := by rw [← hS2, js_f1, if_neg (by decide), js_g1, js_f1, if_neg (by decide)]; exact h9
      rw [h92, nI_1]
      have j2 := jq_step hc hT hq k1U (jq_a5o (Or.inr c40)) (by decide) (fun e => by rw [c40] at e; exact absurd e (by decide))
      rw [if_pos c40, if_neg (by rw [c40]; decide)] at j2
      refine jm_ret ⟨⟨jf_trans f1 (jf_trans f2 (jf_f (by decide))), 0 :: w1, l1 + 1, k1 + 1, by omega, ⟨jr_S_x (jr_S_f hS (f2.1 8 (by decide)) (f2.2.1 3 (by decide))) _, by rw [js_f1, if_pos rfl], j2, jw_S_f hw2 (jf_f (by decide)), ⟨?_, ?_, i3, ?_, ?_⟩, ?_⟩⟩, ?_⟩
      · intro y hy
        rcases List.mem_cons.mp hy with e | e
        · omega
        · exact i1 y e
      · unfold jw_z; rw [if_pos rfl, i2]
      · unfold jw_nb; rw [if_neg (by omega)]; exact i4
      · rw [List.length_cons]; omega
      · refine jw_R_step hR (by omega) (by omega) (Nat.le_refl _) (fun a8 T tT tP tW => ?_)
        refine ⟨jx_f (jx_g T 4 (upd (T.2.1 4) w1.length 0)) 7 (nI (w1.length + 1)), ?_, jg_trans (jg_g (by decide)) (jg_f (by decide)), jw_P_push tP 0, ?_⟩
        · unfold b_M_readFormula_38
          dsimp only
          rw [tT.1, if_neg (nI_ge (by omega) (by omega)), f_M_at_eq hc tT (by omega), Option.bind_some, if_neg n126, if_pos c40, f_M_wait0_eq tP.1 (by omega), Option.bind_some, nI_1]
        · exact jw_T_c tW (by rw [js_f2, f2.2.1 0 (by decide)]) (by rw [js_f2, f2.2.1 1 (by decide)]) (by rw [js_f1, if_neg (by decide), js_g1]) (by rw [js_f2, js_g2, if_neg (by decide)]) (by rw [js_f2, js_g2, if_neg (by decide)])
      · rw [js_f1, if_pos rfl]; exact mu
    · by_cases c126 : ch k1 = 126
      · rw [if_pos c126]
        unfold k_R_takeOpenings_0_39
        rw [h9, if_pos (ji_inN (by omega) (by decide)), nI_clamp (show k1 < 2147483648 by omega), hS.2 k1 k1U, if_neg c40, f_R_hold_eq hw.1 (by omega), Option.bind_some]
        have f2 : jf [9, 10, 11] [4] S1 (jx_f (jx_g S1 4 (upd (S1.2.1 4) w1.length 3)) 10 (nI (w1.length + 1))) := jf_trans (jf_g (by decide)) (jf_f (by decide))
        have hw2 := jw_S_push hw 3
        rw [show (nI 3 : Int32) = 3 from rfl] at hw2
        generalize hS2 : (jx_f (jx_g S1 4 (upd (S1.2.1 4) w1.length 3)) 10 (nI (w1.length + 1))) = S2 at f2 hw2 ⊢
        have h92 : S2.1 9 = nI k1 := by rw [← hS2, js_f1, if_neg (by decide), js_g1]; exact h9
        rw [h92, nI_1]
        have j2 := jq_go hc hT hq k1U (jq_a5o (Or.inl c126)) (by decide) (by rw [c126]; decide)
        refine jm_ret ⟨⟨jf_trans f1 (jf_trans f2 (jf_f (by decide))), 3 :: w1, l1, k1 + 1, by omega, ⟨jr_S_x (jr_S_f hS (f2.1 8 (by decide)) (f2.2.1 3 (by decide))) _, by rw [js_f1, if_pos rfl], j2, jw_S_f hw2 (jf_f (by decide)), ⟨?_, ?_, i3, ?_, ?_⟩, ?_⟩⟩, ?_⟩
        · intro y hy
          rcases List.mem_cons.mp hy with e | e
          · omega
          · exact i1 y e
        · unfold jw_z; rw [if_neg (by omega), i2]; rfl
        · unfold jw_nb; rw [if_neg (by omega)]; exact i4
        · rw [List.length_cons]; omega
        · refine jw_R_step hR (by omega) (by omega) (Nat.le_refl _) (fun a8 T tT tP tW => ?_)
          refine ⟨jx_f (jx_g T 4 (upd (T.2.1 4) w1.length 3)) 7 (nI (w1.length + 1)), ?_, jg_trans (jg_g (by decide)) (jg_f (by decide)), jw_P_push tP 3, ?_⟩
          · unfold b_M_readFormula_38
            dsimp only
            rw [tT.1, if_neg (nI_ge (by omega) (by omega)), f_M_at_eq hc tT (by omega), Option.bind_some, if_pos c126, f_M_wait0_eq tP.1 (by omega), Option.bind_some, nI_1]
          · exact jw_T_c tW (by rw [js_f2, f2.2.1 0 (by decide)]) (by rw [js_f2, f2.2.1 1 (by decide)]) (by rw [js_f1, if_neg (by decide), js_g1]) (by rw [js_f2, js_g2, if_neg (by decide)]) (by rw [js_f2, js_g2, if_neg (by decide)])
        · rw [js_f1, if_pos rfl]; exact mu
      · rw [if_neg c126, if_neg c40]
        exact jm_ret ⟨f1, w1, l1, k1, hk1, ⟨hS, h9, hq, hw, ⟨i1, i2, i3, i4, i5⟩, hR⟩, c126, c40⟩
theorem f_R_takeClosings_ok {S : jx_S} {q : Int32} {wl sl : List Nat} {a l k : Nat} (hc : jr_ch ch U) (hT : jr_T T0 ch U) (h : jv T0 Tb ch U S q wl sl a l k 1) (hC : jq_C ch q l k) : jm_T (f_R_takeClosings S) (fun S' => jf [3, 9, 10, 11] [2] S S' ∧ ∃ q' wl' sl' l' k', k ≤ k' ∧ jv T0 Tb ch U S' q' wl' sl' a l' k' 1 ∧ jq_C ch q' l' k' ∧ ¬ (0 < l' ∧ ch k' = 41)) := by
  have u80 := hc.1
  unfold f_R_takeClosings
  refine jm_bind (jm_loop (fun z => jf [3, 9, 10, 11] [2] S z ∧ ∃ q' wl' sl' l' k', k ≤ k' ∧ jv T0 Tb ch U z q' wl' sl' a l' k' 1 ∧ jq_C ch q' l' k') (fun z => U - (z.1 9).toNatClampNeg) (fun S' => jf [3, 9, 10, 11] [2] S S' ∧ ∃ q' wl' sl' l' k', k ≤ k' ∧ jv T0 Tb ch U S' q' wl' sl' a l' k' 1 ∧ jq_C ch q' l' k' ∧ ¬ (0 < l' ∧ ch k' = 41)) ?_ jx_N _ ⟨jf_refl _ _ _, q, wl, sl, l, k, Nat.le_refl _, h, hC⟩ (by unfold jx_N; omega)) (fun S' h => jm_ret h)
  rintro S1 ⟨f1, q1, w1, s1, l1, k1, hk1, ⟨hS, h9, hq, hw, hI, hR⟩, hC1⟩
  have kU := hq.1
  have lk := hq.2.1
  unfold b_R_takeClosings_0
  rw [hw.2.2.2.2.2]
  by_cases e : l1 = 0
  · subst e
    rw [if_pos (by decide)]
    exact jm_ret ⟨f1, q1, w1, s1, 0, k1, hk1, ⟨hS, h9, hq, hw, hI, hR⟩, hC1, fun z => by omega⟩
  · rw [if_neg (nI_nle (by omega) (by omega)), f_R_peek_eq hc hS h9 kU, Option.bind_some]
    by_cases c41 : ch k1 = 41
    · have k1U : k1 < U := jr_ch_lt hc (by rw [c41]; decide)
      rw [if_pos c41]
      refine jm_bind (f_R_release_of (b := 1) (by omega) (by omega) (show k1 ≤ 80 by omega) hw hI) (fun S2 ⟨f2, hw2⟩ => ?_)
      have hI2 := jw_rel_I (b := 1) (by omega) w1 s1 hI
      -- the top is a parenthesis that waits
      have top : ∃ w2, (jw_rel 1 w1 s1).1 = 0 :: w2 := by
        rcases jw_rel_head (b := 1) w1 s1 with z | ⟨x, w2, z1, z2⟩
        · have := hI2.2.1
          rw [z] at this
          exact absurd this (by show ¬ 0 = l1; omega)
        · exact ⟨w2, by rw [z1, show x = 0 by omega]⟩
      obtain ⟨w2, hw2e⟩ := top
      generalize hs2 : (jw_rel 1 w1 s1).2 = s2 at *
      rw [hw2e] at hw2 hI2
      obtain ⟨a1, a2, a3, a4, a5, a6⟩ := hw2
      obtain ⟨i1, i2, i3, i4, i5⟩ := hI2
      have e10 : nI (0 :: w2).length - 1 = nI w2.length := nI_pred _
      have e11 : nI l1 - 1 = nI (l1 - 1) := by rw [show l1 = (l1 - 1) + 1 by omega, nI_pred]; rfl
      have h92 : S2.1 9 = nI k1 := (f2.1 9 (by decide)).trans h9
      rw [a1, a6, h92, e10, e11, nI_1]
      have j2 := jq_step hc hT hq k1U (q' := 18) (by rw [hC1.2, c41]; unfold jq_bh; rw [if_neg (by decide), if_neg (by decide), if_pos rfl, if_neg (nI_nle (by omega) (by omega))]) (by decide) (fun _ => by omega)
      rw [if_neg (by rw [c41]; decide), if_pos c41, if_neg (by rw [c41]; decide)] at j2
      have f3 : jf [3, 9, 10, 11] [2] S1 (jx_f (jx_f (jx_f S2 10 (nI w2.length)) 11 (nI (l1 - 1))) 9 (nI (k1 + 1))) := jf_trans (jf_wk f2 (by decide) (by decide)) (jf_trans (jf_trans (jf_f (by decide)) (jf_f (by decide))) (jf_f (by decide)))
      refine jm_ret ⟨⟨jf_trans f1 f3, 18, w2, s2, l1 - 1, k1 + 1, by omega, ⟨jr_S_f hS (f3.1 8 (by decide)) (f3.2.1 3 (by decide)), by rw [js_f1, if_pos rfl], j2, ⟨?_, a2.2, ?_, a4, ?_, ?_⟩, ⟨fun y hy => i1 y (List.mem_cons_of_mem _ hy), ?_, i3, ?_, ?_⟩, ?_⟩, ⟨by simp, jq_a18⟩⟩, ?_⟩
      · rw [js_f1, if_neg (by decide), js_f1, if_neg (by decide), js_f1, if_pos rfl]
      · rw [js_f1, if_neg (by decide), js_f1, if_neg (by decide), js_f1, if_neg (by decide)]; exact a3
      · rw [js_f1, if_neg (by decide), js_f1, if_neg (by decide), js_f1, if_neg (by decide)]; exact a5
      · rw [js_f1, if_neg (by decide), js_f1, if_pos rfl]
      · unfold jw_z at i2; rw [if_pos rfl] at i2; omega
      · unfold jw_nb at i4; rw [if_neg (by omega)] at i4; exact i4
      · rw [List.length_cons] at i5; omega
      · refine jw_R_step hR (by omega) (by omega) (Nat.le_refl _) (fun a8 T tT tP tW => ?_)
        have i5' := hI.2.2.2.2
        obtain ⟨T2, g1, g2, g3⟩ := f_M_giveAll_of (b := 1) (by omega) (by omega) tP hI.1 (by omega)
        rw [hs2, hw2e] at g3
        refine ⟨jx_f T2 7 (nI w2.length), ?_, jg_trans (jg_wk g2 (by decide) (by decide) (by decide)) (jg_f (by decide)), ⟨by rw [js_f1, if_pos rfl], g3.2.1.2, by rw [js_f1, if_neg (by decide)]; exact g3.2.2.1, g3.2.2.2⟩, ?_⟩
        · unfold b_M_readFormula_38
          dsimp only
          rw [tT.1, if_neg (nI_ge (by omega) (by omega)), f_M_at_eq hc tT (by omega), Option.bind_some, if_neg (by rw [c41]; decide), if_neg (by rw [c41]; decide), if_pos c41]
          rw [show f_M_giveAll T 1 = some T2 from g1, Option.bind_some, g3.1, e10, nI_1]
        · exact jw_T_c tW (by rw [js_f2, js_f2, js_f2, f2.2.1 0 (by decide)]) (by rw [js_f2, js_f2, js_f2, f2.2.1 1 (by decide)]) (by rw [js_f1, if_neg (by decide), g2.1 5 (by decide)]) (by rw [js_f2, g2.2.1 2 (by decide)]) (by rw [js_f2, g2.2.1 9 (by decide)])
      · rw [js_f1, if_pos rfl, h9, nI_clamp (by omega), nI_clamp (by omega)]
        omega
    · rw [if_neg c41]
      exact jm_ret ⟨f1, q1, w1, s1, l1, k1, hk1, ⟨hS, h9, hq, hw, hI, hR⟩, hC1, fun z => c41 z.2⟩
theorem f_R_takeJoint_ok {S : jx_S} {q : Int32} {wl sl : List Nat} {a l k : Nat} (hc : jr_ch ch U) (hT : jr_T T0 ch U) (h : jv T0 Tb ch U S q wl sl a l k 1) (hC : jq_C ch q l k) : jm_T (f_R_takeJoint S) (fun o => jf [3, 9, 10] [2, 4] S o.2 ∧ ((o.1 = 1 ∧ ∃ wl' sl', jv T0 Tb ch U o.2 5 wl' sl' a l (k + 1) 0 ∧ k < U) ∨ (o.1 = 0 ∧ o.2 = S ∧ ch k ≠ 38 ∧ ch k ≠ 124))) := by
  have u80 := hc.1
  obtain ⟨hS, h9, hq, hw, hI, hR⟩ := h
  have kU := hq.1
  have main : ∀ b : Nat, (b = 2 ∧ ch k = 38) ∨ (b = 1 ∧ ch k = 124) → jm_T ((f_R_release (jx_f S 9 (nI (k + 1))) (nI b)).bind fun q37 => (f_R_hold q37 (nI b)).bind fun q42 => some ((1 : Int32), q42)) (fun o => jf [3, 9, 10] [2, 4] S o.2 ∧ ((o.1 = 1 ∧ ∃ wl' sl', jv T0 Tb ch U o.2 5 wl' sl' a l (k + 1) 0 ∧ k < U) ∨ (o.1 = 0 ∧ o.2 = S ∧ ch k ≠ 38 ∧ ch k ≠ 124))) := by
    intro b hb
    have k1U : k < U := jr_ch_lt hc (by rcases hb with ⟨-, e⟩ | ⟨-, e⟩ <;> rw [e] <;> decide)
    have f0 : jf [9] [] S (jx_f S 9 (nI (k + 1))) := jf_f (by decide)
    refine jm_bind (f_R_release_of (b := b) (by omega) (by omega) (show k ≤ 80 by omega) (jw_S_f hw (jf_f (by decide))) hI) (fun S2 ⟨f2, hw2⟩ => ?_)
    have hI2 := jw_rel_I (b := b) (by omega) wl sl hI
    have i5' := hI.2.2.2.2
    have f02 : jf [3, 9, 10] [2, 4] S S2 := jf_trans (jf_wk f0 (by decide) (by decide)) (jf_wk f2 (by decide) (by decide))
    obtain ⟨i1, i2, i3, i4, i5⟩ := hI2
    rw [f_R_hold_eq hw2.1 (by omega), Option.bind_some]
    have hw3 := jw_S_push hw2 b
    have j2 := jq_go hc hT hq k1U (q' := 5) (by rw [hC.2]; rcases hb with ⟨-, e⟩ | ⟨-, e⟩ <;> rw [e] <;> rfl) (by decide) (by rcases hb with ⟨-, e⟩ | ⟨-, e⟩ <;> rw [e] <;> decide)
    have f3 : jf [3, 9, 10] [2, 4] S (jx_f (jx_g S2 4 (upd (S2.2.1 4) (jw_rel b wl sl).1.length (nI b))) 10 (nI ((jw_rel b wl sl).1.length + 1))) := jf_trans f02 (jf_trans (jf_g (by decide)) (jf_f (by decide)))
    refine jm_ret ⟨f3, Or.inl ⟨rfl, b :: (jw_rel b wl sl).1, (jw_rel b wl sl).2, ⟨jr_S_f hS (f3.1 8 (by decide)) (f3.2.1 3 (by decide)), ?_, j2, hw3, ⟨?_, ?_, i3, ?_, ?_⟩, ?_⟩, k1U⟩⟩
    · rw [js_f1, if_neg (by decide), js_g1, f2.1 9 (by decide), js_f1, if_pos rfl]
    · intro y hy
      rcases List.mem_cons.mp hy with e | e
      · omega
      · exact i1 y e
    · unfold jw_z; rw [if_neg (by omega), i2]; rfl
    · unfold jw_nb; rw [if_pos (by omega)]; exact i4
    · rw [List.length_cons]; omega
    · refine jw_R_step hR (by omega) (by omega) (Nat.le_refl _) (fun a8 T tT tP tW => ?_)
      obtain ⟨T2, g1, g2, g3⟩ := f_M_giveAll_of (b := b) (by omega) (by omega) tP hI.1 (by omega)
      refine ⟨jx_f (jx_g T2 4 (upd (T2.2.1 4) (jw_rel b wl sl).1.length (nI b))) 7 (nI ((jw_rel b wl sl).1.length + 1)), ?_, jg_trans (jg_wk g2 (by decide) (by decide) (by decide)) (jg_trans (jg_g (by decide)) (jg_f (by decide))), jw_P_push g3 b, ?_⟩
      · unfold b_M_readFormula_38 k_M_readFormula_38_116
        dsimp only
        rw [tT.1, if_neg (nI_ge (by omega) (by omega)), f_M_at_eq hc tT (by omega), Option.bind_some]
        have eb : (if ch k = 38 then 2 else 1 : Int32) = nI b := by
          rcases hb with ⟨rfl, e⟩ | ⟨rfl, e⟩
          · rw [if_pos e]; rfl
          · rw [if_neg (by rw [e]; decide)]; rfl
        rw [if_neg (by rcases hb with ⟨-, e⟩ | ⟨-, e⟩ <;> rw [e] <;> decide), if_neg (by rcases hb with ⟨-, e⟩ | ⟨-, e⟩ <;> rw [e] <;> decide), if_neg (by rcases hb with ⟨-, e⟩ | ⟨-, e⟩ <;> rw [e] <;> decide), eb, g1, Option.bind_some, f_M_wait0_eq g3.1 (by omega), Option.bind_some, nI_1]
        rcases hb with ⟨-, e⟩ | ⟨-, e⟩
        · rw [if_pos e]
        · rw [if_neg (by rw [e]; decide), if_pos e]
      · exact jw_T_c tW (by rw [f3.2.1 0 (by decide)]) (by rw [f3.2.1 1 (by decide)]) (by rw [js_f1, if_neg (by decide), js_g1, g2.1 5 (by decide)]) (by rw [js_f2, js_g2, if_neg (by decide), g2.2.1 2 (by decide)]) (by rw [js_f2, js_g2, if_neg (by decide), g2.2.1 9 (by decide)])
  unfold f_R_takeJoint
  rw [f_R_peek_eq hc hS h9 kU, Option.bind_some, f_R_take_eq hc hS h9 kU]
  by_cases c38 : ch k = 38
  · rw [if_pos c38, Option.bind_some, if_neg (by dsimp only; decide), if_pos c38]
    exact main 2 (Or.inl ⟨rfl, c38⟩)
  · rw [if_neg c38, Option.bind_some, if_pos rfl]
    dsimp only
    rw [f_R_take_eq hc hS h9 kU]
    by_cases c124 : ch k = 124
    · rw [if_pos c124, Option.bind_some, if_neg (by dsimp only; decide), if_neg c38]
      exact main 1 (Or.inr ⟨rfl, c124⟩)
    · rw [if_neg c124, Option.bind_some, if_pos rfl]
      exact jm_ret ⟨jf_refl _ _ _, Or.inr ⟨rfl, rfl, c38, c124⟩⟩
end JW
