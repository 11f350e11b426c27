/-! an atom, on both sides -/
theorem f_S_addStep_eq {S : jx_S} {sn : Nat} (h3 : S.1 3 = nI sn) (hs : sn < 80) (x : Int32) : f_S_addStep S x = some (jx_f (jx_g S 2 (upd (S.2.1 2) sn x)) 3 (nI (sn + 1))) := by
  unfold f_S_addStep
  rw [h3, if_neg (show ¬ (80 : Int32) ≤ nI sn from nI_ge (b := 80) (by omega) (by omega)), if_pos (ji_inN (by omega) (by decide)), nI_clamp (by omega), nI_1]
theorem f_S_addAtom_ok {S : jx_S} {a sn : Nat} {x : Int32} (h4 : S.1 4 = nI a) (ha : a ≤ 80) (h3 : S.1 3 = nI sn) (hs : sn < 80) (hx : x = 60 ∨ x = 61 ∨ x = 62) : jm_T (f_S_addAtom S x) (fun S' => jf [3, 4] [0, 1, 2] S S' ∧ S'.1 4 = nI (a + 1) ∧ S'.1 3 = nI (sn + 1) ∧ S'.2.1 2 = upd (S.2.1 2) sn (nI (4 + a)) ∧ (a < 8 → S'.2.1 1 = upd (S.2.1 1) a x ∧ (∀ j, j < 4 → S'.2.1 0 (4 * a + j) = S.2.1 5 j) ∧ ∀ j, j < 4 * a → S'.2.1 0 j = S.2.1 0 j)) := by
  have tail : ∀ S1 : jx_S, jf [] [0, 1] S S1 → jm_T (k_S_addAtom_35 S1 x) (fun S' => jf [3, 4] [2] S1 S' ∧ S'.1 4 = nI (a + 1) ∧ S'.1 3 = nI (sn + 1) ∧ S'.2.1 2 = upd (S.2.1 2) sn (nI (4 + a))) := by
    intro S1 f
    unfold k_S_addAtom_35
    rw [f_S_addStep_eq ((f.1 3 (by decide)).trans h3) hs, Option.bind_some, f.1 4 (by decide), h4, show (4 : Int32) = nI 4 from rfl, nI_add, f.2.1 2 (by decide)]
    refine jm_ret ⟨jf_trans (jf_trans (jf_g (by decide)) (jf_f (by decide))) (jf_f (by decide)), ?_, ?_, ?_⟩
    · rw [js_f1, if_pos rfl, js_f1, if_neg (by decide), js_g1, f.1 4 (by decide), h4, nI_1]
    · rw [js_f1, if_neg (by decide), js_f1, if_pos rfl]
    · rw [js_f2, js_f2, js_g2, if_pos rfl]
  unfold f_S_addAtom
  rw [h4]
  by_cases a8 : a < 8
  · have e4 : nI a * 4 = nI (4 * a) := by rw [show (4 : Int32) = nI 4 from rfl, nI_mul, Nat.mul_comm]
    have ck : jx_ck 0 (nI (4 * a)) 4 4 32 = true := by
      unfold jx_ck
      refine decide_eq_true ⟨by decide, nI_pos (by omega), by decide, by decide, ?_⟩
      rw [nI_clamp (by omega)]
      show 4 * a + 4 ≤ 32
      omega
    rw [if_neg (show ¬ (8 : Int32) ≤ nI a from nI_ge (b := 8) (by omega) (by omega)), e4, if_pos ck, if_pos (ji_inN (by omega) (by decide)), nI_clamp (show a < 2147483648 by omega), nI_clamp (show 4 * a < 2147483648 by omega)]
    have nx : vp_nar .char x = x := by rcases hx with rfl | rfl | rfl <;> decide
    rw [nx]
    obtain ⟨S1, hS1⟩ : ∃ S1, S1 = jx_g (jx_g S 0 (va_cpy (S.2.1 5) (S.2.1 0) (0 : Int32).toNatClampNeg (4 * a) (4 : Int32).toNatClampNeg)) 1 (upd (S.2.1 1) a x) := ⟨_, rfl⟩
    rw [← hS1]
    have f1 : jf [] [0, 1] S S1 := by rw [hS1]; exact jf_trans (jf_g (by decide)) (jf_g (by decide))
    refine jm_mono (tail S1 f1) (fun S' h => ⟨jf_trans (jf_wk f1 (by decide) (by decide)) (jf_wk h.1 (by decide) (by decide)), h.2.1, h.2.2.1, h.2.2.2, fun _ => ⟨?_, fun j hj => ?_, fun j hj => ?_⟩⟩)
    · rw [h.1.2.1 1 (by decide), hS1, js_g2, if_pos rfl]
    · rw [h.1.2.1 0 (by decide), hS1, js_g2, if_neg (by decide), js_g2, if_pos rfl]
      show (if 4 * a ≤ 4 * a + j ∧ 4 * a + j < 4 * a + 4 then S.2.1 5 (0 + (4 * a + j - 4 * a)) else _) = _
      rw [if_pos (by omega), show 0 + (4 * a + j - 4 * a) = j by omega]
    · rw [h.1.2.1 0 (by decide), hS1, js_g2, if_neg (by decide), js_g2, if_pos rfl]
      show (if 4 * a ≤ j ∧ j < 4 * a + 4 then _ else S.2.1 0 j) = _
      rw [if_neg (by omega)]
  · rw [if_pos (show (8 : Int32) ≤ nI a from nI_le (a := 8) (by omega) (by omega))]
    exact jm_mono (tail S (jf_refl _ _ _)) (fun S' h => ⟨jf_wk h.1 (by decide) (by decide), h.2.1, h.2.2.1, h.2.2.2, fun z => absurd z a8⟩)
theorem f_M_give_eq {T : jx_S} {sn : Nat} (h6 : T.1 6 = nI sn) (hs : sn < 90) (x : Int32) : f_M_give T x = some (jx_f (jx_g T 3 (upd (T.2.1 3) sn x)) 6 (nI (sn + 1))) := by
  unfold f_M_give
  rw [h6, if_pos (ji_inN (by omega) (by decide)), nI_clamp (by omega), nI_1]
section JV
variable {ch : Nat → Int32} {U : Nat}
/-- what the reference does with an atom -/
def jr_AtomRef (ch : Nat → Int32) (U : Nat) (S S' : jx_S) (k k' a sn : Nat) : Prop := a < 8 → ∀ T, jr_T T ch U → T.1 5 = nI a → T.1 6 = nI sn → (∀ j, j < 4 → T.2.1 2 (4 * a + j) = 0) → ∃ T' x, b_M_readFormula_38 (T, nI k) = some (Sum.inl (T', nI k')) ∧ jg [5, 6] [2, 3, 9] [] T T' ∧ T'.1 5 = nI (a + 1) ∧ T'.1 6 = nI (sn + 1) ∧ T'.2.1 3 = upd (T.2.1 3) sn (nI a) ∧ (∀ j, j < 4 → S'.2.1 0 (4 * a + j) = T'.2.1 2 (4 * a + j)) ∧ jr_out a T T' ∧ (∀ j, j < 4 * a → S'.2.1 0 j = S.2.1 0 j) ∧ (x = 60 ∨ x = 61 ∨ x = 62) ∧ S'.2.1 1 = upd (S.2.1 1) a x ∧ T'.2.1 9 = upd (T.2.1 9) a x
theorem f_R_takeAtom_ok {S T0 : jx_S} {l k c a sn : Nat} (hc : jr_ch ch U) (hS : jr_S S ch U) (hT : jr_T T0 ch U) (h9 : S.1 9 = nI k) (hj : jq T0 ch U 5 l k c) (n1 : ch k ≠ 126) (n2 : ch k ≠ 40) (hU : 0 < U) (h4 : S.1 4 = nI a) (ha : a ≤ 80) (h3 : S.1 3 = nI sn) (hs : sn < 80) :
    jm_T (f_R_takeAtom S) (fun o => (o.1 = 0 ∧ jf [9] [5] S o.2 ∧ jr_Dead T0 o.2) ∨ (o.1 = 1 ∧ jf [3, 4, 9] [0, 1, 2, 5] S o.2 ∧ ∃ k' q', k + 3 ≤ k' ∧ o.2.1 9 = nI k' ∧ jq T0 ch U q' l k' (c + 1) ∧ (q' = 14 ∨ q' = 15 ∨ q' = 16 ∨ q' = 17) ∧ f_M_after q' (ch k') (nI l) = some (jq_tail 12 (ch k') (nI l)) ∧ ch k' ≠ 43 ∧ ch k' ≠ 45 ∧ o.2.1 4 = nI (a + 1) ∧ o.2.1 3 = nI (sn + 1) ∧ o.2.2.1 2 = upd (S.2.1 2) sn (nI (4 + a)) ∧ jr_AtomRef ch U S o.2 k k' a sn)) := by
  have u80 := hc.1
  unfold f_R_takeAtom
  refine jm_bind (jm_loop (fun z => ∃ j, j ≤ 4 ∧ z.2 = nI j ∧ jf [] [5] S z.1 ∧ ∀ i, i < j → z.1.2.1 5 i = 0) (fun z => 4 - z.2.toNatClampNeg) (fun S1 => jf [] [5] S S1 ∧ ∀ i, i < 4 → S1.2.1 5 i = 0) ?_ jx_N _ ⟨0, by omega, rfl, jf_refl _ _ _, fun i hi => by omega⟩ (by show 4 - _ < jx_N; unfold jx_N; omega)) ?_
  · rintro ⟨S1, i1⟩ ⟨j, g1, g2, g3, g4⟩
    dsimp only at g2 g3 g4
    subst g2
    unfold b_R_takeAtom_2
    dsimp only
    by_cases e : j = 4
    · subst e
      rw [if_pos (by decide)]
      exact jm_ret ⟨g3, g4⟩
    · rw [if_neg (show ¬ (4 : Int32) ≤ nI j from nI_ge (b := 4) (by omega) (by omega)), if_pos (ji_inN (by omega) (by decide)), nI_1]
      refine jm_ret ⟨⟨j + 1, by omega, rfl, jf_trans g3 (jf_g (by decide)), fun i hi => ?_⟩, ?_⟩
      · dsimp only
        rw [js_g2, if_pos rfl, nI_clamp (by omega)]
        unfold upd
        by_cases e2 : i = j
        · rw [if_pos e2]
        · rw [if_neg e2]
          exact g4 i (by omega)
      · dsimp only
        rw [nI_clamp (by omega), nI_clamp (by omega)]
        omega
  · intro S1 ⟨f1, z1⟩
    have hS1 : jr_S S1 ch U := jr_S_f hS (f1.1 8 (by decide)) (f1.2.1 3 (by decide))
    refine jm_bind (f_R_takeSum_ok 1 hc hS1 hT ((f1.1 9 (by decide)).trans h9) hj (Or.inl ⟨rfl, rfl, n1, n2⟩) hU) ?_
    rintro ⟨o1, S2⟩ ⟨f2, h2⟩
    dsimp only at f2 h2 ⊢
    rcases h2 with ⟨rfl, dead⟩ | ⟨rfl, hne, k2, q2, g1, g2, g3, g4, g5, g6, g7, g8⟩
    · rw [if_pos rfl]
      exact jm_ret (Or.inl ⟨rfl, jf_trans (jf_wk f1 (by decide) (by decide)) f2, dead⟩)
    · rw [if_neg (by decide)]
      have f02 : jf [9] [5] S S2 := jf_trans (jf_wk f1 (by decide) (by decide)) f2
      have hS2 : jr_S S2 ch U := jr_S_f hS1 (f2.1 8 (by decide)) (f2.2.1 3 (by decide))
      have k2U := g3.1
      rw [f_R_peek_eq hc hS2 g2 k2U, Option.bind_some, f_R_take_eq hc hS2 g2 k2U]
      -- behind the relation
      have rest : ∀ x, ch k2 = x → (x = 60 ∨ x = 61 ∨ x = 62) → jm_T (k_R_takeAtom_67 (jx_f S2 9 (nI (k2 + 1))) x 1) (fun o => (o.1 = 0 ∧ jf [9] [5] S o.2 ∧ jr_Dead T0 o.2) ∨ (o.1 = 1 ∧ jf [3, 4, 9] [0, 1, 2, 5] S o.2 ∧ ∃ k' q', k + 3 ≤ k' ∧ o.2.1 9 = nI k' ∧ jq T0 ch U q' l k' (c + 1) ∧ (q' = 14 ∨ q' = 15 ∨ q' = 16 ∨ q' = 17) ∧ f_M_after q' (ch k') (nI l) = some (jq_tail 12 (ch k') (nI l)) ∧ ch k' ≠ 43 ∧ ch k' ≠ 45 ∧ o.2.1 4 = nI (a + 1) ∧ o.2.1 3 = nI (sn + 1) ∧ o.2.2.1 2 = upd (S.2.1 2) sn (nI (4 + a)) ∧ jr_AtomRef ch U S o.2 k k' a sn)) := by
        intro x hx h6
        have k2U' : k2 < U := jr_ch_lt hc (by rw [hx]; rcases h6 with e | e | e <;> rw [e] <;> decide)
        have j3 := jq_step hc hT g3 k2U' (q' := 12) (by rw [g5, hx]; rcases h6 with e | e | e <;> rw [e] <;> rfl) (by decide) (fun e => by rw [hx] at e; rcases h6 with z | z | z <;> rw [z] at e <;> exact absurd e (by decide))
        rw [if_neg (by rw [hx]; rcases h6 with e | e | e <;> rw [e] <;> decide), if_neg (by rw [hx]; rcases h6 with e | e | e <;> rw [e] <;> decide), if_pos (by rw [hx]; exact h6)] at j3
        unfold k_R_takeAtom_67
        rw [if_neg (by decide)]
        have h93 : (jx_f S2 9 (nI (k2 + 1))).1 9 = nI (k2 + 1) := by rw [js_f1, if_pos rfl]
        refine jm_bind (f_R_takeSum_ok (-1) hc (jr_S_x hS2 _) hT h93 j3 (Or.inr ⟨rfl, rfl⟩) hU) ?_
        rintro ⟨o4, S4⟩ ⟨f4, h4'⟩
        dsimp only at f4 h4' ⊢
        have f24 : jf [9] [5] S2 S4 := jf_trans (jf_f (by decide)) f4
        have f04 := jf_trans f02 f24
        rcases h4' with ⟨rfl, dead⟩ | ⟨rfl, hne4, k5, q5, r1, r2, r3, r4, r5, r6, r7, r8⟩
        · rw [if_pos rfl]
          exact jm_ret (Or.inl ⟨rfl, f04, dead⟩)
        · rw [if_neg (by decide)]
          refine jm_bind (f_S_addAtom_ok ((f04.1 4 (by decide)).trans h4) ha ((f04.1 3 (by decide)).trans h3) hs h6) (fun S5 ⟨s1, s2, s3, s4, s5⟩ => jm_ret (Or.inr ⟨rfl, jf_trans (jf_wk f04 (by decide) (by decide)) (jf_wk s1 (by decide) (by decide)), k5, q5, by omega, (s1.1 9 (by decide)).trans r2, r3, by rcases r4 with e | e | e | e <;> rw [e] <;> decide, r5, r6, r7, s2, s3, by rw [s4, f04.2.1 2 (by decide)], ?_⟩))
          intro a8 T tT t5 t6 tz
          dsimp only
          obtain ⟨s6, s7, s8⟩ := s5 a8
          have D1 : jr_D S1 T a := fun j hj => by rw [z1 j hj, tz j hj]
          obtain ⟨T1, u1, u2, u3, u4⟩ := g8 T a a8 tT D1
          have tT1 : jr_T T1 ch U := jr_T_g tT (u3.1 1 (by decide)) (u3.2.1 1 (by decide))
          obtain ⟨T2, hT2⟩ : ∃ T2, T2 = jx_g T1 9 (upd (T1.2.1 9) a x) := ⟨_, rfl⟩
          have v2 : jg [] [9] [] T1 T2 := by rw [hT2]; exact jg_g (by decide)
          have tT2 : jr_T T2 ch U := jr_T_g tT1 (v2.1 1 (by decide)) (v2.2.1 1 (by decide))
          have D2 : jr_D (jx_f S2 9 (nI (k2 + 1))) T2 a := fun j hj => by rw [v2.2.1 2 (by decide)]; exact u2 j hj
          obtain ⟨T3, w1, w2, w3, w4⟩ := r8 T2 a a8 tT2 D2
          have v03 : jg [] [2, 9] [] T T3 := jg_trans (jg_wk u3 (by decide) (by decide) (by decide)) (jg_trans (jg_wk v2 (by decide) (by decide) (by decide)) (jg_wk w3 (by decide) (by decide) (by decide)))
          have e5 : T3.1 5 = nI a := (v03.1 5 (by decide)).trans t5
          have e6 : T3.1 6 = nI sn := (v03.1 6 (by decide)).trans t6
          have kU : k < U := by have := hj.1; omega
          have nn : ch k ≠ 41 ∧ ch k ≠ 38 ∧ ch k ≠ 124 := by
            rcases hne with e | e
            · rw [e]; decide
            · have := jr_k2_ne e
              exact ⟨this.2.2.1, this.2.2.2.1, this.2.2.2.2⟩
          refine ⟨jx_f (jx_f (jx_g T3 3 (upd (T3.2.1 3) sn (nI a))) 6 (nI (sn + 1))) 5 (nI (a + 1)), x, ?_, ?_, ?_, ?_, ?_, ?_, ?_, ?_, h6, ?_, ?_⟩
          · unfold b_M_readFormula_38
            dsimp only
            rw [tT.1, if_neg (nI_ge (by omega) (by omega)), f_M_at_eq hc tT (by omega), Option.bind_some, if_neg n1, if_neg n2, if_neg nn.1, if_neg nn.2.1, if_neg nn.2.2, t5, u1, Option.bind_some]
            dsimp only
            rw [f_M_at_eq hc tT1 (by omega), Option.bind_some, u3.1 5 (by decide), t5, if_pos (ji_inN (by omega) (by decide)), nI_clamp (by omega), hx, ← hT2, nI_1, w1, Option.bind_some]
            dsimp only
            rw [e5, f_M_give_eq e6 (by omega), Option.bind_some]
            rw [js_f1, if_neg (by decide), js_g1, e5, nI_1, show nI k5 - 1 + 1 = nI k5 from by rw [show k5 = (k5 - 1) + 1 by omega, nI_pred, nI_1]]
          · exact jg_trans (jg_wk v03 (by decide) (by decide) (by decide)) (jg_trans (jg_trans (jg_g (by decide)) (jg_f (by decide))) (jg_f (by decide)))
          · rw [js_f1, if_pos rfl]
          · rw [js_f1, if_neg (by decide), js_f1, if_pos rfl]
          · rw [js_f2, js_f2, js_g2, if_pos rfl, v03.2.1 3 (by decide)]
          · intro j hj
            rw [js_f2, js_f2, js_g2, if_neg (by decide), s7 j hj]
            exact w2 j hj
          · intro j hj
            rw [js_f2, js_f2, js_g2, if_neg (by decide), w4 j hj, v2.2.1 2 (by decide), u4 j hj]
          · intro j hj
            rw [s8 j hj, f04.2.1 0 (by decide)]
          · rw [s6, f04.2.1 1 (by decide)]
          · rw [js_f2, js_f2, js_g2, if_neg (by decide), w3.2.1 9 (by decide), hT2, js_g2, if_pos rfl, u3.2.1 9 (by decide)]
      unfold k_R_takeAtom_62
      by_cases c60 : ch k2 = 60
      · rw [if_pos c60, Option.bind_some, if_neg (by dsimp only; decide)]
        exact rest _ rfl (Or.inl c60)
      · rw [if_neg c60, Option.bind_some, if_pos rfl]
        dsimp only
        rw [f_R_take_eq hc hS2 g2 k2U]
        by_cases c61 : ch k2 = 61
        · rw [if_pos c61, Option.bind_some, if_neg (by dsimp only; decide)]
          exact rest _ rfl (Or.inr (Or.inl c61))
        · rw [if_neg c61, Option.bind_some, if_pos rfl]
          dsimp only
          rw [f_R_take_eq hc hS2 g2 k2U]
          by_cases c62 : ch k2 = 62
          · rw [if_pos c62, Option.bind_some, if_neg (show ¬ (if (1 : Int32) = 0 then 0 else 1 : Int32) = 0 by decide)]
            have := rest _ rfl (Or.inr (Or.inr c62))
            unfold k_R_takeAtom_67 at this
            rw [if_neg (by decide)] at this
            exact this
          · rw [if_neg c62, Option.bind_some, if_pos (by rfl)]
            refine jm_ret (Or.inl ⟨rfl, f02, k2, by omega, g2, ?_⟩)
            by_cases e : k2 = U
            · subst e
              rw [jq_end hc hT g3, if_neg]
              rintro ⟨-, z⟩
              rcases g4 with e | e | e | e <;> (rw [e] at z; revert z; decide)
            · refine jq_dead hc hT g3 (by omega) g5 ?_
              unfold jq_tail
              rw [if_neg g6, if_neg g7, if_neg (by decide), if_neg c60, if_neg c61, if_neg c62]
              decide
end JV
