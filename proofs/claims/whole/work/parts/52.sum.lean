/-! a sum, on both sides -/
def jr_D (S T : jx_S) (p : Nat) : Prop := ∀ j, j < 4 → S.2.1 5 j = T.2.1 2 (4 * p + j)
def jr_Dead (T0 S : jx_S) : Prop := ∃ k, k ≤ 80 ∧ S.1 9 = nI k ∧ f_M_illAt T0 = some (nI k)
def jr_out (p : Nat) (T T' : jx_S) : Prop := ∀ j, j < 4 * p ∨ 4 * p + 4 ≤ j → T'.2.1 2 j = T.2.1 2 j
section JU
variable {ch : Nat → Int32} {U : Nat}
theorem jr_k2_eq {k : Nat} (d : ch k < 48 ∨ 57 < ch k) (h1 : ch k ≠ 120) (h2 : ch k ≠ 121) : jr_k2 ch k = k := by
  have e1 : jr_k1 ch k = k := by
    unfold jr_k1
    rw [if_neg (by rintro ⟨a, b⟩; exact d.elim a b)]
  unfold jr_k2
  rw [e1]
  unfold jr_ln
  rw [if_neg h1, if_neg h2]
  rfl
theorem jr_k2_ne {k : Nat} (h : jr_k2 ch k ≠ k) : ch k ≠ 43 ∧ ch k ≠ 45 ∧ ch k ≠ 41 ∧ ch k ≠ 38 ∧ ch k ≠ 124 := by
  refine ⟨?_, ?_, ?_, ?_, ?_⟩ <;> (intro e; exact h (jr_k2_eq (by rw [e]; decide) (by rw [e]; decide) (by rw [e]; decide)))
theorem jq_tail43 {be lv : Int32} : jq_tail be 43 lv = be + 1 := by unfold jq_tail; rw [if_pos rfl]
theorem jq_tail45 {be lv : Int32} : jq_tail be 45 lv = be + 1 := by unfold jq_tail; rw [if_neg (by decide), if_pos rfl]
theorem jq_nf1 {be : Int32} (hb : be = 6 ∨ be = 12) : ¬ (be + 1 = 18 ∨ (¬ be + 1 ≤ 13 ∧ ¬ 18 ≤ be + 1)) := by rcases hb with rfl | rfl <;> decide
theorem jr_upd_D {S1 T1 : jx_S} {p ln : Nat} {x : Int32} (hD : jr_D S1 T1 p) (hl : ln < 4) : jr_D (jx_g S1 5 (upd (S1.2.1 5) ln (S1.2.1 5 ln + x))) (jx_g T1 2 (upd (T1.2.1 2) (4 * p + ln) (T1.2.1 2 (4 * p + ln) + x))) p := by
  intro j hj
  rw [js_g2, if_pos rfl, js_g2, if_pos rfl]
  unfold upd
  by_cases e : j = ln
  · rw [if_pos e, if_pos (by omega), hD ln hl]
  · rw [if_neg e, if_neg (by omega), hD j hj]
theorem f_R_takeSum_ok {S T0 : jx_S} {be q : Int32} {l k c : Nat} (side : Int32) (hc : jr_ch ch U) (hS : jr_S S ch U) (hT : jr_T T0 ch U) (h9 : S.1 9 = nI k) (hj : jq T0 ch U q l k c) (he : (be = 6 ∧ q = 5 ∧ ch k ≠ 126 ∧ ch k ≠ 40) ∨ (be = 12 ∧ q = 12)) (hU : 0 < U) :
    jm_T (f_R_takeSum S side) (fun o => jf [9] [5] S o.2 ∧ ((o.1 = 0 ∧ jr_Dead T0 o.2) ∨ (o.1 = 1 ∧ (ch k = 45 ∨ jr_k2 ch k ≠ k) ∧ ∃ k' q', k < k' ∧ o.2.1 9 = nI k' ∧ jq T0 ch U q' l k' c ∧ (q' = be + 2 ∨ q' = be + 3 ∨ q' = be + 4 ∨ q' = be + 5) ∧ f_M_after q' (ch k') (nI l) = some (jq_tail be (ch k') (nI l)) ∧ ch k' ≠ 43 ∧ ch k' ≠ 45 ∧
      ∀ T p, p < 8 → jr_T T ch U → jr_D S T p → ∃ T', f_M_readSum T (nI k) (nI p) side = some (nI k', T') ∧ jr_D o.2 T' p ∧ jg [] [2] [] T T' ∧ jr_out p T T'))) := by
  have u80 := hc.1
  have kU := hj.1
  have hb : be = 6 ∨ be = 12 := by rcases he with h | h; exact Or.inl h.1; exact Or.inr h.1
  obtain ⟨b1, b2, b3, b4, b5⟩ := jq_be hb
  have nq : ¬ (q = 18 ∨ (¬ q ≤ 13 ∧ ¬ 18 ≤ q)) := by rcases he with ⟨-, rfl, -⟩ | ⟨-, rfl⟩ <;> decide
  have a0 : ∀ lv, f_M_after q (ch k) lv = some (if ch k = 45 then be + 1 else jq_t be (ch k)) := fun lv => jq_a0 he
  have n45 : (45 : Int32) ≠ 40 ∧ (45 : Int32) ≠ 41 ∧ (45 : Int32) ≠ 60 ∧ (45 : Int32) ≠ 61 ∧ (45 : Int32) ≠ 62 := by decide
  have n43 : (43 : Int32) ≠ 40 ∧ (43 : Int32) ≠ 41 ∧ (43 : Int32) ≠ 60 ∧ (43 : Int32) ≠ 61 ∧ (43 : Int32) ≠ 62 := by decide
  unfold f_R_takeSum
  rw [f_R_take_eq hc hS h9 kU]
  -- the loop, from its head
  have loop : ∀ (S0 : jx_S) (fa0 : Int32) (k0 : Nat) (q0 : Int32), jf [9] [5] S S0 → S0.1 9 = nI k0 → k ≤ k0 → jq T0 ch U q0 l k0 c → (k0 < U → f_M_after q0 (ch k0) (nI l) = some (jq_t be (ch k0))) → ¬ (q0 = 18 ∨ (¬ q0 ≤ 13 ∧ ¬ 18 ≤ q0)) → (jr_k2 ch k0 ≠ k0 → (ch k = 45 ∨ jr_k2 ch k ≠ k) ∧ ∀ T p, p < 8 → jr_T T ch U → jr_D S T p → ∃ T1, jr_D S0 T1 p ∧ jg [] [2] [] T T1 ∧ jr_out p T T1 ∧ jx_lp (b_M_readSum_9 (nI k) (nI p) side) jx_N (T, nI k, side, 1) = (k_M_readSum_9_58 T1 (nI k) (nI p) side (nI k0) fa0 1).bind (Sum.elim (fun s' => jx_lp (b_M_readSum_9 (nI k) (nI p) side) (jx_N - 1) s') (fun r => some r))) →
      jm_T (jx_lp (b_R_takeSum_18 side) jx_N (S0, fa0, 0)) (Sum.elim (fun _ => False) (fun o => jf [9] [5] S o.2 ∧ ((o.1 = 0 ∧ jr_Dead T0 o.2) ∨ (o.1 = 1 ∧ (ch k = 45 ∨ jr_k2 ch k ≠ k) ∧ ∃ k' q', k < k' ∧ o.2.1 9 = nI k' ∧ jq T0 ch U q' l k' c ∧ (q' = be + 2 ∨ q' = be + 3 ∨ q' = be + 4 ∨ q' = be + 5) ∧ f_M_after q' (ch k') (nI l) = some (jq_tail be (ch k') (nI l)) ∧ ch k' ≠ 43 ∧ ch k' ≠ 45 ∧
      ∀ T p, p < 8 → jr_T T ch U → jr_D S T p → ∃ T', f_M_readSum T (nI k) (nI p) side = some (nI k', T') ∧ jr_D o.2 T' p ∧ jg [] [2] [] T T' ∧ jr_out p T T')))) := by
    intro S0 fa0 k0 q0 g1 g2 g3 g4 g5 g6 g7
    refine jm_loop (fun z => ∃ k1 q1 it, z.2.2 = nI it ∧ (it = 0 ∨ it < k1) ∧ jf [9] [5] S z.1 ∧ z.1.1 9 = nI k1 ∧ k ≤ k1 ∧ jq T0 ch U q1 l k1 c ∧ (k1 < U → f_M_after q1 (ch k1) (nI l) = some (jq_t be (ch k1))) ∧ ¬ (q1 = 18 ∨ (¬ q1 ≤ 13 ∧ ¬ 18 ≤ q1)) ∧ (jr_k2 ch k1 ≠ k1 → (ch k = 45 ∨ jr_k2 ch k ≠ k) ∧ ∀ T p, p < 8 → jr_T T ch U → jr_D S T p → ∃ T1, jr_D z.1 T1 p ∧ jg [] [2] [] T T1 ∧ jr_out p T T1 ∧ jx_lp (b_M_readSum_9 (nI k) (nI p) side) jx_N (T, nI k, side, 1) = (k_M_readSum_9_58 T1 (nI k) (nI p) side (nI k1) z.2.1 1).bind (Sum.elim (fun s' => jx_lp (b_M_readSum_9 (nI k) (nI p) side) (jx_N - 1 - it) s') (fun r => some r)))) (fun z => U - z.2.2.toNatClampNeg) _ ?_ jx_N _ ⟨k0, q0, 0, rfl, Or.inl rfl, g1, g2, g3, g4, g5, g6, g7⟩ (by show U - _ < jx_N; unfold jx_N; omega)
    rintro ⟨S1, fa, i1⟩ ⟨k1, q1, it, r1, r2, r3, r4, r5, r6, r7, r8, r9⟩
    dsimp only at r1 r3 r4 r9
    subst r1
    have k1U := r6.1
    have itU : it < U := by omega
    have hS1 : jr_S S1 ch U := jr_S_f hS (r3.1 8 (by decide)) (r3.2.1 3 (by decide))
    unfold b_R_takeSum_18
    dsimp only
    rw [hS1.1, if_neg (nI_ge (by omega) (by omega))]
    obtain ⟨S2, e1, e2, e3, e4⟩ := f_R_takeTerm_ok hc hS1 r4 k1U fa
    rw [e4]
    by_cases z : jr_k2 ch k1 = k1
    · rw [if_pos z, Option.bind_some, if_pos rfl]
      refine jm_ret ⟨jf_trans r3 (jf_wk e1 (by decide) (by decide)), Or.inl ⟨rfl, k1, by omega, ?_, jq_none hc hT r6 r7 r8 z⟩⟩
      show S2.1 9 = _
      rw [e2, z]
    · rw [if_neg z, Option.bind_some, if_neg (by dsimp only; decide)]
      obtain ⟨q2, o1, o2, o3, o4⟩ := jq_over hc hT hb r6 r7 z
      obtain ⟨y1, y2⟩ := r9 z
      have l4 := jr_lt4 (ch := ch) (jr_k1 ch k1)
      generalize hk2 : jr_k2 ch k1 = k2 at *
      obtain ⟨S3, hS3⟩ : ∃ S3, S3 = jx_g S2 5 (upd (S2.2.1 5) (jr_lt ch (jr_k1 ch k1)) (S2.2.1 5 (jr_lt ch (jr_k1 ch k1)) + fa * jr_v ch k1)) := ⟨_, rfl⟩
      dsimp only
      rw [← hS3]
      have f3 : jf [9] [5] S1 S3 := jf_trans (jf_wk e1 (by decide) (by decide)) (by rw [hS3]; exact jf_g (by decide))
      have h93 : S3.1 9 = nI k2 := by rw [hS3, js_g1]; exact e2
      have hS3' : jr_S S3 ch U := jr_S_f hS1 (f3.1 8 (by decide)) (f3.2.1 3 (by decide))
      -- the reference's state behind the term
      have ref : ∀ T p, p < 8 → jr_T T ch U → jr_D S T p → ∃ T2, jr_T T2 ch U ∧ jr_D S3 T2 p ∧ jg [] [2] [] T T2 ∧ jr_out p T T2 ∧ jx_lp (b_M_readSum_9 (nI k) (nI p) side) jx_N (T, nI k, side, 1) = jx_lp (b_M_readSum_9 (nI k) (nI p) side) (jx_N - 1 - it) (T2, nI k2, fa, if ch k2 = 43 ∨ ch k2 = 45 then 1 else 0) := by
        intro T p hp hTT hD
        obtain ⟨T1, d1, d2, d3, d4⟩ := y2 T p hp hTT hD
        have hT1 : jr_T T1 ch U := jr_T_g hTT (d2.1 1 (by decide)) (d2.2.1 1 (by decide))
        have d1' : jr_D S2 T1 p := fun j hj => by rw [e1.2.1 5 (by decide)]; exact d1 j hj
        refine ⟨jx_g T1 2 (upd (T1.2.1 2) (4 * p + jr_lt ch (jr_k1 ch k1)) (T1.2.1 2 (4 * p + jr_lt ch (jr_k1 ch k1)) + fa * jr_v ch k1)), jr_T_x hT1 _, ?_, jg_trans d2 (jg_g (by decide)), fun j hjo => ?_, ?_⟩
        · rw [hS3]
          exact jr_upd_D d1' l4
        · rw [js_g2, if_pos rfl]
          unfold upd
          rw [if_neg (by omega)]
          exact d3 j hjo
        · rw [d4, jr_ref hc hT1 hp k1U, hk2]
          rfl
      rw [f_R_take_eq hc hS3' h93 e3]
      -- one more term behind a sign
      have more : ∀ (x fb : Int32), ch k2 = x → (x = 43 ∨ x = 45) → fb = (if x = 45 then -side else side) → jm_T (some (Sum.inl (jx_f S3 9 (nI (k2 + 1)), fb, nI it + 1)) : Option ((jx_S × Int32 × Int32) ⊕ ((jx_S × Int32) ⊕ (Int32 × jx_S)))) (Sum.elim (fun z => (∃ k1 q1 it, z.2.2 = nI it ∧ (it = 0 ∨ it < k1) ∧ jf [9] [5] S z.1 ∧ z.1.1 9 = nI k1 ∧ k ≤ k1 ∧ jq T0 ch U q1 l k1 c ∧ (k1 < U → f_M_after q1 (ch k1) (nI l) = some (jq_t be (ch k1))) ∧ ¬ (q1 = 18 ∨ (¬ q1 ≤ 13 ∧ ¬ 18 ≤ q1)) ∧ (jr_k2 ch k1 ≠ k1 → (ch k = 45 ∨ jr_k2 ch k ≠ k) ∧ ∀ T p, p < 8 → jr_T T ch U → jr_D S T p → ∃ T1, jr_D z.1 T1 p ∧ jg [] [2] [] T T1 ∧ jr_out p T T1 ∧ jx_lp (b_M_readSum_9 (nI k) (nI p) side) jx_N (T, nI k, side, 1) = (k_M_readSum_9_58 T1 (nI k) (nI p) side (nI k1) z.2.1 1).bind (Sum.elim (fun s' => jx_lp (b_M_readSum_9 (nI k) (nI p) side) (jx_N - 1 - it) s') (fun r => some r)))) ∧ U - z.2.2.toNatClampNeg < U - (nI it).toNatClampNeg) (Sum.elim (fun _ => False) (fun o => jf [9] [5] S o.2 ∧ ((o.1 = 0 ∧ jr_Dead T0 o.2) ∨ (o.1 = 1 ∧ (ch k = 45 ∨ jr_k2 ch k ≠ k) ∧ ∃ k' q', k < k' ∧ o.2.1 9 = nI k' ∧ jq T0 ch U q' l k' c ∧ (q' = be + 2 ∨ q' = be + 3 ∨ q' = be + 4 ∨ q' = be + 5) ∧ f_M_after q' (ch k') (nI l) = some (jq_tail be (ch k') (nI l)) ∧ ch k' ≠ 43 ∧ ch k' ≠ 45 ∧
      ∀ T p, p < 8 → jr_T T ch U → jr_D S T p → ∃ T', f_M_readSum T (nI k) (nI p) side = some (nI k', T') ∧ jr_D o.2 T' p ∧ jg [] [2] [] T T' ∧ jr_out p T T'))))) := by
        intro x fb hx h4 hfb
        have k2U : k2 < U := jr_ch_lt hc (by rw [hx]; rcases h4 with e | e <;> rw [e] <;> decide)
        have j2 : jq T0 ch U (be + 1) l (k2 + 1) c := jq_go hc hT o1 k2U (by rw [o3, hx]; rcases h4 with e | e <;> rw [e]; rw [jq_tail43]; rw [jq_tail45]) b1 (by rw [hx]; rcases h4 with e | e <;> rw [e]; exact n43; exact n45)
        rw [nI_1]
        refine jm_ret ⟨⟨k2 + 1, be + 1, it + 1, rfl, Or.inr (by omega), jf_trans r3 (jf_trans f3 (jf_f (by decide))), by rw [js_f1, if_pos rfl], by omega, j2, fun _ => jq_a1 hb, jq_nf1 hb, fun _ => ⟨y1, fun T p hp hTT hD => ?_⟩⟩, ?_⟩
        · obtain ⟨T2, w1, w2, w3, w4, w5⟩ := ref T p hp hTT hD
          refine ⟨T2, w2, w3, w4, ?_⟩
          rw [if_pos (show ch k2 = 43 ∨ ch k2 = 45 by rw [hx]; exact h4)] at w5
          rw [w5, show jx_N - 1 - it = (jx_N - 1 - (it + 1)) + 1 by unfold jx_N; omega, jx_lp]
          congr 1
          unfold b_M_readSum_9 k_M_readSum_9_36
          dsimp only
          rw [if_neg (by decide), f_M_at_eq hc w1 (by omega), Option.bind_some, Option.bind_some, Option.bind_some, hx, ← hfb, nI_1]
          rcases h4 with e | e
          · rw [if_pos e]
          · rw [if_neg (by rw [e]; decide), if_pos e]
        · dsimp only
          rw [nI_clamp (by omega), nI_clamp (by omega)]
          omega
      by_cases c45 : ch k2 = 45
      · rw [if_pos c45, Option.bind_some, if_neg (by dsimp only; decide)]
        exact more 45 (-side) c45 (Or.inr rfl) (by rw [if_pos rfl])
      · rw [if_neg c45, Option.bind_some, if_pos rfl]
        dsimp only
        rw [f_R_take_eq hc hS3' h93 e3]
        by_cases c43 : ch k2 = 43
        · rw [if_pos c43, Option.bind_some, if_neg (by dsimp only; decide)]
          exact more 43 side c43 (Or.inl rfl) (by rw [if_neg (by decide)])
        · rw [if_neg c43, Option.bind_some, if_pos rfl]
          refine jm_ret ⟨jf_trans r3 f3, Or.inr ⟨rfl, y1, k2, q2, by omega, h93, o1, o2, o3, c43, c45, fun T p hp hTT hD => ?_⟩⟩
          obtain ⟨T2, w1, w2, w3, w4, w5⟩ := ref T p hp hTT hD
          refine ⟨T2, ?_, w2, w3, w4⟩
          rw [if_neg (show ¬ (ch k2 = 43 ∨ ch k2 = 45) from fun h => h.elim c43 c45)] at w5
          unfold f_M_readSum
          have eb : b_M_readSum_9 (nI k) (nI p) side (T2, nI k2, fa, 0) = some (Sum.inr (T2, nI k2, fa, 0)) := by
            unfold b_M_readSum_9
            dsimp only
            rw [if_pos rfl]
          rw [w5, show jx_N - 1 - it = (jx_N - 1 - (it + 1)) + 1 by unfold jx_N; omega, jx_lp, eb]
          rfl
  by_cases c45 : ch k = 45
  · have kU2 : k < U := jr_ch_lt hc (by rw [c45]; decide)
    rw [if_pos c45, Option.bind_some]
    dsimp only
    rw [if_neg (by decide)]
    refine jm_bind (loop (jx_f S 9 (nI (k + 1))) (-side) (k + 1) (be + 1) (jf_f (by decide)) (by rw [js_f1, if_pos rfl]) (by omega) (jq_go hc hT hj kU2 (by rw [a0, if_pos c45]) b1 (by rw [c45]; exact n45)) (fun _ => jq_a1 hb) (jq_nf1 hb) (fun _ => ⟨Or.inl c45, fun T p hp hTT hD => ?_⟩)) ?_
    · refine ⟨T, hD, jg_refl _ _ _ _, fun _ _ => rfl, ?_⟩
      rw [show jx_N = (jx_N - 1) + 1 by decide, jx_lp]
      congr 1
      unfold b_M_readSum_9 k_M_readSum_9_36
      dsimp only
      rw [if_neg (by decide), f_M_at_eq hc hTT (by omega), Option.bind_some, Option.bind_some, Option.bind_some, if_neg (by rw [c45]; decide), if_pos c45, if_pos c45, nI_1]
    · rintro (o | o) ho
      · exact ho.elim
      · exact jm_ret ho
  · rw [if_neg c45, Option.bind_some]
    dsimp only
    rw [if_pos rfl]
    refine jm_bind (loop S side k q (jf_refl _ _ _) h9 (by omega) hj (fun _ => by rw [a0, if_neg c45]) nq (fun hz => ⟨Or.inr hz, fun T p hp hTT hD => ?_⟩)) ?_
    · refine ⟨T, hD, jg_refl _ _ _ _, fun _ _ => rfl, ?_⟩
      have n := jr_k2_ne hz
      rw [show jx_N = (jx_N - 1) + 1 by decide, jx_lp]
      congr 1
      unfold b_M_readSum_9
      dsimp only
      rw [if_neg (by decide), f_M_at_eq hc hTT (by omega), Option.bind_some, Option.bind_some, if_neg n.1, if_neg n.2.1]
    · rintro (o | o) ho
      · exact ho.elim
      · exact jm_ret ho
end JU
