/-! the whole sentence, on both sides -/
section JY
variable {ch : Nat → Int32} {U : Nat} {T0 Tb : jx_S}
theorem f_R_takeQuantifier_eq {S : jx_S} {k : Nat} (hc : jr_ch ch U) (hS : jr_S S ch U) (h9 : S.1 9 = nI k) (hk : k ≤ U) : f_R_takeQuantifier S = if ch k = 65 ∨ ch k = 69 then some (1, jx_f S 9 (nI (k + 1))) else some (0, S) := by
  unfold f_R_takeQuantifier
  rw [f_R_take_eq hc hS h9 hk]
  by_cases c1 : ch k = 65
  · rw [if_pos c1, Option.bind_some, if_neg (by dsimp only; decide), if_pos (Or.inl c1)]
  · rw [if_neg c1, Option.bind_some, if_pos rfl]
    dsimp only
    rw [f_R_take_eq hc hS h9 hk]
    by_cases c2 : ch k = 69
    · rw [if_pos c2, Option.bind_some, if_pos (Or.inr c2)]
      rfl
    · rw [if_neg c2, Option.bind_some, if_neg (show ¬ (ch k = 65 ∨ ch k = 69) from fun h => h.elim c1 c2)]
      rfl
theorem jq_head {q lv x : Int32} : (f_M_after 0 x lv = some (if x = 65 ∨ x = 69 then 1 else -1)) ∧ (f_M_after 1 x lv = some (if x = 120 then 2 else -1)) ∧ (f_M_after 2 x lv = some (if x = 65 ∨ x = 69 then 3 else -1)) ∧ (f_M_after 3 x lv = some (if x = 121 then 4 else -1)) ∧ (f_M_after 4 x lv = some (if x = 58 then 5 else -1)) := by
  have q2 : ∀ v : Int32, (if x = 69 then v else if x = 65 then v else -1 : Int32) = if x = 65 ∨ x = 69 then v else -1 := fun v => by
    by_cases c1 : x = 65
    · rw [if_neg (by rw [c1]; decide), if_pos c1, if_pos (Or.inl c1)]
    · by_cases c2 : x = 69
      · rw [if_pos c2, if_pos (Or.inr c2)]
      · rw [if_neg c2, if_neg c1, if_neg (by rintro (e | e); exact c1 e; exact c2 e)]
  refine ⟨?_, ?_, ?_, ?_, ?_⟩
  · unfold f_M_after
    rw [if_pos rfl, q2]
  · unfold f_M_after
    rw [if_neg (by decide), if_pos rfl]
  · unfold f_M_after
    rw [if_neg (by decide), if_neg (by decide), if_pos rfl, q2]
  · unfold f_M_after
    rw [if_neg (by decide), if_neg (by decide), if_neg (by decide), if_pos rfl]
  · unfold f_M_after
    rw [if_neg (by decide), if_neg (by decide), if_neg (by decide), if_neg (by decide), if_pos rfl]
/-- the automaton stops in a state that is no end -/
theorem jq_stop {q : Int32} {l k c : Nat} (hc : jr_ch ch U) (hT : jr_T T0 ch U) (h : jq T0 ch U q l k c) (hf : ¬ (q = 18 ∨ (¬ q ≤ 13 ∧ ¬ 18 ≤ q))) (ha : f_M_after q (ch k) (nI l) = some (-1)) : f_M_illAt T0 = some (nI k) := by
  by_cases e : k = U
  · subst e
    rw [jq_end hc hT h, if_neg (fun z => hf z.2)]
  · exact jq_dead hc hT h (by have := h.1; omega) ha (by decide)
theorem f_R_takeHead_ok {S : jx_S} (hc : jr_ch ch U) (hS : jr_S S ch U) (hT : jr_T T0 ch U) (h9 : S.1 9 = 0) : jm_T (f_R_takeHead S) (fun o => jf [5, 6, 9] [] S o.2 ∧ ((o.1 = 0 ∧ jr_Dead T0 o.2) ∨ (o.1 = 1 ∧ o.2.1 9 = nI 5 ∧ jq T0 ch U 5 0 5 0 ∧ o.2.1 5 = (if ch 0 = 65 then 1 else 0) ∧ o.2.1 6 = (if ch 2 = 65 then 1 else 0)))) := by
  have u80 := hc.1
  have hd := fun (x lv : Int32) => jq_head (q := 0) (x := x) (lv := lv)
  have j0 : jq T0 ch U 0 0 0 0 := ⟨by omega, by omega, rfl, rfl⟩
  have qn : ∀ x : Int32, x = 65 ∨ x = 69 → x ≠ 40 ∧ x ≠ 41 ∧ x ≠ 60 ∧ x ≠ 61 ∧ x ≠ 62 := fun x h => by rcases h with rfl | rfl <;> decide
  have q0 : ∀ k, ch k = 65 ∨ ch k = 69 → k < U := fun k h => jr_ch_lt hc (by rcases h with e | e <;> rw [e] <;> decide)
  unfold f_R_takeHead
  rw [f_R_peek_eq (k := 0) hc hS h9 (by omega), Option.bind_some]
  obtain ⟨S1, hS1⟩ : ∃ S1, S1 = jx_f S 5 (if ch 0 = 65 then 1 else 0 : Int32) := ⟨_, rfl⟩
  rw [← hS1]
  have f1 : jf [5, 6, 9] [] S S1 := by rw [hS1]; exact jf_f (by decide)
  have s1 : jr_S S1 ch U := jr_S_f hS (f1.1 8 (by decide)) (f1.2.1 3 (by decide))
  have a1 : S1.1 9 = nI 0 := by rw [hS1, js_f1, if_neg (by decide)]; exact h9
  rw [f_R_takeQuantifier_eq hc s1 a1 (by omega)]
  by_cases c0 : ch 0 = 65 ∨ ch 0 = 69
  · rw [if_pos c0, Option.bind_some, if_neg (by dsimp only; decide)]
    dsimp only
    have u0 := q0 0 c0
    have j1 : jq T0 ch U 1 0 1 0 := jq_go hc hT j0 u0 (by rw [(hd _ _).1, if_pos c0]) (by decide) (qn _ c0)
    have f2 : jf [5, 6, 9] [] S (jx_f S1 9 (nI (0 + 1))) := jf_trans f1 (jf_f (by decide))
    have s2 := jr_S_x s1 (nI (0 + 1))
    have a2 : (jx_f S1 9 (nI (0 + 1))).1 9 = nI 1 := by rw [js_f1, if_pos rfl]
    rw [f_R_take_eq hc s2 a2 (by omega)]
    by_cases c1 : ch 1 = 120
    · rw [if_pos c1, Option.bind_some, if_neg (by dsimp only; decide)]
      dsimp only
      have u1 : 1 < U := jr_ch_lt hc (by rw [c1]; decide)
      have j2 : jq T0 ch U 2 0 2 0 := jq_go hc hT j1 u1 (by rw [(hd _ _).2.1, if_pos c1]) (by decide) (by rw [c1]; decide)
      obtain ⟨S3, hS3⟩ : ∃ S3, S3 = jx_f (jx_f S1 9 (nI (0 + 1))) 9 (nI (1 + 1)) := ⟨_, rfl⟩
      rw [← hS3]
      have f3 : jf [5, 6, 9] [] S S3 := by rw [hS3]; exact jf_trans f2 (jf_f (by decide))
      have s3 : jr_S S3 ch U := by rw [hS3]; exact jr_S_x s2 _
      have a3 : S3.1 9 = nI 2 := by rw [hS3, js_f1, if_pos rfl]
      have e3 : S3.1 5 = (if ch 0 = 65 then 1 else 0 : Int32) := by rw [hS3, js_f1, if_neg (by decide), js_f1, if_neg (by decide), hS1, js_f1, if_pos rfl]
      rw [f_R_peek_eq hc s3 a3 (by omega), Option.bind_some]
      obtain ⟨S4, hS4⟩ : ∃ S4, S4 = jx_f S3 6 (if ch 2 = 65 then 1 else 0 : Int32) := ⟨_, rfl⟩
      rw [← hS4]
      have f4 : jf [5, 6, 9] [] S S4 := by rw [hS4]; exact jf_trans f3 (jf_f (by decide))
      have s4 : jr_S S4 ch U := jr_S_f hS (f4.1 8 (by decide)) (f4.2.1 3 (by decide))
      have a4 : S4.1 9 = nI 2 := by rw [hS4, js_f1, if_neg (by decide)]; exact a3
      rw [f_R_takeQuantifier_eq hc s4 a4 (by omega)]
      by_cases c2 : ch 2 = 65 ∨ ch 2 = 69
      · rw [if_pos c2, Option.bind_some, if_neg (by dsimp only; decide)]
        dsimp only
        have u2 := q0 2 c2
        have j3 : jq T0 ch U 3 0 3 0 := jq_go hc hT j2 u2 (by rw [(hd _ _).2.2.1, if_pos c2]) (by decide) (qn _ c2)
        obtain ⟨S5, hS5⟩ : ∃ S5, S5 = jx_f S4 9 (nI (2 + 1)) := ⟨_, rfl⟩
        rw [← hS5]
        have f5 : jf [5, 6, 9] [] S S5 := by rw [hS5]; exact jf_trans f4 (jf_f (by decide))
        have s5 : jr_S S5 ch U := by rw [hS5]; exact jr_S_x s4 _
        have a5 : S5.1 9 = nI 3 := by rw [hS5, js_f1, if_pos rfl]
        rw [f_R_take_eq hc s5 a5 (by omega)]
        by_cases c3 : ch 3 = 121
        · rw [if_pos c3, Option.bind_some, if_neg (by dsimp only; decide)]
          dsimp only
          have u3 : 3 < U := jr_ch_lt hc (by rw [c3]; decide)
          have j4 : jq T0 ch U 4 0 4 0 := jq_go hc hT j3 u3 (by rw [(hd _ _).2.2.2.1, if_pos c3]) (by decide) (by rw [c3]; decide)
          obtain ⟨S6, hS6⟩ : ∃ S6, S6 = jx_f S5 9 (nI (3 + 1)) := ⟨_, rfl⟩
          rw [← hS6]
          have f6 : jf [5, 6, 9] [] S S6 := by rw [hS6]; exact jf_trans f5 (jf_f (by decide))
          have s6 : jr_S S6 ch U := by rw [hS6]; exact jr_S_x s5 _
          have a6 : S6.1 9 = nI 4 := by rw [hS6, js_f1, if_pos rfl]
          rw [f_R_take_eq hc s6 a6 (by omega)]
          by_cases c4 : ch 4 = 58
          · rw [if_pos c4, Option.bind_some]
            have u4 : 4 < U := jr_ch_lt hc (by rw [c4]; decide)
            have j5 : jq T0 ch U 5 0 5 0 := jq_go hc hT j4 u4 (by rw [(hd _ _).2.2.2.2, if_pos c4]) (by decide) (by rw [c4]; decide)
            refine jm_ret ⟨jf_trans f6 (jf_f (by decide)), Or.inr ⟨rfl, ?_, j5, ?_, ?_⟩⟩
            · dsimp only
              rw [js_f1, if_pos rfl]
            · dsimp only
              rw [js_f1, if_neg (by decide), hS6, js_f1, if_neg (by decide), hS5, js_f1, if_neg (by decide), hS4, js_f1, if_neg (by decide), e3]
            · dsimp only
              rw [js_f1, if_neg (by decide), hS6, js_f1, if_neg (by decide), hS5, js_f1, if_neg (by decide), hS4, js_f1, if_pos rfl]
          · rw [if_neg c4, Option.bind_some]
            exact jm_ret ⟨f6, Or.inl ⟨rfl, 4, by omega, a6, jq_stop hc hT j4 (by decide) (by rw [(hd _ _).2.2.2.2, if_neg c4])⟩⟩
        · rw [if_neg c3, Option.bind_some, if_pos rfl]
          exact jm_ret ⟨f5, Or.inl ⟨rfl, 3, by omega, a5, jq_stop hc hT j3 (by decide) (by rw [(hd _ _).2.2.2.1, if_neg c3])⟩⟩
      · rw [if_neg c2, Option.bind_some, if_pos rfl]
        exact jm_ret ⟨f4, Or.inl ⟨rfl, 2, by omega, a4, jq_stop hc hT j2 (by decide) (by rw [(hd _ _).2.2.1, if_neg c2])⟩⟩
    · rw [if_neg c1, Option.bind_some, if_pos rfl]
      exact jm_ret ⟨f2, Or.inl ⟨rfl, 1, by omega, a2, jq_stop hc hT j1 (by decide) (by rw [(hd _ _).2.1, if_neg c1])⟩⟩
  · rw [if_neg c0, Option.bind_some, if_pos rfl]
    exact jm_ret ⟨f1, Or.inl ⟨rfl, 0, by omega, a1, jq_stop hc hT j0 (by decide) (by rw [(hd _ _).1, if_neg c0])⟩⟩
/-- what the reading of a sentence leaves -/
def jv_Fin (Tb S : jx_S) (ch : Nat → Int32) (U : Nat) : Prop := ∃ sl a, a ≤ 80 ∧ S.1 4 = nI a ∧ S.1 3 = nI sl.length ∧ jw_A (S.2.1 2) sl ∧ jw_ok a sl ∧ jw_dep sl = 1 ∧ sl.length ≤ 80 ∧ jr_rc ch U = a ∧ (a ≤ 8 → ∃ T', (jx_lp b_M_readFormula_38 jx_N (Tb, 5)).bind (fun z => f_M_giveAll z.1 1) = some T' ∧ jw_P T' [] sl ∧ jw_T S T' a ∧ jg [5, 6, 7] [2, 3, 4, 9] [] Tb T')
theorem jw_rel_all : ∀ (wl sl : List Nat), jw_z wl = 0 → (jw_rel 1 wl sl).1 = []
  | [], _, _ => rfl
  | x :: wl, sl, h => by
    unfold jw_z at h
    by_cases e : x = 0
    · rw [if_pos e] at h; omega
    · rw [if_neg e] at h
      unfold jw_rel
      rw [if_neg (by omega)]
      exact jw_rel_all wl (x :: sl) (by omega)
theorem f_R_readSentence_ok {S : jx_S} (hc : jr_ch ch U) (hS : jr_S S ch U) (hT : jr_T T0 ch U) (hTb : jr_T Tb ch U) (b5 : Tb.1 5 = 0) (b6 : Tb.1 6 = 0) (b7 : Tb.1 7 = 0) (b2 : ∀ j, j < 32 → Tb.2.1 2 j = 0) :
    jm_T (f_R_readSentence S) (fun o => jf [3, 4, 5, 6, 9, 10, 11] [0, 1, 2, 4, 5] S o.2 ∧ ((o.1 = 0 ∧ jr_Dead T0 o.2) ∨ (o.1 = 1 ∧ f_M_illAt T0 = some (-1) ∧ o.2.1 5 = (if ch 0 = 65 then 1 else 0) ∧ o.2.1 6 = (if ch 2 = 65 then 1 else 0) ∧ jv_Fin Tb o.2 ch U))) := by
  have u80 := hc.1
  unfold f_R_readSentence f_S_clear
  rw [Option.bind_some]
  obtain ⟨S1, hS1⟩ : ∃ S1, S1 = jx_f (jx_f (jx_f (jx_f (jx_f S 9 0) 10 0) 11 0) 3 0) 4 0 := ⟨_, rfl⟩
  rw [← hS1]
  have f1 : jf [3, 4, 5, 6, 9, 10, 11] [0, 1, 2, 4, 5] S S1 := by
    rw [hS1]
    exact jf_trans (jf_trans (jf_trans (jf_trans (jf_f (by decide)) (jf_f (by decide))) (jf_f (by decide))) (jf_f (by decide))) (jf_f (by decide))
  have s1 : jr_S S1 ch U := jr_S_f hS (f1.1 8 (by decide)) (f1.2.1 3 (by decide))
  have x9 : S1.1 9 = 0 := by rw [hS1, js_f1, if_neg (by decide), js_f1, if_neg (by decide), js_f1, if_neg (by decide), js_f1, if_neg (by decide), js_f1, if_pos rfl]
  have x10 : S1.1 10 = 0 := by rw [hS1, js_f1, if_neg (by decide), js_f1, if_neg (by decide), js_f1, if_neg (by decide), js_f1, if_pos rfl]
  have x11 : S1.1 11 = 0 := by rw [hS1, js_f1, if_neg (by decide), js_f1, if_neg (by decide), js_f1, if_pos rfl]
  have x3 : S1.1 3 = 0 := by rw [hS1, js_f1, if_neg (by decide), js_f1, if_pos rfl]
  have x4 : S1.1 4 = 0 := by rw [hS1, js_f1, if_pos rfl]
  refine jm_bind (f_R_takeHead_ok hc s1 hT x9) ?_
  rintro ⟨o1, S2⟩ ⟨f2, h2⟩
  dsimp only at f2 h2 ⊢
  have f02 : jf [3, 4, 5, 6, 9, 10, 11] [0, 1, 2, 4, 5] S S2 := jf_trans f1 (jf_wk f2 (by decide) (by decide))
  rcases h2 with ⟨rfl, dead⟩ | ⟨rfl, g1, g2, g3, g4⟩
  · rw [if_pos rfl]
    exact jm_ret ⟨f02, Or.inl ⟨rfl, dead⟩⟩
  · rw [if_neg (by decide)]
    have hU : 0 < U := by have := g2.1; omega
    have v0 : jv T0 Tb ch U S2 5 [] [] 0 0 5 0 := by
      refine ⟨jr_S_f s1 (f2.1 8 (by decide)) (f2.2.1 3 (by decide)), g1, g2, ⟨(f2.1 10 (by decide)).trans x10, trivial, (f2.1 3 (by decide)).trans x3, trivial, (f2.1 4 (by decide)).trans x4, (f2.1 11 (by decide)).trans x11⟩, ⟨(fun x hx => (by cases hx)), rfl, trivial, rfl, by decide⟩, fun _ => ⟨Tb, 0, by omega, hTb, ⟨b7, trivial, b6, trivial⟩, ⟨b5, fun j hj => by omega, fun j _ hj => b2 j hj, fun p hp => by omega⟩, jg_refl _ _ _ _, rfl⟩⟩
    refine jm_bind (P := Sum.elim (fun _ => False) (fun o => jf [3, 4, 5, 6, 9, 10, 11] [0, 1, 2, 4, 5] S o.2 ∧ ((o.1 = 0 ∧ jr_Dead T0 o.2) ∨ (o.1 = 1 ∧ f_M_illAt T0 = some (-1) ∧ o.2.1 5 = (if ch 0 = 65 then 1 else 0) ∧ o.2.1 6 = (if ch 2 = 65 then 1 else 0) ∧ jv_Fin Tb o.2 ch U)))) (jm_loop (fun z => jf [3, 4, 9, 10, 11] [0, 1, 2, 4, 5] S2 z.1 ∧ ∃ wl sl a l k it, z.2 = nI it ∧ (it = 0 ∨ it < k) ∧ jv T0 Tb ch U z.1 5 wl sl a l k 0) (fun z => U - z.2.toNatClampNeg) _ ?_ jx_N _ ⟨jf_refl _ _ _, [], [], 0, 0, 5, 0, rfl, Or.inl rfl, v0⟩ (by show U - _ < jx_N; unfold jx_N; omega)) ?_
    · rintro ⟨S3, i1⟩ ⟨f3, wl, sl, a, l, k, it, r1, r2, hv⟩
      dsimp only at f3 r1 hv
      subst r1
      have kU := hv.2.2.1.1
      have itU : it < U := by omega
      unfold b_R_readSentence_33
      dsimp only
      rw [hv.1.1, if_neg (nI_ge (by omega) (by omega))]
      refine jm_bind (f_R_takeOpenings_ok hc hT hv) ?_
      rintro S4 ⟨f4, wl4, l4, k4, hk4, ⟨hS4, h94, hq4, hw4, hI4, hR4⟩, n1, n2⟩
      have a80 : a ≤ 80 := by
        have e : jr_rc ch k4 = a := hq4.2.2.1
        have : jr_rc ch k4 ≤ k4 := jn_cnt_n k4
        have := hq4.1
        omega
      have i5 := hI4.2.2.2.2
      have k4U := hq4.1
      refine jm_bind (f_R_takeAtom_ok hc hS4 hT h94 hq4 n1 n2 hU hw4.2.2.2.2.1 a80 hw4.2.2.1 (by omega)) ?_
      rintro ⟨o5, S5⟩ h5
      have f24 : jf [3, 4, 9, 10, 11] [0, 1, 2, 4, 5] S2 S4 := jf_trans f3 (jf_wk f4 (by decide) (by decide))
      have back : ∀ S9, jf [3, 4, 9, 10, 11] [0, 1, 2, 4, 5] S2 S9 → jf [3, 4, 5, 6, 9, 10, 11] [0, 1, 2, 4, 5] S S9 := fun S9 f => jf_trans f02 (jf_wk f (by decide) (by decide))
      rcases h5 with ⟨z5, f5, dead⟩ | ⟨z5, f5, k5, q5, g1, g2, g3, g4, g5, g6, g7, g8, g9, g10, g11⟩
      · dsimp only at z5
        subst z5
        rw [if_pos rfl]
        exact jm_ret ⟨back S5 (jf_trans f24 (jf_wk f5 (by decide) (by decide))), Or.inl ⟨rfl, dead⟩⟩
      · dsimp only at z5 f5 g2 g8 g9 g10 g11
        subst z5
        rw [if_neg (by dsimp only; decide)]
        obtain ⟨w1, w2, w3, w4, w5, w6⟩ := hw4
        obtain ⟨i1, i2, i3, i4, -⟩ := hI4
        have f25 : jf [3, 4, 9, 10, 11] [0, 1, 2, 4, 5] S2 S5 := jf_trans f24 (jf_wk f5 (by decide) (by decide))
        have v5 : jv T0 Tb ch U S5 q5 wl4 ((4 + a) :: sl) (a + 1) l4 k5 1 := by
          have dl := jw_dep_le i3
          refine ⟨jr_S_f hS4 (f5.1 8 (by decide)) (f5.2.1 3 (by decide)), g2, g3, ⟨(f5.1 10 (by decide)).trans w1, by rw [f5.2.1 4 (by decide)]; exact w2, g9, by rw [g10]; exact jw_A_push w4, g8, (f5.1 11 (by decide)).trans w6⟩, ⟨i1, i2, ⟨jw_ok_mono (by omega) i3, Or.inr (Or.inr (Or.inr ⟨by omega, by omega, by omega⟩))⟩, ?_, ?_⟩, ?_⟩
          · unfold jw_dep
            rw [if_neg (by omega), if_neg (by omega), i4]
          · rw [List.length_cons]; omega
          · refine jw_R_step hR4 (by omega) (by omega) (by omega) (fun a8 T tT tP tW => ?_)
            obtain ⟨T', x, y1, y2, y3, y4, y5, y6, y7, y8, y9, y10, y11⟩ := g11 (by omega) T tT tW.1 tP.2.2.1 (fun j hj => tW.2.2.1 _ (by omega) (by omega))
            refine ⟨T', y1, jg_wk y2 (by decide) (by decide) (by decide), ⟨(y2.1 7 (by decide)).trans tP.1, by rw [y2.2.1 4 (by decide)]; exact tP.2.1, y4, ?_⟩, ⟨y3, fun j hj => ?_, fun j h1 h2 => ?_, fun p hp => ?_⟩⟩
            · rw [y5, List.map_cons, ← jw_map_len sl, show jd_cd (4 + a) = a from by unfold jd_cd; rw [if_neg (by omega), if_neg (by omega), if_neg (by omega)]; omega]
              exact jw_A_push tP.2.2.2
            · by_cases e : j < 4 * a
              · rw [y8 j e, y7 j (Or.inl e)]
                exact tW.2.1 j e
              · have := y6 (j - 4 * a) (by omega)
                rw [show 4 * a + (j - 4 * a) = j by omega] at this
                exact this
            · rw [y7 j (Or.inr (by omega))]
              exact tW.2.2.1 j (by omega) h2
            · rw [y10, y11]
              unfold upd
              by_cases e : p = a
              · rw [if_pos e, if_pos e]
                exact ⟨rfl, y9⟩
              · rw [if_neg e, if_neg e]
                exact tW.2.2.2 p (by omega)
        have C5 : jq_C ch q5 l4 k5 := ⟨by rcases g4 with e | e | e | e <;> simp [e], by rw [g5, jq_tail12 g6 g7]⟩
        refine jm_bind (f_R_takeClosings_ok hc hT v5 C5) ?_
        rintro S6 ⟨f6, q6, wl6, sl6, l6, k6, hk6, v6, C6, n6⟩
        have f26 : jf [3, 4, 9, 10, 11] [0, 1, 2, 4, 5] S2 S6 := jf_trans f25 (jf_wk f6 (by decide) (by decide))
        refine jm_bind (f_R_takeJoint_ok hc hT v6 C6) ?_
        rintro ⟨o7, S7⟩ ⟨f7, h7⟩
        dsimp only at f7 h7 ⊢
        rcases h7 with ⟨rfl, wl7, sl7, v7, k6U⟩ | ⟨rfl, rfl, c38, c124⟩
        · rw [if_neg (by decide), nI_1]
          refine jm_ret ⟨⟨jf_trans f26 (jf_wk f7 (by decide) (by decide)), wl7, sl7, a + 1, l6, k6 + 1, it + 1, rfl, Or.inr (by omega), v7⟩, ?_⟩
          dsimp only
          rw [nI_clamp (by omega), nI_clamp (by omega)]
          omega
        · rw [if_pos rfl]
          obtain ⟨hS6, h96, hq6, hw6, hI6, hR6⟩ := v6
          have k6U := hq6.1
          refine jm_bind (f_R_release_of (b := 1) (by omega) (by omega) (show k6 ≤ 80 by omega) hw6 hI6) ?_
          rintro S8 ⟨f8, hw8⟩
          have f28 : jf [3, 4, 9, 10, 11] [0, 1, 2, 4, 5] S2 S8 := jf_trans f26 (jf_wk f8 (by decide) (by decide))
          have e9 : S8.1 9 = nI k6 := (f8.1 9 (by decide)).trans h96
          have e8 : S8.1 8 = nI U := (f8.1 8 (by decide)).trans hS6.1
          have e11 : S8.1 11 = nI l6 := hw8.2.2.2.2.2
          have bh : ¬ (0 < l6 ∧ ch k6 = 41) → jq_bh (ch k6) (nI l6) = -1 := fun n => by
            unfold jq_bh
            rw [if_neg c38, if_neg c124]
            by_cases z : ch k6 = 41
            · rw [if_pos z]
              have : l6 = 0 := by
                refine Classical.byContradiction (fun y => n ⟨by omega, z⟩)
              rw [this, if_pos (by decide)]
            · rw [if_neg z]
          rw [e9, e8, e11]
          by_cases c1 : k6 = U
          · subst c1
            rw [if_pos rfl]
            by_cases c2 : l6 = 0
            · subst c2
              rw [if_pos (by rfl)]
              have il := jq_end hc hT hq6
              rw [if_pos ⟨rfl, by rcases C6.1 with e | e | e | e | e <;> rw [e] <;> decide⟩] at il
              have hI8 := jw_rel_I (b := 1) (by omega) wl6 sl6 hI6
              have e0 := jw_rel_all wl6 sl6 hI6.2.1
              refine jm_ret ⟨back S8 f28, Or.inr ⟨rfl, il, ?_, ?_, (jw_rel 1 wl6 sl6).2, a + 1, ?_, hw8.2.2.2.2.1, hw8.2.2.1, hw8.2.2.2.1, hI8.2.2.1, ?_, ?_, hq6.2.2.1, fun a8 => ?_⟩⟩
              · exact (f28.1 5 (by decide)).trans (by assumption)
              · exact (f28.1 6 (by decide)).trans (by assumption)
              · have e : jr_rc ch k6 = a + 1 := hq6.2.2.1
                have : jr_rc ch k6 ≤ k6 := jn_cnt_n k6
                omega
              · have := hI8.2.2.2.1
                rw [e0] at this
                rw [this]
                rfl
              · have := hI8.2.2.2.2
                omega
              · obtain ⟨T, f, t1, t2, t3, t4, t5, t6⟩ := hR6 a8
                have i5' := hI6.2.2.2.2
                obtain ⟨T2, y1, y2, y3⟩ := f_M_giveAll_of (b := 1) (by omega) (by omega) t3 hI6.1 (by omega)
                rw [e0] at y3
                refine ⟨T2, ?_, y3, jw_T_c t4 (f8.2.1 0 (by decide)) (f8.2.1 1 (by decide)) (y2.1 5 (by decide)) (y2.2.1 2 (by decide)) (y2.2.1 9 (by decide)), jg_trans t5 (jg_wk y2 (by decide) (by decide) (by decide))⟩
                rw [t6, show jx_N - f = (jx_N - (f + 1)) + 1 by unfold jx_N; omega, jx_lp]
                have eb : b_M_readFormula_38 (T, nI k6) = some (Sum.inr (T, nI k6)) := by
                  unfold b_M_readFormula_38
                  dsimp only
                  rw [t2.1, if_pos (nI_le (by omega) (by omega))]
                rw [eb]
                exact y1
            · have lk6 := hq6.2.1
              rw [if_neg (show ¬ nI l6 = 0 from fun z => c2 ((nI_eq (b := 0) (by omega) (by omega)).mp z))]
              refine jm_ret ⟨back S8 f28, Or.inl ⟨rfl, k6, by omega, e9, ?_⟩⟩
              rw [jq_end hc hT hq6, if_neg (fun z => c2 z.1)]
          · rw [if_neg (fun z => c1 ((nI_eq (by omega) (by omega)).mp z))]
            refine jm_ret ⟨back S8 f28, Or.inl ⟨rfl, k6, by omega, e9, ?_⟩⟩
            exact jq_dead hc hT hq6 (by omega) (by rw [C6.2, bh n6]) (by decide)
    · rintro (o | o) ho
      · exact ho.elim
      · exact jm_ret ho
end JY
