/-! a term, on both sides -/
def jr_k1 (ch : Nat → Int32) (k : Nat) : Nat := if ¬ ch k < 48 ∧ ¬ 57 < ch k then k + 1 else k
def jr_v (ch : Nat → Int32) (k : Nat) : Int32 := if ¬ ch k < 48 ∧ ¬ 57 < ch k then ch k - 48 else 1
def jr_lt (ch : Nat → Int32) (k : Nat) : Nat := if ch k = 120 then (if ch (k + 1) = 121 then 3 else 1) else if ch k = 121 then (if ch (k + 1) = 120 then 3 else 2) else 0
def jr_ln (ch : Nat → Int32) (k : Nat) : Nat := if ch k = 120 then (if ch (k + 1) = 121 then 2 else 1) else if ch k = 121 then (if ch (k + 1) = 120 then 2 else 1) else 0
def jr_k2 (ch : Nat → Int32) (k : Nat) : Nat := jr_k1 ch k + jr_ln ch (jr_k1 ch k)
section JS
variable {ch : Nat → Int32} {U : Nat}
theorem jr_lt4 (k : Nat) : jr_lt ch k < 4 := by unfold jr_lt; (repeat' split) <;> omega
theorem jr_nl (x : Int32) : f_R_numberOfLetter x = some (if x = 120 then 1 else (if x = 121 then 2 else 0 : Int32) : Int32) := rfl
theorem jr_S_x {S : jx_S} (h : jr_S S ch U) (v : Int32) : jr_S (jx_f S 9 v) ch U := ⟨by rw [js_f1, if_neg (by decide)]; exact h.1, h.2⟩
theorem jr_letters {S : jx_S} {k : Nat} {a1 a2 a3 a4 : Int32} (hc : jr_ch ch U) (hS : jr_S S ch U) (h9 : S.1 9 = nI k) (hk : k ≤ U) :
    ∃ S', jx_lp (b_R_takeTerm_51 a1 a2 a3 a4) jx_N (S, 0, 0) = some (S', nI (jr_lt ch k)) ∧ jf [9] [] S S' ∧ S'.1 9 = nI (k + jr_ln ch k) ∧ k + jr_ln ch k ≤ U := by
  have u80 := hc.1
  rw [show jx_N = (((jx_N - 3) + 1) + 1) + 1 by decide, jx_lp]
  have s0 : b_R_takeTerm_51 a1 a2 a3 a4 (S, 0, 0) = if ch k = 120 then some (Sum.inl (jx_f S 9 (nI (k + 1)), 1, 1)) else if ch k = 121 then some (Sum.inl (jx_f S 9 (nI (k + 1)), 2, 1)) else some (Sum.inr (S, 0)) := by
    unfold b_R_takeTerm_51
    dsimp only
    rw [if_neg (by decide), f_R_peek_eq hc hS h9 hk, Option.bind_some, jr_nl, Option.bind_some, h9, nI_1]
    by_cases c1 : ch k = 120
    · rw [if_pos c1, if_pos c1, if_neg (by decide)]
      rfl
    · by_cases c2 : ch k = 121
      · rw [if_neg c1, if_pos c2, if_neg c1, if_pos c2, if_neg (by decide)]
        rfl
      · rw [if_neg c1, if_neg c2, if_neg c1, if_neg c2, if_pos (by decide)]
  rw [s0]
  unfold jr_lt jr_ln
  have st1 : k < U → ∀ L : Int32, b_R_takeTerm_51 a1 a2 a3 a4 (jx_f S 9 (nI (k + 1)), L, 1) = if (L &&& (if ch (k + 1) = 120 then 1 else (if ch (k + 1) = 121 then 2 else 0 : Int32) : Int32)) = (if ch (k + 1) = 120 then 1 else (if ch (k + 1) = 121 then 2 else 0 : Int32) : Int32) then some (Sum.inr (jx_f S 9 (nI (k + 1)), L)) else some (Sum.inl (jx_f (jx_f S 9 (nI (k + 1))) 9 (nI (k + 2)), L + (if ch (k + 1) = 120 then 1 else (if ch (k + 1) = 121 then 2 else 0 : Int32) : Int32), 2)) := by
    intro hkU L
    have h9' : (jx_f S 9 (nI (k + 1))).1 9 = nI (k + 1) := by rw [js_f1, if_pos rfl]
    unfold b_R_takeTerm_51
    dsimp only
    rw [if_neg (by decide), f_R_peek_eq hc (jr_S_x hS _) h9' (by omega), Option.bind_some, jr_nl, Option.bind_some, h9', nI_1]
    rfl
  have st2 : ∀ (S2 : jx_S) (L : Int32), b_R_takeTerm_51 a1 a2 a3 a4 (S2, L, 2) = some (Sum.inr (S2, L)) := fun S2 L => by
    unfold b_R_takeTerm_51
    dsimp only
    rw [if_pos (by decide)]
  have f1 : jf [9] [] S (jx_f S 9 (nI (k + 1))) := jf_f (by decide)
  have f2 : jf [9] [] S (jx_f (jx_f S 9 (nI (k + 1))) 9 (nI (k + 2))) := jf_trans f1 (jf_f (by decide))
  by_cases c1 : ch k = 120
  · have hkU : k < U := jr_ch_lt hc (by rw [c1]; decide)
    rw [if_pos c1, Option.bind_some]
    show ∃ S', jx_lp (b_R_takeTerm_51 a1 a2 a3 a4) (((jx_N - 3) + 1) + 1) (jx_f S 9 (nI (k + 1)), 1, 1) = _ ∧ _
    rw [jx_lp, st1 hkU]
    by_cases c2 : ch (k + 1) = 121
    · have hkU2 : k + 1 < U := jr_ch_lt hc (by rw [c2]; decide)
      rw [if_neg (by rw [c2]; decide), Option.bind_some]
      show ∃ S', jx_lp (b_R_takeTerm_51 a1 a2 a3 a4) ((jx_N - 3) + 1) (jx_f (jx_f S 9 (nI (k + 1))) 9 (nI (k + 2)), _, 2) = _ ∧ _
      have n2 : ¬ ch (k + 1) = 120 := by rw [c2]; decide
      rw [jx_lp, st2]
      simp only [if_pos c1, if_pos c2, if_neg n2]
      exact ⟨_, rfl, f2, by rw [js_f1, if_pos rfl], by omega⟩
    · have e : ((1 : Int32) &&& (if ch (k + 1) = 120 then 1 else (if ch (k + 1) = 121 then 2 else 0 : Int32) : Int32)) = (if ch (k + 1) = 120 then 1 else (if ch (k + 1) = 121 then 2 else 0 : Int32) : Int32) := by
        rw [if_neg c2]
        split <;> decide
      rw [if_pos e, if_pos c1, if_neg c2, if_pos c1, if_neg c2]
      exact ⟨_, rfl, f1, by rw [js_f1, if_pos rfl], by omega⟩
  · by_cases c3 : ch k = 121
    · have hkU : k < U := jr_ch_lt hc (by rw [c3]; decide)
      rw [if_neg c1, if_pos c3, Option.bind_some]
      show ∃ S', jx_lp (b_R_takeTerm_51 a1 a2 a3 a4) (((jx_N - 3) + 1) + 1) (jx_f S 9 (nI (k + 1)), 2, 1) = _ ∧ _
      rw [jx_lp, st1 hkU]
      by_cases c2 : ch (k + 1) = 120
      · have hkU2 : k + 1 < U := jr_ch_lt hc (by rw [c2]; decide)
        rw [if_neg (by rw [c2]; decide), Option.bind_some]
        show ∃ S', jx_lp (b_R_takeTerm_51 a1 a2 a3 a4) ((jx_N - 3) + 1) (jx_f (jx_f S 9 (nI (k + 1))) 9 (nI (k + 2)), _, 2) = _ ∧ _
        rw [jx_lp, st2]
        simp only [if_neg c1, if_pos c3, if_pos c2]
        exact ⟨_, rfl, f2, by rw [js_f1, if_pos rfl], by omega⟩
      · have e : ((2 : Int32) &&& (if ch (k + 1) = 120 then 1 else (if ch (k + 1) = 121 then 2 else 0 : Int32) : Int32)) = (if ch (k + 1) = 120 then 1 else (if ch (k + 1) = 121 then 2 else 0 : Int32) : Int32) := by
          rw [if_neg c2]
          split <;> decide
        rw [if_pos e, if_neg c1, if_pos c3, if_neg c2, if_neg c1, if_pos c3, if_neg c2]
        exact ⟨_, rfl, f1, by rw [js_f1, if_pos rfl], by omega⟩
    · rw [if_neg c1, if_neg c3, if_neg c1, if_neg c3, if_neg c1, if_neg c3]
      exact ⟨_, rfl, jf_refl _ _ _, by rw [h9]; rfl, by omega⟩
theorem f_R_takeTerm_ok {S : jx_S} {k : Nat} (hc : jr_ch ch U) (hS : jr_S S ch U) (h9 : S.1 9 = nI k) (hk : k ≤ U) (fa : Int32) :
    ∃ S1, jf [9] [] S S1 ∧ S1.1 9 = nI (jr_k2 ch k) ∧ jr_k2 ch k ≤ U ∧ f_R_takeTerm S fa = if jr_k2 ch k = k then some (0, S1) else some (1, jx_g S1 5 (upd (S1.2.1 5) (jr_lt ch (jr_k1 ch k)) (S1.2.1 5 (jr_lt ch (jr_k1 ch k)) + fa * jr_v ch k))) := by
  have u80 := hc.1
  have tail : ∀ (S0 : jx_S) (k1 : Nat) (x4 v : Int32), jr_S S0 ch U → S0.1 9 = nI k1 → k1 ≤ U → ∃ S1, jf [9] [] S0 S1 ∧ S1.1 9 = nI (k1 + jr_ln ch k1) ∧ k1 + jr_ln ch k1 ≤ U ∧ k_R_takeTerm_45 S0 fa (nI k) v x4 = if k1 + jr_ln ch k1 = k then some (0, S1) else some (1, jx_g S1 5 (upd (S1.2.1 5) (jr_lt ch k1) (S1.2.1 5 (jr_lt ch k1) + v))) := by
    intro S0 k1 x4 v hS0 h90 hk1
    obtain ⟨S1, e1, e2, e3, e4⟩ := jr_letters (a1 := fa) (a2 := nI k) (a3 := v) (a4 := x4) hc hS0 h90 hk1
    refine ⟨S1, e2, e3, e4, ?_⟩
    unfold k_R_takeTerm_45
    rw [e1, Option.bind_some]
    dsimp only
    have l4 := jr_lt4 (ch := ch) k1
    rw [e3, if_pos (ji_inN l4 (by decide)), nI_clamp (by omega)]
    by_cases z : k1 + jr_ln ch k1 = k
    · rw [if_pos z, z, if_pos rfl]
    · rw [if_neg z, if_neg (fun h => z ((nI_eq (by omega) (by omega)).mp h))]
  unfold f_R_takeTerm
  rw [f_R_peek_eq hc hS h9 hk, Option.bind_some, h9, nI_1]
  unfold jr_k2 jr_k1 jr_v
  by_cases d : ¬ ch k < 48 ∧ ¬ 57 < ch k
  · have hkU : k < U := jr_ch_lt hc (fun z => d.1 (by rw [z]; decide))
    rw [if_neg d.1, if_neg d.2]
    simp only [if_pos d]
    obtain ⟨S1, e1, e2, e3, e4⟩ := tail (jx_f S 9 (nI (k + 1))) (k + 1) (ch k) (fa * (ch k - 48)) (jr_S_x hS _) (by rw [js_f1, if_pos rfl]) (by omega)
    exact ⟨S1, jf_trans (jf_f (by decide)) e1, e2, e3, e4⟩
  · simp only [if_neg d]
    obtain ⟨S1, e1, e2, e3, e4⟩ := tail S k (ch k) fa hS h9 hk
    refine ⟨S1, e1, e2, e3, ?_⟩
    rw [Int32.mul_one, ← e4]
    by_cases a : ch k < 48
    · rw [if_pos a]
    · rw [if_neg a, if_pos (Classical.byContradiction (fun b => d ⟨a, b⟩))]
theorem jr_T_x {T : jx_S} (h : jr_T T ch U) (f : Nat → Int32) : jr_T (jx_g T 2 f) ch U := ⟨h.1, by rw [js_g2, if_neg (by decide)]; exact h.2⟩
theorem jr_207 {T : jx_S} {p k2 : Nat} {x1 x3 x4 fa x6 v x8 x9 : Int32} (hc : jr_ch ch U) (hT : jr_T T ch U) (hp : p < 8) (hk : k2 < 1000) {ln : Nat} (hl : ln < 4) (e : ((4 * nI p) + (if x8 = 0 then 0 else 1 : Int32)) + (if x9 = 0 then 0 else 2 : Int32) = nI (4 * p + ln)) :
    k_M_readSum_9_207 T x1 (nI p) x3 x4 fa x6 v x8 x9 (nI k2) = some (Sum.inl (jx_g T 2 (upd (T.2.1 2) (4 * p + ln) (T.2.1 2 (4 * p + ln) + fa * v)), nI k2, fa, if ch k2 = 43 ∨ ch k2 = 45 then 1 else 0)) := by
  unfold k_M_readSum_9_207
  rw [e, if_pos (ji_inN (by omega) (by decide)), nI_clamp (by omega), f_M_at_eq hc (jr_T_x hT _) hk, Option.bind_some, Option.bind_some]
  by_cases c1 : ch k2 = 43
  · rw [if_pos c1, if_pos (Or.inl c1)]
  · by_cases c2 : ch k2 = 45
    · rw [if_neg c1, if_pos c2, if_pos (Or.inr c2)]
    · rw [if_neg c1, if_neg c2, if_neg (fun h => h.elim c1 c2)]
theorem jr_ref {T : jx_S} {p k : Nat} {x1 x3 fa x6 : Int32} (hc : jr_ch ch U) (hT : jr_T T ch U) (hp : p < 8) (hk : k ≤ U) :
    k_M_readSum_9_58 T x1 (nI p) x3 (nI k) fa x6 = some (Sum.inl (jx_g T 2 (upd (T.2.1 2) (4 * p + jr_lt ch (jr_k1 ch k)) (T.2.1 2 (4 * p + jr_lt ch (jr_k1 ch k)) + fa * jr_v ch k)), nI (jr_k2 ch k), fa, if ch (jr_k2 ch k) = 43 ∨ ch (jr_k2 ch k) = 45 then 1 else 0)) := by
  have u80 := hc.1
  have tail : ∀ (k1 : Nat) (v : Int32), k1 ≤ U + 1 → k_M_readSum_9_87 T x1 (nI p) x3 (nI k1) fa x6 v = some (Sum.inl (jx_g T 2 (upd (T.2.1 2) (4 * p + jr_lt ch k1) (T.2.1 2 (4 * p + jr_lt ch k1) + fa * v)), nI (k1 + jr_ln ch k1), fa, if ch (k1 + jr_ln ch k1) = 43 ∨ ch (k1 + jr_ln ch k1) = 45 then 1 else 0)) := by
    intro k1 v hk1
    have a0 := f_M_at_eq (k := k1) hc hT (by omega)
    have a1 := f_M_at_eq (k := k1 + 1) hc hT (by omega)
    have i0 : (4 * nI p : Int32) = nI (4 * p) := nI_mul 4 p
    unfold k_M_readSum_9_87 k_M_readSum_9_122 k_M_readSum_9_126 k_M_readSum_9_127 k_M_readSum_9_164 k_M_readSum_9_168 k_M_readSum_9_169
    rw [nI_1, a0, a1]
    simp only [Option.bind_some]
    unfold jr_lt jr_ln
    by_cases c1 : ch k1 = 120
    · have n1 : ¬ ch k1 = 121 := by rw [c1]; decide
      simp only [if_pos c1, if_neg n1]
      by_cases c2 : ch (k1 + 1) = 121
      · simp only [if_pos c2]
        rw [show (2 : Int32) = nI 2 from rfl, nI_add]
        refine Eq.trans ?_ (jr_207 (x1 := x1) (x3 := x3) (x4 := nI k1) (x6 := x6) (x8 := 1) (x9 := 1) hc hT hp (by omega) (ln := 3) (by omega) (by rw [i0, if_neg (by decide), if_neg (by decide), show (1 : Int32) = nI 1 from rfl, show (2 : Int32) = nI 2 from rfl, nI_add, nI_add]))
        rfl
      · simp only [if_neg c2]
        refine Eq.trans ?_ (jr_207 (x1 := x1) (x3 := x3) (x4 := nI k1) (x6 := x6) (x8 := 1) (x9 := 0) hc hT hp (by omega) (ln := 1) (by omega) (by rw [i0, if_neg (by decide), if_pos rfl, show (1 : Int32) = nI 1 from rfl, show (0 : Int32) = nI 0 from rfl, nI_add, nI_add]))
        rfl
    · by_cases c3 : ch k1 = 121
      · simp only [if_neg c1, if_pos c3]
        by_cases c2 : ch (k1 + 1) = 120
        · simp only [if_pos c2]
          rw [show (2 : Int32) = nI 2 from rfl, nI_add]
          refine Eq.trans ?_ (jr_207 (x1 := x1) (x3 := x3) (x4 := nI k1) (x6 := x6) (x8 := 1) (x9 := 1) hc hT hp (by omega) (ln := 3) (by omega) (by rw [i0, if_neg (by decide), if_neg (by decide), show (1 : Int32) = nI 1 from rfl, show (2 : Int32) = nI 2 from rfl, nI_add, nI_add]))
          rfl
        · simp only [if_neg c2]
          refine Eq.trans ?_ (jr_207 (x1 := x1) (x3 := x3) (x4 := nI k1) (x6 := x6) (x8 := 0) (x9 := 1) hc hT hp (by omega) (ln := 2) (by omega) (by rw [i0, if_pos rfl, if_neg (by decide), show (0 : Int32) = nI 0 from rfl, show (2 : Int32) = nI 2 from rfl, nI_add, nI_add]))
          rfl
      · simp only [if_neg c1, if_neg c3]
        refine Eq.trans ?_ (jr_207 (x1 := x1) (x3 := x3) (x4 := nI k1) (x6 := x6) (x8 := 0) (x9 := 0) hc hT hp (by omega) (ln := 0) (by omega) (by rw [i0, if_pos rfl, if_pos rfl, show (0 : Int32) = nI 0 from rfl, nI_add, nI_add]))
        rfl
  unfold k_M_readSum_9_58 f_M_isDigit
  rw [f_M_at_eq hc hT (by omega)]
  simp only [Option.bind_some, jr_dg_if, ite_not, nI_1]
  unfold jr_k2 jr_k1 jr_v
  by_cases d : ¬ ch k < 48 ∧ ¬ 57 < ch k
  · simp only [if_pos d]
    exact tail (k + 1) _ (by omega)
  · simp only [if_neg d]
    exact tail k 1 (by omega)
/-- a character that counts for nothing -/
theorem jq_go {T0 : jx_S} {q q' : Int32} {l k c : Nat} (hc : jr_ch ch U) (hT : jr_T T0 ch U) (h : jq T0 ch U q l k c) (hk : k < U) (ha : f_M_after q (ch k) (nI l) = some q') (hq : 0 ≤ q') (n0 : ch k ≠ 40 ∧ ch k ≠ 41 ∧ ch k ≠ 60 ∧ ch k ≠ 61 ∧ ch k ≠ 62) : jq T0 ch U q' l (k + 1) c := by
  have := jq_step hc hT h hk ha hq (fun e => absurd e n0.2.1)
  rw [if_neg n0.1, if_neg n0.2.1, if_neg (by rintro (e | e | e); exact n0.2.2.1 e; exact n0.2.2.2.1 e; exact n0.2.2.2.2 e)] at this
  exact this
theorem jr_dg_n {x : Int32} (d : ¬ x < 48 ∧ ¬ 57 < x) : x ≠ 40 ∧ x ≠ 41 ∧ x ≠ 60 ∧ x ≠ 61 ∧ x ≠ 62 := by
  refine ⟨?_, ?_, ?_, ?_, ?_⟩ <;> (intro e; subst e; revert d; decide)
theorem jq_be {be : Int32} (hb : be = 6 ∨ be = 12) : 0 ≤ be + 1 ∧ 0 ≤ be + 2 ∧ 0 ≤ be + 3 ∧ 0 ≤ be + 4 ∧ 0 ≤ be + 5 := by rcases hb with rfl | rfl <;> decide
/-- the automaton over a term -/
theorem jq_over {T0 : jx_S} {be q : Int32} {l k c : Nat} (hc : jr_ch ch U) (hT : jr_T T0 ch U) (hb : be = 6 ∨ be = 12) (h : jq T0 ch U q l k c) (ha : k < U → f_M_after q (ch k) (nI l) = some (jq_t be (ch k))) (hn : jr_k2 ch k ≠ k) :
    ∃ q', jq T0 ch U q' l (jr_k2 ch k) c ∧ (q' = be + 2 ∨ q' = be + 3 ∨ q' = be + 4 ∨ q' = be + 5) ∧ f_M_after q' (ch (jr_k2 ch k)) (nI l) = some (jq_tail be (ch (jr_k2 ch k)) (nI l)) ∧ k < jr_k2 ch k := by
  obtain ⟨b1, b2, b3, b4, b5⟩ := jq_be hb
  have nx : (120 : Int32) ≠ 40 ∧ (120 : Int32) ≠ 41 ∧ (120 : Int32) ≠ 60 ∧ (120 : Int32) ≠ 61 ∧ (120 : Int32) ≠ 62 := by decide
  have ny : (121 : Int32) ≠ 40 ∧ (121 : Int32) ≠ 41 ∧ (121 : Int32) ≠ 60 ∧ (121 : Int32) ≠ 61 ∧ (121 : Int32) ≠ 62 := by decide
  -- the letters, from a state that takes both
  have lets : ∀ (k1 : Nat) (q1 : Int32), jq T0 ch U q1 l k1 c → (ch k1 = 120 → f_M_after q1 (ch k1) (nI l) = some (be + 3)) → (ch k1 = 121 → f_M_after q1 (ch k1) (nI l) = some (be + 4)) → (ch k1 = 120 ∨ ch k1 = 121) → ∃ q', jq T0 ch U q' l (k1 + jr_ln ch k1) c ∧ (q' = be + 2 ∨ q' = be + 3 ∨ q' = be + 4 ∨ q' = be + 5) ∧ f_M_after q' (ch (k1 + jr_ln ch k1)) (nI l) = some (jq_tail be (ch (k1 + jr_ln ch k1)) (nI l)) ∧ k1 < k1 + jr_ln ch k1 := by
    intro k1 q1 hj hx hy hxy
    have hkU : k1 < U := jr_ch_lt hc (by rcases hxy with e | e <;> rw [e] <;> decide)
    unfold jr_ln
    by_cases c1 : ch k1 = 120
    · have j1 := jq_go hc hT hj hkU (hx c1) b3 (by rw [c1]; exact nx)
      simp only [if_pos c1]
      by_cases c2 : ch (k1 + 1) = 121
      · have hkU2 : k1 + 1 < U := jr_ch_lt hc (by rw [c2]; decide)
        have j2 := jq_go hc hT j1 hkU2 (by rw [jq_a3 hb, if_pos c2]) b5 (by rw [c2]; exact ny)
        simp only [if_pos c2]
        exact ⟨_, j2, Or.inr (Or.inr (Or.inr rfl)), jq_a5 hb, by omega⟩
      · simp only [if_neg c2]
        exact ⟨_, j1, Or.inr (Or.inl rfl), by rw [jq_a3 hb, if_neg c2], by omega⟩
    · have c3 : ch k1 = 121 := hxy.resolve_left c1
      have j1 := jq_go hc hT hj hkU (hy c3) b4 (by rw [c3]; exact ny)
      simp only [if_neg c1, if_pos c3]
      by_cases c2 : ch (k1 + 1) = 120
      · have hkU2 : k1 + 1 < U := jr_ch_lt hc (by rw [c2]; decide)
        have j2 := jq_go hc hT j1 hkU2 (by rw [jq_a4 hb, if_pos c2]) b5 (by rw [c2]; exact nx)
        simp only [if_pos c2]
        exact ⟨_, j2, Or.inr (Or.inr (Or.inr rfl)), jq_a5 hb, by omega⟩
      · simp only [if_neg c2]
        exact ⟨_, j1, Or.inr (Or.inr (Or.inl rfl)), by rw [jq_a4 hb, if_neg c2], by omega⟩
  unfold jr_k2 jr_k1 at *
  by_cases d : ¬ ch k < 48 ∧ ¬ 57 < ch k
  · simp only [if_pos d] at *
    have hkU : k < U := jr_ch_lt hc (fun z => d.1 (by rw [z]; decide))
    have j1 := jq_go hc hT h hkU (by rw [ha hkU]; unfold jq_t; rw [if_pos d]) b2 (jr_dg_n d)
    by_cases c1 : ch (k + 1) = 120 ∨ ch (k + 1) = 121
    · obtain ⟨q', g1, g2, g3, g4⟩ := lets (k + 1) _ j1 (fun e => by rw [jq_a2 hb, if_pos e]) (fun e => by rw [jq_a2 hb, if_neg (by rw [e]; decide), if_pos e]) c1
      exact ⟨q', g1, g2, g3, by omega⟩
    · have e0 : jr_ln ch (k + 1) = 0 := by
        unfold jr_ln
        rw [if_neg (fun e => c1 (Or.inl e)), if_neg (fun e => c1 (Or.inr e))]
      rw [e0, Nat.add_zero]
      exact ⟨_, j1, Or.inl rfl, by rw [jq_a2 hb, if_neg (fun e => c1 (Or.inl e)), if_neg (fun e => c1 (Or.inr e))], by omega⟩
  · simp only [if_neg d] at *
    by_cases c1 : ch k = 120 ∨ ch k = 121
    · have hkU : k < U := jr_ch_lt hc (by rcases c1 with e | e <;> rw [e] <;> decide)
      exact lets k q h (fun e => by rw [ha hkU]; unfold jq_t; rw [if_neg d, if_pos e]) (fun e => by rw [ha hkU]; unfold jq_t; rw [if_neg d, if_neg (by rw [e]; decide), if_pos e]) c1
    · have e0 : jr_ln ch k = 0 := by
        unfold jr_ln
        rw [if_neg (fun e => c1 (Or.inl e)), if_neg (fun e => c1 (Or.inr e))]
      exact absurd (by rw [e0]; rfl) hn
/-- a term that is none: the automaton stops there -/
theorem jq_none {T0 : jx_S} {be q : Int32} {l k c : Nat} (hc : jr_ch ch U) (hT : jr_T T0 ch U) (h : jq T0 ch U q l k c) (ha : k < U → f_M_after q (ch k) (nI l) = some (jq_t be (ch k))) (hf : ¬ (q = 18 ∨ (¬ q ≤ 13 ∧ ¬ 18 ≤ q))) (hn : jr_k2 ch k = k) : f_M_illAt T0 = some (nI k) := by
  by_cases e : k = U
  · subst e
    rw [jq_end hc hT h, if_neg (fun z => hf z.2)]
  · have hkU : k < U := by have := h.1; omega
    refine jq_dead hc hT h hkU (ha hkU) ?_
    unfold jr_k2 jr_k1 jr_ln at hn
    unfold jq_t
    by_cases d : ¬ ch k < 48 ∧ ¬ 57 < ch k
    · simp only [if_pos d] at hn
      omega
    · simp only [if_neg d] at hn
      rw [if_neg d]
      by_cases c1 : ch k = 120
      · simp only [if_pos c1] at hn
        exact absurd hn (by split <;> omega)
      · by_cases c2 : ch k = 121
        · simp only [if_neg c1, if_pos c2] at hn
          exact absurd hn (by split <;> omega)
        · rw [if_neg c1, if_neg c2]
          decide
end JS
