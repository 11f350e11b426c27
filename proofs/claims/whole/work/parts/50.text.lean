/-! the text, and the automaton of the reference -/
def jr_ch (ch : Nat → Int32) (U : Nat) : Prop := U ≤ 80 ∧ (∀ k, U ≤ k → ch k = 0) ∧ ∀ k, k < U → ∃ v, 33 ≤ v ∧ v ≤ 126 ∧ ch k = nI v
def jr_S (S : jx_S) (ch : Nat → Int32) (U : Nat) : Prop := S.1 8 = nI U ∧ ∀ k, k < U → S.2.1 3 k = ch k
def jr_T (T : jx_S) (ch : Nat → Int32) (U : Nat) : Prop := T.1 1 = nI U ∧ ∀ k, k < U → T.2.1 1 k = ch k
theorem jr_nc : ∀ v, v < 127 → jx_nc (nI v) = true := by decide +kernel
section JR
variable {ch : Nat → Int32} {U : Nat}
theorem jr_ch_lt (hc : jr_ch ch U) {k : Nat} (h : ch k ≠ 0) : k < U := by
  refine Classical.byContradiction (fun z => h (hc.2.1 k (by omega)))
theorem jr_S_f {S S' : jx_S} (h : jr_S S ch U) (e8 : S'.1 8 = S.1 8) (e3 : S'.2.1 3 = S.2.1 3) : jr_S S' ch U := ⟨e8.trans h.1, by rw [e3]; exact h.2⟩
theorem jr_T_g {T T' : jx_S} (h : jr_T T ch U) (e8 : T'.1 1 = T.1 1) (e3 : T'.2.1 1 = T.2.1 1) : jr_T T' ch U := ⟨e8.trans h.1, by rw [e3]; exact h.2⟩
theorem f_R_peek_eq {S : jx_S} {k : Nat} (hc : jr_ch ch U) (hS : jr_S S ch U) (h9 : S.1 9 = nI k) (hk : k ≤ U) : f_R_peek S = some (ch k) := by
  have u80 := hc.1
  unfold f_R_peek
  rw [hS.1, h9]
  by_cases e : k = U
  · rw [if_pos (nI_le (by omega) (by omega)), hc.2.1 k (by omega)]
  · rw [if_neg (nI_ge (by omega) (by omega)), if_pos (ji_inN (by omega) (by decide)), nI_clamp (by omega), hS.2 k (by omega)]
    obtain ⟨v, h1, h2, h3⟩ := hc.2.2 k (by omega)
    rw [h3, if_pos (jr_nc v (by omega))]
theorem f_R_take_eq {S : jx_S} {k : Nat} (hc : jr_ch ch U) (hS : jr_S S ch U) (h9 : S.1 9 = nI k) (hk : k ≤ U) (x : Int32) : f_R_take S x = if ch k = x then some (1, jx_f S 9 (nI (k + 1))) else some (0, S) := by
  unfold f_R_take
  rw [f_R_peek_eq hc hS h9 hk, Option.bind_some, h9, nI_1]
theorem f_M_at_eq {T : jx_S} {k : Nat} (hc : jr_ch ch U) (hT : jr_T T ch U) (hk : k < 1000) : f_M_at T (nI k) = some (ch k) := by
  have u80 := hc.1
  unfold f_M_at
  rw [hT.1]
  by_cases e : U ≤ k
  · rw [if_pos (nI_le (by omega) (by omega)), hc.2.1 k (by omega)]
  · rw [if_neg (nI_ge (by omega) (by omega)), if_pos (ji_inN (by omega) (by decide)), nI_clamp (by omega), hT.2 k (by omega)]
def jr_rel (x : Int32) : Prop := x = 60 ∨ x = 61 ∨ x = 62
def jr_rc (ch : Nat → Int32) (k : Nat) : Nat := jn_cnt (fun j => decide (ch j = 60 ∨ ch j = 61 ∨ ch j = 62)) k
/-- the automaton has come to place k in state q, with l parentheses not yet closed and c relations -/
def jq (T0 : jx_S) (ch : Nat → Int32) (U : Nat) (q : Int32) (l k c : Nat) : Prop := k ≤ U ∧ l ≤ k ∧ jr_rc ch k = c ∧ jx_lp (b_M_illAt_6 T0) jx_N (0, 0, 0) = jx_lp (b_M_illAt_6 T0) (jx_N - k) (q, nI l, nI k)
theorem jq_step {T0 : jx_S} {q q' : Int32} {l k c : Nat} (hc : jr_ch ch U) (hT : jr_T T0 ch U) (h : jq T0 ch U q l k c) (hk : k < U) (ha : f_M_after q (ch k) (nI l) = some q') (hq : 0 ≤ q') (h41 : ch k = 41 → 0 < l) :
    jq T0 ch U q' (if ch k = 40 then l + 1 else if ch k = 41 then l - 1 else l) (k + 1) (c + (if ch k = 60 ∨ ch k = 61 ∨ ch k = 62 then 1 else 0)) := by
  obtain ⟨h1, h2, h3, h4⟩ := h
  have u80 := hc.1
  refine ⟨by omega, by (repeat' split) <;> omega, ?_, ?_⟩
  · unfold jr_rc at *
    rw [jn_cnt, h3]
    simp only [decide_eq_true_iff]
  · rw [h4, show jx_N - k = (jx_N - (k + 1)) + 1 by unfold jx_N; omega, jx_lp]
    have e : b_M_illAt_6 T0 (q, nI l, nI k) = some (Sum.inl (q', nI (if ch k = 40 then l + 1 else if ch k = 41 then l - 1 else l), nI (k + 1))) := by
      unfold b_M_illAt_6
      dsimp only
      rw [hT.1, if_neg (nI_ge (by omega) (by omega)), f_M_at_eq hc hT (by omega), Option.bind_some, ha, Option.bind_some, if_pos hq, Option.bind_some]
      by_cases c40 : ch k = 40
      · rw [if_pos c40, if_pos c40, Option.bind_some, if_neg (by rw [c40]; decide), nI_1, nI_1]
      · rw [if_neg c40, if_neg c40, Option.bind_some, nI_1]
        by_cases c41 : ch k = 41
        · have := h41 c41
          rw [if_pos c41, if_pos c41, show l = (l - 1) + 1 by omega, pk_m1]
          rfl
        · rw [if_neg c41, if_neg c41]
    rw [e]
    rfl
theorem jq_dead {T0 : jx_S} {q q' : Int32} {l k c : Nat} (hc : jr_ch ch U) (hT : jr_T T0 ch U) (h : jq T0 ch U q l k c) (hk : k < U) (ha : f_M_after q (ch k) (nI l) = some q') (hq : ¬ 0 ≤ q') : f_M_illAt T0 = some (nI k) := by
  obtain ⟨h1, h2, h3, h4⟩ := h
  have u80 := hc.1
  unfold f_M_illAt
  rw [h4, show jx_N - k = (jx_N - (k + 1)) + 1 by unfold jx_N; omega, jx_lp]
  have e : b_M_illAt_6 T0 (q, nI l, nI k) = some (Sum.inr (Sum.inr (nI k))) := by
    unfold b_M_illAt_6
    dsimp only
    rw [hT.1, if_neg (nI_ge (by omega) (by omega)), f_M_at_eq hc hT (by omega), Option.bind_some, ha, Option.bind_some, if_neg hq]
  rw [e]
  rfl
theorem jq_end {T0 : jx_S} {q : Int32} {l c : Nat} (hc : jr_ch ch U) (hT : jr_T T0 ch U) (h : jq T0 ch U q l U c) : f_M_illAt T0 = some (if l = 0 ∧ (q = 18 ∨ (¬ q ≤ 13 ∧ ¬ 18 ≤ q)) then -1 else nI U) := by
  obtain ⟨h1, h2, h3, h4⟩ := h
  have u80 := hc.1
  unfold f_M_illAt
  rw [h4, show jx_N - U = (jx_N - (U + 1)) + 1 by unfold jx_N; omega, jx_lp]
  have e : b_M_illAt_6 T0 (q, nI l, nI U) = some (Sum.inr (Sum.inl (q, nI l))) := by
    unfold b_M_illAt_6
    dsimp only
    rw [hT.1, if_pos (nI_le (by omega) (by omega))]
  rw [e, Option.bind_some]
  show (f_M_mayEnd T0 q (nI l)).bind (fun q66_7 => some (if q66_7 = 0 then T0.1 1 else -1)) = _
  unfold f_M_mayEnd
  rw [Option.bind_some, hT.1]
  have z : nI l = 0 ↔ l = 0 := nI_eq (b := 0) (by omega) (by omega)
  simp only [z]
  by_cases a1 : l = 0
  · by_cases a2 : q = 18
    · simp [a1, a2]
    · by_cases a3 : q ≤ 13
      · simp [a1, a2, a3]
      · by_cases a4 : 18 ≤ q
        · simp [a1, a2, a3, a4]
        · simp [a1, a2, a3, a4]
  · simp [a1]
/-! the automaton's steps -/
def jr_dg (x : Int32) : Prop := ¬ x < 48 ∧ ¬ 57 < x
theorem jr_dg_if {x : Int32} : (if x < 48 then 0 else (if 57 < x then 0 else 1 : Int32) : Int32) = 0 ↔ ¬ (¬ x < 48 ∧ ¬ 57 < x) := by
  by_cases a : x < 48
  · simp [a]
  · by_cases b : 57 < x
    · simp [a, b]
    · simp [a, b]
def jq_t (be x : Int32) : Int32 := if ¬ x < 48 ∧ ¬ 57 < x then be + 2 else if x = 120 then be + 3 else if x = 121 then be + 4 else -1
def jq_tail (be x lv : Int32) : Int32 := if x = 43 then be + 1 else if x = 45 then be + 1 else if be = 12 then (if x = 38 then 5 else if x = 124 then 5 else if x = 41 then (if lv ≤ 0 then -1 else 18) else -1) else if x = 60 then 12 else if x = 61 then 12 else if x = 62 then 12 else -1
theorem jq_term {be x : Int32} (hb : be = 6 ∨ be = 12) : f_M_term be x = some (if x = 45 then be + 1 else jq_t be x) := by
  unfold f_M_term k_M_term_29 f_M_isDigit jq_t
  have e : (if 12 ≤ be then 12 else 6 : Int32) = be := by rcases hb with rfl | rfl <;> decide
  rw [e, if_pos rfl, Option.bind_some]
  simp only [jr_dg_if, ite_not]
  split <;> rfl
theorem jq_term1 {be x : Int32} (hb : be = 6 ∨ be = 12) : f_M_term (be + 1) x = some (jq_t be x) := by
  unfold f_M_term k_M_term_29 f_M_isDigit jq_t
  have e : (if 12 ≤ be + 1 then 12 else 6 : Int32) = be := by rcases hb with rfl | rfl <;> decide
  have e2 : ¬ be + 1 = be := by rcases hb with rfl | rfl <;> decide
  rw [e, if_neg e2, Option.bind_some]
  simp only [jr_dg_if, ite_not]
  split <;> rfl
theorem jq_sum {q x lv : Int32} (h : q = 7 ∨ q = 8 ∨ q = 9 ∨ q = 10 ∨ q = 11 ∨ q = 12 ∨ q = 13 ∨ q = 14 ∨ q = 15 ∨ q = 16 ∨ q = 17) : f_M_after q x lv = f_M_inSum q x lv := by
  unfold f_M_after
  have : q ≠ 0 ∧ q ≠ 1 ∧ q ≠ 2 ∧ q ≠ 3 ∧ q ≠ 4 ∧ q ≠ 5 ∧ q ≠ 18 := by
    rcases h with rfl | rfl | rfl | rfl | rfl | rfl | rfl | rfl | rfl | rfl | rfl <;> decide
  rw [if_neg this.1, if_neg this.2.1, if_neg this.2.2.1, if_neg this.2.2.2.1, if_neg this.2.2.2.2.1, if_neg this.2.2.2.2.2.1, if_neg this.2.2.2.2.2.2]
  cases f_M_inSum q x lv <;> rfl
/-- entry of a sum: states 5 and 12 -/
theorem jq_a0 {be x lv q : Int32} (h : (be = 6 ∧ q = 5 ∧ x ≠ 126 ∧ x ≠ 40) ∨ (be = 12 ∧ q = 12)) : f_M_after q x lv = some (if x = 45 then be + 1 else jq_t be x) := by
  rcases h with ⟨rfl, rfl, h1, h2⟩ | ⟨rfl, rfl⟩
  · unfold f_M_after
    rw [if_neg (by decide), if_neg (by decide), if_neg (by decide), if_neg (by decide), if_neg (by decide), if_pos rfl, if_neg h1, if_neg h2, jq_term (Or.inl rfl)]
    rfl
  · rw [jq_sum (by simp)]
    unfold f_M_inSum
    rw [if_neg (by decide), jq_term (Or.inr rfl)]
    rfl
theorem jq_a1 {be x lv : Int32} (hb : be = 6 ∨ be = 12) : f_M_after (be + 1) x lv = some (jq_t be x) := by
  have e := jq_term1 (x := x) hb
  rcases hb with rfl | rfl
  · rw [show (6 + 1 : Int32) = 7 by decide] at *
    rw [jq_sum (by simp)]
    unfold f_M_inSum
    rw [if_neg (by decide), e]
    rfl
  · rw [show (12 + 1 : Int32) = 13 by decide] at *
    rw [jq_sum (by simp)]
    unfold f_M_inSum
    rw [if_neg (by decide), e]
    rfl
theorem jq_93 {be x lv y z : Int32} : k_M_inSum_93 y x lv be z = some (jq_tail be x lv) := by
  unfold k_M_inSum_93 jq_tail f_M_behind
  split
  · rfl
  · split
    · rfl
    · split
      · rfl
      · rfl
theorem jq_a2 {be x lv : Int32} (hb : be = 6 ∨ be = 12) : f_M_after (be + 2) x lv = some (if x = 120 then be + 3 else if x = 121 then be + 4 else jq_tail be x lv) := by
  have key : ∀ q : Int32, (if 12 ≤ q then 12 else 6 : Int32) = be → q - be = 2 → f_M_inSum q x lv = some (if x = 120 then be + 3 else if x = 121 then be + 4 else jq_tail be x lv) := by
    intro q e1 e2
    unfold f_M_inSum
    rw [e1, e2, if_pos (by decide), if_pos rfl]
    unfold k_M_inSum_49 k_M_inSum_65 k_M_inSum_77
    rw [if_neg (show ¬ (2 : Int32) = 3 by decide), if_neg (show ¬ (2 : Int32) = 4 by decide), jq_93]
    by_cases a : x = 120
    · simp [a]
    · by_cases b : x = 121
      · simp [b]
      · simp [a, b]
  rcases hb with rfl | rfl
  · rw [show (6 + 2 : Int32) = 8 by decide, jq_sum (by simp)]
    exact key 8 (by decide) (by decide)
  · rw [show (12 + 2 : Int32) = 14 by decide, jq_sum (by simp)]
    exact key 14 (by decide) (by decide)
theorem jq_a3 {be x lv : Int32} (hb : be = 6 ∨ be = 12) : f_M_after (be + 3) x lv = some (if x = 121 then be + 5 else jq_tail be x lv) := by
  have key : ∀ q : Int32, (if 12 ≤ q then 12 else 6 : Int32) = be → q - be = 3 → f_M_inSum q x lv = some (if x = 121 then be + 5 else jq_tail be x lv) := by
    intro q e1 e2
    unfold f_M_inSum
    rw [e1, e2, if_pos (by decide), if_neg (by decide)]
    unfold k_M_inSum_65 k_M_inSum_77
    rw [if_pos rfl, if_neg (show ¬ (3 : Int32) = 4 by decide), jq_93]
    by_cases b : x = 121
    · simp [b]
    · simp [b]
  rcases hb with rfl | rfl
  · rw [show (6 + 3 : Int32) = 9 by decide, jq_sum (by simp)]
    exact key 9 (by decide) (by decide)
  · rw [show (12 + 3 : Int32) = 15 by decide, jq_sum (by simp)]
    exact key 15 (by decide) (by decide)
theorem jq_a4 {be x lv : Int32} (hb : be = 6 ∨ be = 12) : f_M_after (be + 4) x lv = some (if x = 120 then be + 5 else jq_tail be x lv) := by
  have key : ∀ q : Int32, (if 12 ≤ q then 12 else 6 : Int32) = be → q - be = 4 → f_M_inSum q x lv = some (if x = 120 then be + 5 else jq_tail be x lv) := by
    intro q e1 e2
    unfold f_M_inSum
    rw [e1, e2, if_pos (by decide), if_neg (by decide)]
    unfold k_M_inSum_65 k_M_inSum_77
    rw [if_neg (by decide), if_pos rfl, jq_93]
    by_cases b : x = 120
    · simp [b]
    · simp [b]
  rcases hb with rfl | rfl
  · rw [show (6 + 4 : Int32) = 10 by decide, jq_sum (by simp)]
    exact key 10 (by decide) (by decide)
  · rw [show (12 + 4 : Int32) = 16 by decide, jq_sum (by simp)]
    exact key 16 (by decide) (by decide)
theorem jq_a5 {be x lv : Int32} (hb : be = 6 ∨ be = 12) : f_M_after (be + 5) x lv = some (jq_tail be x lv) := by
  have key : ∀ q : Int32, (if 12 ≤ q then 12 else 6 : Int32) = be → q - be = 5 → f_M_inSum q x lv = some (jq_tail be x lv) := by
    intro q e1 e2
    unfold f_M_inSum
    rw [e1, e2, if_pos (by decide), if_neg (by decide)]
    unfold k_M_inSum_65 k_M_inSum_77
    rw [if_neg (by decide), if_neg (by decide), jq_93]
  rcases hb with rfl | rfl
  · rw [show (6 + 5 : Int32) = 11 by decide, jq_sum (by simp)]
    exact key 11 (by decide) (by decide)
  · rw [show (12 + 5 : Int32) = 17 by decide, jq_sum (by simp)]
    exact key 17 (by decide) (by decide)
end JR
