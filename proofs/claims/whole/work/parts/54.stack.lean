/-! operators that wait, and the formula written out -/
def jw_A (f : Nat → Int32) : List Nat → Prop
  | [] => True
  | x :: l => f l.length = nI x ∧ jw_A f l
theorem jw_A_upd {f g : Nat → Int32} : ∀ {l : List Nat}, jw_A f l → (∀ k, k < l.length → g k = f k) → jw_A g l
  | [], _, _ => trivial
  | x :: l, h, k => ⟨by rw [k l.length (by rw [List.length_cons]; omega)]; exact h.1, jw_A_upd h.2 (fun q hq => k q (by rw [List.length_cons]; omega))⟩
theorem jw_A_push {f : Nat → Int32} {l : List Nat} {x : Nat} (h : jw_A f l) : jw_A (upd f l.length (nI x)) (x :: l) := ⟨by unfold upd; rw [if_pos rfl], jw_A_upd h (fun k hk => by unfold upd; rw [if_neg (by omega)])⟩
def jw_dep : List Nat → Nat
  | [] => 0
  | x :: l => if x = 3 then jw_dep l else if x = 2 ∨ x = 1 then jw_dep l - 1 else jw_dep l + 1
def jw_ok (a : Nat) : List Nat → Prop
  | [] => True
  | x :: l => jw_ok a l ∧ ((x = 3 ∧ 1 ≤ jw_dep l) ∨ (x = 2 ∧ 2 ≤ jw_dep l) ∨ (x = 1 ∧ 2 ≤ jw_dep l) ∨ (4 ≤ x ∧ x < 4 + a ∧ jw_dep l ≤ x - 4))
theorem jw_ok_mono {a b : Nat} (h : a ≤ b) : ∀ {l : List Nat}, jw_ok a l → jw_ok b l
  | [], _ => trivial
  | x :: l, k => ⟨jw_ok_mono h k.1, by have := k.2; omega⟩
theorem jw_dep_le {a : Nat} : ∀ {l : List Nat}, jw_ok a l → jw_dep l ≤ a
  | [], _ => Nat.zero_le _
  | x :: l, k => by
    have ih := jw_dep_le k.1
    have := k.2
    unfold jw_dep
    split
    · omega
    · split <;> omega
def jw_nb : List Nat → Nat
  | [] => 0
  | x :: l => jw_nb l + (if x = 2 ∨ x = 1 then 1 else 0)
def jw_z : List Nat → Nat
  | [] => 0
  | x :: l => jw_z l + (if x = 0 then 1 else 0)
def jw_rel (b : Nat) : List Nat → List Nat → List Nat × List Nat
  | [], sl => ([], sl)
  | x :: wl, sl => if x < b then (x :: wl, sl) else jw_rel b wl (x :: sl)
def jw_S (S : jx_S) (wl sl : List Nat) (a l : Nat) : Prop := S.1 10 = nI wl.length ∧ jw_A (S.2.1 4) wl ∧ S.1 3 = nI sl.length ∧ jw_A (S.2.1 2) sl ∧ S.1 4 = nI a ∧ S.1 11 = nI l
def jw_I (wl sl : List Nat) (a l k d : Nat) : Prop := (∀ x, x ∈ wl → x ≤ 3) ∧ jw_z wl = l ∧ jw_ok a sl ∧ jw_dep sl = jw_nb wl + d ∧ wl.length + sl.length + 5 ≤ k
theorem jw_rel_I {b a l k : Nat} (hb : 1 ≤ b) : ∀ (wl sl : List Nat), jw_I wl sl a l k 1 → jw_I (jw_rel b wl sl).1 (jw_rel b wl sl).2 a l k 1
  | [], sl, h => h
  | x :: wl, sl, h => by
    unfold jw_rel
    by_cases c : x < b
    · rw [if_pos c]; exact h
    · rw [if_neg c]
      obtain ⟨h1, h2, h3, h4, h5⟩ := h
      have x3 := h1 x List.mem_cons_self
      rw [List.length_cons] at h5
      unfold jw_nb at h4
      unfold jw_z at h2
      refine jw_rel_I hb wl (x :: sl) ⟨fun y hy => h1 y (List.mem_cons_of_mem _ hy), ?_, ⟨h3, ?_⟩, ?_, ?_⟩
      · rw [if_neg (by omega)] at h2; omega
      · by_cases e : x = 3
        · omega
        · rw [if_pos (by omega)] at h4
          omega
      · unfold jw_dep
        by_cases e : x = 3
        · rw [if_neg (by omega)] at h4
          rw [if_pos e]
          omega
        · rw [if_pos (by omega)] at h4
          rw [if_neg e, if_pos (by omega)]
          omega
      · rw [List.length_cons]; omega
theorem jw_rel_head {b : Nat} : ∀ (wl sl : List Nat), (jw_rel b wl sl).1 = [] ∨ ∃ x l, (jw_rel b wl sl).1 = x :: l ∧ x < b
  | [], sl => Or.inl rfl
  | x :: wl, sl => by
    unfold jw_rel
    by_cases c : x < b
    · rw [if_pos c]; exact Or.inr ⟨x, wl, rfl, c⟩
    · rw [if_neg c]; exact jw_rel_head wl (x :: sl)
theorem f_R_release_ok {a l k b : Nat} (hb : 1 ≤ b) (hb3 : b ≤ 3) (hk : k ≤ 80) : ∀ (wl sl : List Nat) (S : jx_S) (n : Nat), jw_S S wl sl a l → jw_I wl sl a l k 1 → wl.length < n → jm_T (jx_lp (b_R_release_0 (nI b)) n S) (fun S' => jf [3, 10] [2] S S' ∧ jw_S S' (jw_rel b wl sl).1 (jw_rel b wl sl).2 a l)
  | [], sl, S, n, h, hI, hn => by
    rw [show n = (n - 1) + 1 by omega, jx_lp]
    have e : b_R_release_0 (nI b) S = some (Sum.inr S) := by
      unfold b_R_release_0
      rw [h.1, if_pos (by decide)]
    rw [e]
    exact jm_ret ⟨jf_refl _ _ _, h⟩
  | x :: wl, sl, S, n, h, hI, hn => by
    rw [show n = (n - 1) + 1 by omega, jx_lp]
    obtain ⟨h1, h2, h3, h4, h5, h6⟩ := h
    obtain ⟨i1, i2, i3, i4, i5⟩ := hI
    have x3 := i1 x List.mem_cons_self
    have hlen : (x :: wl).length = wl.length + 1 := rfl
    rw [hlen] at h1 i5 hn
    have e0 : nI (wl.length + 1) - 1 = nI wl.length := nI_pred _
    unfold jw_rel
    by_cases c : x < b
    · have e : b_R_release_0 (nI b) S = some (Sum.inr S) := by
        unfold b_R_release_0
        rw [h1, if_neg (nI_nle (by omega) (by omega)), e0, if_pos (ji_inN (by omega) (by decide)), nI_clamp (by omega), h2.1, if_pos (nI_lt c (by omega))]
      rw [e, if_pos c]
      exact jm_ret ⟨jf_refl _ _ _, h1, h2, h3, h4, h5, h6⟩
    · have e : b_R_release_0 (nI b) S = some (Sum.inl (jx_f (jx_f (jx_g S 2 (upd (S.2.1 2) sl.length (nI x))) 3 (nI (sl.length + 1))) 10 (nI wl.length))) := by
        unfold b_R_release_0
        rw [h1, if_neg (nI_nle (by omega) (by omega)), e0, if_pos (ji_inN (by omega) (by decide)), nI_clamp (by omega), h2.1, if_neg (nI_nlt (by omega) (by omega)), f_S_addStep_eq h3 (by omega), Option.bind_some, js_f1, if_neg (by decide), js_g1, h1, e0]
      rw [e, if_neg c]
      have f1 : jf [3, 10] [2] S (jx_f (jx_f (jx_g S 2 (upd (S.2.1 2) sl.length (nI x))) 3 (nI (sl.length + 1))) 10 (nI wl.length)) := jf_trans (jf_trans (jf_g (by decide)) (jf_f (by decide))) (jf_f (by decide))
      have hI' := jw_rel_I (b := x) (k := k) (a := a) (l := l) (by omega) [x] sl
      refine jm_mono (f_R_release_ok hb hb3 hk wl (x :: sl) _ (n - 1) ⟨?_, ?_, ?_, ?_, ?_, ?_⟩ ?_ (by omega)) (fun S' h' => ⟨jf_trans f1 h'.1, h'.2⟩)
      · rw [js_f1, if_pos rfl]
      · rw [f1.2.1 4 (by decide)]; exact h2.2
      · rw [js_f1, if_neg (by decide), js_f1, if_pos rfl]; rfl
      · rw [js_f2, js_f2, js_g2, if_pos rfl]; exact jw_A_push h4
      · rw [f1.1 4 (by decide)]; exact h5
      · rw [f1.1 11 (by decide)]; exact h6
      · unfold jw_nb at i4
        unfold jw_z at i2
        refine ⟨fun y hy => i1 y (List.mem_cons_of_mem _ hy), ?_, ⟨i3, ?_⟩, ?_, ?_⟩
        · rw [if_neg (by omega)] at i2; omega
        · by_cases e : x = 3
          · omega
          · rw [if_pos (by omega)] at i4
            omega
        · unfold jw_dep
          by_cases e : x = 3
          · rw [if_neg (by omega)] at i4
            rw [if_pos e]
            omega
          · rw [if_pos (by omega)] at i4
            rw [if_neg e, if_pos (by omega)]
            omega
        · rw [List.length_cons]; omega
theorem f_R_release_of {a l k b : Nat} (hb : 1 ≤ b) (hb3 : b ≤ 3) (hk : k ≤ 80) {wl sl : List Nat} {S : jx_S} (h : jw_S S wl sl a l) (hI : jw_I wl sl a l k 1) : jm_T (f_R_release S (nI b)) (fun S' => jf [3, 10] [2] S S' ∧ jw_S S' (jw_rel b wl sl).1 (jw_rel b wl sl).2 a l) := by
  unfold f_R_release
  refine jm_bind (f_R_release_ok hb hb3 hk wl sl S jx_N h hI ?_) (fun S' h' => jm_ret h')
  have := hI.2.2.2.2
  unfold jx_N
  omega
/-- the reference's operators -/
def jw_P (T : jx_S) (wl sl : List Nat) : Prop := T.1 7 = nI wl.length ∧ jw_A (T.2.1 4) wl ∧ T.1 6 = nI sl.length ∧ jw_A (T.2.1 3) (sl.map jd_cd)
theorem jw_map_len (sl : List Nat) : (sl.map jd_cd).length = sl.length := List.length_map ..
theorem f_M_giveAll_ok {b : Nat} (hb : 1 ≤ b) (hb3 : b ≤ 3) : ∀ (wl sl : List Nat) (T : jx_S) (n : Nat), jw_P T wl sl → (∀ x, x ∈ wl → x ≤ 3) → wl.length + sl.length ≤ 80 → wl.length < n → jm_T (jx_lp (b_M_giveAll_0 (nI b)) n T) (fun T' => jg [6, 7] [3] [] T T' ∧ jw_P T' (jw_rel b wl sl).1 (jw_rel b wl sl).2)
  | [], sl, T, n, h, hI, h80, hn => by
    rw [show n = (n - 1) + 1 by omega, jx_lp]
    have e : b_M_giveAll_0 (nI b) T = some (Sum.inr T) := by
      unfold b_M_giveAll_0
      rw [h.1, if_pos (by decide)]
    rw [e]
    exact jm_ret ⟨jg_refl _ _ _ _, h⟩
  | x :: wl, sl, T, n, h, hI, h80, hn => by
    rw [show n = (n - 1) + 1 by omega, jx_lp]
    obtain ⟨h1, h2, h3, h4⟩ := h
    have x3 := hI x List.mem_cons_self
    have hlen : (x :: wl).length = wl.length + 1 := rfl
    rw [hlen] at h1 h80 hn
    have e0 : nI (wl.length + 1) - 1 = nI wl.length := nI_pred _
    unfold jw_rel
    by_cases c : x < b
    · have e : b_M_giveAll_0 (nI b) T = some (Sum.inr T) := by
        unfold b_M_giveAll_0
        rw [h1, if_neg (nI_nle (by omega) (by omega)), e0, if_pos (ji_inN (by omega) (by decide)), nI_clamp (by omega), h2.1, if_pos (nI_lt c (by omega))]
      rw [e, if_pos c]
      exact jm_ret ⟨jg_refl _ _ _ _, h1, h2, h3, h4⟩
    · have e : b_M_giveAll_0 (nI b) T = some (Sum.inl (jx_f (jx_g (jx_f T 7 (nI wl.length)) 3 (upd (T.2.1 3) sl.length (nI (jd_cd x)))) 6 (nI (sl.length + 1)))) := by
        unfold b_M_giveAll_0
        rw [h1, if_neg (nI_nle (by omega) (by omega)), e0, if_pos (ji_inN (by omega) (by decide)), nI_clamp (by omega), h2.1, if_neg (nI_nlt (by omega) (by omega))]
        have h6 : (jx_f T 7 (nI wl.length)).1 6 = nI sl.length := by rw [js_f1, if_neg (by decide)]; exact h3
        by_cases e3 : x = 3
        · rw [if_pos (by rw [e3]; rfl), f_M_give_eq h6 (by omega), e3]
          rfl
        · rw [if_neg (show ¬ nI x = 3 from fun h => e3 ((nI_eq (b := 3) (by omega) (by omega)).mp h)), f_M_give_eq h6 (by omega)]
          by_cases e2 : x = 2
          · rw [if_pos (by rw [e2]; rfl), e2]
            rfl
          · have e1 : x = 1 := by omega
            rw [if_neg (show ¬ nI x = 2 from fun h => e2 ((nI_eq (b := 2) (by omega) (by omega)).mp h)), e1]
            rfl
      rw [e, if_neg c]
      have f1 : jg [6, 7] [3] [] T (jx_f (jx_g (jx_f T 7 (nI wl.length)) 3 (upd (T.2.1 3) sl.length (nI (jd_cd x)))) 6 (nI (sl.length + 1))) := jg_trans (jg_trans (jg_f (by decide)) (jg_g (by decide))) (jg_f (by decide))
      refine jm_mono (f_M_giveAll_ok hb hb3 wl (x :: sl) _ (n - 1) ⟨?_, ?_, ?_, ?_⟩ (fun y hy => hI y (List.mem_cons_of_mem _ hy)) (by rw [List.length_cons]; omega) (by omega)) (fun S' h' => ⟨jg_trans f1 h'.1, h'.2⟩)
      · rw [js_f1, if_neg (by decide), js_g1, js_f1, if_pos rfl]
      · rw [f1.2.1 4 (by decide)]; exact h2.2
      · rw [js_f1, if_pos rfl]; rfl
      · rw [js_f2, js_g2, if_pos rfl, List.map_cons, ← jw_map_len sl]; exact jw_A_push h4
theorem f_M_giveAll_of {b : Nat} (hb : 1 ≤ b) (hb3 : b ≤ 3) {wl sl : List Nat} {T : jx_S} (h : jw_P T wl sl) (hI : ∀ x, x ∈ wl → x ≤ 3) (h80 : wl.length + sl.length ≤ 80) : jm_T (f_M_giveAll T (nI b)) (fun T' => jg [6, 7] [3] [] T T' ∧ jw_P T' (jw_rel b wl sl).1 (jw_rel b wl sl).2) := by
  unfold f_M_giveAll
  exact jm_bind (f_M_giveAll_ok hb hb3 wl sl T jx_N h hI h80 (by unfold jx_N; omega)) (fun S' h' => jm_ret h')
theorem f_R_hold_eq {S : jx_S} {n : Nat} (h : S.1 10 = nI n) (hn : n < 80) (x : Int32) : f_R_hold S x = some (jx_f (jx_g S 4 (upd (S.2.1 4) n x)) 10 (nI (n + 1))) := by
  unfold f_R_hold
  rw [h, if_neg (show ¬ (80 : Int32) ≤ nI n from nI_ge (b := 80) (by omega) (by omega)), if_pos (ji_inN (by omega) (by decide)), nI_clamp (by omega), nI_1]
theorem f_M_wait0_eq {T : jx_S} {n : Nat} (h : T.1 7 = nI n) (hn : n < 90) (x : Int32) : f_M_wait0 T x = some (jx_f (jx_g T 4 (upd (T.2.1 4) n x)) 7 (nI (n + 1))) := by
  unfold f_M_wait0
  rw [h, if_pos (ji_inN (by omega) (by decide)), nI_clamp (by omega), nI_1]
theorem jw_S_push {S : jx_S} {wl sl : List Nat} {a l : Nat} (h : jw_S S wl sl a l) (x : Nat) : jw_S (jx_f (jx_g S 4 (upd (S.2.1 4) wl.length (nI x))) 10 (nI (wl.length + 1))) (x :: wl) sl a l := by
  obtain ⟨h1, h2, h3, h4, h5, h6⟩ := h
  have f1 : jf [10] [4] S (jx_f (jx_g S 4 (upd (S.2.1 4) wl.length (nI x))) 10 (nI (wl.length + 1))) := jf_trans (jf_g (by decide)) (jf_f (by decide))
  refine ⟨by rw [js_f1, if_pos rfl]; rfl, ?_, (f1.1 3 (by decide)).trans h3, by rw [f1.2.1 2 (by decide)]; exact h4, (f1.1 4 (by decide)).trans h5, (f1.1 11 (by decide)).trans h6⟩
  rw [js_f2, js_g2, if_pos rfl]
  exact jw_A_push h2
theorem jw_P_push {T : jx_S} {wl sl : List Nat} (h : jw_P T wl sl) (x : Nat) : jw_P (jx_f (jx_g T 4 (upd (T.2.1 4) wl.length (nI x))) 7 (nI (wl.length + 1))) (x :: wl) sl := by
  obtain ⟨h1, h2, h3, h4⟩ := h
  have f1 : jg [7] [4] [] T (jx_f (jx_g T 4 (upd (T.2.1 4) wl.length (nI x))) 7 (nI (wl.length + 1))) := jg_trans (jg_g (by decide)) (jg_f (by decide))
  refine ⟨by rw [js_f1, if_pos rfl]; rfl, ?_, (f1.1 6 (by decide)).trans h3, by rw [f1.2.1 3 (by decide)]; exact h4⟩
  rw [js_f2, js_g2, if_pos rfl]
  exact jw_A_push h2
