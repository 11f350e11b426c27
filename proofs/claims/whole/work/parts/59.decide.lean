/-! decide, on both sides -/
theorem jr_17 (T : jx_S) : ∃ Tb, jx_lp b_M_readFormula_17 jx_N (jx_f (jx_f (jx_f T 5 0) 6 0) 7 0, 0) = some Tb ∧ jg [5, 6, 7] [2] [] T Tb ∧ Tb.1 5 = 0 ∧ Tb.1 6 = 0 ∧ Tb.1 7 = 0 ∧ ∀ j, j < 32 → Tb.2.1 2 j = 0 := by
  have key : jm_T (jx_lp b_M_readFormula_17 jx_N (jx_f (jx_f (jx_f T 5 0) 6 0) 7 0, 0)) (fun Tb => jg [] [2] [] (jx_f (jx_f (jx_f T 5 0) 6 0) 7 0) Tb ∧ ∀ j, j < 32 → Tb.2.1 2 j = 0) := by
    refine jm_loop (fun z => ∃ k, k ≤ 32 ∧ z.2 = nI k ∧ jg [] [2] [] (jx_f (jx_f (jx_f T 5 0) 6 0) 7 0) z.1 ∧ ∀ j, j < k → z.1.2.1 2 j = 0) (fun z => 32 - z.2.toNatClampNeg) _ ?_ jx_N _ ⟨0, by omega, rfl, jg_refl _ _ _ _, fun j hj => by omega⟩ (by show 32 - _ < jx_N; unfold jx_N; omega)
    rintro ⟨T1, k1⟩ ⟨k, g1, g2, g3, g4⟩
    dsimp only at g2 g3 g4
    subst g2
    unfold b_M_readFormula_17
    dsimp only
    by_cases e : k = 32
    · subst e
      rw [if_pos (by decide)]
      exact jm_ret ⟨g3, g4⟩
    · rw [if_neg (show ¬ (32 : Int32) ≤ nI k from nI_ge (b := 32) (by omega) (by omega)), if_pos (ji_inN (by omega) (by decide)), nI_clamp (by omega), nI_1]
      refine jm_ret ⟨⟨k + 1, by omega, rfl, jg_trans g3 (jg_g (by decide)), fun j hj => ?_⟩, ?_⟩
      · dsimp only
        rw [js_g2, if_pos rfl]
        unfold upd
        by_cases e2 : j = k
        · rw [if_pos e2]
        · rw [if_neg e2]
          exact g4 j (by omega)
      · dsimp only
        rw [nI_clamp (by omega)]
        omega
  obtain ⟨Tb, e, f, z⟩ := key
  have f0 : jg [5, 6, 7] [2] [] T (jx_f (jx_f (jx_f T 5 0) 6 0) 7 0) := jg_trans (jg_trans (jg_f (by decide)) (jg_f (by decide))) (jg_f (by decide))
  refine ⟨Tb, e, jg_trans f0 (jg_wk f (by decide) (by decide) (by decide)), ?_, ?_, ?_, z⟩
  · rw [f.1 5 (by decide), js_f1, if_neg (by decide), js_f1, if_neg (by decide), js_f1, if_pos rfl]
  · rw [f.1 6 (by decide), js_f1, if_neg (by decide), js_f1, if_pos rfl]
  · rw [f.1 7 (by decide), js_f1, if_pos rfl]
/-- the formula written out, as a row of codes -/
theorem jw_conv {f g : Nat → Int32} {a : Nat} (ha : a ≤ 80) : ∀ {l : List Nat}, jw_A f l → jw_A g (l.map jd_cd) → jw_ok a l → jt_dep (fun k => (f k).toNatClampNeg) l.length = jw_dep l ∧ ∀ k, k < l.length → f k = nI ((f k).toNatClampNeg) ∧ g k = nI (jd_cd ((f k).toNatClampNeg)) ∧ jt_dep (fun k => (f k).toNatClampNeg) k ≤ a ∧ (((f k).toNatClampNeg = 3 ∧ 1 ≤ jt_dep (fun k => (f k).toNatClampNeg) k) ∨ ((f k).toNatClampNeg = 2 ∧ 2 ≤ jt_dep (fun k => (f k).toNatClampNeg) k) ∨ ((f k).toNatClampNeg = 1 ∧ 2 ≤ jt_dep (fun k => (f k).toNatClampNeg) k) ∨ (4 ≤ (f k).toNatClampNeg ∧ (f k).toNatClampNeg < 4 + a ∧ jt_dep (fun k => (f k).toNatClampNeg) k ≤ (f k).toNatClampNeg - 4))
  | [], _, _, _ => ⟨rfl, fun k hk => by exact absurd hk (Nat.not_lt_zero _)⟩
  | x :: l, hf, hg, ho => by
    obtain ⟨i1, i2⟩ := jw_conv ha hf.2 hg.2 ho.1
    have hx : x < 2147483648 := by have := ho.2; omega
    have e : (f l.length).toNatClampNeg = x := by rw [hf.1, nI_clamp hx]
    have eg : g l.length = nI (jd_cd x) := by
      have := hg.1
      rw [jw_map_len] at this
      exact this
    have dl := jw_dep_le ho.1
    refine ⟨?_, fun k hk => ?_⟩
    · rw [List.length_cons, jt_dep, e, i1]
      rfl
    · rw [List.length_cons] at hk
      by_cases c : k = l.length
      · subst c
        rw [e, i1]
        exact ⟨hf.1, eg, dl, ho.2⟩
      · exact i2 k (by omega)
/-- what both sides have read -/
theorem jw_data {S T : jx_S} {sl : List Nat} {a : Nat} (a8 : a ≤ 8) (h4 : S.1 4 = nI a) (h3 : S.1 3 = nI sl.length) (hA : jw_A (S.2.1 2) sl) (ok : jw_ok a sl) (dp : jw_dep sl = 1) (l80 : sl.length ≤ 80) (hP : jw_P T [] sl) (hT : jw_T S T a) (h5 : ∀ j, j < 4 * a → jr_in5 (S.2.1 0 j)) :
    ∃ (c : Nat → Int) (rl cd : Nat → Nat), (∀ p, p < a → rl p = 60 ∨ rl p = 61 ∨ rl p = 62) ∧ jt_ok cd a sl.length ∧ jm_nb (S.2.1 0) a c ∧ jm_nb (T.2.1 2) a c ∧ (∀ p, p < a → S.2.1 1 p = nI (rl p)) ∧ (∀ p, p < a → T.2.1 9 p = nI (rl p)) ∧ (∀ k, k < sl.length → S.2.1 2 k = nI (cd k)) ∧ ∀ k, k < sl.length → T.2.1 3 k = nI (jd_cd (cd k)) := by
  obtain ⟨c1, c2⟩ := jw_conv (f := S.2.1 2) (g := T.2.1 3) (a := a) (by omega) hA hP.2.2.2 ok
  have r60 : ∀ p, p < a → ∃ v, (v = 60 ∨ v = 61 ∨ v = 62) ∧ T.2.1 9 p = nI v ∧ (T.2.1 9 p).toNatClampNeg = v := fun p hp => by
    rcases (hT.2.2.2 p hp).2 with e | e | e
    · exact ⟨60, by omega, e, by rw [e]; rfl⟩
    · exact ⟨61, by omega, e, by rw [e]; rfl⟩
    · exact ⟨62, by omega, e, by rw [e]; rfl⟩
  refine ⟨fun k => (S.2.1 0 k).toInt, fun p => (T.2.1 9 p).toNatClampNeg, fun k => (S.2.1 2 k).toNatClampNeg, fun p hp => ?_, ⟨l80, by rw [c1]; exact dp, fun k hk => ?_⟩, fun k hk => ⟨rfl, h5 k hk⟩, fun k hk => ⟨by dsimp only; rw [hT.2.1 k hk], h5 k hk⟩, fun p hp => ?_, fun p hp => ?_, fun k hk => (c2 k hk).1, fun k hk => (c2 k hk).2.1⟩
  · obtain ⟨v, v1, v2, v3⟩ := r60 p hp
    dsimp only
    rw [v3]; exact v1
  · have := (c2 k hk).2.2
    dsimp only
    omega
  · obtain ⟨v, v1, v2, v3⟩ := r60 p hp
    dsimp only
    rw [(hT.2.2.2 p hp).1, v3]; exact v2
  · obtain ⟨v, v1, v2, v3⟩ := r60 p hp
    dsimp only
    rw [v3]; exact v2
section JX2
variable {S T : jx_S} {m : Nat} {c : Nat → Int} {rl cd : Nat → Nat} {L : Nat} {ax ay : Bool} {A B C w : Nat → Int} {n : Nat}
theorem jd_loopS (v : jd_V m rl cd L n) (h : jd_S S m c rl cd L ax ay (jd_t A B C) (jd_r A B C w) (jd_b A B) n) (h2 : S.1 2 = -1) (x : Int32) : jm_T (jx_lp (b_P_decide_55 x) jx_N (S, 0)) (fun S' => jf [2, 12, 14, 15, 16] [9, 10, 11] S S' ∧ jd_WS S' (jd_hd (jd_t A B C) (jd_r A B C w) (jd_b A B) c m rl cd L ay) ax (2 * n + 1)) := by
  have n72 := v.2.1
  obtain ⟨hd, hhd⟩ : ∃ hd, hd = jd_hd (jd_t A B C) (jd_r A B C w) (jd_b A B) c m rl cd L ay := ⟨_, rfl⟩
  rw [← hhd]
  refine jm_loop (fun z => ∃ i, i ≤ 2 * n + 1 ∧ z.2 = nI i ∧ jf [2, 12, 14, 15, 16] [9, 10, 11] S z.1 ∧ ((z.1.1 2 = -1 ∧ ∀ j, j < i → hd j = ax) ∨ ∃ u, u < i ∧ z.1.1 2 = nI u ∧ hd u ≠ ax ∧ ∀ j, j < u → hd j = ax)) (fun z => 2 * n + 1 - z.2.toNatClampNeg) _ ?_ jx_N _ ⟨0, by omega, rfl, jf_refl _ _ _, Or.inl ⟨h2, fun j hj => by omega⟩⟩ (by show 2 * n + 1 - _ < jx_N; unfold jx_N; omega)
  rintro ⟨S1, i1⟩ ⟨i, k1, k2, k3, k4⟩
  dsimp only at k2 k3 k4
  subst k2
  have dS := jd_S_f h (jf_wk k3 (by decide) (by decide))
  unfold b_P_decide_55
  dsimp only
  rw [dS.2.2.2.2.2.2.2.2]
  by_cases e : i = 2 * n + 1
  · rw [if_pos (nI_le (by omega) (by omega))]
    subst e
    refine jm_ret ⟨k3, ?_⟩
    rcases k4 with k | ⟨u, u1, u2, u3, u4⟩
    · exact Or.inl k
    · exact Or.inr ⟨u, u1, u2, u3, u4⟩
  · rw [if_neg (nI_ge (by omega) (by omega))]
    rcases k4 with ⟨k4, k5⟩ | ⟨u, u1, u2, u3, u4⟩
    · rw [k4, if_neg (by decide)]
      obtain ⟨S2, e1, f1, E⟩ := jd_enter v dS (show i ≤ 2 * n by omega)
      have dS2 := jd_S_f dS (jf_wk f1 (by decide) (by decide))
      rw [e1, Option.bind_some, jd_holds v dS2 E, Option.bind_some, dS2.2.2.2.2.2.1, ← hhd, nI_1]
      have mu : 2 * n + 1 - (nI (i + 1)).toNatClampNeg < 2 * n + 1 - (nI i).toNatClampNeg := by
        rw [nI_clamp (by omega), nI_clamp (by omega)]
        omega
      have f2 : jf [2, 12, 14, 15, 16] [9, 10, 11] S S2 := jf_trans k3 (jf_wk f1 (by decide) (by decide))
      by_cases c1 : hd i = ax
      · rw [if_pos (by rw [c1])]
        refine jm_ret ⟨⟨i + 1, by omega, rfl, f2, Or.inl ⟨(f1.1 2 (by decide)).trans k4, fun j hj => ?_⟩⟩, mu⟩
        by_cases e4 : j = i
        · rw [e4]; exact c1
        · exact k5 j (by omega)
      · rw [if_neg (fun z => c1 (jt_b_inj.mp z))]
        exact jm_ret ⟨⟨i + 1, by omega, rfl, jf_trans f2 (jf_f (by decide)), Or.inr ⟨i, by omega, by dsimp only; rw [js_f1, if_pos rfl], c1, k5⟩⟩, mu⟩
    · rw [u2, if_pos (show (0 : Int32) ≤ nI u from nI_le (a := 0) (by omega) (by omega))]
      exact jm_ret ⟨k3, Or.inr ⟨u, by omega, u2, u3, u4⟩⟩
theorem jd_loopT (v : jd_V m rl cd L n) (h : jd_T T m c rl cd L ax ay A B C w n) (hK : jd_K T (jd_t A B C) (jd_r A B C w) (jd_b A B) c m n) (x : Int32) : jm_T (jx_lp (b_M_decide_174 x) jx_N (T, 1, 0, 0)) (fun o => jg [9, 10] [5, 7, 8] [] T o.1 ∧ jd_K o.1 (jd_t A B C) (jd_r A B C w) (jd_b A B) c m n ∧ o.2.1 = jt_b (jt_all (jd_hd (jd_t A B C) (jd_r A B C w) (jd_b A B) c m rl cd L ay) (2 * n + 1)) ∧ o.2.2 = jt_b (jt_any (jd_hd (jd_t A B C) (jd_r A B C w) (jd_b A B) c m rl cd L ay) (2 * n + 1))) := by
  have n72 := v.2.1
  obtain ⟨hd, hhd⟩ : ∃ hd, hd = jd_hd (jd_t A B C) (jd_r A B C w) (jd_b A B) c m rl cd L ay := ⟨_, rfl⟩
  rw [← hhd]
  refine jm_loop (fun z => ∃ i, i ≤ 2 * n + 1 ∧ z.2.2.2 = nI i ∧ jg [9, 10] [5, 7, 8] [] T z.1 ∧ jd_K z.1 (jd_t A B C) (jd_r A B C w) (jd_b A B) c m n ∧ z.2.1 = jt_b (jt_all hd i) ∧ z.2.2.1 = jt_b (jt_any hd i)) (fun z => 2 * n + 1 - z.2.2.2.toNatClampNeg) _ ?_ jx_N _ ⟨0, by omega, rfl, jg_refl _ _ _ _, hK, rfl, rfl⟩ (by show 2 * n + 1 - _ < jx_N; unfold jx_N; omega)
  rintro ⟨T1, x1, x2, i1⟩ ⟨i, k1, k2, k3, k4, k5, k6⟩
  dsimp only at k2 k3 k4 k5 k6
  subst k2
  subst k5
  subst k6
  have dT := jd_T_g h (jg_wk k3 (by decide) (by decide) (by decide))
  unfold b_M_decide_174
  dsimp only
  rw [dT.2.2.2.2.2.2.2.2]
  by_cases e : i = 2 * n + 1
  · rw [if_pos (nI_le (by omega) (by omega))]
    subst e
    exact jm_ret ⟨k3, k4, rfl, rfl⟩
  · rw [if_neg (nI_ge (by omega) (by omega))]
    obtain ⟨⟨r, T2⟩, e2, g1, g2, g3⟩ := jd_columnHolds (t := jd_t A B C) (r := jd_r A B C w) (b := jd_b A B) rfl rfl rfl v dT (show i ≤ 2 * n by omega) k4
    dsimp only at g1 g2 g3
    rw [← hhd] at g1
    subst g1
    rw [e2, Option.bind_some]
    unfold k_M_decide_174_205
    rw [nI_1]
    refine jm_ret ⟨⟨i + 1, by omega, rfl, jg_trans k3 g2, g3, ?_, ?_⟩, ?_⟩
    · dsimp only
      show _ = jt_b (jt_all hd i && hd i)
      cases jt_all hd i <;> cases hd i <;> rfl
    · dsimp only
      show _ = jt_b (jt_any hd i || hd i)
      cases jt_any hd i <;> cases hd i <;> rfl
    · dsimp only
      rw [nI_clamp (by omega), nI_clamp (by omega)]
      omega
end JX2
