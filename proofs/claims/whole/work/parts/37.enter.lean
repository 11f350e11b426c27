/-! the component enters a column -/
def jn_zc (a : Nat → Int) (cm : Nat → Nat → Int) (m q : Nat) : Nat := if a q = 0 then 0 else 2 * jn_rank a cm m q + 1
theorem jo_eqv {x : Int32} {v : Int} (h : x = Int32.ofInt v) (h1 : -2147483648 ≤ v) (h2 : v < 2147483648) : x.toInt = v := by rw [h, ji_ofInt h1 h2]
theorem jm_sA_rng (t r b : Nat → Int) (i : Nat) (m : Nat → Int) (p : Nat) : jm_sA t r b i m p = -1 ∨ jm_sA t r b i m p = 0 ∨ jm_sA t r b i m p = 1 := jm_col_rng _ _ _ _ _ _ _
theorem jm_sB_rng (t r b : Nat → Int) (i : Nat) (m : Nat → Int) (p : Nat) : jm_sB t r b i m p = -1 ∨ jm_sB t r b i m p = 0 ∨ jm_sB t r b i m p = 1 := jm_col_rng _ _ _ _ _ _ _
theorem jm_cm_rng (t r b : Nat → Int) (i : Nat) (m : Nat → Int) (p q : Nat) : -1 ≤ jm_cm t r b i m p q ∧ jm_cm t r b i m p q ≤ 1 := by
  unfold jm_cm
  have h1 := jm_col_rng t r b i (jm_pc m p q) (jm_pl m p q) (jm_ps m p q)
  have h2 := jm_sA_rng t r b i m p
  have h3 := jm_sA_rng t r b i m q
  exact js_mrng (js_mrng (by unfold jm_sP; omega) (by omega)) (by omega)
theorem jm_Cr_f {S S' : jx_S} {t r b : Nat → Int} {n : Nat} (h : jm_Cr S t r b n) (e6 : S'.2.1 6 = S.2.1 6) (e7 : S'.2.1 7 = S.2.1 7) (e8 : S'.2.1 8 = S.2.1 8) : jm_Cr S' t r b n := fun k hk => by
  rw [e6, e7, e8]; exact h k hk
theorem f_Q_addZero_ok {S : jx_S} {t r b : Nat → Int} {n i m p : Nat} {c : Nat → Int} (hC : jm_Cr S t r b n) (hn : n ≤ 72) (hi : i ≤ 2 * n) (hN : jm_nb (S.2.1 0) m c) (hm : m ≤ 8) (hp : p < m) (h9 : ∀ q, q ≤ p → S.2.1 9 q = Int32.ofInt (jm_sA t r b i c q))
    (h11 : ∀ q, q < p → S.2.1 11 q = nI (jn_zc (jm_sA t r b i c) (jm_cm t r b i c) p q)) (h12 : S.1 12 = nI (2 * jn_hts (jm_sA t r b i c) (jm_cm t r b i c) p + 1)) (hz : jm_sA t r b i c p ≠ 0) :
    jm_T (f_Q_addZero S (nI i) (nI p)) (fun S' => jf [12, 14, 15, 16] [11] S S' ∧ (∀ q, q ≤ p → S'.2.1 11 q = nI (jn_zc (jm_sA t r b i c) (jm_cm t r b i c) (p + 1) q)) ∧ S'.1 12 = nI (2 * jn_hts (jm_sA t r b i c) (jm_cm t r b i c) (p + 1) + 1)) := by
  have ho : jn_Ord (jm_sA t r b i c) (jm_cm t r b i c) := jm_Ord (fun h0 => by have := hC ((i - 1) / 2) (by omega); omega)
  have ar := jm_sA_rng t r b i c
  have cr := jm_cm_rng t r b i c
  have bc : ∀ k, k < 4 * m → -5 ≤ c k ∧ c k ≤ 5 := fun k hk => (hN k hk).2
  have eP : ∀ q, jm_col t r b i (jm_pc c p q) (jm_pl c p q) (jm_ps c p q) * jm_sA t r b i c p * jm_sA t r b i c q = jm_cm t r b i c p q := fun q => rfl
  generalize hae : jm_sA t r b i c = a at *
  generalize hce : jm_cm t r b i c = cm at *
  have rk : ∀ q, jn_rank a cm p q ≤ p := fun q => jn_cnt_n p
  have hh : jn_hts a cm p ≤ p := jn_cnt_n p
  unfold f_Q_addZero
  refine jm_bind (jm_loop (fun z => ∃ j cl, j ≤ p ∧ z.2.1 = nI cl ∧ z.2.2 = nI j ∧ jf [14, 15, 16] [] S z.1 ∧ (∀ q, q < j → a q ≠ 0 → cm p q ≠ 0) ∧ 1 ≤ cl ∧ cl ≤ 2 * jn_rank a cm p p + 1 ∧ ∀ q, q < j → a q ≠ 0 → 0 < cm p q → 2 * jn_rank a cm p q + 3 ≤ cl) (fun z => p - z.2.2.toNatClampNeg)
    (Sum.elim (fun w => jf [14, 15, 16] [] S w.1 ∧ w.2 = nI (2 * jn_rank a cm p p + 1) ∧ ∀ q, q < p → a q ≠ 0 → cm p q ≠ 0) (fun S' => jf [12, 14, 15, 16] [11] S S' ∧ (∀ q, q ≤ p → S'.2.1 11 q = nI (jn_zc a cm (p + 1) q)) ∧ S'.1 12 = nI (2 * jn_hts a cm (p + 1) + 1))) ?_ jx_N _ ?_ ?_) ?_
  · rintro ⟨S1, c1, j1⟩ ⟨j, cl, k1, k2, k3, k4, k5, k6, k7, k8⟩
    dsimp only at k2 k3 k4
    subst k2
    subst k3
    unfold b_Q_addZero_5
    dsimp only
    by_cases q : j = p
    · rw [if_pos (nI_le (by omega) (by omega))]
      refine jm_ret ⟨k4, ?_, fun q hq => k5 q (by omega)⟩
      show nI cl = _
      rcases jn_rank_best ho (m := p) hz with z | ⟨u, g1, g2, g3, g4⟩
      · congr 1; omega
      · have := k8 u (by omega) g2 g3
        congr 1; omega
    · rw [if_neg (nI_ge (by omega) (by omega)), if_pos (ji_inN (by omega) (by decide)), nI_clamp (show j < 2147483648 by omega), nI_clamp (show p < 2147483648 by omega), k4.2.1 9 (by decide), h9 j (by omega)]
      have aj := ar j
      have mu : p - (nI (j + 1)).toNatClampNeg < p - j := by
        rw [nI_clamp (by omega)]
        omega
      by_cases z0 : a j = 0
      · rw [if_pos ((jo_eq0 (by omega) (by omega)).mpr z0), nI_1]
        refine jm_ret ⟨⟨j + 1, cl, by omega, rfl, rfl, k4, fun q hq ha => ?_, k6, k7, fun q hq ha => ?_⟩, mu⟩
        · by_cases e : q = j
          · rw [e] at ha; exact absurd z0 ha
          · exact k5 q (by omega) ha
        · by_cases e : q = j
          · rw [e] at ha; exact absurd z0 ha
          · exact k8 q (by omega) ha
      · rw [if_neg (by rw [jo_eq0 (by omega) (by omega)]; exact z0)]
        obtain ⟨S2, e1, e2, e3, e4, e5⟩ := f_F_setPair_ok (jm_nb_f hN (k4.2.1 0 (by decide))) hm hp (show j < m by omega)
        obtain ⟨bd1, bd2, bd3⟩ := jm_p_bd bc hp (show j < m by omega)
        have f2 := jf_trans k4 e2
        rw [e1, Option.bind_some, f_C_signInColumn_eq (jm_Cr_f hC (f2.2.1 6 (by decide)) (f2.2.1 7 (by decide)) (f2.2.1 8 (by decide))) hn hi e3 e4 e5 bd1 bd2 bd3, Option.bind_some, if_pos (ji_inN (by omega) (by decide)), f2.2.1 9 (by decide), h9 j (by omega), h9 p (by omega), jo_mul, jo_mul, eP]
        have crj := cr p j
        by_cases z1 : cm p j = 0
        · rw [if_pos ((jo_eq0 (by omega) (by omega)).mpr z1), f2.2.1 11 (by decide), h11 j (by omega)]
          refine jm_ret ⟨?_, ?_, ?_⟩
          · exact jf_trans (jf_wk f2 (by decide) (by decide)) (jf_g (by decide))
          · have nf : ¬ jn_first a cm p = true := fun h => by
              have h1 := (jn_first_iff.mp h).2 j (by omega) z0
              have h2 := ho.1 p j
              omega
            have rs : ∀ q, jn_rank a cm (p + 1) q = jn_rank a cm p q := fun q => by
              rw [jn_rank_succ, if_neg (fun h => nf h.1)]; omega
            intro q hq
            rw [js_g2, if_pos rfl]
            unfold upd jn_zc
            rw [rs]
            by_cases e : q = p
            · rw [if_pos e, e, if_neg z0, if_neg hz, jn_rank_eq ho hz z0 z1]
            · rw [if_neg e, h11 q (by omega)]
              rfl
          · have nf : ¬ jn_first a cm p = true := fun h => by
              have h1 := (jn_first_iff.mp h).2 j (by omega) z0
              have h2 := ho.1 p j
              omega
            rw [js_g1, f2.1 12 (by decide), h12, jn_hts_succ, if_neg nf]
            rfl
        · rw [if_neg (by rw [jo_eq0 (by omega) (by omega)]; exact z1)]
          have k5' : ∀ q, q < j + 1 → a q ≠ 0 → cm p q ≠ 0 := fun q hq ha => by
            by_cases e : q = j
            · rw [e]; exact z1
            · exact k5 q (by omega) ha
          by_cases z2 : cm p j ≤ 0
          · rw [if_pos ((jo_le0 (by omega) (by omega)).mpr z2), nI_1]
            refine jm_ret ⟨⟨j + 1, cl, by omega, rfl, rfl, f2, k5', k6, k7, fun q hq ha hc => ?_⟩, mu⟩
            by_cases e : q = j
            · rw [e] at hc; omega
            · exact k8 q (by omega) ha hc
          · rw [if_neg (by rw [jo_le0 (by omega) (by omega)]; exact z2), nI_1, f2.2.1 11 (by decide), h11 j (by omega)]
            have rl := jn_rank_lt ho (m := p) hz z0 (by omega) (show 0 < cm p j by omega)
            have rj := rk p
            unfold jn_zc
            rw [if_neg z0, show (2 : Int32) = nI 2 from rfl, nI_add]
            refine jm_ret ⟨⟨j + 1, if cl < 2 * jn_rank a cm p j + 3 then 2 * jn_rank a cm p j + 3 else cl, by omega, ?_, rfl, f2, k5', by split <;> omega, by split <;> omega, fun q hq ha hc => ?_⟩, mu⟩
            · show jx_mx (nI cl) (nI (2 * jn_rank a cm p j + 1 + 2)) = _
              unfold jx_mx
              by_cases y : cl < 2 * jn_rank a cm p j + 3
              · rw [if_pos (nI_lt (by omega) (by omega)), if_pos y]
              · rw [if_neg (nI_nlt (by omega) (by omega)), if_neg y]
            · by_cases e : q = j
              · rw [e]; split <;> omega
              · have := k8 q (by omega) ha hc
                split <;> omega
  · exact ⟨0, 1, by omega, rfl, rfl, jf_refl _ _ _, fun q hq => by omega, by omega, by omega, fun q hq => by omega⟩
  · show p - _ < jx_N
    unfold jx_N
    omega
  · rintro (⟨S1, c1⟩ | S1) ho1
    · obtain ⟨k1, k2, k3⟩ := ho1
      dsimp only at k1 k2
      subst k2
      have nf : jn_first a cm p = true := jn_first_iff.mpr ⟨hz, fun q hq ha => by have h1 := k3 q hq ha; have h2 := ho.1 p q; omega⟩
      have rs : ∀ q, jn_rank a cm (p + 1) q = jn_rank a cm p q + (if 0 < cm q p then 1 else 0) := fun q => by
        rw [jn_rank_succ]
        simp only [nf, true_and]
      have rp := rk p
      show jm_T ((jx_lp (b_Q_addZero_114 (nI i) (nI p) (nI (2 * jn_rank a cm p p + 1))) jx_N (S1, 0)).bind _) _
      refine jm_bind (jm_loop (fun z => ∃ j, j ≤ p ∧ z.2 = nI j ∧ jf [14, 15, 16] [11] S z.1 ∧ (∀ q, q < j → z.1.2.1 11 q = nI (jn_zc a cm (p + 1) q)) ∧ ∀ q, j ≤ q → q < p → z.1.2.1 11 q = nI (jn_zc a cm p q)) (fun z => p - z.2.toNatClampNeg)
        (fun S2 => jf [14, 15, 16] [11] S S2 ∧ ∀ q, q < p → S2.2.1 11 q = nI (jn_zc a cm (p + 1) q)) ?_ jx_N _ ?_ ?_) ?_
      · rintro ⟨S2, j1⟩ ⟨j, g1, g2, g3, g4, g5⟩
        dsimp only at g2 g3 g4 g5
        subst g2
        unfold b_Q_addZero_114
        dsimp only
        by_cases q : j = p
        · rw [if_pos (nI_le (by omega) (by omega))]
          exact jm_ret ⟨g3, fun q hq => g4 q (by omega)⟩
        · rw [if_neg (nI_ge (by omega) (by omega)), if_pos (ji_inN (by omega) (by decide)), nI_clamp (show j < 2147483648 by omega), g5 j (by omega) (by omega), nI_1]
          have mu : p - (nI (j + 1)).toNatClampNeg < p - j := by
            rw [nI_clamp (by omega)]
            omega
          have rj := rk j
          have hlt : jn_zc a cm p j < 2147483648 := by unfold jn_zc; split <;> omega
          by_cases y : jn_zc a cm p j < 2 * jn_rank a cm p p + 1
          · rw [if_pos (nI_lt y (by omega))]
            refine jm_ret ⟨⟨j + 1, by omega, rfl, g3, fun q hq => ?_, fun q h1 h2 => g5 q (by omega) h2⟩, mu⟩
            by_cases e : q = j
            · dsimp only
              rw [e, g5 j (by omega) (by omega)]
              congr 1
              unfold jn_zc at y ⊢
              by_cases za : a j = 0
              · rw [if_pos za, if_pos za]
              · rw [if_neg za] at y ⊢
                rw [if_neg za, rs]
                by_cases w : 0 < cm j p
                · have := jn_rank_mono ho (m := p) za hz (show 0 ≤ cm j p by omega)
                  omega
                · rw [if_neg w]; omega
            · exact g4 q (by omega)
          · rw [if_neg (nI_nlt (by omega) (by omega))]
            have za : a j ≠ 0 := fun za => by unfold jn_zc at y; rw [if_pos za] at y; omega
            refine jm_ret ⟨⟨j + 1, by omega, rfl, jf_trans g3 (jf_g (by decide)), fun q hq => ?_, fun q h1 h2 => ?_⟩, mu⟩
            · dsimp only
              rw [js_g2, if_pos rfl]
              unfold upd
              by_cases e : q = j
              · rw [if_pos e, e, show (2 : Int32) = nI 2 from rfl, nI_add]
                congr 1
                unfold jn_zc at y ⊢
                rw [if_neg za] at y ⊢
                rw [if_neg za, rs]
                have w : 0 < cm j p := by
                  have h1 := k3 j (by omega) za
                  have h2 := ho.1 p j
                  by_cases w : 0 < cm p j
                  · have := jn_rank_lt ho (m := p) hz za (by omega) w
                    omega
                  · omega
                rw [if_pos w]
                omega
              · rw [if_neg e]
                exact g4 q (by omega)
            · dsimp only
              rw [js_g2, if_pos rfl]
              unfold upd
              rw [if_neg (show ¬ q = j by omega)]
              exact g5 q (by omega) h2
      · exact ⟨0, by omega, rfl, jf_wk k1 (by decide) (by decide), fun q hq => by omega, fun q _ hq => by dsimp only; rw [k1.2.1 11 (by decide)]; exact h11 q hq⟩
      · show p - _ < jx_N
        unfold jx_N
        omega
      · intro S2 ⟨g1, g2⟩
        rw [if_pos (ji_inN (by omega) (by decide))]
        refine jm_ret ⟨?_, ?_, ?_⟩
        · exact jf_trans (jf_wk g1 (by decide) (by decide)) (jf_trans (jf_g (by decide)) (jf_f (by decide)))
        · intro q hq
          rw [js_f2, js_g2, if_pos rfl, nI_clamp (by omega)]
          unfold upd
          by_cases e : q = p
          · rw [if_pos e, e]
            dsimp only
            congr 1
            unfold jn_zc
            rw [if_neg hz, rs, if_neg (show ¬ 0 < cm p p by rw [jn_refl ho]; omega)]
            omega
          · rw [if_neg e]
            exact g2 q (by omega)
        · rw [js_f1, if_pos rfl, g1.1 12 (by decide), h12, jn_hts_succ, if_pos nf, show (2 : Int32) = nI 2 from rfl, nI_add]
          rfl
    · exact jm_ret ho1
def jn_E (S : jx_S) (t r b : Nat → Int) (i : Nat) (c : Nat → Int) (m : Nat) : Prop := (∀ p, p < m → S.2.1 9 p = Int32.ofInt (jm_sA t r b i c p) ∧ S.2.1 10 p = Int32.ofInt (jm_sB t r b i c p) ∧ S.2.1 11 p = nI (jn_zc (jm_sA t r b i c) (jm_cm t r b i c) m p)) ∧ S.1 12 = nI (2 * jn_hts (jm_sA t r b i c) (jm_cm t r b i c) m + 1)
theorem f_Q_enter_ok {S : jx_S} {t r b : Nat → Int} {n i m : Nat} {c : Nat → Int} (hC : jm_Cr S t r b n) (hn : n ≤ 72) (hi : i ≤ 2 * n) (hN : jm_nb (S.2.1 0) m c) (hm : m ≤ 8) (h4 : S.1 4 = nI m) : jm_T (f_Q_enter S (nI i)) (fun S' => jf [12, 14, 15, 16] [9, 10, 11] S S' ∧ jn_E S' t r b i c m) := by
  unfold f_Q_enter
  refine jm_bind (jm_loop (fun z => ∃ p, p ≤ m ∧ z.2 = nI p ∧ jf [12, 14, 15, 16] [9, 10, 11] S z.1 ∧ jn_E z.1 t r b i c p) (fun z => m - z.2.toNatClampNeg) (fun S' => jf [12, 14, 15, 16] [9, 10, 11] S S' ∧ jn_E S' t r b i c m) ?_ jx_N _ ?_ ?_) (fun S' h => jm_ret h)
  · rintro ⟨S1, j1⟩ ⟨p, k1, k2, k3, k4, k5⟩
    dsimp only at k2 k3 k4 k5
    subst k2
    unfold b_Q_enter_7
    dsimp only
    rw [k3.1 4 (by decide), h4]
    by_cases q : p = m
    · rw [if_pos (nI_le (by omega) (by omega))]
      subst q
      exact jm_ret ⟨k3, k4, k5⟩
    · rw [if_neg (nI_ge (by omega) (by omega))]
      have mu : m - (nI (p + 1)).toNatClampNeg < m - p := by
        rw [nI_clamp (by omega)]
        omega
      have bc : ∀ k, k < 4 → -5 ≤ c (4 * p + k) ∧ c (4 * p + k) ≤ 5 := fun k hk => (hN _ (by omega)).2
      have b0 := bc 0 (by omega)
      have b1 := bc 1 (by omega)
      have b2 := bc 2 (by omega)
      have b3 := bc 3 (by omega)
      rw [Nat.add_zero] at b0
      obtain ⟨S2, e1, e2, e3, e4, e5⟩ := f_F_setA_ok (jm_nb_f hN (k3.2.1 0 (by decide))) hm (show p < m by omega)
      have f2 : jf [12, 14, 15, 16] [9, 10, 11] S S2 := jf_trans k3 (jf_wk e2 (by decide) (by decide))
      rw [e1, Option.bind_some, f_C_signInColumn_eq (jm_Cr_f hC (f2.2.1 6 (by decide)) (f2.2.1 7 (by decide)) (f2.2.1 8 (by decide))) hn hi e3 e4 e5 (by omega) (by omega) (by omega), Option.bind_some, if_pos (ji_inN (by omega) (by decide)), nI_clamp (show p < 2147483648 by omega)]
      obtain ⟨S3, hS3⟩ : ∃ S3, S3 = jx_g S2 9 (upd (S2.2.1 9) p (Int32.ofInt (jm_col t r b i (c (4 * p + 2)) (c (4 * p + 3)) 0))) := ⟨_, rfl⟩
      rw [← hS3]
      have g3 : jf [] [9] S2 S3 := by rw [hS3]; exact jf_g (by decide)
      have f3 : jf [12, 14, 15, 16] [9, 10, 11] S S3 := jf_trans f2 (jf_wk g3 (by decide) (by decide))
      obtain ⟨S4, l1, l2, l3, l4, l5⟩ := f_F_setB_ok (jm_nb_f hN (f3.2.1 0 (by decide))) hm (show p < m by omega)
      have f4 : jf [12, 14, 15, 16] [9, 10, 11] S S4 := jf_trans f3 (jf_wk l2 (by decide) (by decide))
      rw [l1, Option.bind_some, f_C_signInColumn_eq (jm_Cr_f hC (f4.2.1 6 (by decide)) (f4.2.1 7 (by decide)) (f4.2.1 8 (by decide))) hn hi l3 l4 l5 (by omega) (by omega) (by omega), Option.bind_some]
      have a9 : S4.2.1 9 p = Int32.ofInt (jm_sA t r b i c p) := by
        rw [l2.2.1 9 (by decide), hS3, js_g2, if_pos rfl]
        unfold upd
        rw [if_pos rfl]
        rfl
      have o9 : ∀ q, q < p → S4.2.1 9 q = Int32.ofInt (jm_sA t r b i c q) := fun q hq => by
        rw [l2.2.1 9 (by decide), hS3, js_g2, if_pos rfl]
        unfold upd
        rw [if_neg (by omega), e2.2.1 9 (by decide)]
        exact (k4 q hq).1
      have s10 : S4.2.1 10 = S1.2.1 10 := by rw [l2.2.1 10 (by decide), g3.2.1 10 (by decide), e2.2.1 10 (by decide)]
      have s11 : S4.2.1 11 = S1.2.1 11 := by rw [l2.2.1 11 (by decide), g3.2.1 11 (by decide), e2.2.1 11 (by decide)]
      have s12 : S4.1 12 = S1.1 12 := by rw [l2.1 12 (by decide), g3.1 12 (by decide), e2.1 12 (by decide)]
      rw [a9]
      have arp := jm_sA_rng t r b i c p
      obtain ⟨S5, hS5⟩ : ∃ S5, S5 = (jx_g (jx_g S4 10 (upd (S4.2.1 10) p (Int32.ofInt (jm_col t r b i (c (4 * p)) (c (4 * p + 1)) 0)))) 11 (upd (S4.2.1 11) p 0)) := ⟨_, rfl⟩
      rw [← hS5]
      have g5 : jf [] [10, 11] S4 S5 := by rw [hS5]; exact jf_trans (jf_g (by decide)) (jf_g (by decide))
      have f5 : jf [12, 14, 15, 16] [9, 10, 11] S S5 := jf_trans f4 (jf_wk g5 (by decide) (by decide))
      have t9 : ∀ q, q ≤ p → S5.2.1 9 q = Int32.ofInt (jm_sA t r b i c q) := fun q hq => by
        rw [g5.2.1 9 (by decide)]
        by_cases e : q = p
        · rw [e]; exact a9
        · exact o9 q (by omega)
      have t10 : ∀ q, q ≤ p → S5.2.1 10 q = Int32.ofInt (jm_sB t r b i c q) := fun q hq => by
        rw [hS5, js_g2, if_neg (by decide), js_g2, if_pos rfl]
        unfold upd
        by_cases e : q = p
        · rw [if_pos e, e]; rfl
        · rw [if_neg e, s10]
          exact (k4 q (by omega)).2.1
      have t11 : ∀ q, q < p → S5.2.1 11 q = nI (jn_zc (jm_sA t r b i c) (jm_cm t r b i c) p q) := fun q hq => by
        rw [hS5, js_g2, if_pos rfl]
        unfold upd
        rw [if_neg (by omega), s11]
        exact (k4 q hq).2.2
      have t12 : S5.1 12 = nI (2 * jn_hts (jm_sA t r b i c) (jm_cm t r b i c) p + 1) := by rw [g5.1 12 (by decide), s12]; exact k5
      by_cases z0 : jm_sA t r b i c p = 0
      · rw [if_pos ((jo_eq0 (by omega) (by omega)).mpr z0), nI_1]
        have nf : ¬ jn_first (jm_sA t r b i c) (jm_cm t r b i c) p = true := fun h => (jn_first_iff.mp h).1 z0
        refine jm_ret ⟨⟨p + 1, by omega, rfl, f5, fun q hq => ⟨t9 q (by omega), t10 q (by omega), ?_⟩, ?_⟩, mu⟩
        · dsimp only
          by_cases e : q = p
          · rw [hS5, js_g2, if_pos rfl]
            unfold upd jn_zc
            rw [if_pos e, e, if_pos z0]
            rfl
          · rw [t11 q (by omega)]
            unfold jn_zc
            rw [jn_rank_succ, if_neg (show ¬ (jn_first (jm_sA t r b i c) (jm_cm t r b i c) p = true ∧ 0 < jm_cm t r b i c q p) from fun h => nf h.1)]
            rfl
        · dsimp only
          rw [t12, jn_hts_succ, if_neg nf]
          rfl
      · rw [if_neg (by rw [jo_eq0 (by omega) (by omega)]; exact z0), nI_1]
        refine jm_bind (f_Q_addZero_ok (jm_Cr_f hC (f5.2.1 6 (by decide)) (f5.2.1 7 (by decide)) (f5.2.1 8 (by decide))) hn hi (jm_nb_f hN (f5.2.1 0 (by decide))) hm (by omega) t9 t11 t12 z0) (fun S6 h6 => jm_ret ⟨⟨p + 1, by omega, rfl, jf_trans f5 (jf_wk h6.1 (by decide) (by decide)), fun q hq => ⟨?_, ?_, ?_⟩, h6.2.2⟩, mu⟩)
        · dsimp only
          rw [h6.1.2.1 9 (by decide)]
          exact t9 q (by omega)
        · dsimp only
          rw [h6.1.2.1 10 (by decide)]
          exact t10 q (by omega)
        · exact h6.2.1 q (by omega)
  · exact ⟨0, by omega, rfl, jf_f (by decide), fun p hp => by omega, rfl⟩
  · show m - _ < jx_N
    unfold jx_N
    omega
