/-! the reference looks at a column -/
theorem jm_Rt_g {T T' : jx_S} {A B C w : Nat → Int} {n : Nat} (h : jm_Rt T A B C w n) (e : T'.2.1 6 = T.2.1 6) (e2 : T'.2.2 = T.2.2) : jm_Rt T' A B C w n := fun k hk => by
  rw [e, e2]; exact h k hk
theorem jg_l2 {sc ar : List Nat} {T T' : jx_S} (h : jg sc ar [] T T') : T'.2.2 = T.2.2 := funext (fun a => h.2.2 a (fun k => by cases k))
theorem jo_s0 {v : Int} (h : v = -1 ∨ v = 0 ∨ v = 1) : Int32.ofInt v = 0 ↔ v = 0 := jo_eq0 (by omega) (by omega)
section JK
variable {T : jx_S} {A B C w : Nat → Int} {n i m : Nat} {c : Nat → Int}
theorem f_M_compareY_eq {t r b : Nat → Int} (et : t = fun k => jm_t (A k) (B k) (C k)) (er : r = fun k => jm_r (A k) (B k) (C k) (w k)) (eb : b = fun k => jm_b (A k) (B k)) (hR : jm_Rt T A B C w n) (hn : n ≤ 80) (hi : i ≤ 2 * n) (hN : jm_nb (T.2.1 2) m c) (hm : m ≤ 8) {p q : Nat} (hp : p < m) (hq : q < m) (h7 : ∀ q, q < m → T.2.1 7 q = Int32.ofInt (jm_sA t r b i c q)) : f_M_compareY T (nI i) (nI p) (nI q) = some (Int32.ofInt (jm_cm t r b i c p q)) := by
  unfold f_M_compareY
  have bc : ∀ k, k < 4 * m → -5 ≤ c k ∧ c k ≤ 5 := fun k hk => (hN k hk).2
  obtain ⟨x, y, z, x1, x2, x3, x4, x5, x6⟩ := f_M_mixed_ok hN hm hp hq
  obtain ⟨bd1, bd2, bd3⟩ := jm_p_bd bc hp hq
  rw [x3, x2, x1, Option.bind_some, Option.bind_some, Option.bind_some, f_M_signIn_eq hR hn hi (jb_m (B := 50) x6 (by omega) (by omega)) (jb_m (B := 100) x5 (by omega) (by omega)) (jb_m (B := 50) x4 (by omega) (by omega)), Option.bind_some, if_pos (ji_inN (by omega) (by decide)), if_pos (ji_inN (by omega) (by decide)), nI_clamp (by omega), nI_clamp (by omega), h7 p hp, h7 q hq, jo_mul, jo_mul, et, er, eb]
  rfl
theorem f_M_isFirst_eq {t r b : Nat → Int} (et : t = fun k => jm_t (A k) (B k) (C k)) (er : r = fun k => jm_r (A k) (B k) (C k) (w k)) (eb : b = fun k => jm_b (A k) (B k)) (hR : jm_Rt T A B C w n) (hn : n ≤ 80) (hi : i ≤ 2 * n) (hN : jm_nb (T.2.1 2) m c) (hm : m ≤ 8) {q : Nat} (hq : q < m) (h7 : ∀ q, q < m → T.2.1 7 q = Int32.ofInt (jm_sA t r b i c q)) (hz : jm_sA t r b i c q ≠ 0) : f_M_isFirst T (nI i) (nI q) = some (if jn_first (jm_sA t r b i c) (jm_cm t r b i c) q = true then 1 else 0) := by
  have cy := fun p (hp : p < m) => f_M_compareY_eq et er eb hR hn hi hN hm hp hq h7
  have ar := jm_sA_rng t r b i c
  have cr := jm_cm_rng t r b i c
  generalize hae : jm_sA t r b i c = a at *
  generalize hce : jm_cm t r b i c = cm at *
  have key : jm_T (jx_lp (b_M_isFirst_5 T (nI i) (nI q)) jx_N (1, 0)) (fun o => o = if jn_first a cm q = true then 1 else 0) := by
    refine jm_loop (fun z => ∃ j, j ≤ q ∧ z.2 = nI j ∧ ((z.1 = 1 ∧ ∀ p, p < j → a p ≠ 0 → cm p q ≠ 0) ∨ (z.1 = 0 ∧ ∃ p, p < j ∧ a p ≠ 0 ∧ cm p q = 0))) (fun z => q - z.2.toNatClampNeg) _ ?_ jx_N _ ?_ ?_
    · rintro ⟨f, j1⟩ ⟨j, k1, k2, k3⟩
      dsimp only at k2 k3
      subst k2
      unfold b_M_isFirst_5
      dsimp only
      by_cases e : j = q
      · rw [if_pos (nI_le (by omega) (by omega))]
        refine jm_ret ?_
        show f = _
        subst e
        rcases k3 with ⟨k3, k4⟩ | ⟨k3, p, k4, k5, k6⟩
        · rw [if_pos (jn_first_iff.mpr ⟨hz, k4⟩), k3]
        · rw [if_neg (fun h => (jn_first_iff.mp h).2 p k4 k5 k6), k3]
      · have mu : q - (nI (j + 1)).toNatClampNeg < q - j := by
          rw [nI_clamp (by omega)]
          omega
        rw [if_neg (nI_ge (by omega) (by omega)), if_pos (ji_inN (by omega) (by decide)), nI_clamp (show j < 2147483648 by omega), h7 j (by omega), nI_1, cy j (by omega), Option.bind_some]
        have aj := ar j
        have cj := cr j q
        by_cases z0 : a j = 0
        · rw [if_pos ((jo_eq0 (by omega) (by omega)).mpr z0)]
          refine jm_ret ⟨⟨j + 1, by omega, rfl, ?_⟩, mu⟩
          rcases k3 with ⟨k3, k4⟩ | ⟨k3, p, k4, k5, k6⟩
          · refine Or.inl ⟨k3, fun p hp ha => ?_⟩
            by_cases y : p = j
            · rw [y] at ha; exact absurd z0 ha
            · exact k4 p (by omega) ha
          · exact Or.inr ⟨k3, p, by omega, k5, k6⟩
        · rw [if_neg (by rw [jo_eq0 (by omega) (by omega)]; exact z0)]
          by_cases z1 : cm j q = 0
          · rw [if_pos ((jo_eq0 (by omega) (by omega)).mpr z1)]
            exact jm_ret ⟨⟨j + 1, by omega, rfl, Or.inr ⟨rfl, j, by omega, z0, z1⟩⟩, mu⟩
          · rw [if_neg (by rw [jo_eq0 (by omega) (by omega)]; exact z1)]
            refine jm_ret ⟨⟨j + 1, by omega, rfl, ?_⟩, mu⟩
            rcases k3 with ⟨k3, k4⟩ | ⟨k3, p, k4, k5, k6⟩
            · refine Or.inl ⟨k3, fun p hp ha => ?_⟩
              by_cases y : p = j
              · rw [y]; exact z1
              · exact k4 p (by omega) ha
            · exact Or.inr ⟨k3, p, by omega, k5, k6⟩
    · exact ⟨0, by omega, rfl, Or.inl ⟨rfl, fun p hp => by omega⟩⟩
    · show q - _ < jx_N
      unfold jx_N
      omega
  obtain ⟨o, h1, h2⟩ := key
  unfold f_M_isFirst
  rw [h1, Option.bind_some, h2]
  split <;> rfl
def jn_rk (a : Nat → Int) (cm : Nat → Nat → Int) (m q : Nat) : Nat := if a q = 0 then 0 else jn_rank a cm m q
def jn_L (T : jx_S) (t r b : Nat → Int) (i : Nat) (c : Nat → Int) (m : Nat) : Prop := (∀ p, p < m → T.2.1 7 p = Int32.ofInt (jm_sA t r b i c p) ∧ T.2.1 8 p = nI (jn_rk (jm_sA t r b i c) (jm_cm t r b i c) m p)) ∧ T.1 10 = nI (jn_hts (jm_sA t r b i c) (jm_cm t r b i c) m)
/-- the inner loop: the rank of p, and whether it is the first -/
theorem jn_look_p {t r b : Nat → Int} (et : t = fun k => jm_t (A k) (B k) (C k)) (er : r = fun k => jm_r (A k) (B k) (C k) (w k)) (eb : b = fun k => jm_b (A k) (B k)) (hR : jm_Rt T A B C w n) (hn : n ≤ 80) (hi : i ≤ 2 * n) (hb : i ≠ 0 → 0 < b ((i - 1) / 2)) (hN : jm_nb (T.2.1 2) m c) (hm : m ≤ 8) (h5 : T.1 5 = nI m) {p : Nat} (hp : p < m) (h7 : ∀ q, q < m → T.2.1 7 q = Int32.ofInt (jm_sA t r b i c q)) (h8 : T.2.1 8 p = 0) :
    jm_T (jx_lp (b_M_look_104 (nI i) (nI p)) jx_N (T, (if Int32.ofInt (jm_sA t r b i c p) = 0 then 0 else 1 : Int32), 0)) (fun o => jg [] [8] [] T o.1 ∧ (∀ q, q ≠ p → o.1.2.1 8 q = T.2.1 8 q) ∧ o.1.2.1 8 p = nI (jn_rk (jm_sA t r b i c) (jm_cm t r b i c) m p) ∧ o.2 = if jn_first (jm_sA t r b i c) (jm_cm t r b i c) p = true then 1 else 0) := by
  have ho : jn_Ord (jm_sA t r b i c) (jm_cm t r b i c) := jm_Ord hb
  have cy0 := fun (T1 : jx_S) (g : jg [] [8] [] T T1) p q (hp : p < m) (hq : q < m) => f_M_compareY_eq (T := T1) et er eb (jm_Rt_g hR (g.2.1 6 (by decide)) (jg_l2 g)) hn hi (jm_nb_f hN (g.2.1 2 (by decide))) hm hp hq (by rw [g.2.1 7 (by decide)]; exact h7)
  have fi := fun (T1 : jx_S) (g : jg [] [8] [] T T1) q (hq : q < m) => f_M_isFirst_eq (T := T1) et er eb (jm_Rt_g hR (g.2.1 6 (by decide)) (jg_l2 g)) hn hi (jm_nb_f hN (g.2.1 2 (by decide))) hm hq (by rw [g.2.1 7 (by decide)]; exact h7)
  have ar := jm_sA_rng t r b i c
  have cr := jm_cm_rng t r b i c
  generalize hae : jm_sA t r b i c = a at *
  generalize hce : jm_cm t r b i c = cm at *
  have arp := ar p
  refine jm_loop (fun z => ∃ j, j ≤ m ∧ z.2.2 = nI j ∧ jg [] [8] [] T z.1 ∧ (∀ q, q ≠ p → z.1.2.1 8 q = T.2.1 8 q) ∧ z.1.2.1 8 p = nI (jn_rk a cm j p) ∧ ((z.2.1 = 1 ∧ a p ≠ 0 ∧ ∀ u, u < j → u < p → a u ≠ 0 → cm u p ≠ 0) ∨ (z.2.1 = 0 ∧ (a p = 0 ∨ ∃ u, u < p ∧ a u ≠ 0 ∧ cm u p = 0)))) (fun z => m - z.2.2.toNatClampNeg) _ ?_ jx_N _ ?_ ?_
  · rintro ⟨T1, f, j1⟩ ⟨j, k1, k2, k3, k4, k5, k6⟩
    dsimp only at k2 k3 k4 k5 k6
    subst k2
    unfold b_M_look_104
    dsimp only
    rw [k3.1 5 (by decide), h5]
    by_cases e : j = m
    · rw [if_pos (nI_le (by omega) (by omega))]
      subst e
      refine jm_ret ⟨k3, k4, k5, ?_⟩
      show f = _
      rcases k6 with ⟨k6, k7, k8⟩ | ⟨k6, k7⟩
      · rw [k6, if_pos (jn_first_iff.mpr ⟨k7, fun u hu => k8 u (by omega) hu⟩)]
      · rw [k6, if_neg]
        intro h
        have := jn_first_iff.mp h
        rcases k7 with k7 | ⟨u, k7, k8, k9⟩
        · exact this.1 k7
        · exact this.2 u k7 k8 k9
    · have mu : m - (nI (j + 1)).toNatClampNeg < m - j := by
        rw [nI_clamp (by omega)]
        omega
      rw [if_neg (nI_ge (by omega) (by omega)), if_pos (ji_inN (by omega) (by decide)), nI_clamp (show p < 2147483648 by omega), k3.2.1 7 (by decide), h7 p hp, nI_clamp (show j < 2147483648 by omega), h7 j (by omega), nI_1]
      have aj := ar j
      have cj := cr j p
      have cp := cr p j
      have oj := ho.1 p j
      by_cases z0 : a p = 0
      · rw [if_pos ((jo_eq0 (by omega) (by omega)).mpr z0)]
        refine jm_ret ⟨⟨j + 1, by omega, rfl, k3, k4, ?_, ?_⟩, mu⟩
        · dsimp only
          rw [k5]
          unfold jn_rk
          rw [if_pos z0, if_pos z0]
        · rcases k6 with ⟨k6, k7, k8⟩ | ⟨k6, k7⟩
          · exact absurd z0 k7
          · exact Or.inr ⟨k6, k7⟩
      · rw [if_neg (fun h => z0 ((jo_s0 arp).mp h)), if_pos (ji_inN (by omega) (by decide))]
        by_cases z1 : a j = 0
        · rw [if_pos ((jo_eq0 (by omega) (by omega)).mpr z1)]
          refine jm_ret ⟨⟨j + 1, by omega, rfl, k3, k4, ?_, ?_⟩, mu⟩
          · dsimp only
            rw [k5]
            unfold jn_rk
            rw [if_neg z0, if_neg z0, jn_rank_succ, if_neg (fun h => (jn_first_iff.mp h.1).1 z1)]
            rfl
          · rcases k6 with ⟨k6, k7, k8⟩ | ⟨k6, k7⟩
            · refine Or.inl ⟨k6, k7, fun u hu hup ha => ?_⟩
              by_cases y : u = j
              · rw [y] at ha; exact absurd z1 ha
              · exact k8 u (by omega) hup ha
            · exact Or.inr ⟨k6, k7⟩
        · rw [if_neg (by rw [jo_eq0 (by omega) (by omega)]; exact z1)]
          -- what the tail does with a flag
          have tail : ∀ f' : Int32, ((f' = 1 ∧ a p ≠ 0 ∧ ∀ u, u < j + 1 → u < p → a u ≠ 0 → cm u p ≠ 0) ∨ (f' = 0 ∧ (a p = 0 ∨ ∃ u, u < p ∧ a u ≠ 0 ∧ cm u p = 0))) → jm_T (k_M_look_104_154 T1 (nI i) (nI p) f' (nI j)) (Sum.elim (fun z => (∃ j, j ≤ m ∧ z.2.2 = nI j ∧ jg [] [8] [] T z.1 ∧ (∀ q, q ≠ p → z.1.2.1 8 q = T.2.1 8 q) ∧ z.1.2.1 8 p = nI (jn_rk a cm j p) ∧ ((z.2.1 = 1 ∧ a p ≠ 0 ∧ ∀ u, u < j → u < p → a u ≠ 0 → cm u p ≠ 0) ∨ (z.2.1 = 0 ∧ (a p = 0 ∨ ∃ u, u < p ∧ a u ≠ 0 ∧ cm u p = 0)))) ∧ m - z.2.2.toNatClampNeg < m - j) (fun o => jg [] [8] [] T o.1 ∧ (∀ q, q ≠ p → o.1.2.1 8 q = T.2.1 8 q) ∧ o.1.2.1 8 p = nI (jn_rk a cm m p) ∧ o.2 = if jn_first a cm p = true then 1 else 0)) := by
            intro f' hf'
            unfold k_M_look_104_154
            rw [cy0 T1 k3 p j hp (by omega), Option.bind_some, nI_1]
            by_cases y0 : cm p j ≤ 0
            · rw [if_pos ((jo_le0 (by omega) (by omega)).mpr y0)]
              refine jm_ret ⟨⟨j + 1, by omega, rfl, k3, k4, ?_, hf'⟩, mu⟩
              dsimp only
              rw [k5]
              unfold jn_rk
              rw [if_neg z0, if_neg z0, jn_rank_succ, if_neg (fun h => by have := h.2; omega)]
              rfl
            · rw [if_neg (by rw [jo_le0 (by omega) (by omega)]; exact y0), fi T1 k3 j (by omega) z1, Option.bind_some]
              by_cases y1 : jn_first a cm j = true
              · rw [if_pos y1, if_neg (by decide), if_pos (ji_inN (by omega) (by decide)), nI_clamp (show p < 2147483648 by omega), k5]
                refine jm_ret ⟨⟨j + 1, by omega, rfl, jg_trans k3 (jg_g (by decide)), fun q hq => ?_, ?_, hf'⟩, mu⟩
                · dsimp only
                  rw [js_g2, if_pos rfl]
                  unfold upd
                  rw [if_neg hq]
                  exact k4 q hq
                · dsimp only
                  rw [js_g2, if_pos rfl]
                  unfold upd
                  rw [if_pos rfl, nI_1]
                  unfold jn_rk
                  rw [if_neg z0, if_neg z0, jn_rank_succ, if_pos ⟨y1, by omega⟩]
              · rw [if_neg y1, if_pos rfl]
                refine jm_ret ⟨⟨j + 1, by omega, rfl, k3, k4, ?_, hf'⟩, mu⟩
                dsimp only
                rw [k5]
                unfold jn_rk
                rw [if_neg z0, if_neg z0, jn_rank_succ, if_neg (fun h => y1 h.1)]
                rfl
          by_cases z2 : p ≤ j
          · rw [if_pos (nI_le z2 (by omega))]
            refine tail f ?_
            rcases k6 with ⟨k6, k7, k8⟩ | ⟨k6, k7⟩
            · exact Or.inl ⟨k6, k7, fun u hu hup ha => k8 u (by omega) hup ha⟩
            · exact Or.inr ⟨k6, k7⟩
          · rw [if_neg (nI_ge (by omega) (by omega)), cy0 T1 k3 p j hp (by omega), Option.bind_some]
            by_cases y0 : cm p j = 0
            · rw [if_pos ((jo_eq0 (by omega) (by omega)).mpr y0)]
              exact tail 0 (Or.inr ⟨rfl, Or.inr ⟨j, by omega, z1, by omega⟩⟩)
            · rw [if_neg (by rw [jo_eq0 (by omega) (by omega)]; exact y0)]
              refine tail f ?_
              rcases k6 with ⟨k6, k7, k8⟩ | ⟨k6, k7⟩
              · refine Or.inl ⟨k6, k7, fun u hu hup ha => ?_⟩
                by_cases y : u = j
                · rw [y]; omega
                · exact k8 u (by omega) hup ha
              · exact Or.inr ⟨k6, k7⟩
  · refine ⟨0, by omega, rfl, jg_refl _ _ _ _, fun _ _ => rfl, ?_, ?_⟩
    · dsimp only
      rw [h8]
      unfold jn_rk
      split <;> rfl
    · dsimp only
      by_cases z0 : a p = 0
      · rw [if_pos ((jo_eq0 (by omega) (by omega)).mpr z0)]
        exact Or.inr ⟨rfl, Or.inl z0⟩
      · rw [if_neg (by rw [jo_eq0 (by omega) (by omega)]; exact z0)]
        exact Or.inl ⟨rfl, z0, fun u hu => by omega⟩
  · show m - _ < jx_N
    unfold jx_N
    omega
theorem f_M_look_ok {t r b : Nat → Int} (et : t = fun k => jm_t (A k) (B k) (C k)) (er : r = fun k => jm_r (A k) (B k) (C k) (w k)) (eb : b = fun k => jm_b (A k) (B k)) (hR : jm_Rt T A B C w n) (hn : n ≤ 80) (hi : i ≤ 2 * n) (hb : i ≠ 0 → 0 < b ((i - 1) / 2)) (hN : jm_nb (T.2.1 2) m c) (hm : m ≤ 8) (h5 : T.1 5 = nI m) (h9 : T.1 9 = nI i → jn_L T t r b i c m) :
    jm_T (f_M_look T (nI i)) (fun T' => jg [9, 10] [7, 8] [] T T' ∧ T'.1 9 = nI i ∧ jn_L T' t r b i c m) := by
  unfold f_M_look
  by_cases h0 : T.1 9 = nI i
  · rw [if_pos h0]
    exact jm_ret ⟨jg_refl _ _ _ _, h0, h9 h0⟩
  · rw [if_neg h0]
    refine jm_bind (jm_loop (fun z => ∃ p, p ≤ m ∧ z.2 = nI p ∧ jg [9] [7] [] T z.1 ∧ z.1.1 9 = nI i ∧ ∀ q, q < p → z.1.2.1 7 q = Int32.ofInt (jm_sA t r b i c q)) (fun z => m - z.2.toNatClampNeg) (fun T1 => jg [9] [7] [] T T1 ∧ T1.1 9 = nI i ∧ ∀ q, q < m → T1.2.1 7 q = Int32.ofInt (jm_sA t r b i c q)) ?_ jx_N _ ?_ ?_) ?_
    · rintro ⟨T1, j1⟩ ⟨p, k1, k2, k3, k4, k5⟩
      dsimp only at k2 k3 k4 k5
      subst k2
      unfold b_M_look_16
      dsimp only
      rw [k3.1 5 (by decide), h5]
      by_cases e : p = m
      · rw [if_pos (nI_le (by omega) (by omega))]
        subst e
        exact jm_ret ⟨k3, k4, k5⟩
      · have mu : m - (nI (p + 1)).toNatClampNeg < m - p := by
          rw [nI_clamp (by omega)]
          omega
        have nT := jm_nb_f hN (k3.2.1 2 (by decide))
        have n3 := nT (4 * p + 3) (by omega)
        have n2 := nT (4 * p + 2) (by omega)
        rw [if_neg (nI_ge (by omega) (by omega)), show (4 * nI p + 3 : Int32) = nI (4 * p + 3) from ji_4q, show (4 * nI p + 2 : Int32) = nI (4 * p + 2) from ji_4q, if_pos (ji_inN (by omega) (by decide)), if_pos (ji_inN (by omega) (by decide)), nI_clamp (show 4 * p + 3 < 2147483648 by omega), nI_clamp (show 4 * p + 2 < 2147483648 by omega),
          f_M_signIn_eq (jm_Rt_g hR (k3.2.1 6 (by decide)) (jg_l2 k3)) hn hi (jb_wk jb_0 (by decide)) (jb_wk (jb_i (B := 5) n3.1 (by omega) (by omega)) (by decide)) (jb_wk (jb_i (B := 5) n2.1 (by omega) (by omega)) (by decide)), Option.bind_some, if_pos (ji_inN (by omega) (by decide)), nI_clamp (show p < 2147483648 by omega), nI_1]
        refine jm_ret ⟨⟨p + 1, by omega, rfl, jg_trans k3 (jg_g (by decide)), k4, fun q hq => ?_⟩, mu⟩
        dsimp only
        rw [js_g2, if_pos rfl]
        unfold upd
        by_cases y : q = p
        · rw [if_pos y, y, et, er, eb]
          rfl
        · rw [if_neg y]
          exact k5 q (by omega)
    · exact ⟨0, by omega, rfl, jg_f (by decide), by dsimp only; rw [js_f1, if_pos rfl], fun q hq => by omega⟩
    · show m - _ < jx_N
      unfold jx_N
      omega
    · intro T1 ⟨k1, k2, k3⟩
      refine jm_bind (jm_loop (fun z => ∃ p, p ≤ m ∧ z.2 = nI p ∧ jg [10] [8] [] T1 z.1 ∧ z.1.1 10 = nI (jn_hts (jm_sA t r b i c) (jm_cm t r b i c) p) ∧ ∀ q, q < p → z.1.2.1 8 q = nI (jn_rk (jm_sA t r b i c) (jm_cm t r b i c) m q)) (fun z => m - z.2.toNatClampNeg) (fun T' => jg [9, 10] [7, 8] [] T T' ∧ T'.1 9 = nI i ∧ jn_L T' t r b i c m) ?_ jx_N _ ?_ ?_) (fun T' h => jm_ret h)
      · rintro ⟨T2, j1⟩ ⟨p, g1, g2, g3, g4, g5⟩
        dsimp only at g2 g3 g4 g5
        subst g2
        unfold b_M_look_71
        dsimp only
        rw [g3.1 5 (by decide), k1.1 5 (by decide), h5]
        by_cases e : p = m
        · rw [if_pos (nI_le (by omega) (by omega))]
          subst e
          refine jm_ret ⟨jg_trans (jg_wk k1 (by decide) (by decide) (by decide)) (jg_wk g3 (by decide) (by decide) (by decide)), (g3.1 9 (by decide)).trans k2, fun q hq => ⟨?_, g5 q hq⟩, g4⟩
          rw [g3.2.1 7 (by decide)]
          exact k3 q hq
        · have mu : m - (nI (p + 1)).toNatClampNeg < m - p := by
            rw [nI_clamp (by omega)]
            omega
          rw [if_neg (nI_ge (by omega) (by omega)), if_pos (ji_inN (by omega) (by decide)), nI_clamp (show p < 2147483648 by omega), g3.2.1 7 (by decide), k3 p (by omega), nI_1]
          obtain ⟨T3, hT3⟩ : ∃ T3, T3 = jx_g T2 8 (upd (T2.2.1 8) p 0) := ⟨_, rfl⟩
          rw [← hT3]
          have f3 : jg [10] [8] [] T1 T3 := jg_trans g3 (by rw [hT3]; exact jg_g (by decide))
          have f0 : jg [9, 10] [7, 8] [] T T3 := jg_trans (jg_wk k1 (by decide) (by decide) (by decide)) (jg_wk f3 (by decide) (by decide) (by decide))
          have z8 : T3.2.1 8 p = 0 := by
            rw [hT3, js_g2, if_pos rfl]
            unfold upd
            rw [if_pos rfl]
          refine jm_bind (jn_look_p et er eb (jm_Rt_g hR (f0.2.1 6 (by decide)) (jg_l2 f0)) hn hi hb (jm_nb_f hN (f0.2.1 2 (by decide))) hm (by rw [f0.1 5 (by decide)]; exact h5) (show p < m by omega) (by rw [f3.2.1 7 (by decide)]; exact k3) z8) ?_
          rintro ⟨T4, f⟩ ⟨l1, l2, l3, l4⟩
          dsimp only at l1 l2 l3 l4
          dsimp only
          have e10 : T4.1 10 = nI (jn_hts (jm_sA t r b i c) (jm_cm t r b i c) p) := by rw [l1.1 10 (by decide), hT3, js_g1]; exact g4
          refine jm_ret ⟨⟨p + 1, by omega, rfl, jg_trans f3 (jg_trans (jg_wk l1 (by decide) (by decide) (by decide)) (jg_f (by decide))), ?_, fun q hq => ?_⟩, mu⟩
          · dsimp only
            rw [js_f1, if_pos rfl, e10, jn_hts_succ, l4]
            by_cases y : jn_first (jm_sA t r b i c) (jm_cm t r b i c) p = true
            · rw [if_pos y, if_pos y, if_neg (by decide), nI_1]
            · rw [if_neg y, if_neg y, if_pos rfl]
              rfl
          · dsimp only
            rw [js_f2]
            by_cases y : q = p
            · rw [y]; exact l3
            · rw [l2 q y, hT3, js_g2, if_pos rfl]
              unfold upd
              rw [if_neg y]
              exact g5 q (by omega)
      · exact ⟨0, by omega, rfl, jg_f (by decide), rfl, fun q hq => by omega⟩
      · show m - _ < jx_N
        unfold jx_N
        omega
end JK
