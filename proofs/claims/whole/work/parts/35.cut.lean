/-! both sides find the same critical numbers -/
theorem jm_loop2 {σ1 σ2 ρ1 ρ2 : Type} {f : σ1 → Option (σ1 ⊕ ρ1)} {g : σ2 → Option (σ2 ⊕ ρ2)} (I : σ1 → σ2 → Prop) (μ : σ1 → Nat) (Post : ρ1 → ρ2 → Prop) (step : ∀ s t, I s t → (∃ s' t', f s = some (Sum.inl s') ∧ g t = some (Sum.inl t') ∧ I s' t' ∧ μ s' < μ s) ∨ (∃ r u, f s = some (Sum.inr r) ∧ g t = some (Sum.inr u) ∧ Post r u)) : ∀ n s t, I s t → μ s < n → ∃ r u, jx_lp f n s = some r ∧ jx_lp g n t = some u ∧ Post r u
  | 0, s, _, _, h => absurd h (Nat.not_lt_zero _)
  | n + 1, s, t, hI, hn => by
    rcases step s t hI with ⟨s', t', e1, e2, h1, h2⟩ | ⟨r, u, e1, e2, h1⟩
    · obtain ⟨r, u, k1, k2, k3⟩ := jm_loop2 I μ Post step n s' t' h1 (by omega)
      exact ⟨r, u, by rw [jx_lp, e1]; exact k1, by rw [jx_lp, e2]; exact k2, k3⟩
    · exact ⟨r, u, by rw [jx_lp, e1]; rfl, by rw [jx_lp, e2]; rfl, h1⟩
def jm_nb (f : Nat → Int32) (m : Nat) (c : Nat → Int) : Prop := ∀ k, k < 4 * m → (f k).toInt = c k ∧ -5 ≤ c k ∧ c k ≤ 5
theorem nI_mul (a b : Nat) : nI a * nI b = nI (a * b) := (Int32.ofNat_mul a b).symm
theorem ji_4p {p k : Nat} : nI p * 4 + nI k = nI (4 * p + k) := by
  rw [show (4 : Int32) = nI 4 from rfl, nI_mul, nI_add, Nat.mul_comm]
theorem ji_4q {p k : Nat} : 4 * nI p + nI k = nI (4 * p + k) := by
  rw [show (4 : Int32) = nI 4 from rfl, nI_mul, nI_add]
theorem f_S_number_eq {S : jx_S} {p k : Nat} (hp : p < 8) (hk : k < 4) : f_S_number S (nI p) (nI k) = some (S.2.1 0 (4 * p + k)) := by
  unfold f_S_number
  rw [ji_4p, if_pos (ji_inN (by omega) (by decide)), nI_clamp (by omega)]
theorem f_F_setA_ok {S : jx_S} {m p : Nat} {c : Nat → Int} (hN : jm_nb (S.2.1 0) m c) (hm : m ≤ 8) (hp : p < m) : jm_T (f_F_setA S (nI p)) (fun S' => jf [14, 15, 16] [] S S' ∧ (S'.1 14).toInt = c (4 * p + 2) ∧ (S'.1 15).toInt = c (4 * p + 3) ∧ (S'.1 16).toInt = 0) := by
  unfold f_F_setA
  rw [show (2 : Int32) = nI 2 from rfl, f_S_number_eq (by omega) (by omega), Option.bind_some, show (3 : Int32) = nI 3 from rfl, f_S_number_eq (by omega) (by omega)]
  refine jm_ret ⟨jf_trans (jf_trans (jf_f (by decide)) (jf_f (by decide))) (jf_f (by decide)), ?_, ?_, rfl⟩
  · exact (hN _ (by omega)).1
  · exact (hN _ (by omega)).1
theorem f_F_setB_ok {S : jx_S} {m p : Nat} {c : Nat → Int} (hN : jm_nb (S.2.1 0) m c) (hm : m ≤ 8) (hp : p < m) : jm_T (f_F_setB S (nI p)) (fun S' => jf [14, 15, 16] [] S S' ∧ (S'.1 14).toInt = c (4 * p) ∧ (S'.1 15).toInt = c (4 * p + 1) ∧ (S'.1 16).toInt = 0) := by
  unfold f_F_setB
  rw [show (0 : Int32) = nI 0 from rfl, f_S_number_eq (by omega) (by omega), Option.bind_some, show (1 : Int32) = nI 1 from rfl, f_S_number_eq (by omega) (by omega)]
  refine jm_ret ⟨jf_trans (jf_trans (jf_f (by decide)) (jf_f (by decide))) (jf_f (by decide)), ?_, ?_, rfl⟩
  · exact (hN _ (by omega)).1
  · exact (hN _ (by omega)).1
theorem jm_p_bd {c : Nat → Int} {m p q : Nat} (h : ∀ k, k < 4 * m → -5 ≤ c k ∧ c k ≤ 5) (hp : p < m) (hq : q < m) : (-50 ≤ jm_pc c p q ∧ jm_pc c p q ≤ 50) ∧ (-100 ≤ jm_pl c p q ∧ jm_pl c p q ≤ 100) ∧ (-50 ≤ jm_ps c p q ∧ jm_ps c p q ≤ 50) := by
  have g : ∀ j k, j < 4 * m → k < 4 * m → -25 ≤ c j * c k ∧ c j * c k ≤ 25 := fun j k a b => by
    have h1 := h j a
    have h2 := h k b
    exact jb_mm (B := 5) (C := 5) (by omega) (by omega) (by omega) (by omega)
  unfold jm_pc jm_pl jm_ps
  have a1 := g (4 * p + 2) (4 * q) (by omega) (by omega)
  have a2 := g (4 * q + 2) (4 * p) (by omega) (by omega)
  have a3 := g (4 * p + 2) (4 * q + 1) (by omega) (by omega)
  have a4 := g (4 * p + 3) (4 * q) (by omega) (by omega)
  have a5 := g (4 * q + 2) (4 * p + 1) (by omega) (by omega)
  have a6 := g (4 * q + 3) (4 * p) (by omega) (by omega)
  have a7 := g (4 * p + 3) (4 * q + 1) (by omega) (by omega)
  have a8 := g (4 * q + 3) (4 * p + 1) (by omega) (by omega)
  omega
theorem f_F_setPair_ok {S : jx_S} {m p q : Nat} {c : Nat → Int} (hN : jm_nb (S.2.1 0) m c) (hm : m ≤ 8) (hp : p < m) (hq : q < m) : jm_T (f_F_setPair S (nI p) (nI q)) (fun S' => jf [14, 15, 16] [] S S' ∧ (S'.1 14).toInt = jm_pc c p q ∧ (S'.1 15).toInt = jm_pl c p q ∧ (S'.1 16).toInt = jm_ps c p q) := by
  unfold f_F_setPair
  rw [show (0 : Int32) = nI 0 from rfl, show (1 : Int32) = nI 1 from rfl, show (2 : Int32) = nI 2 from rfl, show (3 : Int32) = nI 3 from rfl]
  simp only [f_S_number_eq (show p < 8 by omega) (show 0 < 4 by omega), f_S_number_eq (show p < 8 by omega) (show 1 < 4 by omega), f_S_number_eq (show p < 8 by omega) (show 2 < 4 by omega), f_S_number_eq (show p < 8 by omega) (show 3 < 4 by omega), f_S_number_eq (show q < 8 by omega) (show 0 < 4 by omega), f_S_number_eq (show q < 8 by omega) (show 1 < 4 by omega), f_S_number_eq (show q < 8 by omega) (show 2 < 4 by omega), f_S_number_eq (show q < 8 by omega) (show 3 < 4 by omega), Option.bind_some]
  have g : ∀ k, k < 4 * m → ja (S.2.1 0 k) (c k) 5 := fun k hk => by
    have := hN k hk
    exact ja_m this.1 (by omega) (by omega)
  have p0 := g (4 * p) (by omega)
  have p1 := g (4 * p + 1) (by omega)
  have p2 := g (4 * p + 2) (by omega)
  have p3 := g (4 * p + 3) (by omega)
  have q0 := g (4 * q) (by omega)
  have q1 := g (4 * q + 1) (by omega)
  have q2 := g (4 * q + 2) (by omega)
  have q3 := g (4 * q + 3) (by omega)
  refine jm_ret ⟨jf_trans (jf_trans (jf_f (by decide)) (jf_f (by decide))) (jf_f (by decide)), ?_, ?_, ?_⟩
  · exact (ja_sub (ja_mul p2 q0) (ja_mul q2 p0) (by decide)).1
  · exact (ja_sub (ja_sub (ja_add (ja_mul p2 q1) (ja_mul p3 q0)) (ja_mul q2 p1)) (ja_mul q3 p0) (by decide)).1
  · exact (ja_sub (ja_mul p3 q1) (ja_mul q3 p1) (by decide)).1
theorem f_M_cross_eq {T : jx_S} {p q j k : Nat} (hp : p < 8) (hq : q < 8) (hj : j < 4) (hk : k < 4) : f_M_cross T (nI p) (nI q) (nI j) (nI k) = some ((T.2.1 2 (4 * p + j)).toInt64 * (T.2.1 2 (4 * q + k)).toInt64) := by
  unfold f_M_cross
  rw [ji_4q, ji_4q, if_pos (ji_inN (by omega) (by decide)), if_pos (ji_inN (by omega) (by decide)), nI_clamp (by omega), nI_clamp (by omega)]
theorem f_M_mixed_ok {T : jx_S} {m p q : Nat} {c : Nat → Int} (hN : jm_nb (T.2.1 2) m c) (hm : m ≤ 8) (hp : p < m) (hq : q < m) : ∃ x y z, f_M_mixed T (nI p) (nI q) 0 = some x ∧ f_M_mixed T (nI p) (nI q) 1 = some y ∧ f_M_mixed T (nI p) (nI q) 2 = some z ∧ x.toInt = jm_pc c p q ∧ y.toInt = jm_pl c p q ∧ z.toInt = jm_ps c p q := by
  have g : ∀ k, k < 4 * m → jb (T.2.1 2 k).toInt64 (c k) 5 := fun k hk => by
    have := hN k hk
    exact jb_i this.1 (by omega) (by omega)
  have p0 := g (4 * p) (by omega)
  have p1 := g (4 * p + 1) (by omega)
  have p2 := g (4 * p + 2) (by omega)
  have p3 := g (4 * p + 3) (by omega)
  have q0 := g (4 * q) (by omega)
  have q1 := g (4 * q + 1) (by omega)
  have q2 := g (4 * q + 2) (by omega)
  have q3 := g (4 * q + 3) (by omega)
  have cr : ∀ (u v j k : Nat), u < 8 → v < 8 → j < 4 → k < 4 → f_M_cross T (nI u) (nI v) (nI j) (nI k) = some ((T.2.1 2 (4 * u + j)).toInt64 * (T.2.1 2 (4 * v + k)).toInt64) := fun u v j k a b d e => f_M_cross_eq a b d e
  refine ⟨_, _, _, ?_, ?_, ?_, (jb_sub (jb_mul p2 q0) (jb_mul q2 p0) (by decide)).1, (jb_sub (jb_sub (jb_add (jb_mul p2 q1) (jb_mul p3 q0)) (jb_mul q2 p1)) (jb_mul q3 p0) (by decide)).1, (jb_sub (jb_mul p3 q1) (jb_mul q3 p1) (by decide)).1⟩
  · unfold f_M_mixed
    rw [if_pos rfl]
    have e1 := cr p q 2 0 (by omega) (by omega) (by omega) (by omega)
    have e2 := cr q p 2 0 (by omega) (by omega) (by omega) (by omega)
    rw [show (2 : Int32) = nI 2 from rfl, show (0 : Int32) = nI 0 from rfl, e1, e2]
    rfl
  · unfold f_M_mixed
    rw [if_neg (by decide), if_neg (by decide)]
    have e1 := cr p q 2 1 (by omega) (by omega) (by omega) (by omega)
    have e2 := cr p q 3 0 (by omega) (by omega) (by omega) (by omega)
    have e3 := cr q p 2 1 (by omega) (by omega) (by omega) (by omega)
    have e4 := cr q p 3 0 (by omega) (by omega) (by omega) (by omega)
    rw [show (2 : Int32) = nI 2 from rfl, show (0 : Int32) = nI 0 from rfl, show (3 : Int32) = nI 3 from rfl, show (1 : Int32) = nI 1 from rfl, e1, e2, e3, e4]
    rfl
  · unfold f_M_mixed
    rw [if_neg (by decide), if_pos rfl]
    have e1 := cr p q 3 1 (by omega) (by omega) (by omega) (by omega)
    have e2 := cr q p 3 1 (by omega) (by omega) (by omega) (by omega)
    rw [show (3 : Int32) = nI 3 from rfl, show (1 : Int32) = nI 1 from rfl, e1, e2]
    rfl
theorem jm_CR_f {S S' T : jx_S} {A B C w : Nat → Int} {n : Nat} (h : jm_CR S T A B C w n) (f : jf [14, 15, 16] [] S S') : jm_CR S' T A B C w n := by
  obtain ⟨h1, h2, h3, h4, h5⟩ := h
  refine ⟨(f.1 13 (by decide)).trans h1, h2, h3, fun k hk => ?_, h5⟩
  rw [f.2.1 6 (by decide), f.2.1 7 (by decide), f.2.1 8 (by decide)]
  exact h4 k hk
theorem jm_nb_f {f : Nat → Int32} {m : Nat} {c : Nat → Int} (h : jm_nb f m c) {g : Nat → Int32} (e : g = f) : jm_nb g m c := by rw [e]; exact h
/-- one form on both sides -/
theorem jm_form_step {S S1 T : jx_S} {A B C w : Nat → Int} {n : Nat} (h : jm_CR S T A B C w n) {cv lv sv : Int} {o : Option jx_S} (ho : o = some S1) (f : jf [14, 15, 16] [] S S1) (h72 : n + (if sv = 0 then 1 else 2) ≤ 72) (hc : (S1.1 14).toInt = cv) (hl : (S1.1 15).toInt = lv) (hs : (S1.1 16).toInt = sv) (bc : -50 ≤ cv ∧ cv ≤ 50) (bl : -100 ≤ lv ∧ lv ≤ 100) (bs : -50 ≤ sv ∧ sv ≤ 50) {a b c : Int64} (ea : a.toInt = sv) (eb : b.toInt = lv) (ec : c.toInt = cv) :
    ∃ S' T' A' B' C' w' n', o.bind f_C_addZerosOf = some S' ∧ f_M_addRoots T a b c = some T' ∧ jm_CR S' T' A' B' C' w' n' ∧ n' ≤ n + (if sv = 0 then 1 else 2) ∧ jf [13, 14, 15, 16] [6, 7, 8] S S' ∧ jg [8] [6] [0, 1, 2] T T' := by
  obtain ⟨S', T', A', B', C', w', n', k1, k2, k3, k4, k5, k6⟩ := jm_zeros_step (jm_CR_f h f) h72 hc hl hs bc bl bs ea eb ec
  refine ⟨S', T', A', B', C', w', n', by rw [ho]; exact k1, k2, k3, k4, jf_trans (jf_wk f (by decide) (by decide)) (jf_wk k5 (by decide) (by decide)), k6⟩
theorem jm_cut {S T : jx_S} {m : Nat} {c : Nat → Int} (hm : m ≤ 8) (hS : jm_nb (S.2.1 0) m c) (hT : jm_nb (T.2.1 2) m c) (h4 : S.1 4 = nI m) (h5 : T.1 5 = nI m) :
    ∃ S' T' A B C w n, f_Q_cut S = some S' ∧ f_M_findCriticals T = some T' ∧ jm_CR S' T' A B C w n ∧ n ≤ 72 ∧ jf [13, 14, 15, 16] [6, 7, 8] S S' ∧ jg [8] [6] [0, 1, 2] T T' := by
  have bc : ∀ k, k < 4 * m → -5 ≤ c k ∧ c k ≤ 5 := fun k hk => (hS k hk).2
  have key : ∃ r u, jx_lp b_Q_cut_9 jx_N (jx_f S 13 0, 0) = some r ∧ jx_lp b_M_findCriticals_7 jx_N (jx_f T 8 0, 0) = some u ∧ ∃ A B C w n, jm_CR r u A B C w n ∧ n ≤ 72 ∧ jf [13, 14, 15, 16] [6, 7, 8] S r ∧ jg [8] [6] [0, 1, 2] T u := by
    refine jm_loop2 (fun s t => ∃ p A B C w n, p ≤ m ∧ s.2 = nI p ∧ t.2 = nI p ∧ jm_CR s.1 t.1 A B C w n ∧ n ≤ p * p + p ∧ jf [13, 14, 15, 16] [6, 7, 8] S s.1 ∧ jg [8] [6] [0, 1, 2] T t.1) (fun s => m - s.2.toNatClampNeg) _ ?_ jx_N _ _ ?_ ?_
    · rintro ⟨S1, i1⟩ ⟨T1, i2⟩ ⟨p, A, B, C, w, n, hp, e1, e2, hC, hn, fS, fT⟩
      dsimp only at e1 e2 hC fS fT
      subst e1
      subst e2
      have a4 : S1.1 4 = nI m := (fS.1 4 (by decide)).trans h4
      have a5 : T1.1 5 = nI m := (fT.1 5 (by decide)).trans h5
      have pp : p * p ≤ 8 * 8 := Nat.mul_le_mul (by omega) (by omega)
      unfold b_Q_cut_9 b_M_findCriticals_7
      dsimp only
      rw [a4, a5]
      by_cases q : p = m
      · rw [if_pos (nI_le (by omega) (by omega)), if_pos (nI_le (by omega) (by omega))]
        exact Or.inr ⟨_, _, rfl, rfl, A, B, C, w, n, hC, by omega, fS, fT⟩
      · rw [if_neg (nI_ge (by omega) (by omega)), if_neg (nI_ge (by omega) (by omega))]
        have pp7 : p * p ≤ 7 * 7 := Nat.mul_le_mul (by omega) (by omega)
        rw [show (4 * nI p + 3 : Int32) = nI (4 * p + 3) from ji_4q, show (4 * nI p + 2 : Int32) = nI (4 * p + 2) from ji_4q, show (4 * nI p + 1 : Int32) = nI (4 * p + 1) from ji_4q, show (4 * nI p : Int32) = nI (4 * p) from nI_mul 4 p]
        simp only [ji_inN (show 4 * p + 3 < 32 by omega) (by decide), ji_inN (show 4 * p + 2 < 32 by omega) (by decide), ji_inN (show 4 * p + 1 < 32 by omega) (by decide), ji_inN (show 4 * p < 32 by omega) (by decide), if_true, nI_clamp (show 4 * p + 3 < 2147483648 by omega), nI_clamp (show 4 * p + 2 < 2147483648 by omega), nI_clamp (show 4 * p + 1 < 2147483648 by omega), nI_clamp (show 4 * p < 2147483648 by omega)]
        have nS := jm_nb_f hS (fS.2.1 0 (by decide))
        have nT := jm_nb_f hT (fT.2.1 2 (by decide))
        obtain ⟨S2, k1, k2, k3, k4, k5⟩ := f_F_setA_ok nS hm (show p < m by omega)
        have bd : ∀ k, k < 4 → -5 ≤ c (4 * p + k) ∧ c (4 * p + k) ≤ 5 := fun k hk => bc _ (by omega)
        have b0 := bd 0 (by omega)
        have b1 := bd 1 (by omega)
        have b2 := bd 2 (by omega)
        have b3 := bd 3 (by omega)
        rw [Nat.add_zero] at b0
        obtain ⟨S3, T3, A3, B3, C3, w3, n3, l1, l2, l3, l4, l5, l6⟩ := jm_form_step hC k1 k2 (by rw [if_pos rfl]; omega) k3 k4 k5 (by omega) (by omega) (by omega) (a := 0) (b := (T1.2.1 2 (4 * p + 3)).toInt64) (c := (T1.2.1 2 (4 * p + 2)).toInt64) rfl (by rw [jl_i]; exact (nT _ (by omega)).1) (by rw [jl_i]; exact (nT _ (by omega)).1)
        rw [if_pos rfl] at l4
        rw [k1] at l1 ⊢
        rw [Option.bind_some] at l1 ⊢
        rw [l1, l2, Option.bind_some, Option.bind_some]
        have nS3 := jm_nb_f nS (l5.2.1 0 (by decide))
        have nT3 := jm_nb_f nT (l6.2.1 2 (by decide))
        obtain ⟨S4, m1, m2, m3, m4, m5⟩ := f_F_setB_ok nS3 hm (show p < m by omega)
        obtain ⟨S5, T5, A5, B5, C5, w5, n5, r1, r2, r3, r4, r5, r6⟩ := jm_form_step l3 m1 m2 (by rw [if_pos rfl]; omega) m3 m4 m5 (by omega) (by omega) (by omega) (a := 0) (b := (T3.2.1 2 (4 * p + 1)).toInt64) (c := (T3.2.1 2 (4 * p)).toInt64) rfl (by rw [jl_i]; exact (nT3 _ (by omega)).1) (by rw [jl_i]; exact (nT3 _ (by omega)).1)
        rw [if_pos rfl] at r4
        rw [m1] at r1 ⊢
        rw [Option.bind_some] at r1 ⊢
        rw [r1, r2, Option.bind_some, Option.bind_some]
        have nS5 := jm_nb_f nS3 (r5.2.1 0 (by decide))
        have nT5 := jm_nb_f nT3 (r6.2.1 2 (by decide))
        have inner : ∃ r u, jx_lp (b_Q_cut_68 (nI p)) jx_N (S5, 0) = some r ∧ jx_lp (b_M_findCriticals_69 (nI p)) jx_N (T5, 0) = some u ∧ ∃ A B C w n, jm_CR r u A B C w n ∧ n ≤ p * p + p + 2 + 2 * p ∧ jf [13, 14, 15, 16] [6, 7, 8] S5 r ∧ jg [8] [6] [0, 1, 2] T5 u := by
          refine jm_loop2 (fun s t => ∃ q A B C w n, q ≤ p ∧ s.2 = nI q ∧ t.2 = nI q ∧ jm_CR s.1 t.1 A B C w n ∧ n ≤ p * p + p + 2 + 2 * q ∧ jf [13, 14, 15, 16] [6, 7, 8] S5 s.1 ∧ jg [8] [6] [0, 1, 2] T5 t.1) (fun s => p - s.2.toNatClampNeg) _ ?_ jx_N _ _ ?_ ?_
          · rintro ⟨S6, i1⟩ ⟨T6, i2⟩ ⟨q, A6, B6, C6, w6, n6, hq, e1, e2, hC6, hn6, fS6, fT6⟩
            dsimp only at e1 e2 hC6 fS6 fT6
            subst e1
            subst e2
            unfold b_Q_cut_68 b_M_findCriticals_69
            dsimp only
            by_cases qq : q = p
            · rw [if_pos (nI_le (by omega) (by omega)), if_pos (nI_le (by omega) (by omega))]
              exact Or.inr ⟨_, _, rfl, rfl, A6, B6, C6, w6, n6, hC6, by omega, fS6, fT6⟩
            · rw [if_neg (nI_ge (by omega) (by omega)), if_neg (nI_ge (by omega) (by omega))]
              have nS6 := jm_nb_f nS5 (fS6.2.1 0 (by decide))
              have nT6 := jm_nb_f nT5 (fT6.2.1 2 (by decide))
              obtain ⟨S7, g1, g2, g3, g4, g5⟩ := f_F_setPair_ok nS6 hm (show p < m by omega) (show q < m by omega)
              obtain ⟨x, y, z, x1, x2, x3, x4, x5, x6⟩ := f_M_mixed_ok nT6 hm (show p < m by omega) (show q < m by omega)
              obtain ⟨bd1, bd2, bd3⟩ := jm_p_bd bc (show p < m by omega) (show q < m by omega)
              obtain ⟨S8, T8, A8, B8, C8, w8, n8, y1, y2, y3, y4, y5, y6⟩ := jm_form_step hC6 g1 g2 (by split <;> omega) g3 g4 g5 bd1 bd2 bd3 x6 x5 x4
              rw [g1] at y1 ⊢
              rw [Option.bind_some] at y1 ⊢
              rw [y1, x3, x2, x1, Option.bind_some, Option.bind_some, Option.bind_some, Option.bind_some, y2, Option.bind_some, nI_1]
              refine Or.inl ⟨_, _, rfl, rfl, ⟨q + 1, A8, B8, C8, w8, n8, by omega, rfl, rfl, y3, ?_, jf_trans fS6 y5, jg_trans fT6 y6⟩, ?_⟩
              · split at y4 <;> omega
              · show p - (nI (q + 1)).toNatClampNeg < p - (nI q).toNatClampNeg
                rw [nI_clamp (by omega), nI_clamp (by omega)]
                omega
          · exact ⟨0, A5, B5, C5, w5, n5, by omega, rfl, rfl, r3, by omega, jf_refl _ _ _, jg_refl _ _ _ _⟩
          · show p - _ < jx_N
            unfold jx_N
            omega
        obtain ⟨S9, T9, v1, v2, A9, B9, C9, w9, n9, v3, v4, v5, v6⟩ := inner
        rw [v1, v2, nI_1]
        refine Or.inl ⟨_, _, rfl, rfl, ⟨p + 1, A9, B9, C9, w9, n9, by omega, rfl, rfl, v3, ?_, jf_trans fS (jf_trans l5 (jf_trans r5 v5)), jg_trans fT (jg_trans l6 (jg_trans r6 v6))⟩, ?_⟩
        · have : (p + 1) * (p + 1) = p * p + 2 * p + 1 := by grind
          omega
        · show m - (nI (p + 1)).toNatClampNeg < m - (nI p).toNatClampNeg
          rw [nI_clamp (by omega), nI_clamp (by omega)]
          omega
    · refine ⟨0, fun _ => 0, fun _ => 0, fun _ => 0, fun _ => 0, 0, by omega, rfl, rfl, ⟨rfl, rfl, fun k hk => by omega, fun k hk => by omega, fun i j _ hj => by omega⟩, by omega, jf_f (by decide), jg_f (by decide)⟩
    · show m - _ < jx_N
      unfold jx_N
      omega
  obtain ⟨r, u, k1, k2, A, B, C, w, n, k3, k4, k5, k6⟩ := key
  refine ⟨r, u, A, B, C, w, n, ?_, ?_, k3, k4, k5, k6⟩
  · unfold f_Q_cut f_C_clear
    rw [Option.bind_some, k1]
    rfl
  · unfold f_M_findCriticals
    rw [k2]
    rfl
