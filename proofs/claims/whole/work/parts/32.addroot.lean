/-! insertion of a root: the reference -/
def jg (sc ar la : List Nat) (S S' : jx_S) : Prop := (∀ k, k ∉ sc → S'.1 k = S.1 k) ∧ (∀ a, a ∉ ar → S'.2.1 a = S.2.1 a) ∧ ∀ a, a ∉ la → S'.2.2 a = S.2.2 a
theorem jg_refl (sc ar la : List Nat) (S : jx_S) : jg sc ar la S S := ⟨fun _ _ => rfl, fun _ _ => rfl, fun _ _ => rfl⟩
theorem jg_trans {sc ar la : List Nat} {S S' S'' : jx_S} (h : jg sc ar la S S') (k : jg sc ar la S' S'') : jg sc ar la S S'' := ⟨fun x hx => (k.1 x hx).trans (h.1 x hx), fun x hx => (k.2.1 x hx).trans (h.2.1 x hx), fun x hx => (k.2.2 x hx).trans (h.2.2 x hx)⟩
theorem jg_wk {sc ar la sc' ar' la' : List Nat} {S S' : jx_S} (h : jg sc ar la S S') (h1 : ∀ x ∈ sc, x ∈ sc') (h2 : ∀ x ∈ ar, x ∈ ar') (h3 : ∀ x ∈ la, x ∈ la') : jg sc' ar' la' S S' := ⟨fun x hx => h.1 x (fun q => hx (h1 x q)), fun x hx => h.2.1 x (fun q => hx (h2 x q)), fun x hx => h.2.2 x (fun q => hx (h3 x q))⟩
theorem jg_f {sc ar la : List Nat} {S : jx_S} {k : Nat} {v : Int32} (h : k ∈ sc) : jg sc ar la S (jx_f S k v) := by
  refine ⟨fun x hx => ?_, fun _ _ => rfl, fun _ _ => rfl⟩
  rw [js_f1, if_neg (show ¬ x = k from fun e => hx (by rw [e]; exact h))]
theorem jg_g {sc ar la : List Nat} {S : jx_S} {a : Nat} {f : Nat → Int32} (h : a ∈ ar) : jg sc ar la S (jx_g S a f) := by
  refine ⟨fun _ _ => rfl, fun x hx => ?_, fun _ _ => rfl⟩
  rw [js_g2, if_neg (show ¬ x = a from fun e => hx (by rw [e]; exact h))]
theorem jg_l {sc ar la : List Nat} {S : jx_S} {a : Nat} {f : Nat → Int64} (h : a ∈ la) : jg sc ar la S (jx_gl S a f) := by
  refine ⟨fun _ _ => rfl, fun _ _ => rfl, fun x hx => ?_⟩
  rw [js_l3, if_neg (show ¬ x = a from fun e => hx (by rw [e]; exact h))]
theorem jm_ag_rng (t r b A B C w : Int) : -4 ≤ jm_ag t r b A B C w ∧ jm_ag t r b A B C w ≤ 4 := by
  have := jm_at_rng t r b C B A
  unfold jm_ag
  repeat' split
  all_goals omega
theorem f_M_against_eq {T : jx_S} {A B C w : Nat → Int} {n k : Nat} (hR : jm_Rt T A B C w n) (hn : n ≤ 80) (hk : k < n) {a b c : Int64} {x : Int32} {av bv cv wv : Int} (ha : jb a av 50) (hb : jb b bv 100) (hc : jb c cv 50) (hx : x.toInt = wv) (hw : wv = 1 ∨ wv = -1) : f_M_against T (nI k) a b c x = some (Int32.ofInt (jm_ag (jm_t (A k) (B k) (C k)) (jm_r (A k) (B k) (C k) (w k)) (jm_b (A k) (B k)) av bv cv wv)) := by
  unfold f_M_against jm_ag
  have za : lg_cmp a 0 = 0 ↔ av = 0 := by rw [jg_eq, (ha (by decide)).1]; exact Iff.rfl
  have h2a : jb (2 * a) (2 * av) 200 := jb_wk (jb_mul jb_2 ha) (by decide)
  rw [f_M_signAt_at hR hn hk ha (jb_wk hb (by decide)) (jb_wk hc (by decide)), f_M_signAt_at hR hn hk (jb_wk jb_0 (by decide)) h2a (jb_wk hb (by decide))]
  simp only [Option.bind_some, za]
  have g1 := jm_col_rng
  have r1 := jm_sgInt.1
  have q1 : ∀ t r b c l s : Int, jm_at t r b c l s = -1 ∨ jm_at t r b c l s = 0 ∨ jm_at t r b c l s = 1 := fun t r b c l s => r1 _
  have p1 := q1 (jm_t (A k) (B k) (C k)) (jm_r (A k) (B k) (C k) (w k)) (jm_b (A k) (B k)) cv bv av
  have p2 := q1 (jm_t (A k) (B k) (C k)) (jm_r (A k) (B k) (C k) (w k)) (jm_b (A k) (B k)) bv (2 * av) 0
  generalize jm_at (jm_t (A k) (B k) (C k)) (jm_r (A k) (B k) (C k) (w k)) (jm_b (A k) (B k)) cv bv av = s0 at p1 ⊢
  generalize jm_at (jm_t (A k) (B k) (C k)) (jm_r (A k) (B k) (C k) (w k)) (jm_b (A k) (B k)) bv (2 * av) 0 = s1 at p2 ⊢
  by_cases h0 : av = 0
  · rw [if_pos h0, if_pos h0]
  · rw [if_neg h0, if_neg h0]
    have ex : x = Int32.ofInt wv := by apply ji_ext; rw [hx, ji_ofInt (by omega) (by omega)]
    subst ex
    unfold k_M_against_73
    rcases p1 with rfl | rfl | rfl <;> rcases p2 with rfl | rfl | rfl <;> rcases hw with rfl | rfl <;> rfl
def jm_rt3 (A B C w : Nat → Int) (k : Nat) : Int × Int × Int := (jm_t (A k) (B k) (C k), jm_r (A k) (B k) (C k) (w k), jm_b (A k) (B k))
/-- what the scan of the reference finds -/
theorem jm_scan {T : jx_S} {A B C w : Nat → Int} {n i : Nat} (hR : jm_Rt T A B C w n) (hn : n ≤ 80) (hi : i < n) {a b c : Int64} {x : Int32} {av bv cv wv : Int} (ha : jb a av 50) (hb : jb b bv 100) (hc : jb c cv 50) (hx : x.toInt = wv) (hw : wv = 1 ∨ wv = -1) (hA : 0 ≤ av) (hB : av = 0 → 0 < bv) (hD : av ≠ 0 → 0 ≤ bv * bv - 4 * av * cv) :
    ∃ d : Int, f_M_against T (nI i) a b c x = some (Int32.ofInt d) ∧ -4 ≤ d ∧ d ≤ 4 ∧ d.sign = jm_df (jm_t (A i) (B i) (C i)) (jm_r (A i) (B i) (C i) (w i)) (jm_b (A i) (B i)) (jm_t av bv cv) (jm_r av bv cv wv) (jm_b av bv) := by
  refine ⟨_, f_M_against_eq hR hn hi ha hb hc hx hw, (jm_ag_rng _ _ _ _ _ _ _).1, (jm_ag_rng _ _ _ _ _ _ _).2, jm_ag_df ?_ hA hB hD hw⟩
  obtain ⟨h1, h2, h3, h4, h5, h6, h7, h8, h9, h10⟩ := hR i hi
  unfold jm_b
  split
  · exact h10 (by assumption)
  · omega
theorem jm_sgn_lt {d : Int} : d.sign < 0 ↔ d < 0 := by
  have := jm_sgInt.2.1 d
  omega
theorem jm_sgn_gt {d : Int} : 0 < d.sign ↔ 0 < d := by
  have := jm_sgInt.2.1 (-d)
  rw [Int.sign_neg] at this
  omega
theorem f_M_addRoot_dup {T : jx_S} {A B C w : Nat → Int} {n k : Nat} (hR : jm_Rt T A B C w n) (hn : T.1 8 = nI n) (h80 : n ≤ 80) {a b c : Int64} {x : Int32} {av bv cv wv : Int} (ha : jb a av 50) (hb : jb b bv 100) (hc : jb c cv 50) (hx : x.toInt = wv) (hw : wv = 1 ∨ wv = -1) (hA : 0 ≤ av) (hB : av = 0 → 0 < bv) (hD : av ≠ 0 → 0 ≤ bv * bv - 4 * av * cv)
    (hp : jm_dup (fun k => jm_t (A k) (B k) (C k)) (fun k => jm_r (A k) (B k) (C k) (w k)) (fun k => jm_b (A k) (B k)) n (jm_t av bv cv) (jm_r av bv cv wv) (jm_b av bv) k) : f_M_addRoot T a b c x = some T := by
  have key : jm_T (jx_lp (b_M_addRoot_9 T a b c x) jx_N (T.1 8, 0)) (fun o => o = Sum.inr T) := by
    refine jm_loop (fun z => ∃ i, i ≤ k ∧ z.2 = nI i) (fun z => n - z.2.toNatClampNeg) _ ?_ jx_N _ ⟨0, by omega, rfl⟩ (by unfold jx_N; show n - _ < _; omega)
    rintro ⟨z1, z2⟩ ⟨i, h1, h2⟩
    dsimp only at h2
    subst h2
    unfold b_M_addRoot_9
    have hkn := hp.1
    rw [hn]
    dsimp only
    rw [if_neg (nI_ge (by omega) (by omega))]
    obtain ⟨d, e1, e2, e3, e4⟩ := jm_scan hR h80 (i := i) (by omega) ha hb hc hx hw hA hB hD
    rw [e1, Option.bind_some]
    by_cases q : i = k
    · subst q
      have z0 : d = 0 := by
        have := hp.2.2
        dsimp only at this
        rw [← e4] at this
        exact Int.sign_eq_zero_iff_zero.mp this
      rw [if_pos ((jo_eq0 (by omega) (by omega)).mpr z0)]
      exact jm_ret rfl
    · have z1 : d < 0 := by
        have := hp.2.1 i (by omega)
        dsimp only at this
        rw [← e4, jm_sgn_lt] at this
        exact this
      rw [if_neg (by rw [jo_eq0 (by omega) (by omega)]; omega), nI_1]
      refine jm_ret ⟨⟨i + 1, by omega, rfl⟩, ?_⟩
      show n - (nI (i + 1)).toNatClampNeg < n - (nI i).toNatClampNeg
      rw [nI_clamp (by omega), nI_clamp (by omega)]
      omega
  obtain ⟨o, ho, rfl⟩ := key
  unfold f_M_addRoot
  rw [ho]
  rfl
