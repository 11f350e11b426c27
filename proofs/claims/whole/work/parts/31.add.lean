/-! insertion of a critical number: the component -/
def jf (sc ar : List Nat) (S S' : jx_S) : Prop := (∀ k, k ∉ sc → S'.1 k = S.1 k) ∧ (∀ a, a ∉ ar → S'.2.1 a = S.2.1 a) ∧ S'.2.2 = S.2.2
theorem jf_refl (sc ar : List Nat) (S : jx_S) : jf sc ar S S := ⟨fun _ _ => rfl, fun _ _ => rfl, rfl⟩
theorem jf_trans {sc ar : List Nat} {S S' S'' : jx_S} (h : jf sc ar S S') (k : jf sc ar S' S'') : jf sc ar S S'' := ⟨fun x hx => (k.1 x hx).trans (h.1 x hx), fun x hx => (k.2.1 x hx).trans (h.2.1 x hx), k.2.2.trans h.2.2⟩
theorem jf_wk {sc ar sc' ar' : List Nat} {S S' : jx_S} (h : jf sc ar S S') (h1 : ∀ x ∈ sc, x ∈ sc') (h2 : ∀ x ∈ ar, x ∈ ar') : jf sc' ar' S S' := ⟨fun x hx => h.1 x (fun q => hx (h1 x q)), fun x hx => h.2.1 x (fun q => hx (h2 x q)), h.2.2⟩
theorem jf_f {sc ar : List Nat} {S : jx_S} {k : Nat} {v : Int32} (h : k ∈ sc) : jf sc ar S (jx_f S k v) := by
  refine ⟨fun x hx => ?_, fun _ _ => rfl, rfl⟩
  rw [js_f1, if_neg (show ¬ x = k from fun e => hx (by rw [e]; exact h))]
theorem jf_g {sc ar : List Nat} {S : jx_S} {a : Nat} {f : Nat → Int32} (h : a ∈ ar) : jf sc ar S (jx_g S a f) := by
  refine ⟨fun _ _ => rfl, fun x hx => ?_, rfl⟩
  rw [js_g2, if_neg (show ¬ x = a from fun e => hx (by rw [e]; exact h))]
theorem f_C_insert_ok {S : jx_S} {n k : Nat} {x y z : Int32} (hn : S.1 13 = nI n) (h72 : n < 72) (hk : k ≤ n) : jm_T (f_C_insert S (nI k) x y z) (fun S' => jf [13] [6, 7, 8] S S' ∧ S'.1 13 = nI (n + 1) ∧
    (∀ j, j ≤ n → S'.2.1 6 j = (if j < k then S.2.1 6 j else if j = k then x else S.2.1 6 (j - 1))) ∧ (∀ j, j ≤ n → S'.2.1 7 j = (if j < k then S.2.1 7 j else if j = k then y else S.2.1 7 (j - 1))) ∧ (∀ j, j ≤ n → S'.2.1 8 j = (if j < k then S.2.1 8 j else if j = k then z else S.2.1 8 (j - 1)))) := by
  unfold f_C_insert
  have c1 : S.1 13 < 72 := by rw [hn]; exact nI_lt (b := 72) (by omega) (by decide)
  rw [if_pos c1]
  refine jm_bind (jm_loop (fun w => ∃ i, k ≤ i ∧ i ≤ n ∧ w.2 = nI i ∧ jf [] [6, 7, 8] S w.1 ∧ (∀ j, j ≤ n → w.1.2.1 6 j = if i < j then S.2.1 6 (j - 1) else S.2.1 6 j) ∧ (∀ j, j ≤ n → w.1.2.1 7 j = if i < j then S.2.1 7 (j - 1) else S.2.1 7 j) ∧ (∀ j, j ≤ n → w.1.2.1 8 j = if i < j then S.2.1 8 (j - 1) else S.2.1 8 j)) (fun w => w.2.toNatClampNeg)
    (fun S1 => jf [] [6, 7, 8] S S1 ∧ (∀ j, j ≤ n → S1.2.1 6 j = if k < j then S.2.1 6 (j - 1) else S.2.1 6 j) ∧ (∀ j, j ≤ n → S1.2.1 7 j = if k < j then S.2.1 7 (j - 1) else S.2.1 7 j) ∧ (∀ j, j ≤ n → S1.2.1 8 j = if k < j then S.2.1 8 (j - 1) else S.2.1 8 j)) ?_ jx_N _ ?_ ?_) ?_
  · rintro ⟨S1, zi⟩ ⟨i, h1, h2, h3, h4, h5, h6, h7⟩
    dsimp only at h3 h4 h5 h6 h7
    subst h3
    unfold b_C_insert_16
    dsimp only
    by_cases q : i = k
    · rw [if_pos (show nI i ≤ nI k by rw [q]; exact nI_le (Nat.le_refl _) (by omega))]
      subst q
      exact jm_ret ⟨h4, h5, h6, h7⟩
    · rw [if_neg (nI_ge (by omega) (by omega))]
      have e1 : nI i - 1 = nI (i - 1) := by rw [show i = (i - 1) + 1 by omega, nI_pred]; rfl
      rw [e1]
      refine jm_gd (ji_inN (by omega) (by decide)) (jm_gd (ji_inN (by omega) (by decide)) (jm_ret ?_))
      have ci : (nI i).toNatClampNeg = i := nI_clamp (by omega)
      have ci1 : (nI (i - 1)).toNatClampNeg = i - 1 := nI_clamp (by omega)
      have e2 : nI i + (-1) = nI (i - 1) := by rw [show i = (i - 1) + 1 by omega]; exact pk_m1 (i - 1)
      refine ⟨⟨i - 1, by omega, by omega, e2, ?_, ?_, ?_, ?_⟩, ?_⟩
      · exact jf_trans h4 (jf_trans (jf_trans (jf_g (by decide)) (jf_g (by decide))) (jf_g (by decide)))
      · intro j hj
        show upd (S1.2.1 6) (nI i).toNatClampNeg (S1.2.1 6 (nI (i - 1)).toNatClampNeg) j = _
        rw [ci, ci1]
        unfold upd
        by_cases a : j = i
        · rw [if_pos a, h5 (i - 1) (by omega), if_neg (by omega), if_pos (by omega), a]
        · rw [if_neg a, h5 j hj]
          by_cases b : i < j
          · rw [if_pos b, if_pos (by omega)]
          · rw [if_neg b, if_neg (by omega)]
      · intro j hj
        show upd (S1.2.1 7) (nI i).toNatClampNeg (S1.2.1 7 (nI (i - 1)).toNatClampNeg) j = _
        rw [ci, ci1]
        unfold upd
        by_cases a : j = i
        · rw [if_pos a, h6 (i - 1) (by omega), if_neg (by omega), if_pos (by omega), a]
        · rw [if_neg a, h6 j hj]
          by_cases b : i < j
          · rw [if_pos b, if_pos (by omega)]
          · rw [if_neg b, if_neg (by omega)]
      · intro j hj
        show upd (S1.2.1 8) (nI i).toNatClampNeg (S1.2.1 8 (nI (i - 1)).toNatClampNeg) j = _
        rw [ci, ci1]
        unfold upd
        by_cases a : j = i
        · rw [if_pos a, h7 (i - 1) (by omega), if_neg (by omega), if_pos (by omega), a]
        · rw [if_neg a, h7 j hj]
          by_cases b : i < j
          · rw [if_pos b, if_pos (by omega)]
          · rw [if_neg b, if_neg (by omega)]
      · show (nI i + (-1)).toNatClampNeg < (nI i).toNatClampNeg
        rw [e2, ci, ci1]
        omega
  · exact ⟨n, hk, Nat.le_refl _, hn, jf_refl _ _ _, fun j hj => by rw [if_neg (by omega)], fun j hj => by rw [if_neg (by omega)], fun j hj => by rw [if_neg (by omega)]⟩
  · show (S.1 13).toNatClampNeg < jx_N
    rw [hn, nI_clamp (by omega)]
    unfold jx_N
    omega
  · intro S1 ⟨h4, h5, h6, h7⟩
    refine jm_gd (ji_inN (by omega) (by decide)) (jm_ret ?_)
    have ck : (nI k).toNatClampNeg = k := nI_clamp (by omega)
    have e13 : S1.1 13 = nI n := (h4.1 13 (by decide)).trans hn
    refine ⟨?_, ?_, ?_, ?_, ?_⟩
    · exact jf_trans (jf_wk h4 (fun _ h => by cases h) (fun _ h => h)) (jf_trans (jf_trans (jf_trans (jf_g (by decide)) (jf_g (by decide))) (jf_g (by decide))) (jf_f (by decide)))
    · show S1.1 13 + 1 = _
      rw [e13, nI_succ]
    · intro j hj
      show upd (S1.2.1 6) (nI k).toNatClampNeg x j = _
      rw [ck]
      unfold upd
      by_cases a : j = k
      · rw [if_pos a, if_neg (by omega), if_pos a]
      · rw [if_neg a, h5 j hj]
        by_cases b : k < j
        · rw [if_pos b, if_neg (by omega), if_neg a]
        · rw [if_neg b, if_pos (by omega)]
    · intro j hj
      show upd (S1.2.1 7) (nI k).toNatClampNeg y j = _
      rw [ck]
      unfold upd
      by_cases a : j = k
      · rw [if_pos a, if_neg (by omega), if_pos a]
      · rw [if_neg a, h6 j hj]
        by_cases b : k < j
        · rw [if_pos b, if_neg (by omega), if_neg a]
        · rw [if_neg b, if_pos (by omega)]
    · intro j hj
      show upd (S1.2.1 8) (nI k).toNatClampNeg z j = _
      rw [ck]
      unfold upd
      by_cases a : j = k
      · rw [if_pos a, if_neg (by omega), if_pos a]
      · rw [if_neg a, h7 j hj]
        by_cases b : k < j
        · rw [if_pos b, if_neg (by omega), if_neg a]
        · rw [if_neg b, if_pos (by omega)]
def jm_ins (f : Nat → Int) (k : Nat) (v : Int) : Nat → Int := fun j => if j < k then f j else if j = k then v else f (j - 1)
/-- what adding a number t', r', b' to the n sorted ones does: nothing, or it goes in at k -/
def jm_pos (t r b : Nat → Int) (n : Nat) (t' r' b' : Int) (k : Nat) : Prop := k ≤ n ∧ (∀ j, j < k → jm_df (t j) (r j) (b j) t' r' b' < 0) ∧ (k < n → 0 < jm_df (t k) (r k) (b k) t' r' b')
def jm_dup (t r b : Nat → Int) (n : Nat) (t' r' b' : Int) (k : Nat) : Prop := k < n ∧ (∀ j, j < k → jm_df (t j) (r j) (b j) t' r' b' < 0) ∧ jm_df (t k) (r k) (b k) t' r' b' = 0
theorem f_C_add_ok {S : jx_S} {t r b : Nat → Int} {n : Nat} {x y z : Int32} {t' r' b' : Int} (hC : jm_Cr S t r b n) (hn : S.1 13 = nI n) (h72 : n < 72) (hx : x.toInt = t') (hy : y.toInt = r') (hz : z.toInt = b') (bt' : -100 ≤ t' ∧ t' ≤ 100) (br' : -20000 ≤ r' ∧ r' ≤ 20000) (bb' : 1 ≤ b' ∧ b' ≤ 100) :
    jm_T (f_C_add S x y z) (fun S' => (S' = S ∧ ∃ k, jm_dup t r b n t' r' b' k) ∨ ∃ k, jm_pos t r b n t' r' b' k ∧ jf [13] [6, 7, 8] S S' ∧ S'.1 13 = nI (n + 1) ∧ jm_Cr S' (jm_ins t k t') (jm_ins r k r') (jm_ins b k b') (n + 1)) := by
  unfold f_C_add
  refine jm_bind (jm_loop (fun w => ∃ k, k ≤ n ∧ w = nI k ∧ ∀ j, j < k → jm_df (t j) (r j) (b j) t' r' b' < 0) (fun w => n - w.toNatClampNeg) (fun o => Sum.elim (fun w => ∃ k, w = nI k ∧ jm_pos t r b n t' r' b' k) (fun S' => S' = S ∧ ∃ k, jm_dup t r b n t' r' b' k) o) ?_ jx_N _ ?_ ?_) ?_
  · rintro w ⟨k, h1, rfl, h3⟩
    unfold b_C_add_3
    rw [hn]
    by_cases q : k = n
    · rw [if_pos (nI_le (by omega) (by omega))]
      exact jm_ret ⟨k, rfl, by omega, h3, fun h => by omega⟩
    · rw [if_neg (nI_ge (by omega) (by omega))]
      obtain ⟨g1, g2, g3, g4, g5, g6⟩ := hC k (by omega)
      have ck : (nI k).toNatClampNeg = k := nI_clamp (by omega)
      rw [f_C_signOfDifference_eq (t := t k) (r := r k) (b := b k) (ji_inN (by omega) (by decide)) (by rw [ck]; exact g1) (by rw [ck]; exact g2) (by rw [ck]; exact g3) g4 g5 (by omega) hx hy hz bt' br' (by omega)]
      have rg := jm_df_rng (t1 := t k) (r1 := r k) (b1 := b k) (t2 := t') (r2 := r') (b2 := b') (by omega) (by omega)
      rw [Option.bind_some]
      by_cases z0 : jm_df (t k) (r k) (b k) t' r' b' = 0
      · rw [if_pos ((jo_eq0 (by omega) (by omega)).mpr z0)]
        exact jm_ret ⟨rfl, k, by omega, h3, z0⟩
      · rw [if_neg (by rw [jo_eq0 (by omega) (by omega)]; exact z0)]
        by_cases zp : jm_df (t k) (r k) (b k) t' r' b' ≤ 0
        · rw [if_pos (by rw [jo_le0 (by omega) (by omega)]; exact zp), nI_1]
          refine jm_ret ⟨⟨k + 1, by omega, rfl, fun j hj => ?_⟩, ?_⟩
          · by_cases e : j = k
            · subst e; omega
            · exact h3 j (by omega)
          · show n - (nI (k + 1)).toNatClampNeg < n - (nI k).toNatClampNeg
            rw [ck, nI_clamp (by omega)]
            omega
        · rw [if_neg (by rw [jo_le0 (by omega) (by omega)]; exact zp)]
          exact jm_ret ⟨k, rfl, h1, h3, fun _ => by omega⟩
  · exact ⟨0, by omega, rfl, fun j hj => by omega⟩
  · show n - _ < jx_N
    unfold jx_N
    omega
  · intro o ho
    cases o with
    | inr S' => exact jm_ret (Or.inl ho)
    | inl w =>
      obtain ⟨k, rfl, hp⟩ := ho
      refine jm_bind (f_C_insert_ok hn h72 hp.1) (fun S' hS' => jm_ret (Or.inr ⟨k, hp, hS'.1, hS'.2.1, fun j hj => ?_⟩))
      obtain ⟨-, -, a6, a7, a8⟩ := hS'
      rw [a6 j (by omega), a7 j (by omega), a8 j (by omega)]
      unfold jm_ins
      by_cases c1 : j < k
      · simp only [if_pos c1]
        exact hC j (by have := hp.1; omega)
      · simp only [if_neg c1]
        by_cases c2 : j = k
        · simp only [if_pos c2]
          exact ⟨hx, hy, hz, bt', br', bb'⟩
        · simp only [if_neg c2]
          exact hC (j - 1) (by omega)
