/-! truth of the formula in a cell -/
def jt_b (x : Bool) : Int32 := if x = true then 1 else 0
theorem jt_b0 {x : Bool} : jt_b x = 0 ↔ x = false := by cases x <;> decide
theorem jt_b_nb (x : Bool) : jx_nb (jt_b x) = true := by cases x <;> decide
theorem jt_b_inj {x y : Bool} : jt_b x = jt_b y ↔ x = y := by cases x <;> cases y <;> decide
def jt_st (av : Nat → Bool) (l : List Bool) (cd : Nat) : List Bool :=
  if cd = 3 then (match l with | x :: l => (!x) :: l | [] => [])
  else if cd = 2 then (match l with | x :: y :: l => (y && x) :: l | _ => [])
  else if cd = 1 then (match l with | x :: y :: l => (y || x) :: l | _ => [])
  else av (cd - 4) :: l
def jt_run (av : Nat → Bool) (cd : Nat → Nat) : Nat → List Bool
  | 0 => []
  | k + 1 => jt_st av (jt_run av cd k) (cd k)
def jt_dep (cd : Nat → Nat) : Nat → Nat
  | 0 => 0
  | k + 1 => if cd k = 3 then jt_dep cd k else if cd k = 2 ∨ cd k = 1 then jt_dep cd k - 1 else jt_dep cd k + 1
/-- a formula whose operators find what they join -/
def jt_ok (cd : Nat → Nat) (m L : Nat) : Prop := L ≤ 80 ∧ jt_dep cd L = 1 ∧ ∀ k, k < L → jt_dep cd k ≤ 8 ∧ ((cd k = 3 ∧ 1 ≤ jt_dep cd k) ∨ (cd k = 2 ∧ 2 ≤ jt_dep cd k) ∨ (cd k = 1 ∧ 2 ≤ jt_dep cd k) ∨ (4 ≤ cd k ∧ cd k < 4 + m ∧ jt_dep cd k ≤ 7))
theorem jt_len {cd : Nat → Nat} {m L : Nat} (h : jt_ok cd m L) (av : Nat → Bool) : ∀ k, k ≤ L → (jt_run av cd k).length = jt_dep cd k
  | 0, _ => rfl
  | k + 1, hk => by
    have ih := jt_len h av k (by omega)
    obtain ⟨h1, h2⟩ := h.2.2 k (by omega)
    unfold jt_run jt_st jt_dep
    generalize jt_run av cd k = l at ih ⊢
    rw [← ih] at h2 ⊢
    rcases h2 with ⟨e, h2⟩ | ⟨e, h2⟩ | ⟨e, h2⟩ | ⟨e, h2, h3⟩
    · rw [e]
      match l, h2 with
      | x :: l, _ => rfl
    · rw [e]
      match l, h2 with
      | x :: y :: l, _ => rfl
    · rw [e]
      match l, h2 with
      | x :: y :: l, _ => rfl
    · rw [if_neg (by omega), if_neg (by omega), if_neg (by omega), if_neg (by omega), if_neg (by omega)]
      rfl
def jt_val (av : Nat → Bool) (cd : Nat → Nat) (L : Nat) : Bool := match jt_run av cd L with | x :: _ => x | [] => false
/-- the component's bits -/
def jt_enc : List Bool → Nat
  | [] => 0
  | x :: l => 2 * jt_enc l + (if x = true then 1 else 0)
theorem jt_enc_lt : ∀ l : List Bool, jt_enc l < 2 ^ l.length
  | [] => by decide
  | x :: l => by
    have := jt_enc_lt l
    unfold jt_enc
    rw [List.length_cons, Nat.pow_succ]
    split <;> omega
theorem jt_enc_b {l : List Bool} (h : l.length ≤ 8) : jt_enc l < 256 := Nat.lt_of_lt_of_le (jt_enc_lt l) (Nat.pow_le_pow_right (by omega) h)
theorem jt_xor : ∀ v, v < 256 → nI v ^^^ 1 = nI (if v % 2 = 0 then v + 1 else v - 1) := by decide +kernel
theorem jt_and : ∀ v, v < 256 → (nI v >>> ((1 : Int32) &&& 31)) &&& (nI v ||| (-2)) = nI (2 * (v / 4) + (if v % 4 = 3 then 1 else 0)) := by decide +kernel
theorem jt_or : ∀ v, v < 256 → (nI v >>> ((1 : Int32) &&& 31)) ||| (nI v &&& 1) = nI (2 * (v / 4) + (if v % 4 = 0 then 0 else 1)) := by decide +kernel
theorem jt_psh0 : ∀ v, v < 256 → (nI v <<< ((1 : Int32) &&& 31)) ||| 0 = nI (2 * v) := by decide +kernel
theorem jt_psh1 : ∀ v, v < 256 → (nI v <<< ((1 : Int32) &&& 31)) ||| 1 = nI (2 * v + 1) := by decide +kernel
theorem jt_low : ∀ v, v < 256 → nI v &&& 1 = nI (v % 2) := by decide +kernel
theorem jt_shr (x y : Bool) (l : List Bool) : jt_enc (x :: y :: l) / 4 = jt_enc l ∧ jt_enc (x :: y :: l) % 4 = 2 * (if y = true then 1 else 0) + (if x = true then 1 else 0) := by
  show (2 * (2 * jt_enc l + (if y = true then 1 else 0)) + (if x = true then 1 else 0)) / 4 = jt_enc l ∧ (2 * (2 * jt_enc l + (if y = true then 1 else 0)) + (if x = true then 1 else 0)) % 4 = _
  split <;> split <;> omega
/-- the component's truth of an atom and the reference's -/
def jt_tr (rl : Nat) (s : Int) : Bool := if rl = 60 then decide (s < 0) else if rl = 61 then decide (s = 0) else decide (0 < s)
def jt_sg (t r b : Nat → Int) (i : Nat) (c : Nat → Int) (m j p : Nat) : Int := if jm_sA t r b i c p = 0 then jm_sB t r b i c p else jm_sA t r b i c p * ((j : Int) - (2 * (jn_rank (jm_sA t r b i c) (jm_cm t r b i c) m p : Int) + 1)).sign
theorem jt_sg_rng (t r b : Nat → Int) (i : Nat) (c : Nat → Int) (m j p : Nat) : jt_sg t r b i c m j p = -1 ∨ jt_sg t r b i c m j p = 0 ∨ jt_sg t r b i c m j p = 1 := by
  unfold jt_sg
  split
  · exact jm_sB_rng _ _ _ _ _ _
  · have h1 := jm_sA_rng t r b i c p
    have h2 := jm_sgInt.1 ((j : Int) - (2 * (jn_rank (jm_sA t r b i c) (jm_cm t r b i c) m p : Int) + 1))
    have := js_mrng (a := jm_sA t r b i c p) (b := ((j : Int) - (2 * (jn_rank (jm_sA t r b i c) (jm_cm t r b i c) m p : Int) + 1)).sign) (by omega) (by omega)
    omega
theorem f_Q_signIn_eq {S : jx_S} {t r b : Nat → Int} {i m j p : Nat} {c : Nat → Int} (hE : jn_E S t r b i c m) (hm : m ≤ 8) (hp : p < m) (hj : j < 1000) : f_Q_signIn S (nI j) (nI p) = some (Int32.ofInt (jt_sg t r b i c m j p)) := by
  obtain ⟨h1, h2, h3⟩ := hE.1 p hp
  unfold f_Q_signIn jt_sg
  rw [if_pos (ji_inN (by omega) (by decide)), nI_clamp (by omega), h1, h2, h3]
  have ar := jm_sA_rng t r b i c p
  by_cases z : jm_sA t r b i c p = 0
  · rw [if_pos ((jo_s0 ar).mpr z), if_pos z]
  · rw [if_neg (fun h => z ((jo_s0 ar).mp h)), if_neg z]
    unfold jn_zc
    rw [if_neg z]
    have rk : jn_rank (jm_sA t r b i c) (jm_cm t r b i c) m p ≤ m := jn_cnt_n m
    have e : (nI j - nI (2 * jn_rank (jm_sA t r b i c) (jm_cm t r b i c) m p + 1)).toInt = (j : Int) - (2 * (jn_rank (jm_sA t r b i c) (jm_cm t r b i c) m p : Int) + 1) := by
      rw [ji_sub (by rw [nI_toInt (by omega), nI_toInt (by omega)]; omega) (by rw [nI_toInt (by omega), nI_toInt (by omega)]; omega), nI_toInt (by omega), nI_toInt (by omega)]
      omega
    rw [js_si e, jo_mul]
theorem f_S_atomIsTrue_eq {S : jx_S} {p rl : Nat} {s : Int} (hp : p < 8) (hr : S.2.1 1 p = nI rl) (h6 : rl = 60 ∨ rl = 61 ∨ rl = 62) (hs : s = -1 ∨ s = 0 ∨ s = 1) : f_S_atomIsTrue S (nI p) (Int32.ofInt s) = some (jt_b (jt_tr rl s)) := by
  unfold f_S_atomIsTrue
  rw [if_pos (ji_inN (by omega) (by decide)), nI_clamp (by omega), hr]
  rcases h6 with rfl | rfl | rfl <;> rcases hs with rfl | rfl | rfl <;> rfl
theorem f_Q_trueIn_eq {S : jx_S} {t r b : Nat → Int} {i m j L : Nat} {c : Nat → Int} {cd rl : Nat → Nat} (hE : jn_E S t r b i c m) (hm : m ≤ 8) (hj : j < 1000) (hr : ∀ p, p < m → S.2.1 1 p = nI (rl p) ∧ (rl p = 60 ∨ rl p = 61 ∨ rl p = 62)) (h3 : S.1 3 = nI L) (hc : ∀ k, k < L → S.2.1 2 k = nI (cd k)) (ok : jt_ok cd m L) :
    f_Q_trueIn S (nI j) = some (jt_b (jt_val (fun p => jt_tr (rl p) (jt_sg t r b i c m j p)) cd L)) := by
  obtain ⟨av, hav⟩ : ∃ av, av = fun p => jt_tr (rl p) (jt_sg t r b i c m j p) := ⟨_, rfl⟩
  rw [← hav]
  have ll := jt_len ok av
  have key : jm_T (jx_lp (b_Q_trueIn_4 S (nI j)) jx_N (0, 0)) (fun o => o = nI (jt_enc (jt_run av cd L))) := by
    refine jm_loop (fun z => ∃ k, k ≤ L ∧ z.2 = nI k ∧ z.1 = nI (jt_enc (jt_run av cd k))) (fun z => L - z.2.toNatClampNeg) _ ?_ jx_N _ ⟨0, by omega, rfl, rfl⟩ ?_
    · rintro ⟨v, k1⟩ ⟨k, g1, g2, g3⟩
      dsimp only at g2 g3
      subst g2
      subst g3
      have L80 := ok.1
      unfold b_Q_trueIn_4
      dsimp only
      rw [h3]
      by_cases e : k = L
      · rw [if_pos (nI_le (by omega) (by omega)), e]
        exact jm_ret rfl
      · have mu : L - (nI (k + 1)).toNatClampNeg < L - k := by
          rw [nI_clamp (by omega)]
          omega
        rw [if_neg (nI_ge (by omega) (by omega)), if_pos (ji_inN (by omega) (by decide)), nI_clamp (show k < 2147483648 by omega), hc k (by omega), nI_1]
        obtain ⟨d8, hd⟩ := ok.2.2 k (by omega)
        have lk := ll k (by omega)
        have step : jt_run av cd (k + 1) = jt_st av (jt_run av cd k) (cd k) := rfl
        have eb := jt_enc_b (l := jt_run av cd k) (by omega)
        generalize jt_run av cd k = l at *
        rcases hd with ⟨z, hd⟩ | ⟨z, hd⟩ | ⟨z, hd⟩ | ⟨z, z2, hd⟩
        · rw [z] at step ⊢
          rw [if_pos (by decide), if_pos (by rfl)]
          refine jm_ret ⟨⟨k + 1, by omega, rfl, ?_⟩, mu⟩
          show nI (jt_enc l) ^^^ 1 = _
          rw [step, jt_xor _ eb]
          match l, lk with
          | x :: l, _ =>
            congr 1
            cases x
            · show (if (2 * jt_enc l + 0) % 2 = 0 then (2 * jt_enc l + 0) + 1 else (2 * jt_enc l + 0) - 1) = 2 * jt_enc l + 1
              rw [if_pos (by omega)]
            · show (if (2 * jt_enc l + 1) % 2 = 0 then (2 * jt_enc l + 1) + 1 else (2 * jt_enc l + 1) - 1) = 2 * jt_enc l + 0
              rw [if_neg (by omega)]
              omega
          | [], lk => exact absurd lk (by show ¬ 0 = _; omega)
        · rw [z] at step ⊢
          rw [if_pos (by decide), if_neg (by decide), if_pos (by rfl)]
          refine jm_ret ⟨⟨k + 1, by omega, rfl, ?_⟩, mu⟩
          show nI (jt_enc l) >>> ((1 : Int32) &&& 31) &&& (nI (jt_enc l) ||| (-2)) = _
          rw [step, jt_and _ eb]
          match l, lk with
          | x :: y :: l, _ =>
            rw [(jt_shr x y l).1, (jt_shr x y l).2]
            cases x <;> cases y <;> rfl
          | [x], lk => exact absurd lk (by show ¬ 1 = _; omega)
          | [], lk => exact absurd lk (by show ¬ 0 = _; omega)
        · rw [z] at step ⊢
          rw [if_pos (by decide), if_neg (by decide), if_neg (by decide)]
          refine jm_ret ⟨⟨k + 1, by omega, rfl, ?_⟩, mu⟩
          show nI (jt_enc l) >>> ((1 : Int32) &&& 31) ||| (nI (jt_enc l) &&& 1) = _
          rw [step, jt_or _ eb]
          match l, lk with
          | x :: y :: l, _ =>
            rw [(jt_shr x y l).1, (jt_shr x y l).2]
            cases x <;> cases y <;> rfl
          | [x], lk => exact absurd lk (by show ¬ 1 = _; omega)
          | [], lk => exact absurd lk (by show ¬ 0 = _; omega)
        · have hp : cd k - 4 < m := by omega
          have e4 : nI (cd k) - 4 = nI (cd k - 4) := by
            apply ji_ext
            rw [show (4 : Int32) = nI 4 from rfl, ji_sub (by rw [nI_toInt (by omega), nI_toInt (by omega)]; omega) (by rw [nI_toInt (by omega), nI_toInt (by omega)]; omega), nI_toInt (by omega), nI_toInt (by omega), nI_toInt (by omega)]
            omega
          obtain ⟨r1, r2⟩ := hr _ hp
          rw [if_neg (show ¬ nI (cd k) < 4 from nI_nlt (b := 4) (by omega) (by omega)), e4, f_Q_signIn_eq hE hm hp hj, Option.bind_some, f_S_atomIsTrue_eq (by omega) r1 r2 (jt_sg_rng _ _ _ _ _ _ _ _), Option.bind_some]
          refine jm_ret ⟨⟨k + 1, by omega, rfl, ?_⟩, mu⟩
          dsimp only
          have st2 : jt_st av l (cd k) = jt_tr (rl (cd k - 4)) (jt_sg t r b i c m j (cd k - 4)) :: l := by
            unfold jt_st
            rw [if_neg (by omega), if_neg (by omega), if_neg (by omega), hav]
          rw [step, st2]
          cases jt_tr (rl (cd k - 4)) (jt_sg t r b i c m j (cd k - 4))
          · exact jt_psh0 _ eb
          · exact jt_psh1 _ eb
    · have := ok.1
      show L - _ < jx_N
      unfold jx_N
      omega
  obtain ⟨o, h1, h2⟩ := key
  unfold f_Q_trueIn
  rw [h1, Option.bind_some, h2]
  have ll1 := ll L (by omega)
  rw [ok.2.1] at ll1
  unfold jt_val
  rw [jt_low _ (jt_enc_b (by omega))]
  match jt_run av cd L, ll1 with
  | [x], _ => cases x <;> rfl
/-! the reference's truth -/
def jt_A (f : Nat → Int32) : List Bool → Prop
  | [] => True
  | x :: l => f l.length = jt_b x ∧ jt_A f l
theorem jt_A_upd {f g : Nat → Int32} : ∀ {l : List Bool}, jt_A f l → (∀ k, k < l.length → g k = f k) → jt_A g l
  | [], _, _ => trivial
  | x :: l, h, k => ⟨by rw [k l.length (by rw [List.length_cons]; omega)]; exact h.1, jt_A_upd h.2 (fun q hq => k q (by rw [List.length_cons]; omega))⟩
theorem vp_nar_b (x : Bool) : vp_nar .boolean (jt_b x) = jt_b x := by cases x <;> rfl
theorem f_M_signOfCell_eq {T : jx_S} {A B C w : Nat → Int} {n i m j p : Nat} {c : Nat → Int} {t r b : Nat → Int} (et : t = fun k => jm_t (A k) (B k) (C k)) (er : r = fun k => jm_r (A k) (B k) (C k) (w k)) (eb : b = fun k => jm_b (A k) (B k)) (hR : jm_Rt T A B C w n) (hn : n ≤ 80) (hi : i ≤ 2 * n) (hN : jm_nb (T.2.1 2) m c) (hm : m ≤ 8) (h9 : T.1 9 = nI i) (hL : jn_L T t r b i c m) (hp : p < m) (hj : j < 1000) : f_M_signOfCell T (nI i) (nI j) (nI p) = some (Int32.ofInt (jt_sg t r b i c m j p), T) := by
  obtain ⟨h1, h2⟩ := hL.1 p hp
  unfold f_M_signOfCell f_M_look jt_sg
  have n1 := hN (4 * p + 1) (by omega)
  have n0 := hN (4 * p) (by omega)
  rw [if_pos h9, Option.bind_some, if_pos (ji_inN (by omega) (by decide)), nI_clamp (show p < 2147483648 by omega), h1, h2]
  have ar := jm_sA_rng t r b i c p
  by_cases z : jm_sA t r b i c p = 0
  · rw [if_pos ((jo_s0 ar).mpr z), if_pos z, show (4 * nI p + 1 : Int32) = nI (4 * p + 1) from ji_4q, show (4 * nI p : Int32) = nI (4 * p) from nI_mul 4 p, if_pos (ji_inN (by omega) (by decide)), if_pos (ji_inN (by omega) (by decide)), nI_clamp (show 4 * p + 1 < 2147483648 by omega), nI_clamp (show 4 * p < 2147483648 by omega),
      f_M_signIn_eq hR hn hi (jb_wk jb_0 (by decide)) (jb_wk (jb_i (B := 5) n1.1 (by omega) (by omega)) (by decide)) (jb_wk (jb_i (B := 5) n0.1 (by omega) (by omega)) (by decide)), Option.bind_some, et, er, eb]
    rfl
  · rw [if_neg (fun h => z ((jo_s0 ar).mp h)), if_neg z]
    unfold jn_rk
    rw [if_neg z]
    have rk : jn_rank (jm_sA t r b i c) (jm_cm t r b i c) m p ≤ m := jn_cnt_n m
    have e : (2 * nI (jn_rank (jm_sA t r b i c) (jm_cm t r b i c) m p) + 1 : Int32) = nI (2 * jn_rank (jm_sA t r b i c) (jm_cm t r b i c) m p + 1) := by
      rw [show (2 : Int32) = nI 2 from rfl, nI_mul, nI_1]
    rw [e]
    simp only [nI_eq (show j < 2 ^ 31 by omega) (show 2 * jn_rank (jm_sA t r b i c) (jm_cm t r b i c) m p + 1 < 2 ^ 31 by omega), nI_leI (show j < 2 ^ 31 by omega) (show 2 * jn_rank (jm_sA t r b i c) (jm_cm t r b i c) m p + 1 < 2 ^ 31 by omega)]
    rcases Nat.lt_trichotomy j (2 * jn_rank (jm_sA t r b i c) (jm_cm t r b i c) m p + 1) with k | k | k
    · rw [if_neg (by omega), if_pos (by omega), Int.sign_eq_neg_one_of_neg (by omega), jo_neg, Int.mul_neg, Int.mul_one]
    · rw [if_pos k, show ((j : Int) - (2 * (jn_rank (jm_sA t r b i c) (jm_cm t r b i c) m p : Int) + 1)) = 0 by omega, Int.sign_zero, Int.mul_zero]
      rfl
    · rw [if_neg (by omega), if_neg (by omega), Int.sign_eq_one_of_pos (by omega), Int.mul_one]
theorem jt_v60 {s : Int} (h : s = -1 ∨ s = 0 ∨ s = 1) : vp_nar .boolean (if 0 ≤ Int32.ofInt s then 0 else 1 : Int32) = jt_b (jt_tr 60 s) := by rcases h with rfl | rfl | rfl <;> decide
theorem jt_v61 {s : Int} (h : s = -1 ∨ s = 0 ∨ s = 1) : vp_nar .boolean (if nI 61 = 61 then (if Int32.ofInt s = 0 then 1 else 0 : Int32) else (if Int32.ofInt s ≤ 0 then 0 else 1 : Int32) : Int32) = jt_b (jt_tr 61 s) := by rcases h with rfl | rfl | rfl <;> decide
theorem jt_v62 {s : Int} (h : s = -1 ∨ s = 0 ∨ s = 1) : vp_nar .boolean (if nI 62 = 61 then (if Int32.ofInt s = 0 then 1 else 0 : Int32) else (if Int32.ofInt s ≤ 0 then 0 else 1 : Int32) : Int32) = jt_b (jt_tr 62 s) := by rcases h with rfl | rfl | rfl <;> decide
def jd_cd (k : Nat) : Nat := if k = 3 then 12 else if k = 2 then 10 else if k = 1 then 11 else k - 4
theorem f_M_formulaIn_ok {T : jx_S} {A B C w : Nat → Int} {n i m j L : Nat} {c : Nat → Int} {cd rl : Nat → Nat} {t r b : Nat → Int} (et : t = fun k => jm_t (A k) (B k) (C k)) (er : r = fun k => jm_r (A k) (B k) (C k) (w k)) (eb : b = fun k => jm_b (A k) (B k)) (hR : jm_Rt T A B C w n) (hn : n ≤ 80) (hi : i ≤ 2 * n) (hN : jm_nb (T.2.1 2) m c) (hm : m ≤ 8) (h9 : T.1 9 = nI i) (hL : jn_L T t r b i c m) (hj : j < 1000)
    (hr : ∀ p, p < m → T.2.1 9 p = nI (rl p) ∧ (rl p = 60 ∨ rl p = 61 ∨ rl p = 62)) (h6 : T.1 6 = nI L) (hc : ∀ k, k < L → T.2.1 3 k = nI (jd_cd (cd k))) (ok : jt_ok cd m L) :
    jm_T (f_M_formulaIn T (nI i) (nI j)) (fun o => o.1 = jt_b (jt_val (fun p => jt_tr (rl p) (jt_sg t r b i c m j p)) cd L) ∧ jg [] [5] [] T o.2) := by
  obtain ⟨av, hav⟩ : ∃ av, av = fun p => jt_tr (rl p) (jt_sg t r b i c m j p) := ⟨_, rfl⟩
  rw [← hav]
  have ll := jt_len ok av
  have L80 := ok.1
  unfold f_M_formulaIn
  refine jm_bind (jm_loop (fun z => ∃ k, k ≤ L ∧ z.2.2 = nI k ∧ z.2.1 = nI (jt_run av cd k).length ∧ jg [] [5] [] T z.1 ∧ jt_A (z.1.2.1 5) (jt_run av cd k)) (fun z => L - z.2.2.toNatClampNeg) (fun o => jg [] [5] [] T o.1 ∧ jt_A (o.1.2.1 5) (jt_run av cd L)) ?_ jx_N _ ?_ ?_) ?_
  · rintro ⟨T1, v, k1⟩ ⟨k, g1, g2, g3, g4, g5⟩
    dsimp only at g2 g3 g4 g5
    subst g2
    subst g3
    unfold b_M_formulaIn_5
    dsimp only
    rw [g4.1 6 (by decide), h6]
    by_cases e : k = L
    · rw [if_pos (nI_le (by omega) (by omega))]
      subst e
      exact jm_ret ⟨g4, g5⟩
    · have mu : L - (nI (k + 1)).toNatClampNeg < L - k := by
        rw [nI_clamp (by omega)]
        omega
      rw [if_neg (nI_ge (by omega) (by omega)), if_pos (ji_inN (by omega) (by decide)), nI_clamp (show k < 2147483648 by omega), g4.2.1 3 (by decide), hc k (by omega), nI_1]
      obtain ⟨d8, hd⟩ := ok.2.2 k (by omega)
      have lk := ll k (by omega)
      have step : jt_run av cd (k + 1) = jt_st av (jt_run av cd k) (cd k) := rfl
      generalize jt_run av cd k = l at *
      rw [← lk] at hd d8
      rcases hd with ⟨z, hd⟩ | ⟨z, hd⟩ | ⟨z, hd⟩ | ⟨z, z2, hd⟩
      · rw [z] at step ⊢
        rw [if_pos (show nI (jd_cd 3) = 12 from rfl)]
        match l, hd with
        | x :: l, _ =>
          have hl : l.length < 8 := by rw [List.length_cons] at d8; omega
          rw [List.length_cons, nI_pred, if_pos (ji_inN (by omega) (by decide)), nI_clamp (by omega), g5.1]
          refine jm_ret ⟨⟨k + 1, by omega, rfl, by rw [step]; rfl, jg_trans g4 (jg_g (by decide)), ?_⟩, mu⟩
          rw [step]
          dsimp only
          rw [js_g2, if_pos rfl]
          refine ⟨?_, jt_A_upd g5.2 (fun q hq => by unfold upd; rw [if_neg (by omega)])⟩
          unfold upd
          rw [if_pos rfl]
          cases x <;> rfl
      · rw [z] at step ⊢
        rw [if_neg (show ¬ nI (jd_cd 2) = 12 by decide), if_neg (show ¬ nI (jd_cd 2) < 10 by decide), if_pos (show nI (jd_cd 2) = 10 from rfl)]
        match l, hd with
        | x :: y :: l, _ =>
          have hl : l.length < 7 := by rw [List.length_cons, List.length_cons] at d8; omega
          have e1 : nI (l.length + 1 + 1) + (-1) = nI (l.length + 1) := pk_m1 _
          rw [List.length_cons, List.length_cons, e1, nI_pred, if_pos (ji_inN (by omega) (by decide)), nI_clamp (show l.length < 2147483648 by omega), nI_clamp (show l.length + 1 < 2147483648 by omega), if_pos (ji_inN (by omega) (by decide))]
          have y1 := g5.2.1
          have x1 := g5.1
          rw [List.length_cons] at x1
          rw [y1, x1]
          have fin : ∀ v : Int32, v = jt_b (y && x) → jm_T (some (Sum.inl (jx_g T1 5 (upd (T1.2.1 5) l.length v), nI (l.length + 1), nI (k + 1)))) (Sum.elim (fun z => (∃ k, k ≤ L ∧ z.2.2 = nI k ∧ z.2.1 = nI (jt_run av cd k).length ∧ jg [] [5] [] T z.1 ∧ jt_A (z.1.2.1 5) (jt_run av cd k)) ∧ L - z.2.2.toNatClampNeg < L - k) (fun o : jx_S × Int32 => jg [] [5] [] T o.1 ∧ jt_A (o.1.2.1 5) (jt_run av cd L))) := by
            intro v hv
            refine jm_ret ⟨⟨k + 1, by omega, rfl, by rw [step]; rfl, jg_trans g4 (jg_g (by decide)), ?_⟩, mu⟩
            rw [step]
            dsimp only
            rw [js_g2, if_pos rfl]
            refine ⟨?_, jt_A_upd g5.2.2 (fun q hq => by unfold upd; rw [if_neg (by omega)])⟩
            unfold upd
            rw [if_pos rfl, hv]
          cases y
          · exact fin _ rfl
          · rw [if_neg (by decide)]
            refine fin _ ?_
            cases x <;> rfl
      · rw [z] at step ⊢
        rw [if_neg (show ¬ nI (jd_cd 1) = 12 by decide), if_neg (show ¬ nI (jd_cd 1) < 10 by decide), if_neg (show ¬ nI (jd_cd 1) = 10 by decide)]
        match l, hd with
        | x :: y :: l, _ =>
          have hl : l.length < 7 := by rw [List.length_cons, List.length_cons] at d8; omega
          have e1 : nI (l.length + 1 + 1) + (-1) = nI (l.length + 1) := pk_m1 _
          rw [List.length_cons, List.length_cons, e1, nI_pred, if_pos (ji_inN (by omega) (by decide)), nI_clamp (show l.length < 2147483648 by omega), nI_clamp (show l.length + 1 < 2147483648 by omega), if_pos (ji_inN (by omega) (by decide))]
          have y1 := g5.2.1
          have x1 := g5.1
          rw [List.length_cons] at x1
          rw [y1, x1]
          have fin : ∀ v : Int32, v = jt_b (y || x) → jm_T (some (Sum.inl (jx_g T1 5 (upd (T1.2.1 5) l.length v), nI (l.length + 1), nI (k + 1)))) (Sum.elim (fun z => (∃ k, k ≤ L ∧ z.2.2 = nI k ∧ z.2.1 = nI (jt_run av cd k).length ∧ jg [] [5] [] T z.1 ∧ jt_A (z.1.2.1 5) (jt_run av cd k)) ∧ L - z.2.2.toNatClampNeg < L - k) (fun o : jx_S × Int32 => jg [] [5] [] T o.1 ∧ jt_A (o.1.2.1 5) (jt_run av cd L))) := by
            intro v hv
            refine jm_ret ⟨⟨k + 1, by omega, rfl, by rw [step]; rfl, jg_trans g4 (jg_g (by decide)), ?_⟩, mu⟩
            rw [step]
            dsimp only
            rw [js_g2, if_pos rfl]
            refine ⟨?_, jt_A_upd g5.2.2 (fun q hq => by unfold upd; rw [if_neg (by omega)])⟩
            unfold upd
            rw [if_pos rfl, hv]
          cases y
          · rw [if_pos (by rfl)]
            refine fin _ ?_
            cases x <;> rfl
          · rw [if_neg (by decide)]
            exact fin _ rfl
      · have hp : cd k - 4 < m := by omega
        have ecd : jd_cd (cd k) = cd k - 4 := by
          unfold jd_cd
          rw [if_neg (by omega), if_neg (by omega), if_neg (by omega)]
        obtain ⟨r1, r2⟩ := hr _ hp
        have lL : jn_L T1 t r b i c m := ⟨fun q hq => by rw [g4.2.1 7 (by decide), g4.2.1 8 (by decide)]; exact hL.1 q hq, by rw [g4.1 10 (by decide)]; exact hL.2⟩
        have st2 : jt_st av l (cd k) = jt_tr (rl (cd k - 4)) (jt_sg t r b i c m j (cd k - 4)) :: l := by
          unfold jt_st
          rw [if_neg (by omega), if_neg (by omega), if_neg (by omega), hav]
        rw [st2] at step
        rw [ecd, if_neg (show ¬ nI (cd k - 4) = 12 from fun h => by have := (nI_eq (b := 12) (by omega) (by omega)).mp h; omega), if_pos (show nI (cd k - 4) < 10 from nI_lt (b := 10) (by omega) (by omega)),
          f_M_signOfCell_eq et er eb (jm_Rt_g hR (g4.2.1 6 (by decide)) (jg_l2 g4)) hn hi (jm_nb_f hN (g4.2.1 2 (by decide))) hm ((g4.1 9 (by decide)).trans h9) lL hp hj, Option.bind_some, if_pos (ji_inN (by omega) (by decide)), nI_clamp (show cd k - 4 < 2147483648 by omega), nI_clamp (show l.length < 2147483648 by omega), if_pos (ji_inN (by omega) (by decide)), if_pos (ji_inN (by omega) (by decide)), nI_1, g4.2.1 9 (by decide), r1]
        have sr := jt_sg_rng t r b i c m j (cd k - 4)
        generalize jt_sg t r b i c m j (cd k - 4) = s at *
        generalize rl (cd k - 4) = q at *
        have fin : ∀ v : Int32, v = jt_b (jt_tr q s) → jm_T (some (Sum.inl (jx_g T1 5 (upd (T1.2.1 5) l.length v), nI (l.length + 1), nI (k + 1)))) (Sum.elim (fun z => (∃ k, k ≤ L ∧ z.2.2 = nI k ∧ z.2.1 = nI (jt_run av cd k).length ∧ jg [] [5] [] T z.1 ∧ jt_A (z.1.2.1 5) (jt_run av cd k)) ∧ L - z.2.2.toNatClampNeg < L - k) (fun o : jx_S × Int32 => jg [] [5] [] T o.1 ∧ jt_A (o.1.2.1 5) (jt_run av cd L))) := by
          intro v hv
          refine jm_ret ⟨⟨k + 1, by omega, rfl, by rw [step]; rfl, jg_trans g4 (jg_g (by decide)), ?_⟩, mu⟩
          rw [step]
          dsimp only
          rw [js_g2, if_pos rfl]
          refine ⟨?_, jt_A_upd g5 (fun q hq => by unfold upd; rw [if_neg (by omega)])⟩
          unfold upd
          rw [if_pos rfl, hv]
        rcases r2 with rfl | rfl | rfl
        · rw [if_pos (by rfl)]
          exact fin _ (jt_v60 sr)
        · rw [if_neg (by decide)]
          exact fin _ (jt_v61 sr)
        · rw [if_neg (by decide)]
          exact fin _ (jt_v62 sr)
  · exact ⟨0, by omega, rfl, rfl, jg_refl _ _ _ _, trivial⟩
  · show L - _ < jx_N
    unfold jx_N
    omega
  · rintro ⟨T1, v⟩ ⟨g1, g2⟩
    dsimp only at g1 g2
    dsimp only
    have ll1 := ll L (by omega)
    rw [ok.2.1] at ll1
    unfold jt_val
    rw [if_pos (by decide)]
    match jt_run av cd L, ll1, g2 with
    | [x], _, g2 =>
      have e0 : T1.2.1 5 (0 : Int32).toNatClampNeg = jt_b x := g2.1
      rw [e0, if_pos (jt_b_nb x)]
      exact jm_ret ⟨rfl, g1⟩
