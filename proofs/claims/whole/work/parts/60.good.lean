/-! all calls keep the relation -/
theorem jm_bs {α β : Type} (o : Option α) (f : α → Option β) : (o.bind fun z => (f z).bind fun q => some q) = o.bind f := by
  cases o with
  | none => rfl
  | some x =>
    rw [Option.bind_some, Option.bind_some]
    cases f x <;> rfl
theorem jy_W0 {S T : jx_S} (h7 : S.1 7 = 0) (h8 : S.1 8 = 0) (t0 : T.1 0 = 0) : jy_W S T := ⟨0, fun _ => 0, by omega, t0, h7, h8, fun k hk => absurd hk (Nat.not_lt_zero _)⟩
theorem jz_ans {S : jx_S} {hd : Nat → Bool} {ax : Bool} {n : Nat} (hn : n ≤ 1000) (k3 : jd_WS S hd ax n) : (if jt_b ax = 0 then (if jt_b (jt_any hd n) = 0 then 0 else 1 : Int32) else (if jt_b (jt_all hd n) = 0 then 0 else 1 : Int32) : Int32) = (if jt_b ax = (if 0 ≤ S.1 2 then 0 else 1 : Int32) then 1 else 0 : Int32) := by
  have e : (if jt_b ax = 0 then (if jt_b (jt_any hd n) = 0 then 0 else 1 : Int32) else (if jt_b (jt_all hd n) = 0 then 0 else 1 : Int32) : Int32) = jt_b (jt_hd ax hd n) := by
    rw [jt_b_if, jt_b_if]
    unfold jt_hd
    cases ax
    · rw [if_pos (by rfl), if_neg (by decide)]
    · rw [if_neg (by decide), if_pos rfl]
  rw [e]
  rcases k3 with ⟨p1, p2⟩ | ⟨u, p1, p2, p3, p4⟩
  · rw [jt_hd_eq p2, p1, if_neg (show ¬ (0 : Int32) ≤ -1 by decide)]
    cases ax <;> rfl
  · rw [jt_hd_ne p1 p3, p2, if_pos (show (0 : Int32) ≤ nI u from nI_le (a := 0) (by omega) (by omega))]
    cases ax <;> rfl
set_option maxHeartbeats 4000000 in
theorem jz_decide {S T : jx_S} (hR : jz_Rel S T) : ∃ r S' T', f_P_decide S = some (r, S') ∧ f_M_decide T = some (r, T') ∧ jz_Rel S' T' := by
  obtain ⟨ch, U, hc, hS, q1, e1, hT1, t10, g1⟩ := jy_take hR.1
  have u80 := hc.1
  obtain ⟨T0, hT0⟩ : ∃ T0, T0 = jx_f q1 9 (-1) := ⟨_, rfl⟩
  have g0 : jg [9] [] [] q1 T0 := by rw [hT0]; exact jg_f (by decide)
  have tT0 : jr_T T0 ch U := jr_T_g hT1 (g0.1 1 (by decide)) (g0.2.1 1 (by decide))
  have t00 : T0.1 0 = 0 := (g0.1 0 (by decide)).trans t10
  obtain ⟨S0, hS0⟩ : ∃ S0, S0 = jx_f S 0 (-1) := ⟨_, rfl⟩
  have f0 : jf [0] [] S S0 := by rw [hS0]; exact jf_f (by decide)
  have sS0 : jr_S S0 ch U := jr_S_f hS (f0.1 8 (by decide)) (f0.2.1 3 (by decide))
  have s00 : S0.1 0 = -1 := by rw [hS0, js_f1, if_pos rfl]
  unfold f_P_decide f_P_readText f_M_decide
  rw [e1, Option.bind_some, ← hT0, ← hS0, f_R_countOpenings_eq hc sS0, f_M_count_eq hc tT0, Option.bind_some, Option.bind_some]
  have ctl : jr_ct ch 40 U ≤ U := jn_cnt_n U
  -- a refusal
  have refuse : ∀ (code : Int32) (S1 : jx_S) (pl : Int32), (code = -1 ∨ code = -2) → S1.1 0 = pl → ∃ (r : Int32) (S' : jx_S) (T' : jx_S → jx_S), ((f_R_clear S1).bind fun q9_2 => if 0 ≤ code then (f_Q_cut (jx_f (jx_f q9_2 1 0) 2 (-1))).bind fun q39_3 => (f_Q_countColumns q39_3).bind fun q47_4 => (jx_lp (b_P_decide_55 code) jx_N ((jx_f q39_3 1 q47_4), 0)).bind fun z55_7 => some ((if (z55_7.1 5) = (if 0 ≤ (z55_7.1 2) then 0 else 1 : Int32) then 1 else 0 : Int32), z55_7) else (f_S_clear (jx_f (jx_f q9_2 1 0) 2 (-1))).bind fun q30_10 => some (code, q30_10)) = some (r, S') ∧ (∀ T1 : jx_S, T1.1 0 = 0 → ((f_M_wrong T1 code pl).bind fun q => some (q.1, q.2)) = some (r, T' T1) ∧ jz_Rel S' (T' T1)) := by
    intro code S1 pl hcode hpl
    have n0 : ¬ (0 : Int32) ≤ code := by rcases hcode with rfl | rfl <;> decide
    refine ⟨code, jx_f (jx_f (jx_f (jx_f (jx_f (jx_f S1 7 0) 8 0) 1 0) 2 (-1)) 3 0) 4 0, fun T1 => jx_f (jx_f (jx_f T1 5 0) 11 0) 2 pl, ?_, fun T1 ht => ⟨rfl, ?_⟩⟩
    · unfold f_R_clear f_S_clear
      rw [Option.bind_some, if_neg n0]
      rfl
    · refine ⟨jy_W0 ?_ ?_ ?_, ?_, Or.inl ⟨?_, ?_, ?_, ?_, ?_⟩⟩
      · rw [js_f1, if_neg (by decide), js_f1, if_neg (by decide), js_f1, if_neg (by decide), js_f1, if_neg (by decide), js_f1, if_neg (by decide), js_f1, if_pos rfl]
      · rw [js_f1, if_neg (by decide), js_f1, if_neg (by decide), js_f1, if_neg (by decide), js_f1, if_neg (by decide), js_f1, if_pos rfl]
      · rw [js_f1, if_neg (by decide), js_f1, if_neg (by decide), js_f1, if_neg (by decide)]; exact ht
      · rw [js_f1, if_neg (by decide), js_f1, if_neg (by decide), js_f1, if_neg (by decide), js_f1, if_neg (by decide), js_f1, if_neg (by decide), js_f1, if_neg (by decide), js_f1, if_pos rfl]; exact hpl
      · rw [js_f1, if_pos rfl]
      · rw [js_f1, if_neg (by decide), js_f1, if_neg (by decide), js_f1, if_pos rfl]
      · rw [js_f1, if_neg (by decide), js_f1, if_neg (by decide), js_f1, if_neg (by decide), js_f1, if_pos rfl]
      · rw [js_f1, if_neg (by decide), js_f1, if_pos rfl]
      · rw [js_f1, if_neg (by decide), js_f1, if_neg (by decide), js_f1, if_pos rfl]
  by_cases c8 : jr_ct ch 40 U ≤ 8
  · rw [if_pos (show nI (jr_ct ch 40 U) ≤ 8 from nI_le (b := 8) c8 (by omega)), if_pos (show nI (jr_ct ch 40 U) ≤ 8 from nI_le (b := 8) c8 (by omega))]
    -- the reference's state at its reading
    obtain ⟨T1, hT1e⟩ : ∃ T1, T1 = jx_f (jx_f T0 3 (if ch 0 = 65 then 1 else 0 : Int32)) 4 (if ch 2 = 65 then 1 else 0 : Int32) := ⟨_, rfl⟩
    have g01 : jg [3, 4] [] [] T0 T1 := by rw [hT1e]; exact jg_trans (jg_f (by decide)) (jg_f (by decide))
    obtain ⟨Tb, b1, b2, b5, b6, b7, bz⟩ := jr_17 T1
    have tTb : jr_T Tb ch U := jr_T_g (jr_T_g tT0 (g01.1 1 (by decide)) (g01.2.1 1 (by decide))) (b2.1 1 (by decide)) (b2.2.1 1 (by decide))
    obtain ⟨⟨o, S3⟩, r1, f3, r3⟩ := f_R_readSentence_ok (Tb := Tb) hc sS0 tT0 tTb b5 b6 b7 bz
    dsimp only at f3 r3
    rw [r1, Option.bind_some]
    dsimp only
    rcases r3 with ⟨rfl, k, k80, k9, kill⟩ | ⟨rfl, kill, a5, a6, sl, a, a80, s4, s3, sA, ok, dp, l80, rc, ref⟩
    · -- ill-formed
      rw [if_pos rfl, Option.bind_some, kill, Option.bind_some, if_neg (nI_pos (by omega))]
      dsimp only
      rw [k9]
      obtain ⟨r, S', T', y1, y2⟩ := refuse (-1) (jx_f S3 0 (nI k)) (nI k) (Or.inl rfl) (by rw [js_f1, if_pos rfl])
      exact ⟨r, S', T' T0, y1, (y2 T0 t00).1, (y2 T0 t00).2⟩
    · rw [if_neg (by decide), kill, Option.bind_some, if_pos (by decide), f_M_relations_eq hc tT0, rc, Option.bind_some]
      have s0 : S3.1 0 = -1 := (f3.1 0 (by decide)).trans s00
      by_cases a8 : a ≤ 8
      · have at0 : f_M_at T0 0 = some (ch 0) := f_M_at_eq (k := 0) hc tT0 (by omega)
        rw [if_pos (show nI a ≤ 8 from nI_le (b := 8) a8 (by omega)), at0, Option.bind_some]
        have tT0' : jr_T (jx_f T0 3 (if ch 0 = 65 then 1 else 0 : Int32)) ch U := ⟨by rw [js_f1, if_neg (by decide)]; exact tT0.1, tT0.2⟩
        have at2 : f_M_at (jx_f T0 3 (if ch 0 = 65 then 1 else 0 : Int32)) 2 = some (ch 2) := f_M_at_eq (k := 2) hc tT0' (by omega)
        rw [at2, Option.bind_some, ← hT1e]
        obtain ⟨T2, x1, x2, x3, x4⟩ := ref a8
        have rf : f_M_readFormula T1 = some T2 := by
          unfold f_M_readFormula
          rw [b1, Option.bind_some]
          exact (jm_bs _ (fun z : jx_S × Int32 => f_M_giveAll z.1 1)).trans x1
        rw [rf, Option.bind_some]
        have g12 : jg [5, 6, 7] [2, 3, 4, 9] [] T1 T2 := jg_trans (jg_wk b2 (by decide) (by decide) (by decide)) x4
        have T2_0 : T2.1 0 = 0 := by rw [g12.1 0 (by decide), g01.1 0 (by decide), t00]
        rcases f_S_fits_ok s4 a8 with ⟨z1, z2⟩ | ⟨z1, z2⟩
        · -- the sentence fits
          rw [z1, Option.bind_some, Option.bind_some]
          dsimp only
          have in32 : ∀ j, j < 32 → jr_in5 (T2.2.1 2 j) := fun j hj => by
            by_cases e : j < 4 * a
            · rw [← x3.2.1 j e]; exact z2 j e
            · rw [x3.2.2.1 j (by omega) hj]; exact ⟨by decide, by decide⟩
          rcases jr_105 (T := T2) (x := -1) with ⟨w1, -⟩ | ⟨-, w2⟩
          · rw [w1, Option.bind_some]
            show ∃ r S' T', _ ∧ ((f_M_findCriticals (jx_f T2 2 (-1))).bind _) = _ ∧ _
            obtain ⟨c, rl, cd, d1, d2, d3, d4, d5, d6, d7, d8⟩ := jw_data a8 s4 s3 sA ok dp l80 x2 x3 z2
            unfold f_R_clear
            rw [if_neg (show ¬ (1 : Int32) = 0 by decide), Option.bind_some, if_pos (show (0 : Int32) ≤ 0 by decide)]
            obtain ⟨S4, hS4⟩ : ∃ S4, S4 = jx_f (jx_f (jx_f (jx_f S3 7 0) 8 0) 1 0) 2 (-1) := ⟨_, rfl⟩
            rw [← hS4]
            have f4 : jf [1, 2, 7, 8] [] S3 S4 := by rw [hS4]; exact jf_trans (jf_trans (jf_trans (jf_f (by decide)) (jf_f (by decide))) (jf_f (by decide))) (jf_f (by decide))
            obtain ⟨T3, hT3⟩ : ∃ T3, T3 = jx_f T2 2 (-1) := ⟨_, rfl⟩
            rw [← hT3]
            have g3 : jg [2] [] [] T2 T3 := by rw [hT3]; exact jg_f (by decide)
            obtain ⟨S5, T5, A, B, C, w, n, y1, y2, y3, y4, y5, y6⟩ := jm_cut (S := S4) (T := T3) (m := a) (c := c) a8 (jm_nb_f d3 (f4.2.1 0 (by decide))) (jm_nb_f d4 (g3.2.1 2 (by decide))) ((f4.1 4 (by decide)).trans s4) ((g3.1 5 (by decide)).trans x3.1)
            rw [y1, y2, Option.bind_some, Option.bind_some]
            unfold f_Q_countColumns
            rw [Option.bind_some, y3.1, y3.2.1, show (2 * nI n + 1 : Int32) = nI (2 * n + 1) by rw [show (2 : Int32) = nI 2 from rfl, nI_mul, nI_1]]
            obtain ⟨S6, hS6⟩ : ∃ S6, S6 = jx_f S5 1 (nI (2 * n + 1)) := ⟨_, rfl⟩
            obtain ⟨T6, hT6⟩ : ∃ T6, T6 = jx_f T5 11 (nI (2 * n + 1)) := ⟨_, rfl⟩
            have f6 : jf [1] [] S5 S6 := by rw [hS6]; exact jf_f (by decide)
            have g6 : jg [11] [] [] T5 T6 := by rw [hT6]; exact jg_f (by decide)
            have v : jd_V a rl cd sl.length n := ⟨a8, y4, d1, d2⟩
            have F : jf [1, 2, 7, 8, 13, 14, 15, 16] [6, 7, 8] S3 S6 := jf_trans (jf_wk f4 (by decide) (by decide)) (jf_trans (jf_wk y5 (by decide) (by decide)) (jf_wk f6 (by decide) (by decide)))
            have G : jg [2, 8, 11] [6] [0, 1, 2] T2 T6 := jg_trans (jg_wk g3 (by decide) (by decide) (by decide)) (jg_trans (jg_wk y6 (by decide) (by decide) (by decide)) (jg_wk g6 (by decide) (by decide) (by decide)))
            have bx : ∀ x : Int32, (if x = 65 then 1 else 0 : Int32) = jt_b (decide (x = 65)) := fun x => by
              unfold jt_b
              by_cases e : x = 65 <;> simp [e]
            have e9 : T6.1 9 = -1 := by
              rw [G.1 9 (by decide), g12.1 9 (by decide), g01.1 9 (by decide), hT0, js_f1, if_pos rfl]
            have dS : jd_S S6 a c rl cd sl.length (decide (ch 0 = 65)) (decide (ch 2 = 65)) (jd_t A B C) (jd_r A B C w) (jd_b A B) n := by
              refine ⟨(F.1 4 (by decide)).trans s4, jm_nb_f d3 (F.2.1 0 (by decide)), ?_, (F.1 3 (by decide)).trans s3, ?_, ?_, ?_, ?_, ?_⟩
              · rw [F.2.1 1 (by decide)]; exact d5
              · rw [F.2.1 2 (by decide)]; exact d7
              · rw [F.1 5 (by decide), a5, bx]
              · rw [F.1 6 (by decide), a6, bx]
              · exact jm_Cr_f y3.2.2.2.1 (f6.2.1 6 (by decide)) (f6.2.1 7 (by decide)) (f6.2.1 8 (by decide))
              · rw [hS6, js_f1, if_pos rfl]
            have dT : jd_T T6 a c rl cd sl.length (decide (ch 0 = 65)) (decide (ch 2 = 65)) A B C w n := by
              refine ⟨(G.1 5 (by decide)).trans x3.1, jm_nb_f d4 (G.2.1 2 (by decide)), ?_, (G.1 6 (by decide)).trans x2.2.2.1, ?_, ?_, ?_, ?_, ?_⟩
              · rw [G.2.1 9 (by decide)]; exact d6
              · rw [G.2.1 3 (by decide)]; exact d8
              · rw [G.1 3 (by decide), g12.1 3 (by decide), hT1e, js_f1, if_neg (by decide), js_f1, if_pos rfl, bx]
              · rw [G.1 4 (by decide), g12.1 4 (by decide), hT1e, js_f1, if_pos rfl, bx]
              · exact jm_Rt_g y3.2.2.1 (g6.2.1 6 (by decide)) (jg_l2 g6)
              · rw [hT6, js_f1, if_pos rfl]
            rw [← hS6, ← hT6]
            have s62 : S6.1 2 = -1 := by
              rw [f6.1 2 (by decide), y5.1 2 (by decide), hS4, js_f1, if_pos rfl]
            obtain ⟨S7, k1, k2, k3⟩ := jd_loopS v dS s62 0
            obtain ⟨⟨T7, u1, u2⟩, l1, l2, l3, l4, l5⟩ := jd_loopT v dT (Or.inl e9) (-1)
            dsimp only at l2 l3 l4 l5
            subst l4
            subst l5
            rw [k1, l1, Option.bind_some, Option.bind_some]
            have dS7 := jd_S_f dS (jf_wk k2 (by decide) (by decide))
            have dT7 := jd_T_g dT (jg_wk l2 (by decide) (by decide) (by decide))
            refine ⟨_, S7, T7, rfl, ?_, ?_⟩
            · dsimp only
              rw [dT7.2.2.2.2.2.1, dS7.2.2.2.2.2.1, jz_ans (by omega) k3]
            · refine ⟨jy_W0 ?_ ?_ ?_, ?_, Or.inr ⟨a, c, rl, cd, sl.length, _, _, A, B, C, w, n, v, dS7, dT7, l3, k3⟩⟩
              · rw [k2.1 7 (by decide), f6.1 7 (by decide), y5.1 7 (by decide), hS4, js_f1, if_neg (by decide), js_f1, if_neg (by decide), js_f1, if_neg (by decide), js_f1, if_pos rfl]
              · rw [k2.1 8 (by decide), f6.1 8 (by decide), y5.1 8 (by decide), hS4, js_f1, if_neg (by decide), js_f1, if_neg (by decide), js_f1, if_pos rfl]
              · rw [l2.1 0 (by decide), G.1 0 (by decide)]; exact T2_0
              · rw [k2.1 0 (by decide), F.1 0 (by decide), s0, l2.1 2 (by decide), g6.1 2 (by decide), y6.1 2 (by decide), hT3, js_f1, if_pos rfl]
          · exact absurd in32 w2
        · -- a number is too large
          rw [z1, Option.bind_some, Option.bind_some]
          dsimp only
          rcases jr_105 (T := T2) (x := -1) with ⟨-, w2⟩ | ⟨w1, -⟩
          · refine absurd (fun j hj => ?_) z2
            rw [x3.2.1 j hj]
            exact w2 j (by omega)
          · rw [w1, Option.bind_some, if_pos (show (0 : Int32) = 0 from rfl)]
            obtain ⟨r, S', T', y1, y2⟩ := refuse (-2) S3 (-1) (Or.inr rfl) s0
            refine ⟨r, S', T' T2, y1, ?_, (y2 T2 T2_0).2⟩
            exact (y2 T2 T2_0).1
      · -- too many atoms
        rw [if_neg (show ¬ nI a ≤ 8 from nI_ge (a := 8) (by omega) (by omega)), f_S_fits_no s4 (by omega) a80, Option.bind_some, Option.bind_some]
        dsimp only
        rw [if_pos (show (0 : Int32) = 0 from rfl)]
        obtain ⟨r, S', T', y1, y2⟩ := refuse (-2) S3 (-1) (Or.inr rfl) s0
        exact ⟨r, S', T' T0, y1, (y2 T0 t00).1, (y2 T0 t00).2⟩
  · -- too many parentheses
    rw [if_neg (show ¬ nI (jr_ct ch 40 U) ≤ 8 from nI_ge (a := 8) (by omega) (by omega)), if_neg (show ¬ nI (jr_ct ch 40 U) ≤ 8 from nI_ge (a := 8) (by omega) (by omega)), Option.bind_some]
    dsimp only
    obtain ⟨r, S', T', y1, y2⟩ := refuse (-2) S0 (-1) (Or.inr rfl) s00
    exact ⟨r, S', T' T0, y1, (y2 T0 t00).1, (y2 T0 t00).2⟩
theorem jz_write {S T : jx_S} (hR : jz_Rel S T) (x : Int32) : ∃ r S' T', f_P_write S x = some (r, S') ∧ f_M_write T x = some (r, T') ∧ jz_Rel S' T' := by
  obtain ⟨r, S', T', e1, e2, e3, f, g⟩ := jy_write hR.1 x
  refine ⟨r, S', T', e1, e2, e3, by rw [f.1 0 (by decide), g.1 2 (by decide)]; exact hR.2.1, ?_⟩
  rcases hR.2.2 with h | ⟨m, c, rl, cd, L, ax, ay, A, B, C, w, n, h1, h2, h3, h4, h5⟩
  · exact Or.inl ⟨(f.1 4 (by decide)).trans h.1, (g.1 5 (by decide)).trans h.2.1, (f.1 1 (by decide)).trans h.2.2.1, (g.1 11 (by decide)).trans h.2.2.2.1, (f.1 2 (by decide)).trans h.2.2.2.2⟩
  · refine Or.inr ⟨m, c, rl, cd, L, ax, ay, A, B, C, w, n, h1, jd_S_f h2 (jf_wk f (by decide) (by decide)), jd_T_g h3 (jg_wk g (by decide) (by decide) (by decide)), jd_K_g h4 (jg_wk g (by decide) (by decide) (by decide)), ?_⟩
    unfold jd_WS
    rw [f.1 2 (by decide)]
    exact h5
theorem jz_good : jz_Good jz_Rel := by
  refine ⟨⟨jy_W0 rfl rfl rfl, rfl, Or.inl ⟨rfl, rfl, rfl, rfl, rfl⟩⟩, fun S T hR => ⟨fun x => jz_write hR _, jz_decide hR, ⟨S.1 0, rfl, ?_⟩, ?_, fun a b => jz_coef hR a b, ?_, fun a => jz_cells hR a, fun a b c => jz_sign hR a b c, fun a b => jz_truth hR a b, fun a => jz_holds hR a, jz_witness hR, fun a b c => jz_compare hR a b c⟩⟩
  · unfold f_M_place
    rw [hR.2.1]
  · refine ⟨S.1 4, rfl, ?_⟩
    unfold f_M_polynomials
    rcases hR.2.2 with h | ⟨m, c, rl, cd, L, ax, ay, A, B, C, w, n, h⟩
    · rw [h.1, h.2.1]
    · rw [h.2.1.1, h.2.2.1.1]
  · refine ⟨S.1 1, rfl, ?_⟩
    unfold f_M_columns
    rcases hR.2.2 with h | ⟨m, c, rl, cd, L, ax, ay, A, B, C, w, n, h⟩
    · rw [h.2.2.1, h.2.2.2.1]
    · rw [h.2.1.2.2.2.2.2.2.2.2, h.2.2.1.2.2.2.2.2.2.2.2]
