theorem i_ask (X : zX) (J : zJT) (G : zGT) (h : zIv J G) (v w : Int32) : zCallD X m_TM_ask [.ref 0, .int v, .int w] m_Mod_ask [.ref 40, .int v, .int w] J G := by
  obtain ⟨T, m, sp, n, hH, N, R, nc, mo, mc, jo, h1, h2, h3, h4, h5⟩ := id h
  obtain ⟨a1, a2, a3⟩ := hH.1
  have E : ∀ x : Int32, (decide (0 ≤ x) && decide (x < J 40 1)) = (decide (0 ≤ x) && decide (x < J 2 1)) := fun x => by rw [a3, a2]
  rcases x_ix v a2 (by omega) with ⟨hyt, t, ht, hv⟩ | ⟨hno, hv⟩
  case inr => exact ⟨_, _, 0, 2, 1, _, _, by omega, by omega, c_TM_ask0 X J G v w (Or.inl hno), c_Mod_ask0 X J G v w (Or.inl ((E v).trans hno)), zIv_t h 0⟩
  by_cases hu : w = -1
  · refine ⟨_, _, 1, 2, 1, _, _, by omega, by omega, c_TM_ask1 X J G v w hyt hu, c_Mod_ask1 X _ _ v w ((E v).trans hyt) hu, T, m, sp, n, iH_c hH rfl rfl (fun a h1 h2 => ?_) rfl rfl rfl rfl rfl rfl rfl rfl rfl, N, R, 1, 0, 0, false, iPr_c h1 rfl rfl rfl rfl, iRs_c h2 rfl rfl rfl rfl rfl rfl rfl rfl, iCm_c h3 rfl rfl rfl rfl, ?_, iRg_c h5 rfl rfl rfl rfl⟩
    · rw [zu_n (by omega), rTh_n (by omega), zu_n (by omega), zu_n (by omega)]
    · refine ⟨by omega, ⟨rfl, rfl, rfl, rfl⟩, ⟨rfl, rfl, rfl⟩, fun c hc => ?_, fun c hc hc2 => ?_, fun h9 => absurd h9 (by omega), fun i hi => absurd hi (by omega), fun i hi => absurd hi (by omega), fun h9 => absurd h9 (by decide)⟩
      · have : c = 0 := by omega
        subst this
        exact ⟨t, ht, hv, hv⟩
      · have : c = 1 := by omega
        subst this
        exact hu
  rcases x_ix w a2 (by omega) with ⟨hyu, u, hut, hw⟩ | ⟨hno, hw⟩
  case inr => exact ⟨_, _, 0, 2, 1, _, _, by omega, by omega, c_TM_ask0 X J G v w (Or.inr ⟨hu, hno⟩), c_Mod_ask0 X J G v w (Or.inr ⟨hu, (E w).trans hno⟩), zIv_t h 0⟩
  refine ⟨_, _, 1, 2, 1, _, _, by omega, by omega, c_TM_ask2 X J G v w hyt hu hyu, c_Mod_ask2 X _ _ v w ((E v).trans hyt) hu ((E w).trans hyu), T, m, sp, n, iH_c hH rfl rfl (fun a h1 h2 => ?_) rfl rfl rfl rfl rfl rfl rfl rfl rfl, N, R, 2, 0, 0, false, iPr_c h1 rfl rfl rfl rfl, iRs_c h2 rfl rfl rfl rfl rfl rfl rfl rfl, iCm_c h3 rfl rfl rfl rfl, ?_, iRg_c h5 rfl rfl rfl rfl⟩
  · rw [zu_n (by omega), rTh_n (by omega), zu_n (by omega), zu_n (by omega)]
  · refine ⟨by omega, ⟨rfl, rfl, rfl, rfl⟩, ⟨rfl, rfl, rfl⟩, fun c hc => ?_, fun c hc hc2 => absurd hc2 (by omega), fun h9 => absurd h9 (by omega), fun i hi => absurd hi (by omega), fun i hi => absurd hi (by omega), fun h9 => absurd h9 (by decide)⟩
    have : c = 0 ∨ c = 1 := by omega
    rcases this with h9 | h9 <;> subst h9
    · exact ⟨t, ht, hv, hv⟩
    · exact ⟨u, hut, hw, hw⟩
theorem i_can (X : zX) {J Jr : zJT} {G Gr : zGT} {T m sp nc mo mc : Nat} {n : Nat → Nat} {jo : Bool} (hH : iH J G Jr Gr T m sp n) (hQ : iQu J Jr T nc mo mc jo) (c k : Int32) :
    ∃ b : Bool, zK X 3 m_TM_canAskFor [.ref 0, .int c, .int k] J G (some (.int (zb b))) J G ∧
    (∀ Jq Gq, Jq 40 23 = Jr 40 23 → Jq 40 24 = Jr 40 24 → Jq 41 = Jr 41 → zK X 1 m_Mod_isColumn [.ref 40, .int c, .int k] Jq Gq (some (.int (zb b))) Jq Gq) ∧
    (b = true → (∃ a, a < nc ∧ c = nI a) ∧ iCk k) := by
  obtain ⟨⟨q1, _⟩, ⟨q2, _⟩, _, q3, q4, _⟩ := hQ
  have e1 : (-1 : Int32).toInt = -1 := by decide
  have e0 : (0 : Int32).toInt = 0 := by decide
  rcases x_ix c q2 (by omega) with ⟨hy, a, ha, hv⟩ | ⟨hno, hv⟩
  · subst hv
    obtain ⟨t, ht, hJ, hJr⟩ := q3 a ha
    have ht3 : t < 3 := by have := hH.1.1; omega
    obtain ⟨cl, c4, c1, cc, cr, _⟩ := iH_C hH ht3
    have hc1 := c1 ht
    have hyt : (decide (0 ≤ nI t) && decide (nI t < J 2 1)) = true := by
      rw [hH.1.2.1, Bool.and_eq_true, decide_eq_true_iff, decide_eq_true_iff]
      exact ⟨nI_pos' (by omega), nI_lt ht (by have := hH.1.1; omega)⟩
    have hrt : ∀ Jq : zJT, Jq 40 23 = Jr 40 23 → Jq 40 24 = Jr 40 24 → rTab Jq (nI a) = nI t := by
      intro Jq e2 e3
      have : a = 0 ∨ a = 1 := by omega
      rcases this with h9 | h9 <;> subst h9
      · rw [rTab, if_pos (by decide), e2]; exact hJr
      · rw [rTab, if_neg (by decide), if_pos (by decide), e3]; exact hJr
    by_cases hk : k = -1
    · subst hk
      refine ⟨true, c_TM_canK X J G _ hy, fun Jq Gq e2 e3 e4 => ?_, fun _ => ⟨⟨a, ha, rfl⟩, Or.inl rfl⟩⟩
      have hM := c_Mod_isColumn X Jq Gq (nI a) (-1) ht3 (hrt Jq e2 e3)
      rw [e4, cr] at hM
      have : (decide ((-1 : Int32) ≤ -1) && decide ((-1 : Int32) < nI cl)) = true := by
        rw [Bool.and_eq_true, decide_eq_true_iff, decide_eq_true_iff, i32_lt, nI_toInt (by omega)]
        exact ⟨by decide, by omega⟩
      rw [this] at hM
      exact hM
    · refine ⟨_, c_TM_can X J G (by omega) k hk hy ht3 hJ hyt, fun Jq Gq e2 e3 e4 => ?_, fun hb => ⟨⟨a, ha, rfl⟩, Or.inr ?_⟩⟩
      · have hM := c_Mod_isColumn X Jq Gq (nI a) k ht3 (hrt Jq e2 e3)
        rw [e4, cr] at hM
        have : (decide (-1 ≤ k) && decide (k < nI cl)) = (decide (0 ≤ k) && decide (k < J (9 + 2 * t) 0)) := by
          rw [cc]
          congr 1
          rw [decide_eq_decide, i32_le, i32_le]
          have : k.toInt ≠ -1 := fun h9 => hk (Int32.toInt_inj.mp (by rw [h9, e1]))
          omega
        rw [this] at hM
        exact hM
      · rw [cc] at hb
        rcases x_ix k (b := nI cl) rfl (by omega) with ⟨_, j, hj, hkj⟩ | ⟨h9, _⟩
        · exact ⟨j, by omega, hkj⟩
        · rw [hb] at h9; cases h9
  · refine ⟨false, c_TM_can0 X J G c k hno, fun Jq Gq e2 e3 e4 => c_Mod_isColumn0 X Jq Gq c k ?_, fun h9 => by cases h9⟩
    rw [rTab]
    by_cases h0 : c = 0
    · rw [if_pos h0, e2, q4 0 (by rw [h0, e0] at hv; omega) (by omega)]; exact m1_lt0
    · rw [if_neg h0]
      by_cases h1 : c = 1
      · rw [if_pos h1, e3, q4 1 (by rw [h1, show (1 : Int32).toInt = 1 by decide] at hv; omega) (by omega)]; exact m1_lt0
      · rw [if_neg h1]; exact m1_lt0
theorem nI4 {k : Nat} (h : k ≤ 4) (e : nI k = 4) : k = 4 := nI_inj (by omega) (by omega) (e.trans (by decide : (4 : Int32) = nI 4))
theorem up_e {f : Nat → Int32} {i : Nat} {x : Int32} : upd f i x i = x := by simp [upd]
theorem up_n {f : Nat → Int32} {i j : Nat} {x : Int32} (h : j ≠ i) : upd f i x j = f j := by simp [upd, h]
theorem i_output (X : zX) (J : zJT) (G : zGT) (h : zIv J G) (c k : Int32) : zCallD X m_TM_output [.ref 0, .int c, .int k] m_Mod_output [.ref 40, .int c, .int k] J G := by
  obtain ⟨T, m, sp, n, hH, N, R, nc, mo, mc, jo, h1, h2, h3, h4, h5⟩ := id h
  obtain ⟨⟨q1, q2, q3⟩, ⟨q4, q5, q6, q7⟩, ⟨q8, q9, q10⟩, q11, q12, q13, q14, q15, q16⟩ := id h4
  by_cases hf : mo = 4
  · subst hf
    exact ⟨_, _, 0, 4, 2, _, _, by omega, by omega, c_TM_outputF X J G c k q5, c_Mod_outputF X J G c k q8, zIv_t h 0⟩
  have hf1 : ¬ J 32 1 = 4 := by rw [q5]; exact fun h9 => hf (nI4 q2 h9)
  have hf2 : ¬ J 40 25 = 4 := by rw [q8]; exact fun h9 => hf (nI4 q2 h9)
  obtain ⟨b, hb1, hb2, hb3⟩ := i_can X hH h4 c k
  cases b
  · exact ⟨_, _, 0, 4, 2, _, _, by omega, by omega, c_TM_output0 X J G c k hf1 hb1, c_Mod_output0 X J G c k hf2 (hb2 _ _ rfl rfl rfl), zIv_t h 0⟩
  · obtain ⟨⟨a, ha, hc⟩, hk⟩ := hb3 rfl
    refine ⟨_, _, 1, 4, 2, _, _, by omega, by omega, c_TM_output1 X J G c k q5 (by omega) hb1, c_Mod_output1 X _ _ c k (n := mo) ?_ (by omega) (hb2 _ _ ?_ ?_ ?_), T, m, sp, n, iH_c hH rfl rfl (fun a h1 h2 => ?_) rfl rfl rfl rfl rfl rfl rfl rfl rfl, N, R, nc, mo + 1, mc, jo, iPr_c h1 rfl rfl rfl rfl, iRs_c h2 rfl rfl rfl rfl rfl rfl rfl rfl, iCm_c h3 rfl rfl rfl rfl, ?_, iRg_c h5 rfl rfl rfl rfl⟩
    · exact q8
    · rfl
    · rfl
    · rfl
    · rw [zu_n (by omega), zu_n (by omega), rTh_n (by omega), zu_n (by omega), zu_n (by omega), zu_n (by omega)]
    · refine ⟨⟨by omega, by omega, by omega⟩, ⟨q4, (nI_succ mo).symm, q6, q7⟩, ⟨(nI_succ mo).symm, q9, q10⟩, fun x hx => ?_, fun x hx hx2 => ?_, fun h9 => by omega, fun i hi => ?_, q15, q16⟩
      · obtain ⟨t, g1, g2, g3⟩ := q11 x hx
        refine ⟨t, g1, g2, ?_⟩
        rw [zu_e, zu_n (by omega), rTh_i (by omega), zu_n (by omega), zu_n (by omega), zu_n (by omega), g3]
      · rw [zu_e, zu_n (by omega), rTh_i (by omega), zu_n (by omega), zu_n (by omega), zu_n (by omega), q12 x hx hx2]
      · show upd (J 34) mo c i = upd (upd (J 57) (2 * mo) c) (2 * mo + 1) k (2 * i) ∧ upd (J 35) mo k i = upd (upd (J 57) (2 * mo) c) (2 * mo + 1) k (2 * i + 1) ∧ (∃ x, x < nc ∧ upd (J 34) mo c i = nI x) ∧ iCk (upd (J 35) mo k i)
        by_cases e : i = mo
        · subst e
          rw [up_e, up_e, up_n (by omega), up_e, up_e]
          exact ⟨rfl, rfl, ⟨a, ha, hc⟩, hk⟩
        · rw [up_n e, up_n e, up_n (by omega), up_n (by omega), up_n (by omega), up_n (by omega)]
          exact q14 i (by omega)
theorem i_condition (X : zX) (J : zJT) (G : zGT) (h : zIv J G) (c k o v : Int32) : zCallD X m_TM_condition [.ref 0, .int c, .int k, .int o, .int v] m_Mod_condition [.ref 40, .int c, .int k, .int o, .int v] J G := by
  obtain ⟨T, m, sp, n, hH, N, R, nc, mo, mc, jo, h1, h2, h3, h4, h5⟩ := id h
  obtain ⟨⟨q1, q2, q3⟩, ⟨q4, q5, q6, q7⟩, ⟨q8, q9, q10⟩, q11, q12, q13, q14, q15, q16⟩ := id h4
  by_cases hf : mc = 4
  · subst hf
    exact ⟨_, _, 0, 4, 2, _, _, by omega, by omega, c_TM_condF X J G c k o v q6, c_Mod_condF X J G c k o v q9, zIv_t h 0⟩
  have hf1 : ¬ J 32 2 = 4 := by rw [q6]; exact fun h9 => hf (nI4 q3 h9)
  have hf2 : ¬ J 40 27 = 4 := by rw [q9]; exact fun h9 => hf (nI4 q3 h9)
  have e0 : (0 : Int32).toInt = 0 := by decide
  have e7 : (7 : Int32).toInt = 7 := by decide
  obtain ⟨b, hb1, hb2, hb3⟩ := i_can X hH h4 c k
  cases b
  · exact ⟨_, _, 0, 4, 2, _, _, by omega, by omega, c_TM_cond0 X J G c k o v hf1 hb1, c_Mod_cond0 X J G c k o v hf2 (hb2 _ _ rfl rfl rfl), zIv_t h 0⟩
  rcases x_ix o (b := 8) (k := 8) rfl (by omega) with ⟨hy, j, hj, ho⟩ | ⟨hno, ho⟩
  case inr => exact ⟨_, _, 0, 4, 2, _, _, by omega, by omega, c_TM_condO X J G c k o v hf1 hb1 hno, c_Mod_condO X J G c k o v hf2 (hb2 _ _ rfl rfl rfl) (by rw [i32_lt, i32_le]; omega), zIv_t h 0⟩
  have o0 : ¬ o < 0 := by rw [ho]; exact nI_pos (by omega)
  have o7 : o ≤ 7 := by rw [ho, i32_le, nI_toInt (by omega)]; omega
  obtain ⟨⟨a, ha, hc⟩, hk⟩ := hb3 rfl
  refine ⟨_, _, 1, 4, 2, _, _, by omega, by omega, c_TM_cond1 X J G c k o v q6 (by omega) hb1 hy, c_Mod_cond1 X _ _ c k o v (n := mc) ?_ (by omega) (hb2 _ _ ?_ ?_ ?_) o0 o7, T, m, sp, n, iH_c hH rfl rfl (fun a h1 h2 => ?_) rfl rfl rfl rfl rfl rfl rfl rfl rfl, N, R, nc, mo, mc + 1, jo, iPr_c h1 rfl rfl rfl rfl, iRs_c h2 rfl rfl rfl rfl rfl rfl rfl rfl, iCm_c h3 rfl rfl rfl rfl, ?_, iRg_c h5 rfl rfl rfl rfl⟩
  · exact q9
  · rfl
  · rfl
  · rfl
  · rw [zu_n (by omega), zu_n (by omega), rTh_n (by omega), zu_n (by omega), zu_n (by omega), zu_n (by omega), zu_n (by omega), zu_n (by omega)]
  · refine ⟨⟨by omega, by omega, by omega⟩, ⟨q4, q5, (nI_succ mc).symm, q7⟩, ⟨q8, (nI_succ mc).symm, q10⟩, fun x hx => ?_, fun x hx hx2 => ?_, q13, q14, fun i hi => ?_, q16⟩
    · obtain ⟨t, g1, g2, g3⟩ := q11 x hx
      refine ⟨t, g1, g2, ?_⟩
      rw [zu_e, zu_n (by omega), rTh_i (by omega), zu_n (by omega), zu_n (by omega), zu_n (by omega), zu_n (by omega), zu_n (by omega), g3]
    · rw [zu_e, zu_n (by omega), rTh_i (by omega), zu_n (by omega), zu_n (by omega), zu_n (by omega), zu_n (by omega), zu_n (by omega), q12 x hx hx2]
    · show (upd (J 36) mc c i = upd (upd (upd (upd (J 58) (4 * mc) c) (4 * mc + 1) k) (4 * mc + 2) o) (4 * mc + 3) v (4 * i) ∧ upd (J 37) mc k i = upd (upd (upd (upd (J 58) (4 * mc) c) (4 * mc + 1) k) (4 * mc + 2) o) (4 * mc + 3) v (4 * i + 1) ∧ upd (J 38) mc o i = upd (upd (upd (upd (J 58) (4 * mc) c) (4 * mc + 1) k) (4 * mc + 2) o) (4 * mc + 3) v (4 * i + 2) ∧ upd (J 39) mc v i = upd (upd (upd (upd (J 58) (4 * mc) c) (4 * mc + 1) k) (4 * mc + 2) o) (4 * mc + 3) v (4 * i + 3)) ∧ (∃ x, x < nc ∧ upd (J 36) mc c i = nI x) ∧ iCk (upd (J 37) mc k i) ∧ ∃ x, x < 8 ∧ upd (J 38) mc o i = nI x
      by_cases e : i = mc
      · subst e
        simp only [upd, if_true]
        refine ⟨⟨?_, ?_, ?_, trivial⟩, ⟨a, ha, hc⟩, hk, j, hj, ho⟩
        · rw [if_neg (by omega), if_neg (by omega), if_neg (by omega)]
        · rw [if_neg (by omega), if_neg (by omega)]
        · rw [if_neg (by omega)]
      · have Z : ∀ w, w < 4 → upd (upd (upd (upd (J 58) (4 * mc) c) (4 * mc + 1) k) (4 * mc + 2) o) (4 * mc + 3) v (4 * i + w) = J 58 (4 * i + w) := fun w hw => by
          rw [up_n (by omega), up_n (by omega), up_n (by omega), up_n (by omega)]
        rw [up_n e, up_n e, up_n e, up_n e, Z 1 (by omega), Z 2 (by omega), Z 3 (by omega), show upd (upd (upd (upd (J 58) (4 * mc) c) (4 * mc + 1) k) (4 * mc + 2) o) (4 * mc + 3) v (4 * i) = J 58 (4 * i) from Z 0 (by omega)]
        exact q15 i (by omega)
theorem i_join (X : zX) (J : zJT) (G : zGT) (h : zIv J G) (k l : Int32) : zCallD X m_TM_join [.ref 0, .int k, .int l] m_Mod_join [.ref 40, .int k, .int l] J G := by
  obtain ⟨T, m, sp, n, hH, N, R, nc, mo, mc, jo, h1, h2, h3, h4, h5⟩ := id h
  obtain ⟨⟨q1, q2, q3⟩, ⟨q4, q5, q6, q7⟩, ⟨q8, q9, q10⟩, q11, q12, q13, q14, q15, q16⟩ := id h4
  obtain ⟨b, hb1, hb2, hb3⟩ := i_can X hH h4 0 k
  obtain ⟨d, hd1, hd2, hd3⟩ := i_can X hH h4 1 l
  by_cases hn : nc = 2
  case neg =>
    have hs : J 40 24 < 0 := by rw [show J 40 24 = -1 from q12 1 (by omega) (by omega)]; exact m1_lt0
    have hd : d = false := by
      cases d
      · rfl
      · obtain ⟨⟨a, ha, e⟩, _⟩ := hd3 rfl
        have := nI_inj (by omega) (by omega) (show nI 1 = nI a from e)
        omega
    subst hd
    cases b
    · exact ⟨_, _, 0, 4, 2, _, _, by omega, by omega, c_TM_join0 X J G k l hb1, c_Mod_join0 X J G k l hs, zIv_t h 0⟩
    · exact ⟨_, _, 0, 4, 2, _, _, by omega, by omega, c_TM_join2 X J G k l hb1 hd1, c_Mod_join0 X J G k l hs, zIv_t h 0⟩
  subst hn
  have hs : ¬ J 40 24 < 0 := by
    obtain ⟨t, ht, _, e⟩ := q11 1 (by omega)
    rw [show J 40 24 = nI t from e]; exact nI_pos (by have := hH.1.1; omega)
  cases b
  · exact ⟨_, _, 0, 4, 2, _, _, by omega, by omega, c_TM_join0 X J G k l hb1, c_Mod_joinA X J G k l hs (hb2 _ _ rfl rfl rfl), zIv_t h 0⟩
  cases d
  · exact ⟨_, _, 0, 4, 2, _, _, by omega, by omega, c_TM_join2 X J G k l hb1 hd1, c_Mod_joinB X J G k l hs (hb2 _ _ rfl rfl rfl) (hd2 _ _ rfl rfl rfl), zIv_t h 0⟩
  refine ⟨_, _, 1, 4, 2, _, _, by omega, by omega, c_TM_join1 X J G k l hb1 hd1, c_Mod_join1 X _ _ k l ?_ (hb2 _ _ ?_ ?_ ?_) (hd2 _ _ ?_ ?_ ?_), T, m, sp, n, iH_c hH rfl rfl (fun a h1 h2 => ?_) rfl rfl rfl rfl rfl rfl rfl rfl rfl, N, R, 2, mo, mc, true, iPr_c h1 rfl rfl rfl rfl, iRs_c h2 rfl rfl rfl rfl rfl rfl rfl rfl, iCm_c h3 rfl rfl rfl rfl, ?_, iRg_c h5 rfl rfl rfl rfl⟩
  · exact hs
  · rfl
  · rfl
  · rfl
  · rfl
  · rfl
  · rfl
  · rw [zu_n (by omega), rTh_n (by omega), zu_n (by omega)]
  · refine ⟨⟨by omega, by omega, by omega⟩, ⟨q4, q5, q6, rfl⟩, ⟨q8, q9, rfl⟩, fun x hx => ?_, fun x hx hx2 => absurd hx2 (by omega), q13, q14, q15, fun _ => ⟨rfl, rfl, rfl, (hb3 rfl).2, (hd3 rfl).2⟩⟩
    obtain ⟨t, g1, g2, g3⟩ := q11 x hx
    refine ⟨t, g1, g2, ?_⟩
    rw [zu_e, zu_n (by omega), zu_n (by omega), zu_n (by omega), rTh_i (by omega), zu_n (by omega), g3]
