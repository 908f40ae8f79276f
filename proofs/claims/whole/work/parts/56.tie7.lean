theorem i_delete (X : zX) (J : zJT) (G : zGT) (h : zIv J G) (v : Int32) (key : Int64) : zCallZ X m_Law_delete h_Law_delete [.ref 0, .int v, .long key, .ref 59] m_Mod_delete [.ref 40, .int v, .long key] J G := by
  obtain ⟨T, m, sp, n, hH, hE⟩ := id h
  obtain ⟨a1, a2, a3⟩ := hH.1
  obtain ⟨a6, a7⟩ := hH.2.2.2.1
  rcases x_ix v a2 (by omega) with ⟨hyes, t, ht, hv⟩ | ⟨hno, hv⟩
  case inr => exact ⟨1, 1, 6, J, G, false, 1, _, _, by omega, by omega, by omega, w_delete_A X J G v key (by omega) (t_TM_delete X J G v key hno), c_Mod_delete1 X J G v key (by rw [a3, ← a2]; exact hno), rTh_0, fun h9 => absurd h9 (by decide), zIv_t h 1⟩
  subst hv
  have ht3 : t < 3 := by omega
  have hy3 : (decide (0 ≤ nI t) && decide (nI t < J 40 1)) = true := by rw [a3, ← a2]; exact hyes
  have hms := iH_n hH ht3
  have hTn := iH_Tn hH ht3
  obtain ⟨r, hr, hb⟩ := iSl_cut hH.2.2.2.2.1 ht3 key false
  rcases x_find (Jr := J) (Gr := G) hH.2.2.2.2.1 hH.2.2.2.2.2.1 a1 ht hr hb with ⟨hno, hof⟩ | ⟨f1, f2, k, f3, f4, f5, f6, f7⟩
  · have hB := c_Sto_drop0 X J G hTn key hr hb hno
    refine ⟨0, 0, 0, _, _, false, 1, _, _, by omega, by omega, by omega, w_delete0 X J G _ key (by omega) (c_TM_delete X J G _ hyes key zb_n0 hB), c_Mod_delete2 X J _ _ key hy3 a7 (by omega) ?_, rTh_0, fun _ => by rw [zu_e]; rfl, zIv_th h 0 _⟩
    rw [rOf_c (J := J) (G := G) rfl (zu_n (by omega)), hof]
    exact m1_lt0
  · obtain ⟨n1, hn1⟩ : ∃ n1, n t = n1 + 1 := ⟨n t - 1, by omega⟩
    obtain ⟨m1, hm1⟩ : ∃ m1, m = m1 + 1 := ⟨m - 1, by omega⟩
    subst hm1
    rw [hn1] at hTn hr hb f1
    have hB := c_Sto_drop1 X J G hTn key hr hb a6 (by omega) f1 f2
    have Z : ∀ a, 15 ≤ a → zdrJ J t r n1 sp a = J a := fun a ha => zdrJ_o (by omega) (by omega) (by omega) (by omega)
    have hz := hH.2.2.2.2.2.2.2
    refine ⟨0, 0, 0, _, _, true, 1, _, _, by omega, by omega, by omega, w_delete1 X J G _ key (by omega) (c_TM_delete X J G _ hyes key zb_n1 hB), c_Mod_delete3 X _ _ _ key (m := m1) (r := k) ?_ ?_ (by omega) (by omega) ?_ (fun i => ?_), ?_, ?_, ?_⟩
    · rw [Z 40 (by omega)]; exact hy3
    · rw [Z 40 (by omega)]; exact a7
    · rw [rOf_c (J := J) (G := G) (Z 42 (by omega)) (zu_n (by omega)), f4]
    · rw [Z 45 (by omega)]; exact iNl_v hz i
    · rw [rTJ_40, zu_n (by omega), rTh_0]
    · intro _; rw [rTG_o (by omega) (by omega), zu_e]; rfl
    · have key2 := iH_drop hH ht hn1 f1 f3 f5 (f6.trans f2.symm) (Jq := rTh (zdrJ J t r n1 sp) 0) (Gq := va_up G 59 (vp_updL (G 59) 0 1)) (by rw [rTh_i (by omega), Z 40 (by omega)]) (by rw [rTh_n (by omega), Z 41 (by omega)]) (by rw [rTh_n (by omega), Z 42 (by omega)]) (by rw [rTh_n (by omega), Z 45 (by omega)]) (zu_n (by omega)) (zu_n (by omega))
      refine ⟨T, m1, sp + 1, _, iH_c key2 ?_ ?_ (fun a h1 h2 => ?_) ?_ ?_ rfl rfl rfl rfl rfl rfl rfl, iE_c hE (Nat.le_refl _) (fun a h1 h2 => ?_) (fun a h1 h2 => ?_) (fun i h1 h2 => ?_) (fun a h1 h2 => ?_) (fun a h1 h2 => ?_)⟩
      · rw [rTJ_o (by omega) (by omega) (by omega), rTh_n (by omega)]
      · rw [rTJ_o (by omega) (by omega) (by omega), rTh_n (by omega)]
      · rw [rTJ_o (by omega) (by omega) (by omega), rTh_n (by omega)]
      · rw [rTG_o (by omega) (by omega), zu_n (by omega)]
      · rw [rTG_o (by omega) (by omega), zu_n (by omega)]
      · rw [rTJ_o (by omega) (by omega) (by omega), rTh_n (by omega), Z a (by omega)]
      · rw [rTG_o (by omega) (by omega), zu_n (by omega)]
      · rw [rTJ_40, zu_n (by omega), rTh_i (by omega), Z 40 (by omega)]
      · rw [rTJ_o (by omega) (by omega) (by omega), rTh_n (by omega), Z a (by omega)]
      · rw [rTG_o (by omega) (by omega), zu_n (by omega)]
theorem i_count (X : zX) (J : zJT) (G : zGT) (h : zIv J G) (v : Int32) : zCallD X m_TM_count [.ref 0, .int v] m_Mod_count [.ref 40, .int v] J G := by
  obtain ⟨T, m, sp, n, hH, hE⟩ := id h
  obtain ⟨a1, a2, a3⟩ := hH.1
  obtain ⟨a6, a7⟩ := hH.2.2.2.1
  have hm9 : m ≤ 90 := by have := (iH_n hH (show 0 < 3 by omega)).2.2; omega
  rcases x_ix v a2 (by omega) with ⟨hyes, t, ht, hv⟩ | ⟨hno, hv⟩
  · subst hv
    have hM := c_Mod_count X J G 0 a7 hm9 (nI t)
    rw [a3, ← a2, if_pos hyes, hH.2.2.2.2.2.1.2.1 t (by omega), ← hH.2.2.1 t (by omega)] at hM
    exact ⟨_, _, _, 2, _, _, _, by omega, by omega, c_TM_count X J G (by omega) hyes, hM, zIv_t h 0⟩
  · have hM := c_Mod_count X J G 0 a7 hm9 v
    rw [a3, ← a2, if_neg (by rw [hno]; decide)] at hM
    exact ⟨_, _, _, 2, _, _, _, by omega, by omega, c_TM_count0 X J G v hno, hM, zIv_t h 0⟩
theorem i_next (X : zX) (J : zJT) (G : zGT) (h : zIv J G) (v : Int32) (key : Int64) (o : Bool) : zCallL X m_Law_next h_Law_next [.ref 0, .int v, .long key, .int (zb o), .ref 59] m_Mod_next [.ref 40, .int v, .long key, .int (zb o)] J G := by
  obtain ⟨T, m, sp, n, hH, hE⟩ := id h
  obtain ⟨a1, a2, a3⟩ := hH.1
  obtain ⟨a6, a7⟩ := hH.2.2.2.1
  rcases x_ix v a2 (by omega) with ⟨hyes, t, ht, hv⟩ | ⟨hno, hv⟩
  case inr => exact ⟨1, 1, 6, J, G, 0, 1, _, _, by omega, by omega, by omega, w_next_A X J G v key _ (by omega) (t_TM_next1 X J G v key _ hno), c_Mod_next1 X J G v key o (by rw [a3, ← a2]; exact hno), rTh_0, fun h9 => absurd h9 (by decide), zIv_t h 1⟩
  subst hv
  have ht3 : t < 3 := by omega
  have hy3 : (decide (0 ≤ nI t) && decide (nI t < J 40 1)) = true := by rw [a3, ← a2]; exact hyes
  have hms := iH_n hH ht3
  have hTn := iH_Tn hH ht3
  obtain ⟨r, hr, hb⟩ := iSl_cut hH.2.2.2.2.1 ht3 key o
  rcases x_next (Jr := J) (Gr := G) hH.2.2.2.2.1 hH.2.2.2.2.2.1 a1 ht hr hb with ⟨f1, f2⟩ | ⟨f1, i, f2, f3, f4⟩
  · exact ⟨2, 1, 6, J, G, 0, 1, _, _, by omega, by omega, by omega, w_next_E X J G _ key _ (by omega) (t_TM_next2 X J G hTn hyes key o (fun p hp => (hb p hp).2 (by omega))), c_Mod_next2 X J G _ key o hy3 a7 (by omega) f2, rTh_0, fun h9 => absurd h9 (by decide), zIv_t (zIv_t h 0) 2⟩
  · refine ⟨0, 0, 0, _, _, _, 1, _, _, by omega, by omega, by omega, w_next X J G _ key _ (by omega) _ (c_TM_next X J G hTn hyes key o hr hb f1), c_Mod_next3 X J _ _ key o hy3 a7 (by omega) (i := i) ?_, rTh_0, fun _ => ?_, zIv_t (zIv_th h 0 _) 0⟩
    · rw [← f3]; exact rMin_c (fun k => rfl) (zu_n (by omega)) m
    · rw [zu_e, zu_n (by omega), f4]; rfl
theorem i_value (X : zX) (J : zJT) (G : zGT) (h : zIv J G) (v : Int32) (key : Int64) (q : Int32) : zCallL X m_Law_value h_Law_value [.ref 0, .int v, .long key, .int q, .ref 59] m_Mod_value [.ref 40, .int v, .long key, .int q] J G := by
  obtain ⟨T, m, sp, n, hH, hE⟩ := id h
  obtain ⟨a1, a2, a3⟩ := hH.1
  obtain ⟨a6, a7⟩ := hH.2.2.2.1
  rcases x_ix v a2 (by omega) with ⟨hyes, t, ht, hv⟩ | ⟨hno, hv⟩
  case inr => exact ⟨1, 1, 6, J, G, 0, 2, _, _, by omega, by omega, by omega, w_value_A X J G v key _ (by omega) (t_TM_value X J G v q key (t_TM_reqCell1 X J G v q key hno)), c_Mod_value0 X J G v key q (c_Mod_asked1 X J G v key q (by rw [a3, ← a2]; exact hno)), rTh_0, fun h9 => absurd h9 (by decide), zIv_t h 1⟩
  subst hv
  have ht3 : t < 3 := by omega
  have hy3 : (decide (0 ≤ nI t) && decide (nI t < J 40 1)) = true := by rw [a3, ← a2]; exact hyes
  have hms := iH_n hH ht3
  have hTn := iH_Tn hH ht3
  have hm9 : m ≤ 90 := by omega
  obtain ⟨c, c4, c1, cc, cr, cx⟩ := iH_C hH ht3
  have e0 : (0 : Int32).toInt = 0 := by decide
  rcases x_ix q cc (by omega) with ⟨hcol, k, hk, hq⟩ | ⟨hcol, hq⟩
  case inr => exact ⟨1, 1, 6, J, G, 0, 2, _, _, by omega, by omega, by omega, w_value_A X J G _ key _ (by omega) (t_TM_value X J G _ q key (t_TM_reqCell2 X J G ht3 q key hyes hcol)), c_Mod_value0 X J G _ key q (c_Mod_asked2 X J G ht3 key q hy3 a7 hm9 (by rw [cr, i32_lt, i32_lt, nI_toInt (by omega)]; omega)), rTh_0, fun h9 => absurd h9 (by decide), zIv_t (zIv_t h 0) 1⟩
  subst hq
  have hk0 : ¬ nI k < 0 := nI_pos (by omega)
  have hk1 : nI k < J 41 t := by rw [cr]; exact nI_lt hk (by omega)
  obtain ⟨r, hr, hb⟩ := iSl_cut hH.2.2.2.2.1 ht3 key false
  have hS := c_Sto_slotOf X J G hTn key hr hb
  rcases x_find (Jr := J) (Gr := G) hH.2.2.2.2.1 hH.2.2.2.2.2.1 a1 ht hr hb with ⟨hno, hof⟩ | ⟨f1, f2, k0, f3, f4, f5, f6, f7⟩
  · rw [if_neg (show ¬ (r < n t ∧ zky J G t r = key) from hno)] at hS
    exact ⟨2, 1, 6, J, G, 0, 2, _, _, by omega, by omega, by omega, w_value_E X J G _ key _ (by omega) (t_TM_value X J G _ _ key (t_TM_reqCell3 X J G ht3 _ key hyes hcol hS)), c_Mod_value0 X J G _ key _ (c_Mod_asked3 X J G ht3 key _ hy3 a7 hm9 hk0 hk1 (by rw [hof]; exact m1_lt0)), rTh_0, fun h9 => absurd h9 (by decide), zIv_t (zIv_t h 0) 2⟩
  · have hxs := iSl_xs hH.2.2.2.2.1 ht3 f1
    rw [if_pos (show r < n t ∧ zky J G t r = key from ⟨f1, f2⟩), show J (10 + 2 * t) r = nI (xs (xSl J) t r) from hxs.2] at hS
    have hA := c_Mod_asked4 X J (va_up G 59 (vp_updL (G 59) 0 (G 5 (4 * xs (xSl J) t r + k)))) ht3 key (nI k) hy3 a7 hm9 hk0 hk1 (by rw [rOf_c (J := J) (G := G) rfl (zu_n (by omega)), f4]; exact nI_pos (by omega))
    rw [rOf_c (J := J) (G := G) rfl (zu_n (by omega)), f4] at hA
    refine ⟨0, 0, 0, _, _, _, 2, _, _, by omega, by omega, by omega, w_value X J G _ key _ (by omega) _ (c_TM_value X J G ht3 hyes hcol hxs.1 (by omega) key hS), c_Mod_value1 X J _ _ key (by omega) (by omega) hA, rTh_0, fun _ => ?_, zIv_t (zIv_th h 0 _) 0⟩
    rw [zu_e, zu_n (by omega), (f7 k (by omega)).2]; rfl
theorem i_isNull (X : zX) (J : zJT) (G : zGT) (h : zIv J G) (v : Int32) (key : Int64) (q : Int32) : zCallZ X m_Law_isNull h_Law_isNull [.ref 0, .int v, .long key, .int q, .ref 59] m_Mod_isNull [.ref 40, .int v, .long key, .int q] J G := by
  obtain ⟨T, m, sp, n, hH, hE⟩ := id h
  obtain ⟨a1, a2, a3⟩ := hH.1
  obtain ⟨a6, a7⟩ := hH.2.2.2.1
  rcases x_ix v a2 (by omega) with ⟨hyes, t, ht, hv⟩ | ⟨hno, hv⟩
  case inr => exact ⟨1, 1, 6, J, G, false, 2, _, _, by omega, by omega, by omega, w_isNull_A X J G v key _ (by omega) (t_TM_isNull X J G v q key (t_TM_reqCell1 X J G v q key hno)), c_Mod_isNull0 X J G v key q (c_Mod_asked1 X J G v key q (by rw [a3, ← a2]; exact hno)), rTh_0, fun h9 => absurd h9 (by decide), zIv_t h 1⟩
  subst hv
  have ht3 : t < 3 := by omega
  have hy3 : (decide (0 ≤ nI t) && decide (nI t < J 40 1)) = true := by rw [a3, ← a2]; exact hyes
  have hms := iH_n hH ht3
  have hTn := iH_Tn hH ht3
  have hm9 : m ≤ 90 := by omega
  obtain ⟨c, c4, c1, cc, cr, cx⟩ := iH_C hH ht3
  have e0 : (0 : Int32).toInt = 0 := by decide
  rcases x_ix q cc (by omega) with ⟨hcol, k, hk, hq⟩ | ⟨hcol, hq⟩
  case inr => exact ⟨1, 1, 6, J, G, false, 2, _, _, by omega, by omega, by omega, w_isNull_A X J G _ key _ (by omega) (t_TM_isNull X J G _ q key (t_TM_reqCell2 X J G ht3 q key hyes hcol)), c_Mod_isNull0 X J G _ key q (c_Mod_asked2 X J G ht3 key q hy3 a7 hm9 (by rw [cr, i32_lt, i32_lt, nI_toInt (by omega)]; omega)), rTh_0, fun h9 => absurd h9 (by decide), zIv_t (zIv_t h 0) 1⟩
  subst hq
  have hk0 : ¬ nI k < 0 := nI_pos (by omega)
  have hk1 : nI k < J 41 t := by rw [cr]; exact nI_lt hk (by omega)
  obtain ⟨r, hr, hb⟩ := iSl_cut hH.2.2.2.2.1 ht3 key false
  have hS := c_Sto_slotOf X J G hTn key hr hb
  rcases x_find (Jr := J) (Gr := G) hH.2.2.2.2.1 hH.2.2.2.2.2.1 a1 ht hr hb with ⟨hno, hof⟩ | ⟨f1, f2, k0, f3, f4, f5, f6, f7⟩
  · rw [if_neg (show ¬ (r < n t ∧ zky J G t r = key) from hno)] at hS
    exact ⟨2, 1, 6, J, G, false, 2, _, _, by omega, by omega, by omega, w_isNull_E X J G _ key _ (by omega) (t_TM_isNull X J G _ _ key (t_TM_reqCell3 X J G ht3 _ key hyes hcol hS)), c_Mod_isNull0 X J G _ key _ (c_Mod_asked3 X J G ht3 key _ hy3 a7 hm9 hk0 hk1 (by rw [hof]; exact m1_lt0)), rTh_0, fun h9 => absurd h9 (by decide), zIv_t (zIv_t h 0) 2⟩
  · have hxs := iSl_xs hH.2.2.2.2.1 ht3 f1
    rw [if_pos (show r < n t ∧ zky J G t r = key from ⟨f1, f2⟩), show J (10 + 2 * t) r = nI (xs (xSl J) t r) from hxs.2] at hS
    obtain ⟨b, hb6⟩ := iNl_b hH.2.2.2.2.2.2.1 (4 * xs (xSl J) t r + k)
    have hb45 : J 45 (4 * k0 + k) = zb b := (f7 k (by omega)).1.trans hb6
    have hA := fun (x : Int64) => c_Mod_asked4 X J (va_up G 59 (vp_updL (G 59) 0 x)) ht3 key (nI k) hy3 a7 hm9 hk0 hk1 (by rw [rOf_c (J := J) (G := G) rfl (zu_n (by omega)), f4]; exact nI_pos (by omega))
    have hA2 := fun (x : Int64) => show zK X 1 m_Mod_asked [.ref 40, .int (nI t), .long key, .int (nI k)] J (va_up G 59 (vp_updL (G 59) 0 x)) (some (.int (nI k0))) (rTh (rTh J 0) 0) (va_up G 59 (vp_updL (G 59) 0 x)) from by
      have := hA x
      rw [rOf_c (J := J) (G := G) rfl (zu_n (by omega)), f4] at this
      exact this
    have hN := c_TM_isNull X J G ht3 hyes hcol hxs.1 (by omega) key hS b hb6
    cases b
    · exact ⟨0, 0, 0, _, _, true, 2, _, _, by omega, by omega, by omega, w_isNull1 X J G _ key _ (by omega) hN, c_Mod_isNull1 X J _ _ key (by omega) (by omega) (hA2 1) false hb45, rTh_0, fun _ => by rw [zu_e]; rfl, zIv_t (zIv_th h 0 _) 0⟩
    · exact ⟨0, 0, 0, _, _, false, 2, _, _, by omega, by omega, by omega, w_isNull0 X J G _ key _ (by omega) hN, c_Mod_isNull1 X J _ _ key (by omega) (by omega) (hA2 0) true hb45, rTh_0, fun _ => by rw [zu_e]; rfl, zIv_t (zIv_th h 0 _) 0⟩
