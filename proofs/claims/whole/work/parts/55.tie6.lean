theorem x_ix (v : Int32) {b : Int32} {k : Nat} (hb : b = nI k) (hk : k < 2 ^ 31) : ((decide (0 ≤ v) && decide (v < b)) = true ∧ ∃ i, i < k ∧ v = nI i) ∨ ((decide (0 ≤ v) && decide (v < b)) = false ∧ (v.toInt < 0 ∨ k ≤ v.toInt)) := by
  subst hb
  have e : (nI k).toInt = k := nI_toInt hk
  have e0 : (0 : Int32).toInt = 0 := by decide
  by_cases h : 0 ≤ v.toInt ∧ v.toInt < k
  · left
    obtain ⟨c, h1, h2, h3⟩ := i32_lit (v := v) (a := 0) (b := k - 1) (by omega) (by omega)
    exact ⟨by simp only [i32_le, i32_lt, e, e0, Bool.and_eq_true, decide_eq_true_eq]; exact h, c, by omega, h3⟩
  · right
    refine ⟨?_, by omega⟩
    rw [Bool.eq_false_iff]
    simp only [i32_le, i32_lt, e, e0, ne_eq, Bool.and_eq_true, decide_eq_true_eq]
    exact h
theorem i32_nlt0 {k : Nat} (h : k < 2 ^ 31) : ¬ nI k < 0 := nI_pos h
theorem m1_lt0 : (-1 : Int32) < 0 := by decide
theorem i_set (X : zX) (J : zJT) (G : zGT) (h : zIv J G) (v : Int32) (o : Bool) (x : Int64) : zCallD X m_TM_set [.ref 0, .int v, .int (zb o), .long x] m_Mod_set [.ref 40, .int v, .int (zb o), .long x] J G := by
  rcases x_ix v (b := 4) (k := 4) rfl (by omega) with ⟨_, i, hi, hv⟩ | ⟨hno, hv⟩
  · subst hv
    obtain ⟨T, m, sp, n, hH, N, R, nc, mo, mc, jo, h1, h2, h3, h4, h5⟩ := h
    have key : zIv (va_up (rTh (va_up J 31 (upd (J 31) i (zb o))) 0) 47 (upd (J 47) i (zb o))) (va_up (va_up G 30 (vp_updL (G 30) i (if o then x else 0))) 46 (vp_updL (G 46) i (if o then x else 0))) := by
      refine ⟨T, m, sp, n, iH_c hH rfl rfl (fun a h1 h2 => ?_) rfl rfl rfl rfl rfl rfl rfl rfl rfl, N, R, nc, mo, mc, jo, iPr_c h1 rfl rfl rfl rfl, iRs_c h2 rfl rfl rfl rfl rfl rfl rfl rfl, ?_, iQu_c h4 (Nat.le_refl _) (fun a h1 h2 => ?_) (fun j h1 h2 => ?_) rfl rfl, iRg_c h5 rfl rfl rfl rfl⟩
      · rw [zu_n (by omega), rTh_n (by omega), zu_n (by omega)]
      · refine ⟨fun k hk => ?_, iNl_upd h3.2 i o _ (fun h9 => by simp [h9])⟩
        show upd (J 47) i (zb o) k = upd (J 31) i (zb o) k ∧ vp_updL (G 46) i (if o then x else 0) k = vp_updL (G 30) i (if o then x else 0) k
        have := h3.1 k hk
        simp only [upd, vp_updL]
        by_cases e : k = i
        · simp [e]
        · simp [e, this]
      · rw [zu_n (by omega), rTh_n (by omega), zu_n (by omega)]
      · rw [zu_n (by omega), rTh_i (by omega), zu_n (by omega)]
    cases o
    · exact ⟨_, _, 1, 1, 0, _, _, by omega, by omega, c_TM_set2 X J G hi x, c_Mod_set1 X _ _ 0 hi false x, key⟩
    · exact ⟨_, _, 1, 1, 0, _, _, by omega, by omega, c_TM_set1 X J G hi (zb true) (by decide) x, c_Mod_set1 X _ _ 0 hi true x, key⟩
  · refine ⟨_, _, 0, 1, 0, _, _, by omega, by omega, c_TM_set0 X J G v _ x hno, c_Mod_set0 X J G 0 v _ x ?_, zIv_t h 0⟩
    rw [i32_lt, i32_le]
    have e0 : (0 : Int32).toInt = 0 := by decide
    have e3 : (3 : Int32).toInt = 3 := by decide
    omega
theorem zbrT_o {J : zJT} {t b f u c sp r N a : Nat} (h2 : a ≠ 2) (h6 : a ≠ 6) (h9 : a ≠ 9 + 2 * t) (h10 : a ≠ 10 + 2 * t) : zbrT J t b f u c sp r N a = J a := by
  simp only [zbrT, zbrJ]; rw [zu_n h9, zu_n h10, zu_n h6, zu_n h2]
theorem zbrG_o {G : zGT} {b f u c a : Nat} {key : Int64} (h5 : a ≠ 5) (h7 : a ≠ 7) : zbrG G b f u c key a = G a := by
  simp only [zbrG]; rw [zu_n h5, zu_n h7]
theorem zdrJ_o {J : zJT} {t r N sp a : Nat} (h2 : a ≠ 2) (h8 : a ≠ 8) (h9 : a ≠ 9 + 2 * t) (h10 : a ≠ 10 + 2 * t) : zdrJ J t r N sp a = J a := by
  simp only [zdrJ]; rw [zu_n h10, zu_n h9, zu_n h2, zu_n h8]
theorem zb_n0 : narrow .boolean (.int 0) = .int 0 := zb_n false
theorem zb_n1 : narrow .boolean (.int 1) = .int 1 := zb_n true
theorem i_insert (X : zX) (J : zJT) (G : zGT) (h : zIv J G) (v : Int32) (key : Int64) : zCallZ X m_Law_insert h_Law_insert [.ref 0, .int v, .long key, .ref 59] m_Mod_insert [.ref 40, .int v, .long key] J G := by
  obtain ⟨T, m, sp, n, hH, hE⟩ := id h
  obtain ⟨a1, a2, a3⟩ := hH.1
  obtain ⟨a6, a7⟩ := hH.2.2.2.1
  rcases x_ix v a2 (by omega) with ⟨hyes, t, ht, hv⟩ | ⟨hno, hv⟩
  case inr => exact ⟨1, 1, 6, J, G, false, 1, _, _, by omega, by omega, by omega, w_insert_A X J G v key (by omega) (t_TM_insert1 X J G v key hno), c_Mod_insert1 X J G v key (by rw [a3, ← a2]; exact hno), rTh_0, fun h9 => absurd h9 (by decide), zIv_t h 1⟩
  subst hv
  have ht3 : t < 3 := by omega
  have hy3 : (decide (0 ≤ nI t) && decide (nI t < J 40 1)) = true := by rw [a3, ← a2]; exact hyes
  have hms := (iH_n hH ht3).2.2
  have hTn := iH_Tn hH ht3
  cases sp with
  | zero =>
    have h90 : m = 90 := by omega
    subst h90
    exact ⟨2, 1, 6, J, G, false, 1, _, _, by omega, by omega, by omega, w_insert_S X J G _ key (by omega) (t_TM_insert2 X J G _ key hyes a6), c_Mod_insert2 X J G _ key hy3 a7, rTh_0, fun h9 => absurd h9 (by decide), zIv_t h 2⟩
  | succ sp =>
    have hf : ¬ J 2 5 = 0 := by rw [a6]; exact nI_ne0 (by omega) (by omega)
    have hm9 : m < 90 := by omega
    obtain ⟨r, hr, hb⟩ := iSl_cut hH.2.2.2.2.1 ht3 key false
    rcases x_find (Jr := J) (Gr := G) hH.2.2.2.2.1 hH.2.2.2.2.2.1 a1 ht hr hb with ⟨hno, hof⟩ | ⟨f1, f2, k, f3, f4, f5, f6, f7⟩
    · obtain ⟨c, c4, c1, cc, cr, cx⟩ := iH_C hH ht3
      obtain ⟨u, hu9, hu⟩ := hH.2.2.2.2.1.2.2.2.1 sp (by omega)
      obtain ⟨N, R, nc, mo, mc, jo, e1, e2, e3, e4, e5⟩ := id hE
      have hB := c_Sto_bring1 X J G (f := 0) hTn key hr zVal29 (by omega) cc c4 (by omega) (by omega) hu9 (by have := (iH_n hH ht3).2.1; omega) (fun i _ => iNl_v e3.2 i) hb hno a6 (by omega) hu
      rw [nI_0] at hB
      obtain ⟨bb, hbb⟩ : ∃ bb : Nat → Bool, ∀ k, J 31 k = zb (bb k) ∧ (bb k = false → G 30 k = 0) := ⟨fun k => Classical.choose (e3.2 k), fun k => Classical.choose_spec (e3.2 k)⟩
      have g46 : ∀ k, k < 4 → G 46 k = G 30 k := fun k hk => (e3.1 k hk).2
      refine ⟨0, 0, 0, _, _, true, 1, _, _, by omega, by omega, by omega, w_insert1 X J G _ key (by omega) (c_TM_insert X J G _ hyes key hf zb_n1 hB), c_Mod_insert4 X _ _ ht3 (c := c) ?_ c4 key bb ?_ (n := m) ?_ hm9 ?_ ?_, ?_, ?_, ?_⟩
      · rw [zbrT_o (by omega) (by omega) (by omega) (by omega)]; exact cr
      · intro k hk; rw [zbrT_o (by omega) (by omega) (by omega) (by omega), (e3.1 k hk).1]; exact (hbb k).1
      · rw [zbrT_o (by omega) (by omega) (by omega) (by omega)]; exact a7
      · rw [zbrT_o (by omega) (by omega) (by omega) (by omega)]; exact hy3
      · rw [rOf_c (J := J) (G := G) (zbrT_o (by omega) (by omega) (by omega) (by omega)) (by rw [zu_n (by omega), zbrG_o (by omega) (by omega)]), hof]; exact m1_lt0
      · rw [zu_e, zu_n (by omega), rTh_0]
      · intro _; rw [rLG_o (by omega) (by omega), zu_e]; rfl
      · have key2 := iH_bring hH (c := c) ht cc c4 hr hu9 hu hb hno (b := 29) (f := 0) (bb := bb) (v := fun k => G 46 k) e3.2 (Jq := rTh (zbrT J t 29 0 u c sp r (n t)) 0) (Gq := va_up (zbrG G 29 0 u c key) 59 (vp_updL (zbrG G 29 0 u c key 59) 0 1))
          (by rw [rTh_i (by omega), zbrT_o (by omega) (by omega) (by omega) (by omega)]) (by rw [rTh_n (by omega), zbrT_o (by omega) (by omega) (by omega) (by omega)]) (by rw [rTh_n (by omega), zbrT_o (by omega) (by omega) (by omega) (by omega)]) (by rw [rTh_n (by omega), zbrT_o (by omega) (by omega) (by omega) (by omega)]) (by rw [zu_n (by omega), zbrG_o (by omega) (by omega)]) (by rw [zu_n (by omega), zbrG_o (by omega) (by omega)])
          (fun k hk => ⟨by rw [Nat.zero_add]; exact (hbb k).1, by
            rw [Nat.zero_add, g46 k (by omega)]
            cases hq : bb k
            · simp; exact (hbb k).2 hq
            · simp⟩) (y := va_up (rTh (zbrT J t 29 0 u c sp r (n t)) 0 40) 3 (nI m + 1)) (by rw [zu_n (by omega)]) zu_e
        refine ⟨T, m + 1, sp, _, iH_c key2 ?_ ?_ (fun a h1 h2 => ?_) ?_ ?_ rfl rfl rfl rfl rfl rfl ?_, iE_c hE (Nat.le_refl _) (fun a h1 h2 => ?_) (fun a h1 h2 => ?_) (fun i h1 h2 => ?_) (fun a h1 h2 => ?_) (fun a h1 h2 => ?_)⟩
        · rw [zu_n (by omega), rLJ_o (by omega) (by omega), rTh_n (by omega)]
        · rw [zu_n (by omega), rLJ_o (by omega) (by omega), rTh_n (by omega)]
        · rw [zu_n (by omega), rLJ_o (by omega) (by omega), rTh_n (by omega)]
        · rw [rLG_o (by omega) (by omega), zu_n (by omega)]
        · rw [rLG_o (by omega) (by omega), zu_n (by omega)]
        · rfl
        · rw [zu_n (by omega), rLJ_o (by omega) (by omega), rTh_n (by omega), zbrT_o (by omega) (by omega) (by omega) (by omega)]
        · rw [rLG_o (by omega) (by omega), zu_n (by omega), zbrG_o (by omega) (by omega)]
        · rw [zu_e, zu_n (by omega), rTh_i (by omega), zbrT_o (by omega) (by omega) (by omega) (by omega)]
        · rw [zu_n (by omega), rLJ_o (by omega) (by omega), rTh_n (by omega), zbrT_o (by omega) (by omega) (by omega) (by omega)]
        · rw [rLG_o (by omega) (by omega), zu_n (by omega), zbrG_o (by omega) (by omega)]
    · have hB := c_Sto_bring0 X J G hTn key hr hb 29 0 (Or.inr ⟨f1, f2⟩)
      refine ⟨0, 0, 0, _, _, false, 1, _, _, by omega, by omega, by omega, w_insert0 X J G _ key (by omega) (c_TM_insert X J G _ hyes key hf zb_n0 hB), c_Mod_insert3 X J _ _ key hy3 a7 hm9 ?_, rTh_0, fun _ => by rw [zu_e]; rfl, zIv_th h 0 _⟩
      rw [rOf_c (J := J) (G := G) rfl (zu_n (by omega)), f4]
      exact nI_pos (by omega)
