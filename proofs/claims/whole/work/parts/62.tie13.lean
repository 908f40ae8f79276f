section
variable (X : zX) {J : zJT} {G : zGT} {N T a m sp R : Nat} {n : Nat → Nat}
theorem x_cmp (x y : Int64) : ∀ o, 9 ≤ o ∧ o < 15 → zcmp o x y = rCmp o x y
  | 9, _ => rfl
  | 10, _ => by simp [zcmp, rCmp]
  | 11, _ => rfl
  | 12, _ => rfl
  | 13, _ => rfl
  | 14, _ => rfl
  | 0, h | 1, h | 2, h | 3, h | 4, h | 5, h | 6, h | 7, h | 8, h => absurd h (by omega)
  | o + 15, h => absurd h (by omega)
theorem st_cmp {Jr0 : zJT} {Gr0 : zGT} {o i j g : Nat} (ho : 9 ≤ o ∧ o < 15) (hnd : zNd o = false) (hrn : rNeed.getD o 0 = 0) (hgo : ¬ rGoal.getD o 0 = 1) (h : iAo J N a o) (hv0 : iRv J G Jr0 Gr0 T m sp n R) (hp : J 16 (4 * a + 1) = nI i) (hi : i < 16) (hq : J 16 (4 * a + 2) = nI g) (hg : g ≤ N) (hs3 : J 16 (4 * a + 3) = nI j) (hj : j < 16)
    (hU : ∀ b : Bool, zK X 1 m_Mac_holds [.ref 1, .int (nI o), .int (J 16 (4 * a + 1)), .int (J 16 (4 * a + 3))] J G (some (.int (zb b))) J G → zK X 2 m_Mac_compute [.ref 1, .int (nI o), .int (nI a)] J G (some (.int (if b then (J 16 (4 * a + 2)) else nI a + 1))) J G)
    (hW : ∀ (Jr : zJT) (Gr : zGT) (x y : Bool), Jr 50 i = zb x → Jr 50 j = zb y → zK X 1 m_Mod_without [.ref 40, .int (nI o), .int (nI i), .int (J 16 (4 * a + 2)), .int (nI j)] Jr Gr (some (.int (zb (x && (y && rCmp o (Gr 49 i) (Gr 49 j)))))) Jr Gr) : zSt X N T a J G m sp n R := by
  obtain ⟨hN, ha, hop, hs⟩ := h
  obtain ⟨x, hx⟩ := iNl_b hv0.2.2.1.2.1 i
  obtain ⟨y, hy⟩ := iNl_b hv0.2.2.1.2.1 j
  have hM : ∀ Jr Gr, iRv J G Jr Gr T m sp n R → zK X 1 m_Mod_without [.ref 40, .int (nI o), .int (J 16 (4 * a + 1)), .int (J 16 (4 * a + 2)), .int (J 16 (4 * a + 3))] Jr Gr (some (.int (zb (x && (y && rCmp o (G 23 i) (G 23 j)))))) Jr Gr := fun Jr Gr hv => by
    have := hW Jr Gr x y ((hv.2.2.1.1 i hi).1.trans hx) ((hv.2.2.1.1 j hj).1.trans hy)
    rw [(hv.2.2.1.1 i hi).2, (hv.2.2.1.1 j hj).2] at this
    rw [hp, hs3]; exact this
  have hH : zK X 1 m_Mac_holds [.ref 1, .int (nI o), .int (J 16 (4 * a + 1)), .int (J 16 (4 * a + 3))] J G (some (.int (zb (x && (y && rCmp o (G 23 i) (G 23 j)))))) J G := by
    rw [hp, hs3]
    cases x
    · exact c_Mac_holds0 X J G hi hj _ hx
    · cases y
      · exact c_Mac_holds1 X J G hi hj _ hx hy
      · have := c_Mac_holds2 X J G hi hj ho hx hy
        rw [x_cmp _ _ o ho] at this
        exact this
  have hK := hU _ hH
  cases hb : (x && (y && rCmp o (G 23 i) (G 23 j)))
  · rw [hb, if_neg (by decide), nIa] at hK
    refine zSt_W X (R1 := R) (m1 := m) (sp1 := sp) (n1 := n) hN ha (by omega) (by omega) hnd hrn (by omega) hop hs hK (by omega) zFc_rfl rfl (fun Jr Gr hv => ⟨false, _, _, ?_, zFr_rfl, rfl, rfl, hv, by simp [nIa]⟩)
    have := hM Jr Gr hv
    rw [hb] at this; exact this
  · rw [hb, if_pos rfl, hq] at hK
    refine zSt_W X (R1 := R) (m1 := m) (sp1 := sp) (n1 := n) hN ha (by omega) (by omega) hnd hrn (by omega) hop hs hK hg zFc_rfl rfl (fun Jr Gr hv => ⟨true, _, _, ?_, zFr_rfl, rfl, rfl, hv, by rw [if_pos rfl, if_neg hgo, hq]⟩)
    have := hM Jr Gr hv
    rw [hb] at this; exact this
theorem rRJ_56 {J : zJT} {m a : Nat} : ∀ k i, rRJ J m a k 56 i = if 4 * m ≤ i ∧ i < 4 * m + k then J 50 (a + (i - 4 * m)) else J 56 i
  | 0, i => by rw [rRJ, if_neg (by omega)]
  | k + 1, i => by
    rw [rRJ, zu_e, upd]
    by_cases e : i = 4 * m + k
    · rw [if_pos e, if_pos (show 4 * m ≤ i ∧ i < 4 * m + (k + 1) by omega), show i - 4 * m = k by omega, rRJ_o (by decide)]
    · rw [if_neg e, rRJ_56 k i]
      by_cases e2 : 4 * m ≤ i ∧ i < 4 * m + k
      · rw [if_pos e2, if_pos (show 4 * m ≤ i ∧ i < 4 * m + (k + 1) by omega)]
      · rw [if_neg e2, if_neg (show ¬ (4 * m ≤ i ∧ i < 4 * m + (k + 1)) by omega)]
theorem rRG_55 {G : zGT} {m a : Nat} : ∀ k i, rRG G m a k 55 i = if 4 * m ≤ i ∧ i < 4 * m + k then G 49 (a + (i - 4 * m)) else G 55 i
  | 0, i => by rw [rRG, if_neg (by omega)]
  | k + 1, i => by
    rw [rRG, zu_e, vp_updL]
    by_cases e : i = 4 * m + k
    · rw [if_pos e, if_pos (show 4 * m ≤ i ∧ i < 4 * m + (k + 1) by omega), show i - 4 * m = k by omega, rRG_o (by decide)]
    · rw [if_neg e, rRG_55 k i]
      by_cases e2 : 4 * m ≤ i ∧ i < 4 * m + k
      · rw [if_pos e2, if_pos (show 4 * m ≤ i ∧ i < 4 * m + (k + 1) by omega)]
      · rw [if_neg e2, if_neg (show ¬ (4 * m ≤ i ∧ i < 4 * m + (k + 1)) by omega)]
theorem st_result {Jr0 : zJT} {Gr0 : zGT} {i w : Nat} (h : iAo J N a 18) (hv0 : iRv J G Jr0 Gr0 T m sp n R) (hp : J 16 (4 * a + 1) = nI i) (hq : J 16 (4 * a + 2) = nI w) (hw : w ≤ 4) (hiw : i + w ≤ 16) : zSt X N T a J G m sp n R := by
  obtain ⟨hN, ha, hop, hs⟩ := h
  obtain ⟨s1, s2, s3, s4, s5⟩ := hv0.2.1
  by_cases h64 : R = 64
  · exact st_full X hN ha hop hs h64 s2
  have hR : R < 64 := by omega
  have hU := fun (J' : zJT) (G' : zGT) => c_com_result1 X (k := a) (by omega) J G (J' := J') (G' := G')
  rw [hp, hq, nIa] at hU
  have hK := hU _ _ (c_Res_take1 X J G hR hw hiw s2 (fun j _ => iNl_v hv0.2.2.1.2.1 j))
  refine zSt_W X (R1 := R + 1) (m1 := m) (sp1 := sp) (n1 := n) hN ha (by omega) (by omega) (by decide) (by decide) (fun _ => hR) hop hs hK (by omega) ⟨fun x hx => ?_, fun x hx => ?_⟩ rfl (fun Jr Gr hv => ?_)
  · simp only [ztkJ]; rw [zu_n (by omega), zu_n (by omega), zu_n (by omega)]
  · simp only [ztkG]; rw [zu_n (by omega)]
  · obtain ⟨v1, v2, v3, v4⟩ := hv
    obtain ⟨t1, t2, t3, t4, t5⟩ := v2
    rw [hp, hq]
    refine ⟨false, _, _, c_Mod_wres X Jr Gr t3 hR hw hiw _ (fun j => ?_), ⟨fun x hx => ?_, fun x x1 x2 x3 x4 => ?_, fun x hx => ?_⟩, ?_, ?_, ⟨iH_c v1 rfl rfl (fun x _ _ => ?_) rfl rfl ?_ ?_ ?_ ?_ ?_ ?_ ?_, ?_, iRg_c v3 rfl rfl ?_ ?_, iCu_c v4 (fun x _ _ => ?_) (fun x _ _ => ?_) ?_ ?_ ?_⟩, by simp [nIa]⟩
    · obtain ⟨b, hb⟩ := v3.2.2 j
      rw [hb, zb_v]
    · rw [zu_n (by omega), rRJ_o (by omega), zu_n (by omega)]
    · rw [zu_e, zu_n x4]
    · rw [rRG_o (by omega)]
    · rw [zu_e, zu_n (by omega)]
    · rw [zu_e, zu_n (by omega)]
    · simp only [ztkJ]; rw [zu_n (by omega), zu_n (by omega), zu_n (by omega)]
    · rw [zu_e, zu_n (by omega)]
    · rw [zu_e, zu_n (by omega)]
    · rw [zu_n (by omega), rRJ_o (by omega), zu_n (by omega)]
    · rw [zu_n (by omega), rRJ_o (by omega), zu_n (by omega)]
    · rw [zu_n (by omega), rRJ_o (by omega), zu_n (by omega)]
    · rw [rRG_o (by omega)]
    · rw [rRG_o (by omega)]
    · refine ⟨by omega, ?_, ?_, fun x hx => ?_, ?_⟩
      · rw [zu_e, zu_e, nIa]
      · rw [zu_e, zu_e, nIa]
      · rw [show va_up (ztkJ J i R w w) 17 (va_up (J 17) 0 (nI R + 1)) 18 = upd (J 18) R (nI w) from rfl, show va_up (ztkJ J i R w w) 17 (va_up (J 17) 0 (nI R + 1)) 21 = va_cpy (J 24) (J 21) i (4 * R) w from rfl, show ztkG G i R w 20 = va_cpy (G 23) (G 20) i (4 * R) w from rfl]
        have e54 : va_up (rRJ (va_up Jr 54 (upd (Jr 54) R (nI w))) R i w) 40 (va_up (Jr 40) 19 (nI R + 1)) 54 = upd (Jr 54) R (nI w) := by rw [zu_n (by omega), rRJ_o (by omega), zu_e]
        rw [e54]
        by_cases ex : x = R
        · subst ex
          refine ⟨w, hw, up_e, up_e, fun k hk => ?_⟩
          rw [zu_n (by omega), rRJ_56, rRG_55, if_pos (by omega), if_pos (by omega), va_cpy, va_cpy, if_pos (by omega), if_pos (by omega), show 4 * x + k - 4 * x = k by omega]
          have := v3.1 (i + k) (by omega)
          rw [show va_up Jr 54 (upd (Jr 54) x (nI w)) 50 = Jr 50 from rfl]
          exact this
        · obtain ⟨w2, g1, g2, g3, g4⟩ := t4 x (by omega)
          refine ⟨w2, g1, by rw [up_n ex]; exact g2, by rw [up_n ex]; exact g3, fun k hk => ?_⟩
          rw [zu_n (by omega), rRJ_56, rRG_55, if_neg (by omega), if_neg (by omega), va_cpy, va_cpy, if_neg (by omega), if_neg (by omega)]
          exact g4 k hk
      · exact iNl_cpy v3.2.1 t5 _ _ _
    · rw [zu_n (by omega), rRJ_o (by omega), zu_n (by omega)]
    · rw [rRG_o (by omega)]
    · simp only [ztkJ]; rw [zu_n (by omega), zu_n (by omega), zu_n (by omega)]
    · simp only [ztkG]; rw [zu_n (by omega)]
    · rw [zu_n (by omega), rRJ_o (by omega), zu_n (by omega)]
    · rw [zu_n (by omega), rRJ_o (by omega), zu_n (by omega)]
    · rw [rRG_o (by omega)]
theorem nI_sum (a b : Nat) : nI a + nI b = nI (a + b) := (Int32.ofNat_add a b).symm

theorem so_0 (hN : N ≤ 60) (ha : a < N) (hs : J 15 0 = nI N) {Jr0 : zJT} {Gr0 : zGT} (_hv0 : iRv J G Jr0 Gr0 T m sp n R) (_hSd : iSd J T N) (hop : J 16 (4 * a) = nI 0) (_hacc : zAcc 0 (J 16 (4 * a + 1)) (J 16 (4 * a + 2)) (J 16 (4 * a + 3)) = true) : zSt X N T a J G m sp n R := by
  exact st_halt X hN ha hop hs
theorem so_1 (hN : N ≤ 60) (ha : a < N) (hs : J 15 0 = nI N) {Jr0 : zJT} {Gr0 : zGT} (hv0 : iRv J G Jr0 Gr0 T m sp n R) (hSd : iSd J T N) (hop : J 16 (4 * a) = nI 1) (hacc : zAcc 1 (J 16 (4 * a + 1)) (J 16 (4 * a + 2)) (J 16 (4 * a + 3)) = true) : zSt X N T a J G m sp n R := by
  obtain ⟨k1, k2, k3, k4⟩ := zAcc_w hacc
  rw [show zkn (3 * 1) = 1 by decide] at k1
  rw [show zkn (3 * 1 + 1) = 2 by decide] at k2
  rw [show zkn (3 * 1 + 2) = 0 by decide] at k3
  have sd := hSd a ha 1 (by omega) hop
  obtain ⟨c, hc, hp1⟩ := zTk1 k1
  obtain ⟨t, ht, hq⟩ := (sd 1 (by omega)).1 (by decide)
  exact st_open X ⟨hN, ha, hop, hs⟩ hp1 hc hq ht
theorem so_2 (hN : N ≤ 60) (ha : a < N) (hs : J 15 0 = nI N) {Jr0 : zJT} {Gr0 : zGT} (hv0 : iRv J G Jr0 Gr0 T m sp n R) (hSd : iSd J T N) (hop : J 16 (4 * a) = nI 2) (hacc : zAcc 2 (J 16 (4 * a + 1)) (J 16 (4 * a + 2)) (J 16 (4 * a + 3)) = true) : zSt X N T a J G m sp n R := by
  obtain ⟨k1, k2, k3, k4⟩ := zAcc_w hacc
  rw [show zkn (3 * 2) = 1 by decide] at k1
  rw [show zkn (3 * 2 + 1) = 3 by decide] at k2
  rw [show zkn (3 * 2 + 2) = 0 by decide] at k3
  have sd := hSd a ha 2 (by omega) hop
  obtain ⟨c, hc, hp1⟩ := zTk1 k1
  rcases (hv0.2.2.2 c hc).1 with ⟨hsh, _⟩ | ⟨t, ht, e, _⟩
  · exact st_shut X hN ha (by omega) (by omega) (by decide) (by decide) hop hs hp1 hc hsh
  have hat : iAt J N a 2 c t := ⟨hN, ha, hop, hs, hp1, hc, by have := hv0.1.1.1; omega, e⟩
  obtain ⟨g, hg, hq⟩ := (sd 1 (by omega)).2 (by decide)
  exact st_rewind X hat hv0 hq hg
theorem so_3 (hN : N ≤ 60) (ha : a < N) (hs : J 15 0 = nI N) {Jr0 : zJT} {Gr0 : zGT} (hv0 : iRv J G Jr0 Gr0 T m sp n R) (hSd : iSd J T N) (hop : J 16 (4 * a) = nI 3) (hacc : zAcc 3 (J 16 (4 * a + 1)) (J 16 (4 * a + 2)) (J 16 (4 * a + 3)) = true) : zSt X N T a J G m sp n R := by
  obtain ⟨k1, k2, k3, k4⟩ := zAcc_w hacc
  rw [show zkn (3 * 3) = 1 by decide] at k1
  rw [show zkn (3 * 3 + 1) = 3 by decide] at k2
  rw [show zkn (3 * 3 + 2) = 0 by decide] at k3
  have sd := hSd a ha 3 (by omega) hop
  obtain ⟨c, hc, hp1⟩ := zTk1 k1
  rcases (hv0.2.2.2 c hc).1 with ⟨hsh, _⟩ | ⟨t, ht, e, _⟩
  · exact st_shut X hN ha (by omega) (by omega) (by decide) (by decide) hop hs hp1 hc hsh
  have hat : iAt J N a 3 c t := ⟨hN, ha, hop, hs, hp1, hc, by have := hv0.1.1.1; omega, e⟩
  obtain ⟨g, hg, hq⟩ := (sd 1 (by omega)).2 (by decide)
  exact st_next X hat hv0 hq hg
theorem so_4 (hN : N ≤ 60) (ha : a < N) (hs : J 15 0 = nI N) {Jr0 : zJT} {Gr0 : zGT} (hv0 : iRv J G Jr0 Gr0 T m sp n R) (hSd : iSd J T N) (hop : J 16 (4 * a) = nI 4) (hacc : zAcc 4 (J 16 (4 * a + 1)) (J 16 (4 * a + 2)) (J 16 (4 * a + 3)) = true) : zSt X N T a J G m sp n R := by
  obtain ⟨k1, k2, k3, k4⟩ := zAcc_w hacc
  rw [show zkn (3 * 4) = 1 by decide] at k1
  rw [show zkn (3 * 4 + 1) = 4 by decide] at k2
  rw [show zkn (3 * 4 + 2) = 5 by decide] at k3
  have sd := hSd a ha 4 (by omega) hop
  obtain ⟨c, hc, hp1⟩ := zTk1 k1
  rcases (hv0.2.2.2 c hc).1 with ⟨hsh, _⟩ | ⟨t, ht, e, _⟩
  · exact st_shut X hN ha (by omega) (by omega) (by decide) (by decide) hop hs hp1 hc hsh
  have hat : iAt J N a 4 c t := ⟨hN, ha, hop, hs, hp1, hc, by have := hv0.1.1.1; omega, e⟩
  obtain ⟨k, hk, hq⟩ := zTk4 k2
  obtain ⟨i, hi, hr⟩ := zTk5 k3
  exact st_column X hat hv0 hq hk hr hi
theorem so_5 (hN : N ≤ 60) (ha : a < N) (hs : J 15 0 = nI N) {Jr0 : zJT} {Gr0 : zGT} (hv0 : iRv J G Jr0 Gr0 T m sp n R) (hSd : iSd J T N) (hop : J 16 (4 * a) = nI 5) (hacc : zAcc 5 (J 16 (4 * a + 1)) (J 16 (4 * a + 2)) (J 16 (4 * a + 3)) = true) : zSt X N T a J G m sp n R := by
  obtain ⟨k1, k2, k3, k4⟩ := zAcc_w hacc
  rw [show zkn (3 * 5) = 1 by decide] at k1
  rw [show zkn (3 * 5 + 1) = 5 by decide] at k2
  rw [show zkn (3 * 5 + 2) = 0 by decide] at k3
  have sd := hSd a ha 5 (by omega) hop
  obtain ⟨c, hc, hp1⟩ := zTk1 k1
  rcases (hv0.2.2.2 c hc).1 with ⟨hsh, _⟩ | ⟨t, ht, e, _⟩
  · exact st_shut X hN ha (by omega) (by omega) (by decide) (by decide) hop hs hp1 hc hsh
  have hat : iAt J N a 5 c t := ⟨hN, ha, hop, hs, hp1, hc, by have := hv0.1.1.1; omega, e⟩
  obtain ⟨i, hi, hq⟩ := zTk5 k2
  exact st_rowid X hat hv0 hq hi
theorem so_6 (hN : N ≤ 60) (ha : a < N) (hs : J 15 0 = nI N) {Jr0 : zJT} {Gr0 : zGT} (hv0 : iRv J G Jr0 Gr0 T m sp n R) (hSd : iSd J T N) (hop : J 16 (4 * a) = nI 6) (hacc : zAcc 6 (J 16 (4 * a + 1)) (J 16 (4 * a + 2)) (J 16 (4 * a + 3)) = true) : zSt X N T a J G m sp n R := by
  obtain ⟨k1, k2, k3, k4⟩ := zAcc_w hacc
  rw [show zkn (3 * 6) = 8 by decide] at k1
  rw [show zkn (3 * 6 + 1) = 5 by decide] at k2
  rw [show zkn (3 * 6 + 2) = 0 by decide] at k3
  have sd := hSd a ha 6 (by omega) hop
  obtain ⟨i, hi, hq⟩ := zTk5 k2
  exact st_integer X ⟨hN, ha, hop, hs⟩ hq hi
theorem so_7 (hN : N ≤ 60) (ha : a < N) (hs : J 15 0 = nI N) {Jr0 : zJT} {Gr0 : zGT} (hv0 : iRv J G Jr0 Gr0 T m sp n R) (hSd : iSd J T N) (hop : J 16 (4 * a) = nI 7) (hacc : zAcc 7 (J 16 (4 * a + 1)) (J 16 (4 * a + 2)) (J 16 (4 * a + 3)) = true) : zSt X N T a J G m sp n R := by
  obtain ⟨k1, k2, k3, k4⟩ := zAcc_w hacc
  rw [show zkn (3 * 7) = 5 by decide] at k1
  rw [show zkn (3 * 7 + 1) = 0 by decide] at k2
  rw [show zkn (3 * 7 + 2) = 0 by decide] at k3
  have sd := hSd a ha 7 (by omega) hop
  obtain ⟨i, hi, hp⟩ := zTk5 k1
  exact st_null X ⟨hN, ha, hop, hs⟩ hp hi
theorem so_8 (hN : N ≤ 60) (ha : a < N) (hs : J 15 0 = nI N) {Jr0 : zJT} {Gr0 : zGT} (hv0 : iRv J G Jr0 Gr0 T m sp n R) (hSd : iSd J T N) (hop : J 16 (4 * a) = nI 8) (hacc : zAcc 8 (J 16 (4 * a + 1)) (J 16 (4 * a + 2)) (J 16 (4 * a + 3)) = true) : zSt X N T a J G m sp n R := by
  obtain ⟨k1, k2, k3, k4⟩ := zAcc_w hacc
  rw [show zkn (3 * 8) = 1 by decide] at k1
  rw [show zkn (3 * 8 + 1) = 3 by decide] at k2
  rw [show zkn (3 * 8 + 2) = 5 by decide] at k3
  have sd := hSd a ha 8 (by omega) hop
  obtain ⟨c, hc, hp1⟩ := zTk1 k1
  rcases (hv0.2.2.2 c hc).1 with ⟨hsh, _⟩ | ⟨t, ht, e, _⟩
  · exact st_shut X hN ha (by omega) (by omega) (by decide) (by decide) hop hs hp1 hc hsh
  have hat : iAt J N a 8 c t := ⟨hN, ha, hop, hs, hp1, hc, by have := hv0.1.1.1; omega, e⟩
  obtain ⟨g, hg, hq⟩ := (sd 1 (by omega)).2 (by decide)
  obtain ⟨i, hi, hr⟩ := zTk5 k3
  exact st_seek X hat hv0 hq hg hr hi
theorem so_9 (hN : N ≤ 60) (ha : a < N) (hs : J 15 0 = nI N) {Jr0 : zJT} {Gr0 : zGT} (hv0 : iRv J G Jr0 Gr0 T m sp n R) (hSd : iSd J T N) (hop : J 16 (4 * a) = nI 9) (hacc : zAcc 9 (J 16 (4 * a + 1)) (J 16 (4 * a + 2)) (J 16 (4 * a + 3)) = true) : zSt X N T a J G m sp n R := by
  obtain ⟨k1, k2, k3, k4⟩ := zAcc_w hacc
  rw [show zkn (3 * 9) = 5 by decide] at k1
  rw [show zkn (3 * 9 + 1) = 3 by decide] at k2
  rw [show zkn (3 * 9 + 2) = 5 by decide] at k3
  have sd := hSd a ha 9 (by omega) hop
  obtain ⟨i, hi, hp⟩ := zTk5 k1
  obtain ⟨j, hj, hr⟩ := zTk5 k3
  obtain ⟨g, hg, hq⟩ := (sd 1 (by omega)).2 (by decide)
  exact st_cmp X (o := 9) (by omega) (by decide) (by decide) (by decide) ⟨hN, ha, hop, hs⟩ hv0 hp hi hq hg hr hj (fun b hm => c_com_cmp9 X (by omega) J G b hm) (fun Jr Gr x y hx hy => c_Mod_wcmp9 X Jr Gr hi hj x y hx hy _)
theorem so_10 (hN : N ≤ 60) (ha : a < N) (hs : J 15 0 = nI N) {Jr0 : zJT} {Gr0 : zGT} (hv0 : iRv J G Jr0 Gr0 T m sp n R) (hSd : iSd J T N) (hop : J 16 (4 * a) = nI 10) (hacc : zAcc 10 (J 16 (4 * a + 1)) (J 16 (4 * a + 2)) (J 16 (4 * a + 3)) = true) : zSt X N T a J G m sp n R := by
  obtain ⟨k1, k2, k3, k4⟩ := zAcc_w hacc
  rw [show zkn (3 * 10) = 5 by decide] at k1
  rw [show zkn (3 * 10 + 1) = 3 by decide] at k2
  rw [show zkn (3 * 10 + 2) = 5 by decide] at k3
  have sd := hSd a ha 10 (by omega) hop
  obtain ⟨i, hi, hp⟩ := zTk5 k1
  obtain ⟨j, hj, hr⟩ := zTk5 k3
  obtain ⟨g, hg, hq⟩ := (sd 1 (by omega)).2 (by decide)
  exact st_cmp X (o := 10) (by omega) (by decide) (by decide) (by decide) ⟨hN, ha, hop, hs⟩ hv0 hp hi hq hg hr hj (fun b hm => c_com_cmp10 X (by omega) J G b hm) (fun Jr Gr x y hx hy => c_Mod_wcmp10 X Jr Gr hi hj x y hx hy _)
theorem so_11 (hN : N ≤ 60) (ha : a < N) (hs : J 15 0 = nI N) {Jr0 : zJT} {Gr0 : zGT} (hv0 : iRv J G Jr0 Gr0 T m sp n R) (hSd : iSd J T N) (hop : J 16 (4 * a) = nI 11) (hacc : zAcc 11 (J 16 (4 * a + 1)) (J 16 (4 * a + 2)) (J 16 (4 * a + 3)) = true) : zSt X N T a J G m sp n R := by
  obtain ⟨k1, k2, k3, k4⟩ := zAcc_w hacc
  rw [show zkn (3 * 11) = 5 by decide] at k1
  rw [show zkn (3 * 11 + 1) = 3 by decide] at k2
  rw [show zkn (3 * 11 + 2) = 5 by decide] at k3
  have sd := hSd a ha 11 (by omega) hop
  obtain ⟨i, hi, hp⟩ := zTk5 k1
  obtain ⟨j, hj, hr⟩ := zTk5 k3
  obtain ⟨g, hg, hq⟩ := (sd 1 (by omega)).2 (by decide)
  exact st_cmp X (o := 11) (by omega) (by decide) (by decide) (by decide) ⟨hN, ha, hop, hs⟩ hv0 hp hi hq hg hr hj (fun b hm => c_com_cmp11 X (by omega) J G b hm) (fun Jr Gr x y hx hy => c_Mod_wcmp11 X Jr Gr hi hj x y hx hy _)
theorem so_12 (hN : N ≤ 60) (ha : a < N) (hs : J 15 0 = nI N) {Jr0 : zJT} {Gr0 : zGT} (hv0 : iRv J G Jr0 Gr0 T m sp n R) (hSd : iSd J T N) (hop : J 16 (4 * a) = nI 12) (hacc : zAcc 12 (J 16 (4 * a + 1)) (J 16 (4 * a + 2)) (J 16 (4 * a + 3)) = true) : zSt X N T a J G m sp n R := by
  obtain ⟨k1, k2, k3, k4⟩ := zAcc_w hacc
  rw [show zkn (3 * 12) = 5 by decide] at k1
  rw [show zkn (3 * 12 + 1) = 3 by decide] at k2
  rw [show zkn (3 * 12 + 2) = 5 by decide] at k3
  have sd := hSd a ha 12 (by omega) hop
  obtain ⟨i, hi, hp⟩ := zTk5 k1
  obtain ⟨j, hj, hr⟩ := zTk5 k3
  obtain ⟨g, hg, hq⟩ := (sd 1 (by omega)).2 (by decide)
  exact st_cmp X (o := 12) (by omega) (by decide) (by decide) (by decide) ⟨hN, ha, hop, hs⟩ hv0 hp hi hq hg hr hj (fun b hm => c_com_cmp12 X (by omega) J G b hm) (fun Jr Gr x y hx hy => c_Mod_wcmp12 X Jr Gr hi hj x y hx hy _)
theorem so_13 (hN : N ≤ 60) (ha : a < N) (hs : J 15 0 = nI N) {Jr0 : zJT} {Gr0 : zGT} (hv0 : iRv J G Jr0 Gr0 T m sp n R) (hSd : iSd J T N) (hop : J 16 (4 * a) = nI 13) (hacc : zAcc 13 (J 16 (4 * a + 1)) (J 16 (4 * a + 2)) (J 16 (4 * a + 3)) = true) : zSt X N T a J G m sp n R := by
  obtain ⟨k1, k2, k3, k4⟩ := zAcc_w hacc
  rw [show zkn (3 * 13) = 5 by decide] at k1
  rw [show zkn (3 * 13 + 1) = 3 by decide] at k2
  rw [show zkn (3 * 13 + 2) = 5 by decide] at k3
  have sd := hSd a ha 13 (by omega) hop
  obtain ⟨i, hi, hp⟩ := zTk5 k1
  obtain ⟨j, hj, hr⟩ := zTk5 k3
  obtain ⟨g, hg, hq⟩ := (sd 1 (by omega)).2 (by decide)
  exact st_cmp X (o := 13) (by omega) (by decide) (by decide) (by decide) ⟨hN, ha, hop, hs⟩ hv0 hp hi hq hg hr hj (fun b hm => c_com_cmp13 X (by omega) J G b hm) (fun Jr Gr x y hx hy => c_Mod_wcmp13 X Jr Gr hi hj x y hx hy _)
theorem so_14 (hN : N ≤ 60) (ha : a < N) (hs : J 15 0 = nI N) {Jr0 : zJT} {Gr0 : zGT} (hv0 : iRv J G Jr0 Gr0 T m sp n R) (hSd : iSd J T N) (hop : J 16 (4 * a) = nI 14) (hacc : zAcc 14 (J 16 (4 * a + 1)) (J 16 (4 * a + 2)) (J 16 (4 * a + 3)) = true) : zSt X N T a J G m sp n R := by
  obtain ⟨k1, k2, k3, k4⟩ := zAcc_w hacc
  rw [show zkn (3 * 14) = 5 by decide] at k1
  rw [show zkn (3 * 14 + 1) = 3 by decide] at k2
  rw [show zkn (3 * 14 + 2) = 5 by decide] at k3
  have sd := hSd a ha 14 (by omega) hop
  obtain ⟨i, hi, hp⟩ := zTk5 k1
  obtain ⟨j, hj, hr⟩ := zTk5 k3
  obtain ⟨g, hg, hq⟩ := (sd 1 (by omega)).2 (by decide)
  exact st_cmp X (o := 14) (by omega) (by decide) (by decide) (by decide) ⟨hN, ha, hop, hs⟩ hv0 hp hi hq hg hr hj (fun b hm => c_com_cmp14 X (by omega) J G b hm) (fun Jr Gr x y hx hy => c_Mod_wcmp14 X Jr Gr hi hj x y hx hy _)
theorem so_15 (hN : N ≤ 60) (ha : a < N) (hs : J 15 0 = nI N) {Jr0 : zJT} {Gr0 : zGT} (hv0 : iRv J G Jr0 Gr0 T m sp n R) (hSd : iSd J T N) (hop : J 16 (4 * a) = nI 15) (hacc : zAcc 15 (J 16 (4 * a + 1)) (J 16 (4 * a + 2)) (J 16 (4 * a + 3)) = true) : zSt X N T a J G m sp n R := by
  obtain ⟨k1, k2, k3, k4⟩ := zAcc_w hacc
  rw [show zkn (3 * 15) = 5 by decide] at k1
  rw [show zkn (3 * 15 + 1) = 3 by decide] at k2
  rw [show zkn (3 * 15 + 2) = 0 by decide] at k3
  have sd := hSd a ha 15 (by omega) hop
  obtain ⟨i, hi, hp⟩ := zTk5 k1
  obtain ⟨g, hg, hq⟩ := (sd 1 (by omega)).2 (by decide)
  exact st_isnull X ⟨hN, ha, hop, hs⟩ hv0 hp hi hq hg
theorem so_16 (hN : N ≤ 60) (ha : a < N) (hs : J 15 0 = nI N) {Jr0 : zJT} {Gr0 : zGT} (hv0 : iRv J G Jr0 Gr0 T m sp n R) (hSd : iSd J T N) (hop : J 16 (4 * a) = nI 16) (hacc : zAcc 16 (J 16 (4 * a + 1)) (J 16 (4 * a + 2)) (J 16 (4 * a + 3)) = true) : zSt X N T a J G m sp n R := by
  obtain ⟨k1, k2, k3, k4⟩ := zAcc_w hacc
  rw [show zkn (3 * 16) = 5 by decide] at k1
  rw [show zkn (3 * 16 + 1) = 3 by decide] at k2
  rw [show zkn (3 * 16 + 2) = 0 by decide] at k3
  have sd := hSd a ha 16 (by omega) hop
  obtain ⟨i, hi, hp⟩ := zTk5 k1
  obtain ⟨g, hg, hq⟩ := (sd 1 (by omega)).2 (by decide)
  exact st_notnull X ⟨hN, ha, hop, hs⟩ hv0 hp hi hq hg
theorem so_17 (hN : N ≤ 60) (ha : a < N) (hs : J 15 0 = nI N) {Jr0 : zJT} {Gr0 : zGT} (hv0 : iRv J G Jr0 Gr0 T m sp n R) (hSd : iSd J T N) (hop : J 16 (4 * a) = nI 17) (hacc : zAcc 17 (J 16 (4 * a + 1)) (J 16 (4 * a + 2)) (J 16 (4 * a + 3)) = true) : zSt X N T a J G m sp n R := by
  obtain ⟨k1, k2, k3, k4⟩ := zAcc_w hacc
  rw [show zkn (3 * 17) = 5 by decide] at k1
  rw [show zkn (3 * 17 + 1) = 5 by decide] at k2
  rw [show zkn (3 * 17 + 2) = 5 by decide] at k3
  have sd := hSd a ha 17 (by omega) hop
  obtain ⟨i, hi, hp⟩ := zTk5 k1
  obtain ⟨j, hj, hq⟩ := zTk5 k2
  obtain ⟨k, hk, hr⟩ := zTk5 k3
  exact st_add X ⟨hN, ha, hop, hs⟩ hv0 hp hi hq hj hr hk
theorem so_18 (hN : N ≤ 60) (ha : a < N) (hs : J 15 0 = nI N) {Jr0 : zJT} {Gr0 : zGT} (hv0 : iRv J G Jr0 Gr0 T m sp n R) (hSd : iSd J T N) (hop : J 16 (4 * a) = nI 18) (hacc : zAcc 18 (J 16 (4 * a + 1)) (J 16 (4 * a + 2)) (J 16 (4 * a + 3)) = true) : zSt X N T a J G m sp n R := by
  obtain ⟨k1, k2, k3, k4⟩ := zAcc_w hacc
  rw [show zkn (3 * 18) = 5 by decide] at k1
  rw [show zkn (3 * 18 + 1) = 7 by decide] at k2
  rw [show zkn (3 * 18 + 2) = 0 by decide] at k3
  have sd := hSd a ha 18 (by omega) hop
  obtain ⟨i, hi, hp⟩ := zTk5 k1
  obtain ⟨w, hw1, hw4, hq⟩ := zTk7 k2
  have hsum := k4 rfl
  rw [hp, hq, nI_sum, i32_le, nI_toInt (by omega), show (16 : Int32).toInt = 16 by decide] at hsum
  exact st_result X ⟨hN, ha, hop, hs⟩ hv0 hp hq hw4 (by omega)
theorem so_19 (hN : N ≤ 60) (ha : a < N) (hs : J 15 0 = nI N) {Jr0 : zJT} {Gr0 : zGT} (hv0 : iRv J G Jr0 Gr0 T m sp n R) (hSd : iSd J T N) (hop : J 16 (4 * a) = nI 19) (hacc : zAcc 19 (J 16 (4 * a + 1)) (J 16 (4 * a + 2)) (J 16 (4 * a + 3)) = true) : zSt X N T a J G m sp n R := by
  obtain ⟨k1, k2, k3, k4⟩ := zAcc_w hacc
  rw [show zkn (3 * 19) = 3 by decide] at k1
  rw [show zkn (3 * 19 + 1) = 0 by decide] at k2
  rw [show zkn (3 * 19 + 2) = 0 by decide] at k3
  have sd := hSd a ha 19 (by omega) hop
  obtain ⟨g, hg, hp⟩ := (sd 0 (by omega)).2 (by decide)
  exact st_goto X ⟨hN, ha, hop, hs⟩ hp hg
theorem so_20 (hN : N ≤ 60) (ha : a < N) (hs : J 15 0 = nI N) {Jr0 : zJT} {Gr0 : zGT} (hv0 : iRv J G Jr0 Gr0 T m sp n R) (hSd : iSd J T N) (hop : J 16 (4 * a) = nI 20) (hacc : zAcc 20 (J 16 (4 * a + 1)) (J 16 (4 * a + 2)) (J 16 (4 * a + 3)) = true) : zSt X N T a J G m sp n R := by
  obtain ⟨k1, k2, k3, k4⟩ := zAcc_w hacc
  rw [show zkn (3 * 20) = 1 by decide] at k1
  rw [show zkn (3 * 20 + 1) = 3 by decide] at k2
  rw [show zkn (3 * 20 + 2) = 6 by decide] at k3
  have sd := hSd a ha 20 (by omega) hop
  obtain ⟨c, hc, hp1⟩ := zTk1 k1
  rcases (hv0.2.2.2 c hc).1 with ⟨hsh, _⟩ | ⟨t, ht, e, _⟩
  · exact st_shut X hN ha (by omega) (by omega) (by decide) (by decide) hop hs hp1 hc hsh
  have hat : iAt J N a 20 c t := ⟨hN, ha, hop, hs, hp1, hc, by have := hv0.1.1.1; omega, e⟩
  obtain ⟨g, hg, hq⟩ := (sd 1 (by omega)).2 (by decide)
  obtain ⟨i, hi, hr⟩ := zTk6 k3
  exact st_insert X hat hv0 hq hg hr hi
theorem so_21 (hN : N ≤ 60) (ha : a < N) (hs : J 15 0 = nI N) {Jr0 : zJT} {Gr0 : zGT} (hv0 : iRv J G Jr0 Gr0 T m sp n R) (hSd : iSd J T N) (hop : J 16 (4 * a) = nI 21) (hacc : zAcc 21 (J 16 (4 * a + 1)) (J 16 (4 * a + 2)) (J 16 (4 * a + 3)) = true) : zSt X N T a J G m sp n R := by
  obtain ⟨k1, k2, k3, k4⟩ := zAcc_w hacc
  rw [show zkn (3 * 21) = 1 by decide] at k1
  rw [show zkn (3 * 21 + 1) = 0 by decide] at k2
  rw [show zkn (3 * 21 + 2) = 0 by decide] at k3
  have sd := hSd a ha 21 (by omega) hop
  obtain ⟨c, hc, hp1⟩ := zTk1 k1
  rcases (hv0.2.2.2 c hc).1 with ⟨hsh, _⟩ | ⟨t, ht, e, _⟩
  · exact st_shut X hN ha (by omega) (by omega) (by decide) (by decide) hop hs hp1 hc hsh
  have hat : iAt J N a 21 c t := ⟨hN, ha, hop, hs, hp1, hc, by have := hv0.1.1.1; omega, e⟩
  exact st_delete X hat hv0
theorem so_all (hN : N ≤ 60) (ha : a < N) (hs : J 15 0 = nI N) {Jr0 : zJT} {Gr0 : zGT} (hv0 : iRv J G Jr0 Gr0 T m sp n R) (hSd : iSd J T N) (o : Nat) (ho : o < 22) (hop : J 16 (4 * a) = nI o) (hacc : zAcc o (J 16 (4 * a + 1)) (J 16 (4 * a + 2)) (J 16 (4 * a + 3)) = true) : zSt X N T a J G m sp n R := by
  have h9 : o = 0 ∨ o = 1 ∨ o = 2 ∨ o = 3 ∨ o = 4 ∨ o = 5 ∨ o = 6 ∨ o = 7 ∨ o = 8 ∨ o = 9 ∨ o = 10 ∨ o = 11 ∨ o = 12 ∨ o = 13 ∨ o = 14 ∨ o = 15 ∨ o = 16 ∨ o = 17 ∨ o = 18 ∨ o = 19 ∨ o = 20 ∨ o = 21 := by omega
  rcases h9 with h9 | h9 | h9 | h9 | h9 | h9 | h9 | h9 | h9 | h9 | h9 | h9 | h9 | h9 | h9 | h9 | h9 | h9 | h9 | h9 | h9 | h9
  · subst h9; exact so_0 X hN ha hs hv0 hSd hop hacc
  · subst h9; exact so_1 X hN ha hs hv0 hSd hop hacc
  · subst h9; exact so_2 X hN ha hs hv0 hSd hop hacc
  · subst h9; exact so_3 X hN ha hs hv0 hSd hop hacc
  · subst h9; exact so_4 X hN ha hs hv0 hSd hop hacc
  · subst h9; exact so_5 X hN ha hs hv0 hSd hop hacc
  · subst h9; exact so_6 X hN ha hs hv0 hSd hop hacc
  · subst h9; exact so_7 X hN ha hs hv0 hSd hop hacc
  · subst h9; exact so_8 X hN ha hs hv0 hSd hop hacc
  · subst h9; exact so_9 X hN ha hs hv0 hSd hop hacc
  · subst h9; exact so_10 X hN ha hs hv0 hSd hop hacc
  · subst h9; exact so_11 X hN ha hs hv0 hSd hop hacc
  · subst h9; exact so_12 X hN ha hs hv0 hSd hop hacc
  · subst h9; exact so_13 X hN ha hs hv0 hSd hop hacc
  · subst h9; exact so_14 X hN ha hs hv0 hSd hop hacc
  · subst h9; exact so_15 X hN ha hs hv0 hSd hop hacc
  · subst h9; exact so_16 X hN ha hs hv0 hSd hop hacc
  · subst h9; exact so_17 X hN ha hs hv0 hSd hop hacc
  · subst h9; exact so_18 X hN ha hs hv0 hSd hop hacc
  · subst h9; exact so_19 X hN ha hs hv0 hSd hop hacc
  · subst h9; exact so_20 X hN ha hs hv0 hSd hop hacc
  · subst h9; exact so_21 X hN ha hs hv0 hSd hop hacc
end
