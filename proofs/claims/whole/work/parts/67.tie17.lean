theorem rPg_f (J : zJT) (jo : Bool) (n mo : Nat) (p0 n0 p1 n1 q1 r1 : Int32) : rPg J false jo n mo p0 n0 p1 n1 = rPg J false jo n mo p0 n0 q1 r1 := by simp only [rPg, Bool.false_eq_true, if_false]
theorem i_compile (X : zX) (J : zJT) (G : zGT) (h : zIv J G) : zCallI X m_Law_compile h_Law_compile [.ref 0, .ref 59] m_Mod_compile [.ref 40] J G := by
  obtain ⟨T, m, sp, n, hH, N, R, nc, mo, mc, jo, h1, h2, h3, h4, h5⟩ := id h
  obtain ⟨⟨q1, q2, q3⟩, ⟨q4, q5, q6, q7⟩, ⟨q8, q9, q10⟩, q11, q12, q13, q14, q15, q16⟩ := id h4
  have hT := hH.1.1
  by_cases hm0 : mo = 0
  · subst hm0
    exact ⟨1, 1, 6, J, G, 0, 4, _, _, by omega, by omega, by omega, w_compile_S X J G (by omega) (t_TM_compile X J G q5), c_Mod_compile0 X J G (Or.inr q8), rTh_0, fun h9 => absurd h9 (by decide), zIv_t h 1⟩
  have hnc : nc = 1 ∨ nc = 2 := by omega
  obtain ⟨two, htwo⟩ : ∃ two : Bool, nc = if two = true then 2 else 1 := by
    rcases hnc with e | e
    · exact ⟨false, by simp [e]⟩
    · exact ⟨true, by simp [e]⟩
  obtain ⟨t, ht, ht1, ht2⟩ := q11 0 (by omega)
  have hu : two = true → ∃ u, u < T ∧ J 33 1 = nI u ∧ J 40 24 = nI u := fun e => by
    rw [e, if_pos rfl] at htwo
    exact q11 1 (by omega)
  have hf : ¬ J 40 23 < 0 := by rw [show J 40 23 = nI t from ht2]; exact nI_pos (by omega)
  have hs : two = true ↔ ¬ J 40 24 < 0 := by
    constructor
    · intro e
      obtain ⟨u, h8, _, h9⟩ := hu e
      rw [h9]; exact nI_pos (by omega)
    · intro e
      cases two
      · rw [if_neg (by decide)] at htwo
        rw [show J 40 24 = -1 from q12 1 (by omega) (by omega)] at e
        exact absurd m1_lt0 e
      · rfl
  have hjo2 : jo = true → nc = 2 ∧ J 32 11 = J 40 30 ∧ J 32 12 = J 40 31 ∧ iCk (J 32 11) ∧ iCk (J 32 12) := q16
  have hcn : iCn J J mc := fun i hi => ⟨(q15 i hi).1, (q15 i hi).2.2.2⟩
  have hhh : rHh J mc := fun k hk => ⟨(iCn_hw hcn hk).1, (iCn_hw hcn hk).2.1⟩
  have hout : ∀ i, i < mo → J 34 i = J 57 (2 * i) ∧ J 35 i = J 57 (2 * i + 1) := fun i hi => ⟨(q14 i hi).1, (q14 i hi).2.1⟩
  have hQ := fun (len : Int32) => qProg_r (J := J) (Jr := J) (two := two) (jo := jo) (nc := nc) hcn hout (ht1.trans ht2.symm) (fun e => by obtain ⟨u, _, e1, e2⟩ := hu e; rw [e1, e2]) htwo (fun e => ⟨(hjo2 e).2.1, (hjo2 e).2.2.1⟩) len
  have hlen : (qProg J 0 nc mc mo jo).length = rNz J two jo mc mo + 2 := by rw [hQ, List.length_map, rPg_l hhh]
  have hle := rNz_le J two jo q3 q2
  have htm := c_TM_compile X J G q6 q3 q5 (by omega) q2 q4 q1 q7
  have hc2 : qProg (zwr J (qProg J 0 nc mc mo jo)) (nI (qProg J 0 nc mc mo jo).length) nc mc mo jo = (rPg J two jo mc mo (nI (rNz J two jo mc mo) + 1) (nI (rNz J two jo mc mo)) (nI (rNz J two jo mc mo)) (nI (rNx J two jo mc mo))).map rF := by
    rw [qProg_c (J := J) (fun a h1 h2 => by rw [zwr, zu_n (by omega), zu_n (by omega)]), hQ, hlen]
    have e1 : nI (rNz J two jo mc mo + 2) - 1 = nI (rNz J two jo mc mo) + 1 := by rw [show rNz J two jo mc mo + 2 = rNz J two jo mc mo + 1 + 1 from rfl, nI_pred, nI_succ]
    have e2 : nI (rNz J two jo mc mo) + 1 - 1 = nI (rNz J two jo mc mo) := by rw [← nI_succ, nI_pred]
    rw [e1, e2]
    congr 1
    cases two
    · exact rPg_f _ _ _ _ _ _ _ _ _ _
    · have e3 : nI (rNz J true jo mc mo) - 1 = nI (rNx J true jo mc mo) := by rw [rNz, if_pos rfl, nI_pred]
      rw [e3]
  rw [hc2] at htm
  generalize hLd : rPg J two jo mc mo (nI (rNz J two jo mc mo) + 1) (nI (rNz J two jo mc mo)) (nI (rNz J two jo mc mo)) (nI (rNx J two jo mc mo)) = L at htm hc2
  have hLl : L.length = rNz J two jo mc mo + 2 := by rw [← hLd, rPg_l hhh]
  have hok : iOks L := by
    have hnx : rNx J two jo mc mo ≤ rNz J two jo mc mo := by rw [rNz]; split <;> omega
    obtain ⟨u, hu3⟩ : ∃ u, two = true → u < 3 ∧ J 40 24 = nI u := by
      cases two
      · exact ⟨0, fun e => by cases e⟩
      · obtain ⟨u, e1, _, e2⟩ := hu rfl
        exact ⟨u, fun _ => ⟨by omega, e2⟩⟩
    rw [← hLd, ← nI_succ]
    refine ok_pg two jo hhh q3 (fun k hk => ?_) (by omega) q2 (fun i hi => ?_) (show t < 3 by omega) ht2 hu3 (fun e => ?_) (by omega) (by omega) (by omega) (by omega)
    · rw [← (q15 k hk).1.2.1]; exact (q15 k hk).2.2.1
    · obtain ⟨e1, e2, ⟨c, hc, e3⟩, e4⟩ := q14 i hi
      rw [← e1, ← e2]
      exact ⟨⟨c, by omega, e3⟩, e4⟩
    · obtain ⟨_, e1, e2, e3, e4⟩ := hjo2 e
      rw [← e1, ← e2]; exact ⟨e3, e4⟩
  rw [List.length_map] at htm
  have hz : ∀ a, a ≠ 15 → a ≠ 16 → zwr (zwr J (qProg J 0 nc mc mo jo)) (L.map rF) a = J a := fun a h15 h16 => by rw [zwr, zu_n h15, zu_n h16, zwr, zu_n h15, zu_n h16]
  generalize hJ1 : zwr (zwr J (qProg J 0 nc mc mo jo)) (L.map rF) = J1 at htm hz
  have hE : ∀ a, 40 ≤ a → J1 a = J a := fun a ha => hz a (by omega) (by omega)
  have hM := fun (G1 : zGT) => c_Mod_compile X J1 G1 (n := mc) (mo := mo) two jo (by rw [hE 40 (by omega)]; exact q9) q3 (by rw [hE 40 (by omega)]; exact q8) (by omega) q2 (fun k hk => by rw [rHw, hE 58 (by omega)]; exact hhh k hk) (by rw [hE 40 (by omega)]; exact hf) (by rw [hE 40 (by omega)]; exact hs) (by rw [hE 40 (by omega)]; exact q10)
  rw [rNz_c (hE 58 (by omega)), rNx_c (hE 58 (by omega)), rPg_c (hE 58 (by omega)) (hE 57 (by omega)) (fun i _ => by rw [hE 40 (by omega)]), hLd, ← hLl] at hM
  have hZ : ∀ a, a ≠ 40 → rZ J1 a = J1 a := fun a ha => by rw [rZ, zu_n ha, rTh_n ha]
  have hZ4 : ∀ i, i ≠ 0 → i ≠ 10 → rZ J1 40 i = J 40 i := fun i i0 i1 => by rw [rZ, zu_e, zu_n i1, rTh_i i0, hE 40 (by omega)]
  have hW : ∀ a, a ≠ 48 → a ≠ 40 → rwr (rZ J1) 0 L a = J1 a := fun a h1 h2 => by rw [rwr_n _ _ _ h1 h2, hZ a h2]
  have hW4 : ∀ i, i ≠ 0 → i ≠ 10 → rwr (rZ J1) 0 L 40 i = J 40 i := fun i i0 i1 => by rw [rwr_f _ _ _ i1, hZ4 i i0 i1]
  have hsz : rwr (rZ J1) 0 L 40 10 = nI L.length := by
    have := rwr_sz (rZ J1) 0 L (by rw [rZ, zu_e, zu_e]; rfl)
    rwa [Nat.zero_add] at this
  refine ⟨0, 0, 0, _, _, _, 4, _, _, by omega, by omega, by omega, w_compile X J G (by omega) _ htm, hM _, ?_, fun _ => ?_, T, m, sp, n, iH_c hH ?_ ?_ (fun a _ _ => ?_) rfl rfl ?_ ?_ ?_ ?_ ?_ rfl rfl, L.length, R, nc, mo, mc, jo, iPr_wr (Jq := rZ J1) (f := zwr J (qProg J 0 nc mc mo jo) 16) hok (by omega) ?_ ?_ hsz rfl, iRs_c h2 ?_ ?_ ?_ rfl ?_ ?_ ?_ rfl, iCm_c h3 ?_ rfl ?_ rfl, iQu_c h4 (Nat.le_refl _) (fun a _ _ => ?_) (fun i _ _ => hW4 i (by omega) (by omega)) ?_ ?_, iRg_c h5 ?_ rfl ?_ rfl⟩
  · rw [rwr_f _ _ _ (by omega), rZ, zu_e, zu_n (by omega), rTh_0]
  · rw [zu_e, vu_e]
  · rw [hW 2 (by omega) (by omega), hz 2 (by omega) (by omega)]
  · rw [hW 2 (by omega) (by omega), hz 2 (by omega) (by omega)]
  · rw [hW a (by omega) (by omega), hz a (by omega) (by omega)]
  · exact hW4 1 (by omega) (by omega)
  · exact hW4 3 (by omega) (by omega)
  · rw [hW _ (by omega) (by omega), hz _ (by omega) (by omega)]
  · rw [hW _ (by omega) (by omega), hz _ (by omega) (by omega)]
  · rw [hW _ (by omega) (by omega), hz _ (by omega) (by omega)]
  · rw [hW 15 (by omega) (by omega), ← hJ1, zwr, zu_e, zu_e, List.length_map]
  · rw [hW 16 (by omega) (by omega), ← hJ1, zwr, zu_n (by omega), zu_e]
  · rw [hW 17 (by omega) (by omega), hz 17 (by omega) (by omega)]
  · rw [hW _ (by omega) (by omega), hz _ (by omega) (by omega)]
  · rw [hW _ (by omega) (by omega), hz _ (by omega) (by omega)]
  · exact hW4 19 (by omega) (by omega)
  · rw [hW _ (by omega) (by omega), hz _ (by omega) (by omega)]
  · rw [hW _ (by omega) (by omega), hz _ (by omega) (by omega)]
  · rw [hW _ (by omega) (by omega), hz _ (by omega) (by omega)]
  · rw [hW _ (by omega) (by omega), hz _ (by omega) (by omega)]
  · rw [hW _ (by omega) (by omega), hz _ (by omega) (by omega)]
  · rw [hW _ (by omega) (by omega), hz _ (by omega) (by omega)]
  · rw [hW _ (by omega) (by omega), hz _ (by omega) (by omega)]
  · rw [hW _ (by omega) (by omega), hz _ (by omega) (by omega)]
  · rw [hW _ (by omega) (by omega), hz _ (by omega) (by omega)]
