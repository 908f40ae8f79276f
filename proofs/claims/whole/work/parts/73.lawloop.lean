set_option maxRecDepth 100000 in
set_option maxHeartbeats 4000000 in
theorem law_body (X : zX) {L q k j : Nat} {xs : Nat → Int32} {J : zJT} {G : zGT} (hI : zIv J G) (hq : 5 * q + 5 ≤ L) (hL : L ≤ 2560) (hk : k ≤ 5000) (hj : j ≤ 50000) (kk : ∀ k1 j1 J1 G1, k1 ≤ k + 1 → j1 ≤ j + 6 → zIv J1 G1 → zJ X room_1 m_Law_law (zLq X L xs) false k1 j1 (hp J1 G1) 60 1462 [(0, .ref 901), (1, .ref 0), (2, .ref 40), (3, .ref 59), (4, .int (nI (5 * q)))] []) : zJ X room_1 m_Law_law (zLq X L xs) false k j (hp J G) 60 32 [(0, .ref 901), (1, .ref 0), (2, .ref 40), (3, .ref 59), (4, .int (nI (5 * q)))] [] := by
  refine z_aload_n d_Law_law_32 rfl ?_
  refine z_iload d_Law_law_33 rfl ?_
  refine z_sld d_Law_law_35 (t := 5 * q) ⟨rfl, by omega, by omega⟩ ?_
  refine z_bipush (v := 31) d_Law_law_36 (by decide) ?_
  refine z_iand d_Law_law_38 ?_
  rcases x_ix (xs (5 * q) &&& 31) (b := 19) (k := 19) rfl (by omega) with ⟨_, c, hc, e⟩ | ⟨_, hv⟩
  case inr => exact z_tableOut d_Law_law_39 1462 (by omega) (by decide) (kk k j J G (by omega) (by omega) hI)
  rw [e]
  have h9 : c = 0 ∨ c = 1 ∨ c = 2 ∨ c = 3 ∨ c = 4 ∨ c = 5 ∨ c = 6 ∨ c = 7 ∨ c = 8 ∨ c = 9 ∨ c = 10 ∨ c = 11 ∨ c = 12 ∨ c = 13 ∨ c = 14 ∨ c = 15 ∨ c = 16 ∨ c = 17 ∨ c = 18 := by omega
  rcases h9 with h9 | h9 | h9 | h9 | h9 | h9 | h9 | h9 | h9 | h9 | h9 | h9 | h9 | h9 | h9 | h9 | h9 | h9 | h9
  · subst h9
    refine z_tableIn (off := 89) d_Law_law_39 128 (by decide) (by decide) (by decide) (by decide) ?_
    exact lc_0 X hI hq hL hk hj kk
  · subst h9
    refine z_tableIn (off := 145) d_Law_law_39 184 (by decide) (by decide) (by decide) (by decide) ?_
    by_cases ho : (xs (5 * q + 2)) = 0
    · exact lc_1f X hI hq hL hk hj kk ho
    · exact lc_1t X hI hq hL hk hj kk ho
  · subst h9
    refine z_tableIn (off := 242) d_Law_law_39 281 (by decide) (by decide) (by decide) (by decide) ?_
    exact lc_2 X hI hq hL hk hj kk
  · subst h9
    refine z_tableIn (off := 349) d_Law_law_39 388 (by decide) (by decide) (by decide) (by decide) ?_
    exact lc_3 X hI hq hL hk hj kk
  · subst h9
    refine z_tableIn (off := 456) d_Law_law_39 495 (by decide) (by decide) (by decide) (by decide) ?_
    exact lc_4 X hI hq hL hk hj kk
  · subst h9
    refine z_tableIn (off := 481) d_Law_law_39 520 (by decide) (by decide) (by decide) (by decide) ?_
    by_cases ho : (xs (5 * q + 4)) = 0
    · exact lc_5f X hI hq hL hk hj kk ho
    · exact lc_5t X hI hq hL hk hj kk ho
  · subst h9
    refine z_tableIn (off := 608) d_Law_law_39 647 (by decide) (by decide) (by decide) (by decide) ?_
    exact lc_6 X hI hq hL hk hj kk
  · subst h9
    refine z_tableIn (off := 719) d_Law_law_39 758 (by decide) (by decide) (by decide) (by decide) ?_
    exact lc_7 X hI hq hL hk hj kk
  · subst h9
    refine z_tableIn (off := 838) d_Law_law_39 877 (by decide) (by decide) (by decide) (by decide) ?_
    exact lc_8 X hI hq hL hk hj kk
  · subst h9
    refine z_tableIn (off := 930) d_Law_law_39 969 (by decide) (by decide) (by decide) (by decide) ?_
    exact lc_9 X hI hq hL hk hj kk
  · subst h9
    refine z_tableIn (off := 941) d_Law_law_39 980 (by decide) (by decide) (by decide) (by decide) ?_
    exact lc_10 X hI hq hL hk hj kk
  · subst h9
    refine z_tableIn (off := 1009) d_Law_law_39 1048 (by decide) (by decide) (by decide) (by decide) ?_
    exact lc_11 X hI hq hL hk hj kk
  · subst h9
    refine z_tableIn (off := 1065) d_Law_law_39 1104 (by decide) (by decide) (by decide) (by decide) ?_
    exact lc_12 X hI hq hL hk hj kk
  · subst h9
    refine z_tableIn (off := 1132) d_Law_law_39 1171 (by decide) (by decide) (by decide) (by decide) ?_
    exact lc_13 X hI hq hL hk hj kk
  · subst h9
    refine z_tableIn (off := 1207) d_Law_law_39 1246 (by decide) (by decide) (by decide) (by decide) ?_
    exact lc_14 X hI hq hL hk hj kk
  · subst h9
    refine z_tableIn (off := 1244) d_Law_law_39 1283 (by decide) (by decide) (by decide) (by decide) ?_
    exact lc_15 X hI hq hL hk hj kk
  · subst h9
    refine z_tableIn (off := 1281) d_Law_law_39 1320 (by decide) (by decide) (by decide) (by decide) ?_
    exact lc_16 X hI hq hL hk hj kk
  · subst h9
    refine z_tableIn (off := 1342) d_Law_law_39 1381 (by decide) (by decide) (by decide) (by decide) ?_
    exact lc_17 X hI hq hL hk hj kk
  · subst h9
    refine z_tableIn (off := 1379) d_Law_law_39 1418 (by decide) (by decide) (by decide) (by decide) ?_
    exact lc_18 X hI hq hL hk hj kk
theorem l5_lt {L q : Nat} (hL : L ≤ 2560) (hq : 5 * q ≤ 5000) : (nI L - 5 < nI (5 * q)) ↔ ¬ 5 * q + 5 ≤ L := by
  rw [i32_lt, nI_toInt (n := 5 * q) (by omega)]
  have e : (nI L - 5).toInt = (L : Int) - 5 := by
    by_cases h : 5 ≤ L
    · have : nI L - 5 = nI (L - 5) := by
        have h2 := nI_sum (L - 5) 5
        rw [show L - 5 + 5 = L by omega] at h2
        rw [← h2]
        exact Int32.add_sub_cancel _ _
      rw [this, nI_toInt (by omega)]; omega
    · have : L = 0 ∨ L = 1 ∨ L = 2 ∨ L = 3 ∨ L = 4 := by omega
      rcases this with h | h | h | h | h <;> subst h <;> decide
  rw [e]; omega
set_option maxRecDepth 100000 in
set_option maxHeartbeats 4000000 in
theorem law_loop (X : zX) {L : Nat} (hL : L ≤ 2560) {xs : Nat → Int32} : ∀ rem q k j J G, 513 ≤ q + rem → q ≤ 513 → k ≤ 60 + q → j ≤ 10000 + 6 * q → zIv J G → zJ X room_1 m_Law_law (zLq X L xs) false k j (hp J G) 60 23 [(0, .ref 901), (1, .ref 0), (2, .ref 40), (3, .ref 59), (4, .int (nI (5 * q)))] [] := by
  intro rem
  induction rem with
  | zero =>
    intro q k j J G hr hq5 hk hj hI
    refine z_iload d_Law_law_23 rfl ?_
    refine z_aload_n d_Law_law_25 rfl ?_
    refine z_slen d_Law_law_26 ?_
    refine z_iconst (v := 5) d_Law_law_27 (by decide) ?_
    refine z_isub d_Law_law_28 ?_
    refine z_icmp_gt d_Law_law_29 1468 (by decide) (fun _ => ?_) (fun h9 => absurd ((l5_lt hL (by omega)).2 (by omega)) h9)
    refine z_iconst (v := 1) d_Law_law_1468 (by decide) ?_
    exact z_lawret d_Law_law_1469 (by omega) (by omega)
  | succ rem ih =>
    intro q k j J G hr hq5 hk hj hI
    refine z_iload d_Law_law_23 rfl ?_
    refine z_aload_n d_Law_law_25 rfl ?_
    refine z_slen d_Law_law_26 ?_
    refine z_iconst (v := 5) d_Law_law_27 (by decide) ?_
    refine z_isub d_Law_law_28 ?_
    refine z_icmp_gt d_Law_law_29 1468 (by decide) (fun _ => ?_) (fun h9 => ?_)
    · refine z_iconst (v := 1) d_Law_law_1468 (by decide) ?_
      exact z_lawret d_Law_law_1469 (by omega) (by omega)
    · have hq : 5 * q + 5 ≤ L := Decidable.byContradiction (fun h8 => h9 ((l5_lt hL (by omega)).2 h8))
      refine law_body X hI hq hL (by omega) (by omega) (fun k1 j1 J1 G1 h1 h2 hI1 => ?_)
      refine z_iinc (lv' := [(0, .ref 901), (1, .ref 0), (2, .ref 40), (3, .ref 59), (4, .int (nI (5 * (q + 1))))]) d_Law_law_1462 (by decide) rfl (show _ + Int32.ofInt 5 = nI (5 * (q + 1)) from nI_sum (5 * q) 5) rfl ?_
      refine z_goto d_Law_law_1465 23 (by decide) ?_
      exact ih (q + 1) k1 j1 J1 G1 (by omega) (by omega) (by omega) (by omega) hI1
set_option maxRecDepth 100000 in
set_option maxHeartbeats 4000000 in
theorem law_start (X : zX) {L : Nat} (hL : L ≤ 2560) {xs : Nat → Int32} (h : zH) : zJ X room_1 m_Law_law (zLq X L xs) true 0 0 h 0 0 [(0, .ref 901)] [] := by
  refine z_new d_Law_law_0 n_0 k_Law_8 (by omega) (Nat.le_of_ble_eq_true rfl) (Nat.le_of_ble_eq_true rfl) ?_
  refine z_dup d_Law_law_3 rfl ?_
  refine z_callI d_Law_law_4 g_Law_63 (c_TM_init X rfl) rfl ⟨Nat.le_of_ble_eq_true rfl, Nat.le_of_ble_eq_true rfl, Nat.le_of_ble_eq_true rfl, Nat.le_of_ble_eq_true rfl⟩ rfl (Nat.le_of_ble_eq_true rfl) rfl (by omega) ?_
  refine z_astore_n (lv' := [(0, _), (1, _)]) d_Law_law_7 (by decide) rfl ?_
  refine z_new d_Law_law_8 n_9 k_Law_64 (by omega) (Nat.le_of_ble_eq_true rfl) (Nat.le_of_ble_eq_true rfl) ?_
  refine z_dup d_Law_law_11 rfl ?_
  refine z_callI d_Law_law_12 g_Law_66 (c_Mod_init X rfl) rfl ⟨Nat.le_of_ble_eq_true rfl, Nat.le_of_ble_eq_true rfl, Nat.le_of_ble_eq_true rfl, Nat.le_of_ble_eq_true rfl⟩ rfl (Nat.le_of_ble_eq_true rfl) rfl (by omega) ?_
  refine z_astore_n (lv' := [(0, _), (1, _), (2, _)]) d_Law_law_15 (by decide) rfl ?_
  refine z_iconst (v := 1) d_Law_law_16 (by decide) ?_
  refine z_newl (N := 1) d_Law_law_17 q_l (by omega) (by omega) (Nat.le_of_ble_eq_true rfl) (Nat.le_of_ble_eq_true rfl) ?_
  refine z_astore_n (lv' := [(0, _), (1, _), (2, _), (3, _)]) d_Law_law_19 (by decide) rfl ?_
  refine z_iconst (v := 0) d_Law_law_20 (by decide) ?_
  refine z_istore (lv' := [(0, _), (1, _), (2, _), (3, _), (4, _)]) d_Law_law_21 (by decide) rfl ?_
  refine z_old (z_hext (h' := hp zJ0 zG0) (fun i hi => ?_) ?_)
  · by_cases e : i = 59
    · subst e; rfl
    · rw [zu_n e]
      by_cases e2 : 40 ≤ i
      · simp only [zhx]
        rw [if_pos (by omega)]; rfl
      · simp only [zhx]
        rw [if_neg (by omega), zu_n (by omega)]
        simp only [zhx]
        rw [if_pos (by omega)]; rfl
  · exact z_loc (lv' := [(0, .ref 901), (1, .ref 0), (2, .ref 40), (3, .ref 59), (4, .int (nI (5 * 0)))]) (by simp [nI_0]) (law_loop X hL 513 0 _ _ zJ0 zG0 (by omega) (by omega) (by omega) (by omega) (zIv_0 zG0 (fun _ _ _ => rfl)))
