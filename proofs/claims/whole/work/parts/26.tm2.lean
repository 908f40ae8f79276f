set_option maxRecDepth 100000 in
set_option maxHeartbeats 4000000 in
theorem c_TM_compile (X : zX) (J : zJT) (G : zGT) {m mo nc : Nat} {jo : Bool} (hm : J 32 2 = nI m) (hm4 : m ≤ 4) (ho : J 32 1 = nI mo) (ho1 : 0 < mo) (ho4 : mo ≤ 4) (hc : J 32 3 = nI nc) (hc1 : nc ≤ 2) (hj : J 32 10 = zb jo) : zK X 6 m_TM_compile [.ref 0] J G (some (.int (nI (qProg (zwr J (qProg J 0 nc m mo jo)) (nI (qProg J 0 nc m mo jo).length) nc m mo jo).length))) (zwr (zwr J (qProg J 0 nc m mo jo)) (qProg (zwr J (qProg J 0 nc m mo jo)) (nI (qProg J 0 nc m mo jo).length) nc m mo jo)) G := by
  refine zC_of (by decide) (Nat.le_of_ble_eq_true rfl) ?_
  refine z_aload_n d_TM_compile_0 rfl ?_
  refine z_get d_TM_compile_1 f_TM_43 (by decide) rfl rfl ?_
  refine z_get d_TM_compile_4 f_TM_197 (by decide) rfl rfl ?_
  refine z_if_ne d_TM_compile_7 20 (by decide) (fun _ => ?_) (fun h9 => absurd h9 (by rw [ho]; exact nI_ne0 ho1 (by omega)))
  refine z_aload_n d_TM_compile_20 rfl ?_
  refine z_get d_TM_compile_21 f_TM_43 (by decide) rfl rfl ?_
  refine z_aload_n d_TM_compile_24 rfl ?_
  refine z_get d_TM_compile_25 f_TM_25 (by decide) rfl rfl ?_
  refine z_iconst (v := 0) d_TM_compile_28 (by decide) ?_
  refine z_callV0 d_TM_compile_29 g_TM_217 (c_Que_writeTo X J G hm hm4 ho ho4 hc hc1 hj 0) (by decide) rfl rfl rfl ⟨by decide, by decide, by decide, by decide⟩ rfl (Nat.le_of_ble_eq_true rfl) ?_
  refine z_aload_n d_TM_compile_32 rfl ?_
  refine z_get d_TM_compile_33 f_TM_43 (by decide) rfl rfl ?_
  refine z_aload_n d_TM_compile_36 rfl ?_
  refine z_get d_TM_compile_37 f_TM_25 (by decide) rfl rfl ?_
  refine z_aload_n d_TM_compile_40 rfl ?_
  refine z_get d_TM_compile_41 f_TM_25 (by decide) rfl rfl ?_
  refine z_get d_TM_compile_44 f_TM_148 (by decide) rfl rfl ?_
  rw [zwr_sz]
  refine z_callV0 d_TM_compile_47 g_TM_217 (c_Que_writeTo X (zwr J (qProg J 0 nc m mo jo)) G (by rw [zwr_n J _ (show (32 : Nat) ≠ 15 ∧ (32 : Nat) ≠ 16 by decide)]; exact hm) hm4 (by rw [zwr_n J _ (show (32 : Nat) ≠ 15 ∧ (32 : Nat) ≠ 16 by decide)]; exact ho) ho4 (by rw [zwr_n J _ (show (32 : Nat) ≠ 15 ∧ (32 : Nat) ≠ 16 by decide)]; exact hc) hc1 (by rw [zwr_n J _ (show (32 : Nat) ≠ 15 ∧ (32 : Nat) ≠ 16 by decide)]; exact hj) (nI (qProg J 0 nc m mo jo).length)) (by decide) rfl rfl rfl ⟨by decide, by decide, by decide, by decide⟩ rfl (Nat.le_of_ble_eq_true rfl) ?_
  refine z_aload_n d_TM_compile_50 rfl ?_
  refine z_get d_TM_compile_51 f_TM_25 (by decide) rfl rfl ?_
  refine z_get d_TM_compile_54 f_TM_148 (by decide) rfl rfl ?_
  exact z_iret d_TM_compile_57 rfl (by decide) (by decide) (zwr_sz _ _) rfl
/-- the operand w of the instruction k names what is there -/
def zok (J : zJT) (n : Nat) (tc : Int32) (k w : Nat) : Prop := ∀ o, o < 22 → J 16 (4 * k) = nI o → (zkn (3 * o + w) = 2 → J 16 (4 * k + (w + 1)) < tc) ∧ (zkn (3 * o + w) = 3 → J 16 (4 * k + (w + 1)) ≤ nI n)
set_option maxRecDepth 100000 in
set_option maxHeartbeats 4000000 in
theorem l_Pro_inner (X : zX) (J : zJT) (G : zGT) {n : Nat} (hn : J 15 0 = nI n) (hn6 : n ≤ 60) (hop : ∀ k, k < n → ∃ o, o < 22 ∧ J 16 (4 * k) = nI o) (tc : Int32) (b : Bool) (hb : b = true ↔ ∀ k, k < n → ∀ w, w < 3 → zok J n tc k w) {k : Nat} (hk : k < n) (kk : (∀ w, w < 3 → zok J n tc k w) → zJ X (zR 1 0 0) m_Pro_isSound (zRet X 0 0 false (some (.int (zb b))) (hp J G) 60) false 0 0 (hp J G) 60 2 [(0, .ref 15), (1, .int tc), (2, .int (nI (k + 1)))] []) : ∀ rem w, 3 - w = rem → w ≤ 3 → (∀ w', w' < w → zok J n tc k w') → zJ X (zR 1 0 0) m_Pro_isSound (zRet X 0 0 false (some (.int (zb b))) (hp J G) 60) false 0 0 (hp J G) 60 12 [(0, .ref 15), (1, .int tc), (2, .int (nI k)), (3, .int (nI (w + 1)))] [] := by
  obtain ⟨o, ho22, ho⟩ := hop k hk
  have oo : ∀ o', o' < 22 → J 16 (4 * k) = nI o' → o' = o := fun o' h h' => (nI_eq (by omega) (by omega)).mp (h'.symm.trans ho)
  intro rem
  induction rem with
  | zero =>
    intro w hr hw3 hw
    refine z_iload_n d_Pro_isSound_12 rfl ?_
    refine z_iconst (v := 4) d_Pro_isSound_13 (by decide) ?_
    refine z_icmp_ge d_Pro_isSound_14 76 (by decide) (fun _ => ?_) (fun h9 => absurd (nI_le (show 4 ≤ w + 1 by omega) (by omega)) h9)
    refine z_iinc (lv' := [(0, _), (1, _), (3, _), (2, _)]) d_Pro_isSound_76 (by decide) rfl (show _ + Int32.ofInt 1 = nI (k + 1) from nI_1 _) rfl ?_
    refine z_goto d_Pro_isSound_79 2 (by decide) ?_
    exact z_loc (lv' := [(0, .ref 15), (1, .int tc), (2, .int (nI (k + 1)))]) (by simp) (kk (fun w' hw' => hw w' (by omega)))
  | succ rem ih =>
    intro w hr hw3 hw
    have hz := (zkn_ok (3 * o + w) (by omega)).2
    refine z_iload_n d_Pro_isSound_12 rfl ?_
    refine z_iconst (v := 4) d_Pro_isSound_13 (by decide) ?_
    refine z_icmp_ge d_Pro_isSound_14 76 (by decide) (fun h9 => absurd h9 (nI_ge (show w + 1 < 4 by omega) (by decide))) (fun _ => ?_)
    refine z_aload_n d_Pro_isSound_17 rfl ?_
    refine z_iload_n d_Pro_isSound_18 rfl ?_
    refine z_iconst (v := 0) d_Pro_isSound_19 (by decide) ?_
    refine z_callV1 d_Pro_isSound_20 g_Pro_19 (c_Pro_word (w := 0) X (show k < 60 by omega) (by omega) J G) (by omega) rfl rfl rfl ⟨by decide, by decide, by decide, by decide⟩ rfl (Nat.le_of_ble_eq_true rfl) ?_
    refine z_iload_n d_Pro_isSound_23 rfl ?_
    refine z_iconst (v := 1) d_Pro_isSound_24 (by decide) ?_
    refine z_isub d_Pro_isSound_25 ?_
    rw [show J 16 (4 * k + 0) = nI o from ho, nI_pred]
    refine z_callS1 d_Pro_isSound_26 g_Pro_23 (c_Op_kind2 X ho22 (show w < 3 by omega) J G) rfl ⟨by decide, by decide, by decide, by decide⟩ rfl (Nat.le_of_ble_eq_true rfl) ?_
    refine z_istore (lv' := [(0, _), (1, _), (2, _), (3, _), (4, _)]) d_Pro_isSound_29 (by decide) rfl ?_
    refine z_iload d_Pro_isSound_31 rfl ?_
    refine z_iconst (v := 2) d_Pro_isSound_33 (by decide) ?_
    refine z_icmp_ne d_Pro_isSound_34 49 (by decide) (fun h34 => ?_) (fun h34 => ?_)
    · refine z_iload d_Pro_isSound_49 rfl ?_
      refine z_iconst (v := 3) d_Pro_isSound_51 (by decide) ?_
      refine z_icmp_ne d_Pro_isSound_52 70 (by decide) (fun h52 => ?_) (fun h52 => ?_)
      · refine z_iinc (lv' := [(0, _), (1, _), (2, _), (4, _), (3, _)]) d_Pro_isSound_70 (by decide) rfl (show _ + Int32.ofInt 1 = nI (w + 1 + 1) from nI_1 _) rfl ?_
        refine z_goto d_Pro_isSound_73 12 (by decide) ?_
        exact z_loc (lv' := [(0, .ref 15), (1, .int tc), (2, .int (nI k)), (3, .int (nI (w + 1 + 1)))]) (by simp) (ih (w + 1) (by omega) (by omega) (fun w' hw' => (Nat.lt_succ_iff_lt_or_eq.mp hw').elim (hw w') (fun e => by subst e; intro o' h22 ho'; obtain rfl : o' = o := oo o' h22 ho'; exact ⟨(fun h => absurd ((nI_eq (by omega) (by decide)).mpr h) h34), (fun h => absurd ((nI_eq (by omega) (by decide)).mpr h) h52)⟩)))
      · refine z_aload_n d_Pro_isSound_55 rfl ?_
        refine z_iload_n d_Pro_isSound_56 rfl ?_
        refine z_iload_n d_Pro_isSound_57 rfl ?_
        refine z_callV1 d_Pro_isSound_58 g_Pro_19 (c_Pro_word (w := w + 1) X (show k < 60 by omega) (by omega) J G) (by omega) rfl rfl rfl ⟨by decide, by decide, by decide, by decide⟩ rfl (Nat.le_of_ble_eq_true rfl) ?_
        refine z_aload_n d_Pro_isSound_61 rfl ?_
        refine z_get d_Pro_isSound_62 f_Pro_9 (by omega) rfl rfl ?_
        refine z_icmp_le d_Pro_isSound_65 70 (by decide) (fun h65 => ?_) (fun h65 => ?_)
        · refine z_iinc (lv' := [(0, _), (1, _), (2, _), (4, _), (3, _)]) d_Pro_isSound_70 (by decide) rfl (show _ + Int32.ofInt 1 = nI (w + 1 + 1) from nI_1 _) rfl ?_
          refine z_goto d_Pro_isSound_73 12 (by decide) ?_
          exact z_loc (lv' := [(0, .ref 15), (1, .int tc), (2, .int (nI k)), (3, .int (nI (w + 1 + 1)))]) (by simp) (ih (w + 1) (by omega) (by omega) (fun w' hw' => (Nat.lt_succ_iff_lt_or_eq.mp hw').elim (hw w') (fun e => by subst e; intro o' h22 ho'; obtain rfl : o' = o := oo o' h22 ho'; exact ⟨(fun h => absurd ((nI_eq (by omega) (by decide)).mpr h) h34), (fun _ => by rw [← hn]; exact h65)⟩)))
        · refine z_iconst (v := 0) d_Pro_isSound_68 (by decide) ?_
          exact z_zret d_Pro_isSound_69 rfl (by decide) (by decide) (by decide) (by rw [show b = false from Bool.eq_false_iff.mpr (fun h9 => h65 (by rw [hn]; exact ((hb.mp h9) k hk w (by omega) o ho22 ho).2 ((nI_eq (by omega) (by decide)).mp h52)))]; rfl) rfl
    · refine z_aload_n d_Pro_isSound_37 rfl ?_
      refine z_iload_n d_Pro_isSound_38 rfl ?_
      refine z_iload_n d_Pro_isSound_39 rfl ?_
      refine z_callV1 d_Pro_isSound_40 g_Pro_19 (c_Pro_word (w := w + 1) X (show k < 60 by omega) (by omega) J G) (by omega) rfl rfl rfl ⟨by decide, by decide, by decide, by decide⟩ rfl (Nat.le_of_ble_eq_true rfl) ?_
      refine z_iload_n d_Pro_isSound_43 rfl ?_
      refine z_icmp_lt d_Pro_isSound_44 49 (by decide) (fun h44 => ?_) (fun h44 => ?_)
      · refine z_iload d_Pro_isSound_49 rfl ?_
        refine z_iconst (v := 3) d_Pro_isSound_51 (by decide) ?_
        refine z_icmp_ne d_Pro_isSound_52 70 (by decide) (fun h52 => ?_) (fun h52 => ?_)
        · refine z_iinc (lv' := [(0, _), (1, _), (2, _), (4, _), (3, _)]) d_Pro_isSound_70 (by decide) rfl (show _ + Int32.ofInt 1 = nI (w + 1 + 1) from nI_1 _) rfl ?_
          refine z_goto d_Pro_isSound_73 12 (by decide) ?_
          exact z_loc (lv' := [(0, .ref 15), (1, .int tc), (2, .int (nI k)), (3, .int (nI (w + 1 + 1)))]) (by simp) (ih (w + 1) (by omega) (by omega) (fun w' hw' => (Nat.lt_succ_iff_lt_or_eq.mp hw').elim (hw w') (fun e => by subst e; intro o' h22 ho'; obtain rfl : o' = o := oo o' h22 ho'; exact ⟨(fun _ => h44), (fun h => absurd ((nI_eq (by omega) (by decide)).mpr h) h52)⟩)))
        · refine z_aload_n d_Pro_isSound_55 rfl ?_
          refine z_iload_n d_Pro_isSound_56 rfl ?_
          refine z_iload_n d_Pro_isSound_57 rfl ?_
          refine z_callV1 d_Pro_isSound_58 g_Pro_19 (c_Pro_word (w := w + 1) X (show k < 60 by omega) (by omega) J G) (by omega) rfl rfl rfl ⟨by decide, by decide, by decide, by decide⟩ rfl (Nat.le_of_ble_eq_true rfl) ?_
          refine z_aload_n d_Pro_isSound_61 rfl ?_
          refine z_get d_Pro_isSound_62 f_Pro_9 (by omega) rfl rfl ?_
          refine z_icmp_le d_Pro_isSound_65 70 (by decide) (fun h65 => ?_) (fun h65 => ?_)
          · refine z_iinc (lv' := [(0, _), (1, _), (2, _), (4, _), (3, _)]) d_Pro_isSound_70 (by decide) rfl (show _ + Int32.ofInt 1 = nI (w + 1 + 1) from nI_1 _) rfl ?_
            refine z_goto d_Pro_isSound_73 12 (by decide) ?_
            exact z_loc (lv' := [(0, .ref 15), (1, .int tc), (2, .int (nI k)), (3, .int (nI (w + 1 + 1)))]) (by simp) (ih (w + 1) (by omega) (by omega) (fun w' hw' => (Nat.lt_succ_iff_lt_or_eq.mp hw').elim (hw w') (fun e => by subst e; intro o' h22 ho'; obtain rfl : o' = o := oo o' h22 ho'; exact ⟨(fun _ => h44), (fun _ => by rw [← hn]; exact h65)⟩)))
          · refine z_iconst (v := 0) d_Pro_isSound_68 (by decide) ?_
            exact z_zret d_Pro_isSound_69 rfl (by decide) (by decide) (by decide) (by rw [show b = false from Bool.eq_false_iff.mpr (fun h9 => h65 (by rw [hn]; exact ((hb.mp h9) k hk w (by omega) o ho22 ho).2 ((nI_eq (by omega) (by decide)).mp h52)))]; rfl) rfl
      · refine z_iconst (v := 0) d_Pro_isSound_47 (by decide) ?_
        exact z_zret d_Pro_isSound_48 rfl (by decide) (by decide) (by decide) (by rw [show b = false from Bool.eq_false_iff.mpr (fun h9 => h44 (((hb.mp h9) k hk w (by omega) o ho22 ho).1 ((nI_eq (by omega) (by decide)).mp h34)))]; rfl) rfl
set_option maxRecDepth 100000 in
set_option maxHeartbeats 4000000 in
theorem l_Pro_sound (X : zX) (J : zJT) (G : zGT) {n : Nat} (hn : J 15 0 = nI n) (hn6 : n ≤ 60) (hop : ∀ k, k < n → ∃ o, o < 22 ∧ J 16 (4 * k) = nI o) (tc : Int32) (b : Bool) (hb : b = true ↔ ∀ k, k < n → ∀ w, w < 3 → zok J n tc k w) : ∀ rem k, n - k = rem → k ≤ n → (∀ k', k' < k → ∀ w, w < 3 → zok J n tc k' w) → zJ X (zR 1 0 0) m_Pro_isSound (zRet X 0 0 false (some (.int (zb b))) (hp J G) 60) false 0 0 (hp J G) 60 2 [(0, .ref 15), (1, .int tc), (2, .int (nI k))] [] := by
  intro rem
  induction rem with
  | zero =>
    intro k hr hk hw
    refine z_iload_n d_Pro_isSound_2 rfl ?_
    refine z_aload_n d_Pro_isSound_3 rfl ?_
    refine z_get d_Pro_isSound_4 f_Pro_9 (by omega) rfl rfl ?_
    refine z_icmp_ge d_Pro_isSound_7 82 (by decide) (fun _ => ?_) (fun h9 => absurd (by rw [hn]; exact nI_le (show n ≤ k by omega) (by omega)) h9)
    refine z_iconst (v := 1) d_Pro_isSound_82 (by decide) ?_
    exact z_zret d_Pro_isSound_83 rfl (by decide) (by decide) (by decide) (by rw [hb.mpr (fun k' hk' => hw k' (by omega))]; rfl) rfl
  | succ rem ih =>
    intro k hr hk hw
    refine z_iload_n d_Pro_isSound_2 rfl ?_
    refine z_aload_n d_Pro_isSound_3 rfl ?_
    refine z_get d_Pro_isSound_4 f_Pro_9 (by omega) rfl rfl ?_
    refine z_icmp_ge d_Pro_isSound_7 82 (by decide) (fun h9 => absurd h9 (by rw [hn]; exact nI_ge (show k < n by omega) (by omega))) (fun _ => ?_)
    refine z_iconst (v := 1) d_Pro_isSound_10 (by decide) ?_
    refine z_istore_n (lv' := [(0, _), (1, _), (2, _), (3, _)]) d_Pro_isSound_11 (by decide) rfl ?_
    exact z_loc (lv' := [(0, .ref 15), (1, .int tc), (2, .int (nI k)), (3, .int (nI (0 + 1)))]) (by simp [nI]) (l_Pro_inner X J G hn hn6 hop tc b hb (show k < n by omega) (fun hk' => ih (k + 1) (by omega) (by omega) (fun k' hk2 => (Nat.lt_succ_iff_lt_or_eq.mp hk2).elim (hw k') (fun e => by subst e; exact hk'))) 3 0 (by omega) (by omega) (fun w' h => absurd h (Nat.not_lt_zero _)))
set_option maxRecDepth 100000 in
set_option maxHeartbeats 4000000 in
theorem c_Pro_sound (X : zX) (J : zJT) (G : zGT) {n : Nat} (hn : J 15 0 = nI n) (hn6 : n ≤ 60) (hop : ∀ k, k < n → ∃ o, o < 22 ∧ J 16 (4 * k) = nI o) (tc : Int32) (b : Bool) (hb : b = true ↔ ∀ k, k < n → ∀ w, w < 3 → zok J n tc k w) : zK X 1 m_Pro_isSound [.ref 15, .int tc] J G (some (.int (zb b))) J G := by
  refine zC_of (by decide) (Nat.le_of_ble_eq_true rfl) ?_
  refine z_iconst (v := 0) d_Pro_isSound_0 (by decide) ?_
  refine z_istore_n (lv' := [(0, _), (1, _), (2, _)]) d_Pro_isSound_1 (by decide) rfl ?_
  exact z_loc (lv' := [(0, .ref 15), (1, .int tc), (2, .int (nI 0))]) (by simp [nI_0]) (l_Pro_sound X J G hn hn6 hop tc b hb n 0 (by omega) (by omega) (fun k' h => absurd h (Nat.not_lt_zero _)))
