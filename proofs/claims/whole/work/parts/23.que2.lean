set_option maxRecDepth 100000 in
set_option maxHeartbeats 4000000 in
theorem l_Que_conds (X : zX) (J : zJT) (G : zGT) (L : List zI4) {m : Nat} (hm : J 32 2 = nI m) (hm4 : m ≤ 4) (hL : L.length + 4 * m ≤ 60) (c n : Int32) : ∀ rem i, m - i = rem → i ≤ m → zJ X (zR 3 0 0) m_Que_writeConditions (zRet X 0 0 false none (hp (zwr J (qConds J c n m L)) G) 60) false 0 0 (hp (zwr J (qConds J c n i L)) G) 60 3 [(0, .ref 32), (1, .ref 15), (2, .int c), (3, .int n), (4, .int (nI i))] [] := by
  intro rem
  induction rem with
  | zero =>
    intro i hr hi
    rw [show i = m by omega]
    refine z_iload d_Que_writeConditions_3 rfl ?_
    refine z_aload_n d_Que_writeConditions_5 rfl ?_
    refine z_get d_Que_writeConditions_6 f_Que_19 (by omega) rfl rfl ?_
    refine z_icmp_ge d_Que_writeConditions_9 37 (by decide) (fun _ => ?_) (fun h9 => absurd (by rw [zwr_n J _ (show (32 : Nat) ≠ 15 ∧ (32 : Nat) ≠ 16 by decide), hm]; exact nI_le (Nat.le_refl _) (by omega)) h9)
    exact z_vret d_Que_writeConditions_37 rfl (by decide) (by decide) rfl
  | succ rem ih =>
    intro i hr hi
    by_cases hq : J 36 i = c
    · refine z_iload d_Que_writeConditions_3 rfl ?_
      refine z_aload_n d_Que_writeConditions_5 rfl ?_
      refine z_get d_Que_writeConditions_6 f_Que_19 (by omega) rfl rfl ?_
      refine z_icmp_ge d_Que_writeConditions_9 37 (by decide) (fun h9 => absurd h9 (by rw [zwr_n J _ (show (32 : Nat) ≠ 15 ∧ (32 : Nat) ≠ 16 by decide), hm]; exact nI_ge (show i < m by omega) (by omega))) (fun _ => ?_)
      refine z_aload_n d_Que_writeConditions_12 rfl ?_
      refine z_get d_Que_writeConditions_13 f_Que_31 (by omega) rfl rfl ?_
      refine z_iload d_Que_writeConditions_16 rfl ?_
      refine z_iald d_Que_writeConditions_18 (by omega) rfl (show zin (nI i) i 4 from ⟨rfl, by omega, by decide⟩) ?_
      refine z_iload_n d_Que_writeConditions_19 rfl ?_
      rw [zwr_n J _ (show (36 : Nat) ≠ 15 ∧ (36 : Nat) ≠ 16 by decide)]
      refine z_icmp_ne d_Que_writeConditions_20 31 (by decide) (fun h9 => absurd h9 (fun h9 => h9 hq)) (fun _ => ?_)
      refine z_aload_n d_Que_writeConditions_23 rfl ?_
      refine z_aload_n d_Que_writeConditions_24 rfl ?_
      refine z_iload d_Que_writeConditions_25 rfl ?_
      refine z_iload_n d_Que_writeConditions_27 rfl ?_
      refine z_callV0 d_Que_writeConditions_28 g_Que_94 (c_Que_writeCondition X J G _ (by have := (qConds_l J c n i L).1; omega) (by omega) n) (by omega) rfl rfl rfl ⟨by decide, by decide, by decide, by decide⟩ rfl (Nat.le_of_ble_eq_true rfl) ?_
      refine z_iinc (lv' := [(0, _), (1, _), (2, _), (3, _), (4, _)]) d_Que_writeConditions_31 (by decide) rfl (show _ + Int32.ofInt 1 = nI (i + 1) from nI_1 _) rfl ?_
      refine z_goto d_Que_writeConditions_34 3 (by decide) ?_
      refine z_heq (h' := hp (zwr J (qConds J c n (i + 1) L)) G) ?_ (ih (i + 1) (by omega) (by omega))
      rw [qConds, if_pos hq]
    · refine z_iload d_Que_writeConditions_3 rfl ?_
      refine z_aload_n d_Que_writeConditions_5 rfl ?_
      refine z_get d_Que_writeConditions_6 f_Que_19 (by omega) rfl rfl ?_
      refine z_icmp_ge d_Que_writeConditions_9 37 (by decide) (fun h9 => absurd h9 (by rw [zwr_n J _ (show (32 : Nat) ≠ 15 ∧ (32 : Nat) ≠ 16 by decide), hm]; exact nI_ge (show i < m by omega) (by omega))) (fun _ => ?_)
      refine z_aload_n d_Que_writeConditions_12 rfl ?_
      refine z_get d_Que_writeConditions_13 f_Que_31 (by omega) rfl rfl ?_
      refine z_iload d_Que_writeConditions_16 rfl ?_
      refine z_iald d_Que_writeConditions_18 (by omega) rfl (show zin (nI i) i 4 from ⟨rfl, by omega, by decide⟩) ?_
      refine z_iload_n d_Que_writeConditions_19 rfl ?_
      rw [zwr_n J _ (show (36 : Nat) ≠ 15 ∧ (36 : Nat) ≠ 16 by decide)]
      refine z_icmp_ne d_Que_writeConditions_20 31 (by decide) (fun _ => ?_) (fun h9 => absurd h9 hq)
      refine z_iinc (lv' := [(0, _), (1, _), (2, _), (3, _), (4, _)]) d_Que_writeConditions_31 (by decide) rfl (show _ + Int32.ofInt 1 = nI (i + 1) from nI_1 _) rfl ?_
      refine z_goto d_Que_writeConditions_34 3 (by decide) ?_
      refine z_heq (h' := hp (zwr J (qConds J c n (i + 1) L)) G) ?_ (ih (i + 1) (by omega) (by omega))
      rw [qConds, if_neg hq]
set_option maxRecDepth 100000 in
set_option maxHeartbeats 4000000 in
theorem c_Que_conds (X : zX) (J : zJT) (G : zGT) (L : List zI4) {m : Nat} (hm : J 32 2 = nI m) (hm4 : m ≤ 4) (hL : L.length + 4 * m ≤ 60) (c n : Int32) : zK X 3 m_Que_writeConditions [.ref 32, .ref 15, .int c, .int n] (zwr J L) G none (zwr J (qConds J c n m L)) G := by
  refine zC_of (by decide) (Nat.le_of_ble_eq_true rfl) ?_
  refine z_iconst (v := 0) d_Que_writeConditions_0 (by decide) ?_
  refine z_istore (lv' := [(0, _), (1, _), (2, _), (3, _), (4, _)]) d_Que_writeConditions_1 (by decide) rfl ?_
  exact z_loc (lv' := [(0, .ref 32), (1, .ref 15), (2, .int c), (3, .int n), (4, .int (nI 0))]) (by simp [nI_0]) (l_Que_conds X J G L hm hm4 hL c n m 0 (by omega) (by omega))
set_option maxRecDepth 100000 in
set_option maxHeartbeats 4000000 in
theorem l_Que_outs (X : zX) (J : zJT) (G : zGT) (L : List zI4) {m : Nat} (hm : J 32 1 = nI m) (hm4 : m ≤ 4) (hL : L.length + m + 1 ≤ 60) : ∀ rem i, m - i = rem → i ≤ m → zJ X (zR 2 0 0) m_Que_writeOutputs (zRet X 0 0 false none (hp (zwr J (qOuts J m L ++ [(18, 2, nI m, 0)])) G) 60) false 0 0 (hp (zwr J (qOuts J i L)) G) 60 2 [(0, .ref 32), (1, .ref 15), (2, .int (nI i))] [] := by
  intro rem
  induction rem with
  | zero =>
    intro i hr hi
    rw [show i = m by omega]
    refine z_iload_n d_Que_writeOutputs_2 rfl ?_
    refine z_aload_n d_Que_writeOutputs_3 rfl ?_
    refine z_get d_Que_writeOutputs_4 f_Que_15 (by omega) rfl rfl ?_
    refine z_icmp_ge d_Que_writeOutputs_7 36 (by decide) (fun _ => ?_) (fun h9 => absurd (by rw [zwr_n J _ (show (32 : Nat) ≠ 15 ∧ (32 : Nat) ≠ 16 by decide), hm]; exact nI_le (Nat.le_refl _) (by omega)) h9)
    refine z_aload_n d_Que_writeOutputs_36 rfl ?_
    refine z_bipush (v := 18) d_Que_writeOutputs_37 (by decide) ?_
    refine z_iconst (v := 2) d_Que_writeOutputs_39 (by decide) ?_
    refine z_aload_n d_Que_writeOutputs_40 rfl ?_
    refine z_get d_Que_writeOutputs_41 f_Que_15 (by omega) rfl rfl ?_
    refine z_iconst (v := 0) d_Que_writeOutputs_44 (by decide) ?_
    rw [zwr_n J _ (show (32 : Nat) ≠ 15 ∧ (32 : Nat) ≠ 16 by decide), hm]
    refine z_callV0 d_Que_writeOutputs_45 g_Que_64 (c_app X J G _ (by rw [qOuts_l]; omega) 18 2 (nI m) 0) (by omega) rfl rfl rfl ⟨by decide, by decide, by decide, by decide⟩ rfl (Nat.le_of_ble_eq_true rfl) ?_
    exact z_vret d_Que_writeOutputs_48 rfl (by decide) (by decide) rfl
  | succ rem ih =>
    intro i hr hi
    refine z_iload_n d_Que_writeOutputs_2 rfl ?_
    refine z_aload_n d_Que_writeOutputs_3 rfl ?_
    refine z_get d_Que_writeOutputs_4 f_Que_15 (by omega) rfl rfl ?_
    refine z_icmp_ge d_Que_writeOutputs_7 36 (by decide) (fun h9 => absurd h9 (by rw [zwr_n J _ (show (32 : Nat) ≠ 15 ∧ (32 : Nat) ≠ 16 by decide), hm]; exact nI_ge (show i < m by omega) (by omega))) (fun _ => ?_)
    refine z_aload_n d_Que_writeOutputs_10 rfl ?_
    refine z_aload_n d_Que_writeOutputs_11 rfl ?_
    refine z_aload_n d_Que_writeOutputs_12 rfl ?_
    refine z_get d_Que_writeOutputs_13 f_Que_25 (by omega) rfl rfl ?_
    refine z_iload_n d_Que_writeOutputs_16 rfl ?_
    refine z_iald d_Que_writeOutputs_17 (by omega) rfl (show zin (nI i) i 4 from ⟨rfl, by omega, by decide⟩) ?_
    refine z_aload_n d_Que_writeOutputs_18 rfl ?_
    refine z_get d_Que_writeOutputs_19 f_Que_28 (by omega) rfl rfl ?_
    refine z_iload_n d_Que_writeOutputs_22 rfl ?_
    refine z_iald d_Que_writeOutputs_23 (by omega) rfl (show zin (nI i) i 4 from ⟨rfl, by omega, by decide⟩) ?_
    refine z_iconst (v := 2) d_Que_writeOutputs_24 (by decide) ?_
    refine z_iload_n d_Que_writeOutputs_25 rfl ?_
    refine z_iadd d_Que_writeOutputs_26 ?_
    rw [zwr_n J _ (show (34 : Nat) ≠ 15 ∧ (34 : Nat) ≠ 16 by decide), zwr_n J _ (show (35 : Nat) ≠ 15 ∧ (35 : Nat) ≠ 16 by decide)]
    refine z_callV0 d_Que_writeOutputs_27 g_Que_97 (c_Que_writeColumn X J G _ (by rw [qOuts_l]; omega) _ _ _) (by omega) rfl rfl rfl ⟨by decide, by decide, by decide, by decide⟩ rfl (Nat.le_of_ble_eq_true rfl) ?_
    refine z_iinc (lv' := [(0, _), (1, _), (2, _)]) d_Que_writeOutputs_30 (by decide) rfl (show _ + Int32.ofInt 1 = nI (i + 1) from nI_1 _) rfl ?_
    refine z_goto d_Que_writeOutputs_33 2 (by decide) ?_
    exact ih (i + 1) (by omega) (by omega)
set_option maxRecDepth 100000 in
set_option maxHeartbeats 4000000 in
theorem c_Que_outs (X : zX) (J : zJT) (G : zGT) (L : List zI4) {m : Nat} (hm : J 32 1 = nI m) (hm4 : m ≤ 4) (hL : L.length + m + 1 ≤ 60) : zK X 2 m_Que_writeOutputs [.ref 32, .ref 15] (zwr J L) G none (zwr J (qOuts J m L ++ [(18, 2, nI m, 0)])) G := by
  refine zC_of (by decide) (Nat.le_of_ble_eq_true rfl) ?_
  refine z_iconst (v := 0) d_Que_writeOutputs_0 (by decide) ?_
  refine z_istore_n (lv' := [(0, _), (1, _), (2, _)]) d_Que_writeOutputs_1 (by decide) rfl ?_
  exact z_loc (lv' := [(0, .ref 32), (1, .ref 15), (2, .int (nI 0))]) (by simp [nI_0]) (l_Que_outs X J G L hm hm4 hL m 0 (by omega) (by omega))
def qfb (v : Int32) : Bool := decide (v = 0) || decide (v = 4) || decide (v = 5)
def qok (J : zJT) (c : Int32) (i : Nat) : Bool := decide (J 36 i = c) && decide (J 37 i = -1) && qfb (J 38 i)
/-- the first of rem conditions from i on by which a search may begin -/
def qsk (J : zJT) (c : Int32) : Nat → Nat → Option Nat
  | 0, _ => none
  | rem + 1, i => if qok J c i = true then some i else qsk J c rem (i + 1)
def qval (r : Option Nat) : Int32 := match r with
  | none => -1
  | some i => nI i
theorem qsk_lt (J : zJT) (c : Int32) : ∀ rem i k, qsk J c rem i = some k → k < i + rem
  | 0, _, _, h => by simp [qsk] at h
  | rem + 1, i, k, h => by
    simp only [qsk] at h
    split at h
    · cases h; omega
    · have := qsk_lt J c rem (i + 1) k h; omega
theorem qsk_wr (J : zJT) (L : List zI4) (c : Int32) : ∀ rem i, qsk (zwr J L) c rem i = qsk J c rem i
  | 0, _ => rfl
  | rem + 1, i => by
    have e : qok (zwr J L) c i = qok J c i := by
      unfold qok
      rw [zwr_n J L (show (36 : Nat) ≠ 15 ∧ (36 : Nat) ≠ 16 by decide), zwr_n J L (show (37 : Nat) ≠ 15 ∧ (37 : Nat) ≠ 16 by decide), zwr_n J L (show (38 : Nat) ≠ 15 ∧ (38 : Nat) ≠ 16 by decide)]
    simp only [qsk]
    rw [e, qsk_wr J L c rem]
set_option maxRecDepth 100000 in
set_option maxHeartbeats 4000000 in
theorem c_Que_fb (X : zX) (v : Int32) (J : zJT) (G : zGT) : zK X 0 m_Que_isFromBelow [.int v] J G (some (.int (zb (qfb v)))) J G := by
  refine zC_of (by decide) (Nat.le_of_ble_eq_true rfl) ?_
  refine z_iload_n d_Que_isFromBelow_0 rfl ?_
  refine z_if_eq d_Que_isFromBelow_1 14 (by decide) (fun h1 => ?_) (fun h1 => ?_)
  · refine z_iconst (v := 1) d_Que_isFromBelow_14 (by decide) ?_
    refine z_goto d_Que_isFromBelow_15 19 (by decide) ?_
    exact z_zret d_Que_isFromBelow_19 rfl (by decide) (by decide) (by decide) (by simp only [qfb]; simp_all [zb]) rfl
  · refine z_iload_n d_Que_isFromBelow_4 rfl ?_
    refine z_iconst (v := 4) d_Que_isFromBelow_5 (by decide) ?_
    refine z_icmp_eq d_Que_isFromBelow_6 14 (by decide) (fun h6 => ?_) (fun h6 => ?_)
    · refine z_iconst (v := 1) d_Que_isFromBelow_14 (by decide) ?_
      refine z_goto d_Que_isFromBelow_15 19 (by decide) ?_
      exact z_zret d_Que_isFromBelow_19 rfl (by decide) (by decide) (by decide) (by simp only [qfb]; simp_all [zb]) rfl
    · refine z_iload_n d_Que_isFromBelow_9 rfl ?_
      refine z_iconst (v := 5) d_Que_isFromBelow_10 (by decide) ?_
      refine z_icmp_ne d_Que_isFromBelow_11 18 (by decide) (fun h11 => ?_) (fun h11 => ?_)
      · refine z_iconst (v := 0) d_Que_isFromBelow_18 (by decide) ?_
        exact z_zret d_Que_isFromBelow_19 rfl (by decide) (by decide) (by decide) (by simp only [qfb]; simp_all [zb]) rfl
      · refine z_iconst (v := 1) d_Que_isFromBelow_14 (by decide) ?_
        refine z_goto d_Que_isFromBelow_15 19 (by decide) ?_
        exact z_zret d_Que_isFromBelow_19 rfl (by decide) (by decide) (by decide) (by simp only [qfb]; simp_all [zb]) rfl
set_option maxRecDepth 100000 in
set_option maxHeartbeats 4000000 in
theorem l_Que_seek (X : zX) (J : zJT) (G : zGT) {m : Nat} (hm : J 32 2 = nI m) (hm4 : m ≤ 4) (c : Int32) : ∀ rem i, i + rem = m → i ≤ m → qsk J c rem i = qsk J c m 0 → zJ X (zR 1 0 0) m_Que_seekable (zRet X 0 0 false (some (.int (qval (qsk J c m 0)))) (hp J G) 60) false 0 0 (hp J G) 60 2 [(0, .ref 32), (1, .int c), (2, .int (nI i))] [] := by
  intro rem
  induction rem with
  | zero =>
    intro i hr hi he
    refine z_iload_n d_Que_seekable_2 rfl ?_
    refine z_aload_n d_Que_seekable_3 rfl ?_
    refine z_get d_Que_seekable_4 f_Que_19 (by omega) rfl rfl ?_
    refine z_icmp_ge d_Que_seekable_7 50 (by decide) (fun _ => ?_) (fun h9 => absurd (by rw [hm]; exact nI_le (show m ≤ i by omega) (by omega)) h9)
    refine z_iconst (v := (-1)) d_Que_seekable_50 (by decide) ?_
    exact z_iret d_Que_seekable_51 rfl (by decide) (by decide) (by rw [← he]; rfl) rfl
  | succ rem ih =>
    intro i hr hi he
    refine z_iload_n d_Que_seekable_2 rfl ?_
    refine z_aload_n d_Que_seekable_3 rfl ?_
    refine z_get d_Que_seekable_4 f_Que_19 (by omega) rfl rfl ?_
    refine z_icmp_ge d_Que_seekable_7 50 (by decide) (fun h9 => absurd h9 (by rw [hm]; exact nI_ge (show i < m by omega) (by omega))) (fun _ => ?_)
    refine z_aload_n d_Que_seekable_10 rfl ?_
    refine z_get d_Que_seekable_11 f_Que_31 (by omega) rfl rfl ?_
    refine z_iload_n d_Que_seekable_14 rfl ?_
    refine z_iald d_Que_seekable_15 (by omega) rfl (show zin (nI i) i 4 from ⟨rfl, by omega, by decide⟩) ?_
    refine z_iload_n d_Que_seekable_16 rfl ?_
    refine z_icmp_ne d_Que_seekable_17 44 (by decide) (fun h17 => ?_) (fun h17 => ?_)
    · refine z_iinc (lv' := [(0, _), (1, _), (2, _)]) d_Que_seekable_44 (by decide) rfl (show _ + Int32.ofInt 1 = nI (i + 1) from nI_1 _) rfl ?_
      refine z_goto d_Que_seekable_47 2 (by decide) ?_
      exact ih (i + 1) (by omega) (by omega) (by rw [← he, qsk, if_neg (by simp only [qok, decide_eq_false h17, Bool.false_and]; decide)])
    · refine z_aload_n d_Que_seekable_20 rfl ?_
      refine z_get d_Que_seekable_21 f_Que_34 (by omega) rfl rfl ?_
      refine z_iload_n d_Que_seekable_24 rfl ?_
      refine z_iald d_Que_seekable_25 (by omega) rfl (show zin (nI i) i 4 from ⟨rfl, by omega, by decide⟩) ?_
      refine z_iconst (v := (-1)) d_Que_seekable_26 (by decide) ?_
      refine z_icmp_ne d_Que_seekable_27 44 (by decide) (fun h27 => ?_) (fun h27 => ?_)
      · refine z_iinc (lv' := [(0, _), (1, _), (2, _)]) d_Que_seekable_44 (by decide) rfl (show _ + Int32.ofInt 1 = nI (i + 1) from nI_1 _) rfl ?_
        refine z_goto d_Que_seekable_47 2 (by decide) ?_
        exact ih (i + 1) (by omega) (by omega) (by rw [← he, qsk, if_neg (by simp only [qok, decide_eq_false h27, Bool.and_false, Bool.false_and]; decide)])
      · refine z_aload_n d_Que_seekable_30 rfl ?_
        refine z_get d_Que_seekable_31 f_Que_37 (by omega) rfl rfl ?_
        refine z_iload_n d_Que_seekable_34 rfl ?_
        refine z_iald d_Que_seekable_35 (by omega) rfl (show zin (nI i) i 4 from ⟨rfl, by omega, by decide⟩) ?_
        refine z_callS1 d_Que_seekable_36 g_Que_90 (c_Que_fb X _ J G) rfl ⟨by decide, by decide, by decide, by decide⟩ rfl (Nat.le_of_ble_eq_true rfl) ?_
        refine z_if_eq d_Que_seekable_39 44 (by decide) (fun h39 => ?_) (fun h39 => ?_)
        · refine z_iinc (lv' := [(0, _), (1, _), (2, _)]) d_Que_seekable_44 (by decide) rfl (show _ + Int32.ofInt 1 = nI (i + 1) from nI_1 _) rfl ?_
          refine z_goto d_Que_seekable_47 2 (by decide) ?_
          exact ih (i + 1) (by omega) (by omega) (by rw [← he, qsk, if_neg (by simp only [qok, zb0 h39, Bool.and_false]; decide)])
        · refine z_iload_n d_Que_seekable_42 rfl ?_
          exact z_iret d_Que_seekable_43 rfl (by decide) (by decide) (by rw [← he, qsk, if_pos (by simp only [qok, decide_eq_true h17, decide_eq_true h27, zb1' h39]; rfl)]; rfl) rfl
set_option maxRecDepth 100000 in
set_option maxHeartbeats 4000000 in
theorem c_Que_seekable (X : zX) (J : zJT) (G : zGT) {m : Nat} (hm : J 32 2 = nI m) (hm4 : m ≤ 4) (c : Int32) : zK X 1 m_Que_seekable [.ref 32, .int c] J G (some (.int (qval (qsk J c m 0)))) J G := by
  refine zC_of (by decide) (Nat.le_of_ble_eq_true rfl) ?_
  refine z_iconst (v := 0) d_Que_seekable_0 (by decide) ?_
  refine z_istore_n (lv' := [(0, _), (1, _), (2, _)]) d_Que_seekable_1 (by decide) rfl ?_
  exact z_loc (lv' := [(0, .ref 32), (1, .int c), (2, .int (nI 0))]) (by simp [nI_0]) (l_Que_seek X J G hm hm4 c m 0 (by omega) (by omega) rfl)
def qStart (J : zJT) (c e : Int32) (m : Nat) (L : List zI4) : List zI4 := match qsk J c m 0 with
  | none => L ++ [(2, c, e, 0)]
  | some i => L ++ [(6, J 39 i, 0, 0)] ++ [(8, c, e, 0)]
set_option maxRecDepth 100000 in
set_option maxHeartbeats 4000000 in
theorem c_Que_start0 (X : zX) (J : zJT) (G : zGT) (L : List zI4) {m : Nat} (hm : J 32 2 = nI m) (hm4 : m ≤ 4) (hL : L.length + 2 ≤ 60) (c e : Int32) (h0 : qsk J c m 0 = none) : zK X 2 m_Que_writeStart [.ref 32, .ref 15, .int c, .int e] (zwr J L) G none (zwr J (qStart J c e m L)) G := by
  refine zC_of (by decide) (Nat.le_of_ble_eq_true rfl) ?_
  refine z_aload_n d_Que_writeStart_0 rfl ?_
  refine z_iload_n d_Que_writeStart_1 rfl ?_
  refine z_callV1 d_Que_writeStart_2 g_Que_86 (c_Que_seekable X (zwr J L) G (show zwr J L 32 2 = nI m by rw [zwr_n J _ (show (32 : Nat) ≠ 15 ∧ (32 : Nat) ≠ 16 by decide)]; exact hm) hm4 c) (by omega) rfl rfl rfl ⟨by decide, by decide, by decide, by decide⟩ rfl (Nat.le_of_ble_eq_true rfl) ?_
  rw [qsk_wr, h0]
  refine z_istore (lv' := [(0, _), (1, _), (2, _), (3, _), (4, _)]) d_Que_writeStart_5 (by decide) rfl ?_
  refine z_iload d_Que_writeStart_7 rfl ?_
  refine z_iconst (v := (-1)) d_Que_writeStart_9 (by decide) ?_
  refine z_icmp_ne d_Que_writeStart_10 24 (by decide) (fun h9 => absurd h9 (fun h9 => h9 rfl)) (fun _ => ?_)
  refine z_aload_n d_Que_writeStart_13 rfl ?_
  refine z_iconst (v := 2) d_Que_writeStart_14 (by decide) ?_
  refine z_iload_n d_Que_writeStart_15 rfl ?_
  refine z_iload_n d_Que_writeStart_16 rfl ?_
  refine z_iconst (v := 0) d_Que_writeStart_17 (by decide) ?_
  refine z_callV0 d_Que_writeStart_18 g_Que_64 (c_app X J G L (by first | omega | (simp only [List.length_append, List.length_cons, List.length_nil, qTest_l]; omega)) 2 c e 0) (by omega) rfl rfl rfl ⟨by decide, by decide, by decide, by decide⟩ rfl (Nat.le_of_ble_eq_true rfl) ?_
  refine z_goto d_Que_writeStart_21 48 (by decide) ?_
  exact z_vret d_Que_writeStart_48 rfl (by decide) (by decide) (by rw [qStart, h0])
set_option maxRecDepth 100000 in
set_option maxHeartbeats 4000000 in
theorem c_Que_start1 (X : zX) (J : zJT) (G : zGT) (L : List zI4) {m : Nat} (hm : J 32 2 = nI m) (hm4 : m ≤ 4) (hL : L.length + 2 ≤ 60) (c e : Int32) {i : Nat} (h0 : qsk J c m 0 = some i) : zK X 2 m_Que_writeStart [.ref 32, .ref 15, .int c, .int e] (zwr J L) G none (zwr J (qStart J c e m L)) G := by
  have hi := qsk_lt J c m 0 i h0
  refine zC_of (by decide) (Nat.le_of_ble_eq_true rfl) ?_
  refine z_aload_n d_Que_writeStart_0 rfl ?_
  refine z_iload_n d_Que_writeStart_1 rfl ?_
  refine z_callV1 d_Que_writeStart_2 g_Que_86 (c_Que_seekable X (zwr J L) G (show zwr J L 32 2 = nI m by rw [zwr_n J _ (show (32 : Nat) ≠ 15 ∧ (32 : Nat) ≠ 16 by decide)]; exact hm) hm4 c) (by omega) rfl rfl rfl ⟨by decide, by decide, by decide, by decide⟩ rfl (Nat.le_of_ble_eq_true rfl) ?_
  rw [qsk_wr, h0]
  refine z_istore (lv' := [(0, _), (1, _), (2, _), (3, _), (4, _)]) d_Que_writeStart_5 (by decide) rfl ?_
  refine z_iload d_Que_writeStart_7 rfl ?_
  refine z_iconst (v := (-1)) d_Que_writeStart_9 (by decide) ?_
  refine z_icmp_ne d_Que_writeStart_10 24 (by decide) (fun _ => ?_) (fun h9 => absurd h9 (nI_m1 (show i < 2 ^ 31 by omega)))
  refine z_aload_n d_Que_writeStart_24 rfl ?_
  refine z_bipush (v := 6) d_Que_writeStart_25 (by decide) ?_
  refine z_aload_n d_Que_writeStart_27 rfl ?_
  refine z_get d_Que_writeStart_28 f_Que_40 (by omega) rfl rfl ?_
  refine z_iload d_Que_writeStart_31 rfl ?_
  refine z_iald d_Que_writeStart_33 (by omega) rfl (show zin (nI i) i 4 from ⟨rfl, by omega, by decide⟩) ?_
  refine z_iconst (v := 0) d_Que_writeStart_34 (by decide) ?_
  refine z_iconst (v := 0) d_Que_writeStart_35 (by decide) ?_
  rw [zwr_n J _ (show (39 : Nat) ≠ 15 ∧ (39 : Nat) ≠ 16 by decide)]
  refine z_callV0 d_Que_writeStart_36 g_Que_64 (c_app X J G L (by first | omega | (simp only [List.length_append, List.length_cons, List.length_nil, qTest_l]; omega)) 6 (J 39 i) 0 0) (by omega) rfl rfl rfl ⟨by decide, by decide, by decide, by decide⟩ rfl (Nat.le_of_ble_eq_true rfl) ?_
  refine z_aload_n d_Que_writeStart_39 rfl ?_
  refine z_bipush (v := 8) d_Que_writeStart_40 (by decide) ?_
  refine z_iload_n d_Que_writeStart_42 rfl ?_
  refine z_iload_n d_Que_writeStart_43 rfl ?_
  refine z_iconst (v := 0) d_Que_writeStart_44 (by decide) ?_
  refine z_callV0 d_Que_writeStart_45 g_Que_64 (c_app X J G _ (by first | omega | (simp only [List.length_append, List.length_cons, List.length_nil, qTest_l]; omega)) 8 c e 0) (by omega) rfl rfl rfl ⟨by decide, by decide, by decide, by decide⟩ rfl (Nat.le_of_ble_eq_true rfl) ?_
  exact z_vret d_Que_writeStart_48 rfl (by decide) (by decide) (by rw [qStart, h0])
theorem c_Que_start (X : zX) (J : zJT) (G : zGT) (L : List zI4) {m : Nat} (hm : J 32 2 = nI m) (hm4 : m ≤ 4) (hL : L.length + 2 ≤ 60) (c e : Int32) : zK X 2 m_Que_writeStart [.ref 32, .ref 15, .int c, .int e] (zwr J L) G none (zwr J (qStart J c e m L)) G := by
  cases h0 : qsk J c m 0 with
  | none => exact c_Que_start0 X J G L hm hm4 hL c e h0
  | some i => exact c_Que_start1 X J G L hm hm4 hL c e h0
theorem qStart_l (J : zJT) (c e : Int32) (m : Nat) (L : List zI4) : (qStart J c e m L).length ≤ L.length + 2 ∧ L.length ≤ (qStart J c e m L).length := by
  unfold qStart; split <;> simp
def qJoin (J : zJT) (n : Int32) (L : List zI4) : List zI4 := qTest (L ++ [qCol 0 (J 32 11) 0] ++ [qCol 1 (J 32 12) 1]) 9 1 n
set_option maxRecDepth 100000 in
set_option maxHeartbeats 4000000 in
theorem c_Que_join (X : zX) (J : zJT) (G : zGT) (L : List zI4) (hL : L.length + 4 ≤ 60) (n : Int32) : zK X 2 m_Que_writeJoin [.ref 32, .ref 15, .int n] (zwr J L) G none (zwr J (qJoin J n L)) G := by
  refine zC_of (by decide) (Nat.le_of_ble_eq_true rfl) ?_
  refine z_aload_n d_Que_writeJoin_0 rfl ?_
  refine z_aload_n d_Que_writeJoin_1 rfl ?_
  refine z_iconst (v := 0) d_Que_writeJoin_2 (by decide) ?_
  refine z_aload_n d_Que_writeJoin_3 rfl ?_
  refine z_get d_Que_writeJoin_4 f_Que_47 (by omega) rfl rfl ?_
  refine z_iconst (v := 0) d_Que_writeJoin_7 (by decide) ?_
  rw [zwr_n J _ (show (32 : Nat) ≠ 15 ∧ (32 : Nat) ≠ 16 by decide)]
  refine z_callV0 d_Que_writeJoin_8 g_Que_97 (c_Que_writeColumn X J G _ (by first | omega | (simp only [List.length_append, List.length_cons, List.length_nil, qTest_l]; omega)) _ _ _) (by omega) rfl rfl rfl ⟨by decide, by decide, by decide, by decide⟩ rfl (Nat.le_of_ble_eq_true rfl) ?_
  refine z_aload_n d_Que_writeJoin_11 rfl ?_
  refine z_aload_n d_Que_writeJoin_12 rfl ?_
  refine z_iconst (v := 1) d_Que_writeJoin_13 (by decide) ?_
  refine z_aload_n d_Que_writeJoin_14 rfl ?_
  refine z_get d_Que_writeJoin_15 f_Que_50 (by omega) rfl rfl ?_
  refine z_iconst (v := 1) d_Que_writeJoin_18 (by decide) ?_
  rw [zwr_n J _ (show (32 : Nat) ≠ 15 ∧ (32 : Nat) ≠ 16 by decide)]
  refine z_callV0 d_Que_writeJoin_19 g_Que_97 (c_Que_writeColumn X J G _ (by first | omega | (simp only [List.length_append, List.length_cons, List.length_nil, qTest_l]; omega)) _ _ _) (by omega) rfl rfl rfl ⟨by decide, by decide, by decide, by decide⟩ rfl (Nat.le_of_ble_eq_true rfl) ?_
  refine z_aload_n d_Que_writeJoin_22 rfl ?_
  refine z_aload_n d_Que_writeJoin_23 rfl ?_
  refine z_bipush (v := 9) d_Que_writeJoin_24 (by decide) ?_
  refine z_iconst (v := 1) d_Que_writeJoin_26 (by decide) ?_
  refine z_iload_n d_Que_writeJoin_27 rfl ?_
  refine z_callV0 d_Que_writeJoin_28 g_Que_101 (c_Que_writeTest X J G _ (by simp only [List.length_append, List.length_cons, List.length_nil]; omega) _ _ _) (by omega) rfl rfl rfl ⟨by decide, by decide, by decide, by decide⟩ rfl (Nat.le_of_ble_eq_true rfl) ?_
  exact z_vret d_Que_writeJoin_31 rfl (by decide) (by decide) rfl
