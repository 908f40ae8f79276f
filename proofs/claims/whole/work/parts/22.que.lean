/-- programs as lists of instructions -/
abbrev zI4 : Type := Int32 × Int32 × Int32 × Int32
def zi4 (x : zI4) (w : Nat) : Int32 := match w with
  | 0 => x.1
  | 1 => x.2.1
  | 2 => x.2.2.1
  | _ => x.2.2.2
def zpw (f : Nat → Int32) (L : List zI4) : Nat → Int32 := fun j => match L[j / 4]? with
  | some x => zi4 x (j % 4)
  | none => f j
theorem zpw_app (f : Nat → Int32) (L : List zI4) (o p q s : Int32) : zapp (zpw f L) L.length o p q s = zpw f (L ++ [(o, p, q, s)]) := by
  funext j
  simp only [zapp, upd, zpw]
  by_cases h : j / 4 < L.length
  · rw [List.getElem?_append_left h, if_neg (by omega), if_neg (by omega), if_neg (by omega), if_neg (by omega)]
  · by_cases h4 : j / 4 = L.length
    · rw [List.getElem?_append_right (by omega), h4, Nat.sub_self]
      rcases (show j % 4 = 0 ∨ j % 4 = 1 ∨ j % 4 = 2 ∨ j % 4 = 3 by omega) with h5 | h5 | h5 | h5
      · rw [if_neg (by omega), if_neg (by omega), if_neg (by omega), if_pos (by omega), h5]; rfl
      · rw [if_neg (by omega), if_neg (by omega), if_pos (by omega), h5]; rfl
      · rw [if_neg (by omega), if_pos (by omega), h5]; rfl
      · rw [if_pos (by omega), h5]; rfl
    · rw [if_neg (by omega), if_neg (by omega), if_neg (by omega), if_neg (by omega), List.getElem?_eq_none (by omega), List.getElem?_eq_none (by rw [List.length_append]; simp only [List.length_cons, List.length_nil]; omega)]
/-- the heap J with the program L -/
def zwr (J : zJT) (L : List zI4) : zJT := va_up (va_up J 16 (zpw (J 16) L)) 15 (va_up (J 15) 0 (nI L.length))
theorem zwr_sz (J : zJT) (L : List zI4) : zwr J L 15 0 = nI L.length := by rw [zwr, zu_s, zu_s]
theorem zwr_n (J : zJT) (L : List zI4) {a : Nat} (h : a ≠ 15 ∧ a ≠ 16) : zwr J L a = J a := by rw [zwr, zu_n h.1, zu_n h.2]
theorem c_app (X : zX) (J : zJT) (G : zGT) (L : List zI4) (hL : L.length < 60) (o p q s : Int32) : zK X 0 m_Pro_append [.ref 15, .int o, .int p, .int q, .int s] (zwr J L) G none (zwr J (L ++ [(o, p, q, s)])) G := by
  have h := c_Pro_append X hL o p q s (zwr J L) G (zwr_sz J L)
  have e : va_up (va_up (zwr J L) 16 (zapp (zwr J L 16) L.length o p q s)) 15 (va_up (zwr J L 15) 0 (nI L.length + 1)) = zwr J (L ++ [(o, p, q, s)]) := by
    have h16 : zwr J L 16 = zpw (J 16) L := by rw [zwr, zu_n (by decide), zu_s]
    have h15 : va_up (zwr J L 15) 0 (nI L.length + 1) = va_up (J 15) 0 (nI (L ++ [(o, p, q, s)]).length) := by
      rw [zwr, zu_s, bx_uu, List.length_append, nI_1]; rfl
    rw [h16, h15, zpw_app]
    funext a
    by_cases h1 : a = 15
    · subst h1; rw [zu_s, zwr, zu_s]
    · rw [zu_n h1]
      by_cases h2 : a = 16
      · subst h2; rw [zu_s, zwr, zu_n h1, zu_s]
      · rw [zu_n h2, zwr_n J L ⟨h1, h2⟩, zwr_n J _ ⟨h1, h2⟩]
  rw [e] at h
  exact h
/-- the writers, as lists -/
def qCol (c k r : Int32) : zI4 := if k = -1 then (5, c, r, 0) else (4, c, k, r)
def qTest (L : List zI4) (o right next : Int32) : List zI4 := L ++ [(o, 0, nI L.length + 2, right)] ++ [(19, next, 0, 0)]
def qCond (J : zJT) (i : Nat) (next : Int32) (L : List zI4) : List zI4 :=
  if J 38 i < 6 then qTest (L ++ [qCol (J 36 i) (J 37 i) 0] ++ [(6, J 39 i, 1, 0)]) (9 + J 38 i) 1 next else qTest (L ++ [qCol (J 36 i) (J 37 i) 0]) (9 + J 38 i) 0 next
def qConds (J : zJT) (c next : Int32) : Nat → List zI4 → List zI4
  | 0, L => L
  | m + 1, L => if J 36 m = c then qCond J m next (qConds J c next m L) else qConds J c next m L
def qOuts (J : zJT) : Nat → List zI4 → List zI4
  | 0, L => L
  | m + 1, L => qOuts J m L ++ [qCol (J 34 m) (J 35 m) (2 + nI m)]
theorem qTest_l (L : List zI4) (o r n : Int32) : (qTest L o r n).length = L.length + 2 := by simp [qTest]
theorem qCond_l (J : zJT) (i : Nat) (n : Int32) (L : List zI4) : (qCond J i n L).length ≤ L.length + 4 ∧ L.length ≤ (qCond J i n L).length := by
  unfold qCond; split <;> simp [qTest_l] <;> omega
theorem qConds_l (J : zJT) (c n : Int32) (m : Nat) (L : List zI4) : (qConds J c n m L).length ≤ L.length + 4 * m ∧ L.length ≤ (qConds J c n m L).length := by
  induction m with
  | zero => simp [qConds]
  | succ m ih =>
    simp only [qConds]
    split
    · have h := qCond_l J m n (qConds J c n m L); omega
    · omega
theorem qOuts_l (J : zJT) (m : Nat) (L : List zI4) : (qOuts J m L).length = L.length + m := by
  induction m with
  | zero => simp [qOuts]
  | succ m ih => simp [qOuts, ih]; omega
set_option maxRecDepth 100000 in
set_option maxHeartbeats 4000000 in
theorem c_Que_writeColumn (X : zX) (J : zJT) (G : zGT) (L : List zI4) (hL : L.length < 60) (c k r : Int32) : zK X 1 m_Que_writeColumn [.ref 32, .ref 15, .int c, .int k, .int r] (zwr J L) G none (zwr J (L ++ [qCol c k r])) G := by
  refine zC_of (by decide) (Nat.le_of_ble_eq_true rfl) ?_
  refine z_iload_n d_Que_writeColumn_0 rfl ?_
  refine z_iconst (v := (-1)) d_Que_writeColumn_1 (by decide) ?_
  refine z_icmp_ne d_Que_writeColumn_2 17 (by decide) (fun h2 => ?_) (fun h2 => ?_)
  · refine z_aload_n d_Que_writeColumn_17 rfl ?_
    refine z_iconst (v := 4) d_Que_writeColumn_18 (by decide) ?_
    refine z_iload_n d_Que_writeColumn_19 rfl ?_
    refine z_iload_n d_Que_writeColumn_20 rfl ?_
    refine z_iload d_Que_writeColumn_21 rfl ?_
    refine z_callV0 d_Que_writeColumn_23 g_Que_64 (c_app X J G L (by first | omega | (simp only [List.length_append, List.length_cons, List.length_nil, qTest_l]; omega)) 4 c k r) (by omega) rfl rfl rfl ⟨by decide, by decide, by decide, by decide⟩ rfl (Nat.le_of_ble_eq_true rfl) ?_
    exact z_vret d_Que_writeColumn_26 rfl (by decide) (by decide) (by rw [qCol, if_neg h2])
  · refine z_aload_n d_Que_writeColumn_5 rfl ?_
    refine z_iconst (v := 5) d_Que_writeColumn_6 (by decide) ?_
    refine z_iload_n d_Que_writeColumn_7 rfl ?_
    refine z_iload d_Que_writeColumn_8 rfl ?_
    refine z_iconst (v := 0) d_Que_writeColumn_10 (by decide) ?_
    refine z_callV0 d_Que_writeColumn_11 g_Que_64 (c_app X J G L (by first | omega | (simp only [List.length_append, List.length_cons, List.length_nil, qTest_l]; omega)) 5 c r 0) (by omega) rfl rfl rfl ⟨by decide, by decide, by decide, by decide⟩ rfl (Nat.le_of_ble_eq_true rfl) ?_
    refine z_goto d_Que_writeColumn_14 26 (by decide) ?_
    exact z_vret d_Que_writeColumn_26 rfl (by decide) (by decide) (by rw [qCol, if_pos h2])
set_option maxRecDepth 100000 in
set_option maxHeartbeats 4000000 in
theorem c_Que_writeTest (X : zX) (J : zJT) (G : zGT) (L : List zI4) (hL : L.length + 2 ≤ 60) (o r n : Int32) : zK X 1 m_Que_writeTest [.ref 32, .ref 15, .int o, .int r, .int n] (zwr J L) G none (zwr J (qTest L o r n)) G := by
  refine zC_of (by decide) (Nat.le_of_ble_eq_true rfl) ?_
  refine z_aload_n d_Que_writeTest_0 rfl ?_
  refine z_iload_n d_Que_writeTest_1 rfl ?_
  refine z_iconst (v := 0) d_Que_writeTest_2 (by decide) ?_
  refine z_aload_n d_Que_writeTest_3 rfl ?_
  refine z_get d_Que_writeTest_4 f_Que_57 (by omega) rfl rfl ?_
  refine z_iconst (v := 2) d_Que_writeTest_7 (by decide) ?_
  refine z_iadd d_Que_writeTest_8 ?_
  refine z_iload_n d_Que_writeTest_9 rfl ?_
  rw [zwr_sz]
  refine z_callV0 d_Que_writeTest_10 g_Que_64 (c_app X J G L (by first | omega | (simp only [List.length_append, List.length_cons, List.length_nil, qTest_l]; omega)) o 0 (nI L.length + 2) r) (by omega) rfl rfl rfl ⟨by decide, by decide, by decide, by decide⟩ rfl (Nat.le_of_ble_eq_true rfl) ?_
  refine z_aload_n d_Que_writeTest_13 rfl ?_
  refine z_bipush (v := 19) d_Que_writeTest_14 (by decide) ?_
  refine z_iload d_Que_writeTest_16 rfl ?_
  refine z_iconst (v := 0) d_Que_writeTest_18 (by decide) ?_
  refine z_iconst (v := 0) d_Que_writeTest_19 (by decide) ?_
  refine z_callV0 d_Que_writeTest_20 g_Que_64 (c_app X J G _ (by first | omega | (simp only [List.length_append, List.length_cons, List.length_nil, qTest_l]; omega)) 19 n 0 0) (by omega) rfl rfl rfl ⟨by decide, by decide, by decide, by decide⟩ rfl (Nat.le_of_ble_eq_true rfl) ?_
  exact z_vret d_Que_writeTest_23 rfl (by decide) (by decide) rfl
set_option maxRecDepth 100000 in
set_option maxHeartbeats 4000000 in
theorem c_Que_writeCond1 (X : zX) (J : zJT) (G : zGT) (L : List zI4) (hL : L.length + 4 ≤ 60) {i : Nat} (hi : i < 4) (n : Int32) (h6 : J 38 i < 6) : zK X 2 m_Que_writeCondition [.ref 32, .ref 15, .int (nI i), .int n] (zwr J L) G none (zwr J (qCond J i n L)) G := by
  refine zC_of (by decide) (Nat.le_of_ble_eq_true rfl) ?_
  refine z_aload_n d_Que_writeCondition_0 rfl ?_
  refine z_aload_n d_Que_writeCondition_1 rfl ?_
  refine z_aload_n d_Que_writeCondition_2 rfl ?_
  refine z_get d_Que_writeCondition_3 f_Que_31 (by omega) rfl rfl ?_
  refine z_iload_n d_Que_writeCondition_6 rfl ?_
  refine z_iald d_Que_writeCondition_7 (by omega) rfl (show zin (nI i) i 4 from ⟨rfl, hi, by decide⟩) ?_
  refine z_aload_n d_Que_writeCondition_8 rfl ?_
  refine z_get d_Que_writeCondition_9 f_Que_34 (by omega) rfl rfl ?_
  refine z_iload_n d_Que_writeCondition_12 rfl ?_
  refine z_iald d_Que_writeCondition_13 (by omega) rfl (show zin (nI i) i 4 from ⟨rfl, hi, by decide⟩) ?_
  refine z_iconst (v := 0) d_Que_writeCondition_14 (by decide) ?_
  rw [zwr_n J _ (show (36 : Nat) ≠ 15 ∧ (36 : Nat) ≠ 16 by decide), zwr_n J _ (show (37 : Nat) ≠ 15 ∧ (37 : Nat) ≠ 16 by decide)]
  refine z_callV0 d_Que_writeCondition_15 g_Que_97 (c_Que_writeColumn X J G L (by omega) _ _ _) (by omega) rfl rfl rfl ⟨by decide, by decide, by decide, by decide⟩ rfl (Nat.le_of_ble_eq_true rfl) ?_
  refine z_bipush (v := 9) d_Que_writeCondition_18 (by decide) ?_
  refine z_aload_n d_Que_writeCondition_20 rfl ?_
  refine z_get d_Que_writeCondition_21 f_Que_37 (by omega) rfl rfl ?_
  refine z_iload_n d_Que_writeCondition_24 rfl ?_
  refine z_iald d_Que_writeCondition_25 (by omega) rfl (show zin (nI i) i 4 from ⟨rfl, hi, by decide⟩) ?_
  refine z_iadd d_Que_writeCondition_26 ?_
  rw [zwr_n J _ (show (38 : Nat) ≠ 15 ∧ (38 : Nat) ≠ 16 by decide)]
  refine z_istore (lv' := [(0, _), (1, _), (2, _), (3, _), (4, _)]) d_Que_writeCondition_27 (by decide) rfl ?_
  refine z_aload_n d_Que_writeCondition_29 rfl ?_
  refine z_get d_Que_writeCondition_30 f_Que_37 (by omega) rfl rfl ?_
  refine z_iload_n d_Que_writeCondition_33 rfl ?_
  refine z_iald d_Que_writeCondition_34 (by omega) rfl (show zin (nI i) i 4 from ⟨rfl, hi, by decide⟩) ?_
  refine z_bipush (v := 6) d_Que_writeCondition_35 (by decide) ?_
  rw [zwr_n J _ (show (38 : Nat) ≠ 15 ∧ (38 : Nat) ≠ 16 by decide)]
  refine z_icmp_ge d_Que_writeCondition_37 66 (by decide) (fun h9 => absurd h9 (fun h9 => absurd h6 (Int32.not_lt.mpr h9))) (fun _ => ?_)
  refine z_aload_n d_Que_writeCondition_40 rfl ?_
  refine z_bipush (v := 6) d_Que_writeCondition_41 (by decide) ?_
  refine z_aload_n d_Que_writeCondition_43 rfl ?_
  refine z_get d_Que_writeCondition_44 f_Que_40 (by omega) rfl rfl ?_
  refine z_iload_n d_Que_writeCondition_47 rfl ?_
  refine z_iald d_Que_writeCondition_48 (by omega) rfl (show zin (nI i) i 4 from ⟨rfl, hi, by decide⟩) ?_
  refine z_iconst (v := 1) d_Que_writeCondition_49 (by decide) ?_
  refine z_iconst (v := 0) d_Que_writeCondition_50 (by decide) ?_
  rw [zwr_n J _ (show (39 : Nat) ≠ 15 ∧ (39 : Nat) ≠ 16 by decide)]
  refine z_callV0 d_Que_writeCondition_51 g_Que_64 (c_app X J G _ (by first | omega | (simp only [List.length_append, List.length_cons, List.length_nil, qTest_l]; omega)) 6 (J 39 i) 1 0) (by omega) rfl rfl rfl ⟨by decide, by decide, by decide, by decide⟩ rfl (Nat.le_of_ble_eq_true rfl) ?_
  refine z_aload_n d_Que_writeCondition_54 rfl ?_
  refine z_aload_n d_Que_writeCondition_55 rfl ?_
  refine z_iload d_Que_writeCondition_56 rfl ?_
  refine z_iconst (v := 1) d_Que_writeCondition_58 (by decide) ?_
  refine z_iload_n d_Que_writeCondition_59 rfl ?_
  refine z_callV0 d_Que_writeCondition_60 g_Que_101 (c_Que_writeTest X J G _ (by simp only [List.length_append, List.length_cons, List.length_nil]; omega) _ _ _) (by omega) rfl rfl rfl ⟨by decide, by decide, by decide, by decide⟩ rfl (Nat.le_of_ble_eq_true rfl) ?_
  refine z_goto d_Que_writeCondition_63 75 (by decide) ?_
  exact z_vret d_Que_writeCondition_75 rfl (by decide) (by decide) (by rw [qCond, if_pos h6])
set_option maxRecDepth 100000 in
set_option maxHeartbeats 4000000 in
theorem c_Que_writeCond0 (X : zX) (J : zJT) (G : zGT) (L : List zI4) (hL : L.length + 4 ≤ 60) {i : Nat} (hi : i < 4) (n : Int32) (h6 : ¬ J 38 i < 6) : zK X 2 m_Que_writeCondition [.ref 32, .ref 15, .int (nI i), .int n] (zwr J L) G none (zwr J (qCond J i n L)) G := by
  refine zC_of (by decide) (Nat.le_of_ble_eq_true rfl) ?_
  refine z_aload_n d_Que_writeCondition_0 rfl ?_
  refine z_aload_n d_Que_writeCondition_1 rfl ?_
  refine z_aload_n d_Que_writeCondition_2 rfl ?_
  refine z_get d_Que_writeCondition_3 f_Que_31 (by omega) rfl rfl ?_
  refine z_iload_n d_Que_writeCondition_6 rfl ?_
  refine z_iald d_Que_writeCondition_7 (by omega) rfl (show zin (nI i) i 4 from ⟨rfl, hi, by decide⟩) ?_
  refine z_aload_n d_Que_writeCondition_8 rfl ?_
  refine z_get d_Que_writeCondition_9 f_Que_34 (by omega) rfl rfl ?_
  refine z_iload_n d_Que_writeCondition_12 rfl ?_
  refine z_iald d_Que_writeCondition_13 (by omega) rfl (show zin (nI i) i 4 from ⟨rfl, hi, by decide⟩) ?_
  refine z_iconst (v := 0) d_Que_writeCondition_14 (by decide) ?_
  rw [zwr_n J _ (show (36 : Nat) ≠ 15 ∧ (36 : Nat) ≠ 16 by decide), zwr_n J _ (show (37 : Nat) ≠ 15 ∧ (37 : Nat) ≠ 16 by decide)]
  refine z_callV0 d_Que_writeCondition_15 g_Que_97 (c_Que_writeColumn X J G L (by omega) _ _ _) (by omega) rfl rfl rfl ⟨by decide, by decide, by decide, by decide⟩ rfl (Nat.le_of_ble_eq_true rfl) ?_
  refine z_bipush (v := 9) d_Que_writeCondition_18 (by decide) ?_
  refine z_aload_n d_Que_writeCondition_20 rfl ?_
  refine z_get d_Que_writeCondition_21 f_Que_37 (by omega) rfl rfl ?_
  refine z_iload_n d_Que_writeCondition_24 rfl ?_
  refine z_iald d_Que_writeCondition_25 (by omega) rfl (show zin (nI i) i 4 from ⟨rfl, hi, by decide⟩) ?_
  refine z_iadd d_Que_writeCondition_26 ?_
  rw [zwr_n J _ (show (38 : Nat) ≠ 15 ∧ (38 : Nat) ≠ 16 by decide)]
  refine z_istore (lv' := [(0, _), (1, _), (2, _), (3, _), (4, _)]) d_Que_writeCondition_27 (by decide) rfl ?_
  refine z_aload_n d_Que_writeCondition_29 rfl ?_
  refine z_get d_Que_writeCondition_30 f_Que_37 (by omega) rfl rfl ?_
  refine z_iload_n d_Que_writeCondition_33 rfl ?_
  refine z_iald d_Que_writeCondition_34 (by omega) rfl (show zin (nI i) i 4 from ⟨rfl, hi, by decide⟩) ?_
  refine z_bipush (v := 6) d_Que_writeCondition_35 (by decide) ?_
  rw [zwr_n J _ (show (38 : Nat) ≠ 15 ∧ (38 : Nat) ≠ 16 by decide)]
  refine z_icmp_ge d_Que_writeCondition_37 66 (by decide) (fun _ => ?_) (fun h9 => absurd (Int32.not_lt.mp h6) h9)
  refine z_aload_n d_Que_writeCondition_66 rfl ?_
  refine z_aload_n d_Que_writeCondition_67 rfl ?_
  refine z_iload d_Que_writeCondition_68 rfl ?_
  refine z_iconst (v := 0) d_Que_writeCondition_70 (by decide) ?_
  refine z_iload_n d_Que_writeCondition_71 rfl ?_
  refine z_callV0 d_Que_writeCondition_72 g_Que_101 (c_Que_writeTest X J G _ (by simp only [List.length_append, List.length_cons, List.length_nil]; omega) _ _ _) (by omega) rfl rfl rfl ⟨by decide, by decide, by decide, by decide⟩ rfl (Nat.le_of_ble_eq_true rfl) ?_
  exact z_vret d_Que_writeCondition_75 rfl (by decide) (by decide) (by rw [qCond, if_neg h6])
theorem c_Que_writeCondition (X : zX) (J : zJT) (G : zGT) (L : List zI4) (hL : L.length + 4 ≤ 60) {i : Nat} (hi : i < 4) (n : Int32) : zK X 2 m_Que_writeCondition [.ref 32, .ref 15, .int (nI i), .int n] (zwr J L) G none (zwr J (qCond J i n L)) G := by
  by_cases h6 : J 38 i < 6
  · exact c_Que_writeCond1 X J G L hL hi n h6
  · exact c_Que_writeCond0 X J G L hL hi n h6
