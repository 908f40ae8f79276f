def qTail (J : zJT) (mo : Nat) (L : List zI4) : List zI4 := qOuts J mo L ++ [(18, 2, nI mo, 0)]
def qInner (J : zJT) (oN : Int32) (m mo : Nat) (jo : Bool) (L : List zI4) : List zI4 :=
  qTail J mo (if jo = true then qJoin J (oN - 1) (qConds J 1 (oN - 1) m (qStart J 1 oN m L)) else qConds J 1 (oN - 1) m (qStart J 1 oN m L)) ++ [(3, 1, nI (qStart J 1 oN m L).length, 0)]
def qOpens (J : zJT) : Nat → List zI4
  | 0 => []
  | c + 1 => qOpens J c ++ [(1, nI c, J 33 c, 0)]
def qBody (J : zJT) (len : Int32) (nc m : Nat) : List zI4 := qConds J 0 (len - 1 - 1) m (qStart J 0 (len - 1) m (qOpens J nc))
def qProg (J : zJT) (len : Int32) (nc m mo : Nat) (jo : Bool) : List zI4 :=
  (if nc = 2 then qInner J (len - 1 - 1) m mo jo (qBody J len nc m) else qTail J mo (qBody J len nc m)) ++ [(3, 0, nI (qStart J 0 (len - 1) m (qOpens J nc)).length, 0)] ++ [(0, 0, 0, 0)]
theorem qTail_l (J : zJT) (mo : Nat) (L : List zI4) : (qTail J mo L).length = L.length + mo + 1 := by simp [qTail, qOuts_l]
theorem qJoin_l (J : zJT) (n : Int32) (L : List zI4) : (qJoin J n L).length = L.length + 4 := by simp [qJoin, qTest_l]
theorem qOpens_l (J : zJT) (n : Nat) : (qOpens J n).length = n := by
  induction n with
  | zero => rfl
  | succ n ih => simp [qOpens, ih]
theorem qInner_l (J : zJT) (oN : Int32) (m mo : Nat) (jo : Bool) (L : List zI4) : (qInner J oN m mo jo L).length ≤ L.length + 4 * m + mo + 8 := by
  have h1 := (qStart_l J 1 oN m L).1
  have h2 := (qConds_l J 1 (oN - 1) m (qStart J 1 oN m L)).1
  unfold qInner
  rw [List.length_append, qTail_l]
  split <;> simp only [qJoin_l, List.length_cons, List.length_nil] <;> omega
theorem qBody_l (J : zJT) (len : Int32) (nc m : Nat) : (qBody J len nc m).length ≤ nc + 2 + 4 * m := by
  have h1 := (qStart_l J 0 (len - 1) m (qOpens J nc)).1
  have h2 := (qConds_l J 0 (len - 1 - 1) m (qStart J 0 (len - 1) m (qOpens J nc))).1
  rw [qOpens_l] at h1
  unfold qBody
  omega
theorem zpw_nil (f : Nat → Int32) : zpw f [] = f := by funext j; simp [zpw]
set_option maxRecDepth 100000 in
set_option maxHeartbeats 4000000 in
theorem c_Que_inner_true (X : zX) (J : zJT) (G : zGT) (L : List zI4) {m mo : Nat} (hm : J 32 2 = nI m) (hm4 : m ≤ 4) (ho : J 32 1 = nI mo) (ho4 : mo ≤ 4) (hL : L.length ≤ 25) (oN : Int32) (hj : J 32 10 = 1) : zK X 4 m_Que_writeInnerLoop [.ref 32, .ref 15, .int oN] (zwr J L) G none (zwr J (qInner J oN m mo true L)) G := by
  have h1 := (qStart_l J 1 oN m L).1
  have h2 := (qConds_l J 1 (oN - 1) m (qStart J 1 oN m L)).1
  refine zC_of (by decide) (Nat.le_of_ble_eq_true rfl) ?_
  refine z_iload_n d_Que_writeInnerLoop_0 rfl ?_
  refine z_iconst (v := 1) d_Que_writeInnerLoop_1 (by decide) ?_
  refine z_isub d_Que_writeInnerLoop_2 ?_
  refine z_istore_n (lv' := [(0, _), (1, _), (2, _), (3, _)]) d_Que_writeInnerLoop_3 (by decide) rfl ?_
  refine z_aload_n d_Que_writeInnerLoop_4 rfl ?_
  refine z_aload_n d_Que_writeInnerLoop_5 rfl ?_
  refine z_iconst (v := 1) d_Que_writeInnerLoop_6 (by decide) ?_
  refine z_iload_n d_Que_writeInnerLoop_7 rfl ?_
  refine z_callV0 d_Que_writeInnerLoop_8 g_Que_68 (c_Que_start X J G L hm hm4 (by omega) 1 oN) (by omega) rfl rfl rfl ⟨by decide, by decide, by decide, by decide⟩ rfl (Nat.le_of_ble_eq_true rfl) ?_
  refine z_aload_n d_Que_writeInnerLoop_11 rfl ?_
  refine z_get d_Que_writeInnerLoop_12 f_Que_57 (by omega) rfl rfl ?_
  rw [zwr_sz]
  refine z_istore (lv' := [(0, _), (1, _), (2, _), (3, _), (4, _)]) d_Que_writeInnerLoop_15 (by decide) rfl ?_
  refine z_aload_n d_Que_writeInnerLoop_17 rfl ?_
  refine z_aload_n d_Que_writeInnerLoop_18 rfl ?_
  refine z_iconst (v := 1) d_Que_writeInnerLoop_19 (by decide) ?_
  refine z_iload_n d_Que_writeInnerLoop_20 rfl ?_
  refine z_callV0 d_Que_writeInnerLoop_21 g_Que_72 (c_Que_conds X J G _ hm hm4 (by omega) 1 (oN - 1)) (by omega) rfl rfl rfl ⟨by decide, by decide, by decide, by decide⟩ rfl (Nat.le_of_ble_eq_true rfl) ?_
  refine z_aload_n d_Que_writeInnerLoop_24 rfl ?_
  refine z_get d_Que_writeInnerLoop_25 f_Que_43 (by omega) rfl rfl ?_
  rw [zwr_n J _ (show (32 : Nat) ≠ 15 ∧ (32 : Nat) ≠ 16 by decide)]
  refine z_if_eq d_Que_writeInnerLoop_28 37 (by decide) (fun h9 => absurd h9 (by rw [hj]; decide)) (fun _ => ?_)
  refine z_aload_n d_Que_writeInnerLoop_31 rfl ?_
  refine z_aload_n d_Que_writeInnerLoop_32 rfl ?_
  refine z_iload_n d_Que_writeInnerLoop_33 rfl ?_
  refine z_callV0 d_Que_writeInnerLoop_34 g_Que_83 (c_Que_join X J G _ (by omega) (oN - 1)) (by omega) rfl rfl rfl ⟨by decide, by decide, by decide, by decide⟩ rfl (Nat.le_of_ble_eq_true rfl) ?_
  refine z_aload_n d_Que_writeInnerLoop_37 rfl ?_
  refine z_aload_n d_Que_writeInnerLoop_38 rfl ?_
  refine z_callV0 d_Que_writeInnerLoop_39 g_Que_79 (c_Que_outs X J G _ ho ho4 (by first | omega | (rw [qJoin_l]; omega))) (by omega) rfl rfl rfl ⟨by decide, by decide, by decide, by decide⟩ rfl (Nat.le_of_ble_eq_true rfl) ?_
  refine z_aload_n d_Que_writeInnerLoop_42 rfl ?_
  refine z_iconst (v := 3) d_Que_writeInnerLoop_43 (by decide) ?_
  refine z_iconst (v := 1) d_Que_writeInnerLoop_44 (by decide) ?_
  refine z_iload d_Que_writeInnerLoop_45 rfl ?_
  refine z_iconst (v := 0) d_Que_writeInnerLoop_47 (by decide) ?_
  refine z_callV0 d_Que_writeInnerLoop_48 g_Que_64 (c_app X J G _ (by have h3 := qOuts_l J mo; simp only [List.length_append, h3, qJoin_l, List.length_cons, List.length_nil]; omega) 3 1 _ 0) (by omega) rfl rfl rfl ⟨by decide, by decide, by decide, by decide⟩ rfl (Nat.le_of_ble_eq_true rfl) ?_
  exact z_vret d_Que_writeInnerLoop_51 rfl (by decide) (by decide) (by simp only [qInner, qTail, if_pos, Bool.false_eq_true, if_false])
set_option maxRecDepth 100000 in
set_option maxHeartbeats 4000000 in
theorem c_Que_inner_false (X : zX) (J : zJT) (G : zGT) (L : List zI4) {m mo : Nat} (hm : J 32 2 = nI m) (hm4 : m ≤ 4) (ho : J 32 1 = nI mo) (ho4 : mo ≤ 4) (hL : L.length ≤ 25) (oN : Int32) (hj : J 32 10 = 0) : zK X 4 m_Que_writeInnerLoop [.ref 32, .ref 15, .int oN] (zwr J L) G none (zwr J (qInner J oN m mo false L)) G := by
  have h1 := (qStart_l J 1 oN m L).1
  have h2 := (qConds_l J 1 (oN - 1) m (qStart J 1 oN m L)).1
  refine zC_of (by decide) (Nat.le_of_ble_eq_true rfl) ?_
  refine z_iload_n d_Que_writeInnerLoop_0 rfl ?_
  refine z_iconst (v := 1) d_Que_writeInnerLoop_1 (by decide) ?_
  refine z_isub d_Que_writeInnerLoop_2 ?_
  refine z_istore_n (lv' := [(0, _), (1, _), (2, _), (3, _)]) d_Que_writeInnerLoop_3 (by decide) rfl ?_
  refine z_aload_n d_Que_writeInnerLoop_4 rfl ?_
  refine z_aload_n d_Que_writeInnerLoop_5 rfl ?_
  refine z_iconst (v := 1) d_Que_writeInnerLoop_6 (by decide) ?_
  refine z_iload_n d_Que_writeInnerLoop_7 rfl ?_
  refine z_callV0 d_Que_writeInnerLoop_8 g_Que_68 (c_Que_start X J G L hm hm4 (by omega) 1 oN) (by omega) rfl rfl rfl ⟨by decide, by decide, by decide, by decide⟩ rfl (Nat.le_of_ble_eq_true rfl) ?_
  refine z_aload_n d_Que_writeInnerLoop_11 rfl ?_
  refine z_get d_Que_writeInnerLoop_12 f_Que_57 (by omega) rfl rfl ?_
  rw [zwr_sz]
  refine z_istore (lv' := [(0, _), (1, _), (2, _), (3, _), (4, _)]) d_Que_writeInnerLoop_15 (by decide) rfl ?_
  refine z_aload_n d_Que_writeInnerLoop_17 rfl ?_
  refine z_aload_n d_Que_writeInnerLoop_18 rfl ?_
  refine z_iconst (v := 1) d_Que_writeInnerLoop_19 (by decide) ?_
  refine z_iload_n d_Que_writeInnerLoop_20 rfl ?_
  refine z_callV0 d_Que_writeInnerLoop_21 g_Que_72 (c_Que_conds X J G _ hm hm4 (by omega) 1 (oN - 1)) (by omega) rfl rfl rfl ⟨by decide, by decide, by decide, by decide⟩ rfl (Nat.le_of_ble_eq_true rfl) ?_
  refine z_aload_n d_Que_writeInnerLoop_24 rfl ?_
  refine z_get d_Que_writeInnerLoop_25 f_Que_43 (by omega) rfl rfl ?_
  rw [zwr_n J _ (show (32 : Nat) ≠ 15 ∧ (32 : Nat) ≠ 16 by decide)]
  refine z_if_eq d_Que_writeInnerLoop_28 37 (by decide) (fun _ => ?_) (fun h9 => absurd hj h9)
  refine z_aload_n d_Que_writeInnerLoop_37 rfl ?_
  refine z_aload_n d_Que_writeInnerLoop_38 rfl ?_
  refine z_callV0 d_Que_writeInnerLoop_39 g_Que_79 (c_Que_outs X J G _ ho ho4 (by first | omega | (rw [qJoin_l]; omega))) (by omega) rfl rfl rfl ⟨by decide, by decide, by decide, by decide⟩ rfl (Nat.le_of_ble_eq_true rfl) ?_
  refine z_aload_n d_Que_writeInnerLoop_42 rfl ?_
  refine z_iconst (v := 3) d_Que_writeInnerLoop_43 (by decide) ?_
  refine z_iconst (v := 1) d_Que_writeInnerLoop_44 (by decide) ?_
  refine z_iload d_Que_writeInnerLoop_45 rfl ?_
  refine z_iconst (v := 0) d_Que_writeInnerLoop_47 (by decide) ?_
  refine z_callV0 d_Que_writeInnerLoop_48 g_Que_64 (c_app X J G _ (by have h3 := qOuts_l J mo; simp only [List.length_append, h3, qJoin_l, List.length_cons, List.length_nil]; omega) 3 1 _ 0) (by omega) rfl rfl rfl ⟨by decide, by decide, by decide, by decide⟩ rfl (Nat.le_of_ble_eq_true rfl) ?_
  exact z_vret d_Que_writeInnerLoop_51 rfl (by decide) (by decide) (by simp only [qInner, qTail, if_pos, Bool.false_eq_true, if_false])
set_option maxRecDepth 100000 in
set_option maxHeartbeats 4000000 in
theorem l_Que_writeTo (X : zX) (J : zJT) (G : zGT) {m mo nc : Nat} {jo : Bool} (hm : J 32 2 = nI m) (hm4 : m ≤ 4) (ho : J 32 1 = nI mo) (ho4 : mo ≤ 4) (hc : J 32 3 = nI nc) (hc1 : nc ≤ 2) (hj : J 32 10 = zb jo) (len : Int32) : ∀ rem i, nc - i = rem → i ≤ nc → zJ X (zR 5 0 0) m_Que_writeTo (zRet X 0 0 false none (hp (zwr J (qProg J len nc m mo jo)) G) 60) false 0 0 (hp (zwr J (qOpens J i)) G) 60 17 [(0, .ref 32), (1, .ref 15), (2, .int len), (3, .int (len - 1)), (4, .int (len - 1 - 1)), (5, .int (nI i))] [] := by
  intro rem
  induction rem with
  | zero =>
    intro i hr hi
    rw [show i = nc by omega]
    have hb1 := (qStart_l J 0 (len - 1) m (qOpens J nc)).1
    have hb2 := qBody_l J len nc m
    rw [qOpens_l] at hb1
    by_cases h2 : nc = 2
    · cases jo
      · refine z_iload d_Que_writeTo_17 rfl ?_
        refine z_aload_n d_Que_writeTo_19 rfl ?_
        refine z_get d_Que_writeTo_20 f_Que_22 (by omega) rfl rfl ?_
        refine z_icmp_ge d_Que_writeTo_23 47 (by decide) (fun _ => ?_) (fun h9 => absurd (by rw [zwr_n J _ (show (32 : Nat) ≠ 15 ∧ (32 : Nat) ≠ 16 by decide), hc]; exact nI_le (Nat.le_refl _) (by omega)) h9)
        refine z_aload_n d_Que_writeTo_47 rfl ?_
        refine z_aload_n d_Que_writeTo_48 rfl ?_
        refine z_iconst (v := 0) d_Que_writeTo_49 (by decide) ?_
        refine z_iload_n d_Que_writeTo_50 rfl ?_
        refine z_callV0 d_Que_writeTo_51 g_Que_68 (c_Que_start X J G _ hm hm4 (by rw [qOpens_l]; omega) 0 (len - 1)) (by omega) rfl rfl rfl ⟨by decide, by decide, by decide, by decide⟩ rfl (Nat.le_of_ble_eq_true rfl) ?_
        refine z_aload_n d_Que_writeTo_54 rfl ?_
        refine z_get d_Que_writeTo_55 f_Que_57 (by omega) rfl rfl ?_
        rw [zwr_sz]
        refine z_istore (lv' := [(0, _), (1, _), (2, _), (3, _), (4, _), (5, _)]) d_Que_writeTo_58 (by decide) rfl ?_
        refine z_aload_n d_Que_writeTo_60 rfl ?_
        refine z_aload_n d_Que_writeTo_61 rfl ?_
        refine z_iconst (v := 0) d_Que_writeTo_62 (by decide) ?_
        refine z_iload d_Que_writeTo_63 rfl ?_
        refine z_callV0 d_Que_writeTo_65 g_Que_72 (c_Que_conds X J G _ hm hm4 (by omega) 0 (len - 1 - 1)) (by omega) rfl rfl rfl ⟨by decide, by decide, by decide, by decide⟩ rfl (Nat.le_of_ble_eq_true rfl) ?_
        refine z_aload_n d_Que_writeTo_68 rfl ?_
        refine z_get d_Que_writeTo_69 f_Que_22 (by omega) rfl rfl ?_
        refine z_iconst (v := 2) d_Que_writeTo_72 (by decide) ?_
        rw [zwr_n J _ (show (32 : Nat) ≠ 15 ∧ (32 : Nat) ≠ 16 by decide), hc]
        refine z_icmp_ne d_Que_writeTo_73 86 (by decide) (fun h9 => absurd h9 (fun h9 => h9 (by rw [h2]; rfl))) (fun _ => ?_)
        refine z_aload_n d_Que_writeTo_76 rfl ?_
        refine z_aload_n d_Que_writeTo_77 rfl ?_
        refine z_iload d_Que_writeTo_78 rfl ?_
        refine z_callV0 d_Que_writeTo_80 g_Que_75 (c_Que_inner_false X J G (qBody J len nc m) hm hm4 ho ho4 (by omega) (len - 1 - 1) hj) (by omega) rfl rfl rfl ⟨by decide, by decide, by decide, by decide⟩ rfl (Nat.le_of_ble_eq_true rfl) ?_
        refine z_goto d_Que_writeTo_83 91 (by decide) ?_
        refine z_aload_n d_Que_writeTo_91 rfl ?_
        refine z_iconst (v := 3) d_Que_writeTo_92 (by decide) ?_
        refine z_iconst (v := 0) d_Que_writeTo_93 (by decide) ?_
        refine z_iload d_Que_writeTo_94 rfl ?_
        refine z_iconst (v := 0) d_Que_writeTo_96 (by decide) ?_
        refine z_callV0 d_Que_writeTo_97 g_Que_64 (c_app X J G _ (by have := qInner_l J (len - 1 - 1) m mo false (qBody J len nc m); omega) 3 0 _ 0) (by omega) rfl rfl rfl ⟨by decide, by decide, by decide, by decide⟩ rfl (Nat.le_of_ble_eq_true rfl) ?_
        refine z_aload_n d_Que_writeTo_100 rfl ?_
        refine z_iconst (v := 0) d_Que_writeTo_101 (by decide) ?_
        refine z_iconst (v := 0) d_Que_writeTo_102 (by decide) ?_
        refine z_iconst (v := 0) d_Que_writeTo_103 (by decide) ?_
        refine z_iconst (v := 0) d_Que_writeTo_104 (by decide) ?_
        refine z_callV0 d_Que_writeTo_105 g_Que_64 (c_app X J G _ (by have := qInner_l J (len - 1 - 1) m mo false (qBody J len nc m); rw [List.length_append]; simp only [List.length_cons, List.length_nil]; omega) 0 0 0 0) (by omega) rfl rfl rfl ⟨by decide, by decide, by decide, by decide⟩ rfl (Nat.le_of_ble_eq_true rfl) ?_
        exact z_vret d_Que_writeTo_108 rfl (by decide) (by decide) (by rw [qProg, if_pos h2])
      · refine z_iload d_Que_writeTo_17 rfl ?_
        refine z_aload_n d_Que_writeTo_19 rfl ?_
        refine z_get d_Que_writeTo_20 f_Que_22 (by omega) rfl rfl ?_
        refine z_icmp_ge d_Que_writeTo_23 47 (by decide) (fun _ => ?_) (fun h9 => absurd (by rw [zwr_n J _ (show (32 : Nat) ≠ 15 ∧ (32 : Nat) ≠ 16 by decide), hc]; exact nI_le (Nat.le_refl _) (by omega)) h9)
        refine z_aload_n d_Que_writeTo_47 rfl ?_
        refine z_aload_n d_Que_writeTo_48 rfl ?_
        refine z_iconst (v := 0) d_Que_writeTo_49 (by decide) ?_
        refine z_iload_n d_Que_writeTo_50 rfl ?_
        refine z_callV0 d_Que_writeTo_51 g_Que_68 (c_Que_start X J G _ hm hm4 (by rw [qOpens_l]; omega) 0 (len - 1)) (by omega) rfl rfl rfl ⟨by decide, by decide, by decide, by decide⟩ rfl (Nat.le_of_ble_eq_true rfl) ?_
        refine z_aload_n d_Que_writeTo_54 rfl ?_
        refine z_get d_Que_writeTo_55 f_Que_57 (by omega) rfl rfl ?_
        rw [zwr_sz]
        refine z_istore (lv' := [(0, _), (1, _), (2, _), (3, _), (4, _), (5, _)]) d_Que_writeTo_58 (by decide) rfl ?_
        refine z_aload_n d_Que_writeTo_60 rfl ?_
        refine z_aload_n d_Que_writeTo_61 rfl ?_
        refine z_iconst (v := 0) d_Que_writeTo_62 (by decide) ?_
        refine z_iload d_Que_writeTo_63 rfl ?_
        refine z_callV0 d_Que_writeTo_65 g_Que_72 (c_Que_conds X J G _ hm hm4 (by omega) 0 (len - 1 - 1)) (by omega) rfl rfl rfl ⟨by decide, by decide, by decide, by decide⟩ rfl (Nat.le_of_ble_eq_true rfl) ?_
        refine z_aload_n d_Que_writeTo_68 rfl ?_
        refine z_get d_Que_writeTo_69 f_Que_22 (by omega) rfl rfl ?_
        refine z_iconst (v := 2) d_Que_writeTo_72 (by decide) ?_
        rw [zwr_n J _ (show (32 : Nat) ≠ 15 ∧ (32 : Nat) ≠ 16 by decide), hc]
        refine z_icmp_ne d_Que_writeTo_73 86 (by decide) (fun h9 => absurd h9 (fun h9 => h9 (by rw [h2]; rfl))) (fun _ => ?_)
        refine z_aload_n d_Que_writeTo_76 rfl ?_
        refine z_aload_n d_Que_writeTo_77 rfl ?_
        refine z_iload d_Que_writeTo_78 rfl ?_
        refine z_callV0 d_Que_writeTo_80 g_Que_75 (c_Que_inner_true X J G (qBody J len nc m) hm hm4 ho ho4 (by omega) (len - 1 - 1) hj) (by omega) rfl rfl rfl ⟨by decide, by decide, by decide, by decide⟩ rfl (Nat.le_of_ble_eq_true rfl) ?_
        refine z_goto d_Que_writeTo_83 91 (by decide) ?_
        refine z_aload_n d_Que_writeTo_91 rfl ?_
        refine z_iconst (v := 3) d_Que_writeTo_92 (by decide) ?_
        refine z_iconst (v := 0) d_Que_writeTo_93 (by decide) ?_
        refine z_iload d_Que_writeTo_94 rfl ?_
        refine z_iconst (v := 0) d_Que_writeTo_96 (by decide) ?_
        refine z_callV0 d_Que_writeTo_97 g_Que_64 (c_app X J G _ (by have := qInner_l J (len - 1 - 1) m mo true (qBody J len nc m); omega) 3 0 _ 0) (by omega) rfl rfl rfl ⟨by decide, by decide, by decide, by decide⟩ rfl (Nat.le_of_ble_eq_true rfl) ?_
        refine z_aload_n d_Que_writeTo_100 rfl ?_
        refine z_iconst (v := 0) d_Que_writeTo_101 (by decide) ?_
        refine z_iconst (v := 0) d_Que_writeTo_102 (by decide) ?_
        refine z_iconst (v := 0) d_Que_writeTo_103 (by decide) ?_
        refine z_iconst (v := 0) d_Que_writeTo_104 (by decide) ?_
        refine z_callV0 d_Que_writeTo_105 g_Que_64 (c_app X J G _ (by have := qInner_l J (len - 1 - 1) m mo true (qBody J len nc m); rw [List.length_append]; simp only [List.length_cons, List.length_nil]; omega) 0 0 0 0) (by omega) rfl rfl rfl ⟨by decide, by decide, by decide, by decide⟩ rfl (Nat.le_of_ble_eq_true rfl) ?_
        exact z_vret d_Que_writeTo_108 rfl (by decide) (by decide) (by rw [qProg, if_pos h2])
    · refine z_iload d_Que_writeTo_17 rfl ?_
      refine z_aload_n d_Que_writeTo_19 rfl ?_
      refine z_get d_Que_writeTo_20 f_Que_22 (by omega) rfl rfl ?_
      refine z_icmp_ge d_Que_writeTo_23 47 (by decide) (fun _ => ?_) (fun h9 => absurd (by rw [zwr_n J _ (show (32 : Nat) ≠ 15 ∧ (32 : Nat) ≠ 16 by decide), hc]; exact nI_le (Nat.le_refl _) (by omega)) h9)
      refine z_aload_n d_Que_writeTo_47 rfl ?_
      refine z_aload_n d_Que_writeTo_48 rfl ?_
      refine z_iconst (v := 0) d_Que_writeTo_49 (by decide) ?_
      refine z_iload_n d_Que_writeTo_50 rfl ?_
      refine z_callV0 d_Que_writeTo_51 g_Que_68 (c_Que_start X J G _ hm hm4 (by rw [qOpens_l]; omega) 0 (len - 1)) (by omega) rfl rfl rfl ⟨by decide, by decide, by decide, by decide⟩ rfl (Nat.le_of_ble_eq_true rfl) ?_
      refine z_aload_n d_Que_writeTo_54 rfl ?_
      refine z_get d_Que_writeTo_55 f_Que_57 (by omega) rfl rfl ?_
      rw [zwr_sz]
      refine z_istore (lv' := [(0, _), (1, _), (2, _), (3, _), (4, _), (5, _)]) d_Que_writeTo_58 (by decide) rfl ?_
      refine z_aload_n d_Que_writeTo_60 rfl ?_
      refine z_aload_n d_Que_writeTo_61 rfl ?_
      refine z_iconst (v := 0) d_Que_writeTo_62 (by decide) ?_
      refine z_iload d_Que_writeTo_63 rfl ?_
      refine z_callV0 d_Que_writeTo_65 g_Que_72 (c_Que_conds X J G _ hm hm4 (by omega) 0 (len - 1 - 1)) (by omega) rfl rfl rfl ⟨by decide, by decide, by decide, by decide⟩ rfl (Nat.le_of_ble_eq_true rfl) ?_
      refine z_aload_n d_Que_writeTo_68 rfl ?_
      refine z_get d_Que_writeTo_69 f_Que_22 (by omega) rfl rfl ?_
      refine z_iconst (v := 2) d_Que_writeTo_72 (by decide) ?_
      rw [zwr_n J _ (show (32 : Nat) ≠ 15 ∧ (32 : Nat) ≠ 16 by decide), hc]
      refine z_icmp_ne d_Que_writeTo_73 86 (by decide) (fun _ => ?_) (fun h9 => absurd h9 (fun h9 => h2 ((nI_eq (by omega) (by decide)).mp (show nI nc = nI 2 from h9))))
      refine z_aload_n d_Que_writeTo_86 rfl ?_
      refine z_aload_n d_Que_writeTo_87 rfl ?_
      refine z_callV0 d_Que_writeTo_88 g_Que_79 (c_Que_outs X J G (qBody J len nc m) ho ho4 (by omega)) (by omega) rfl rfl rfl ⟨by decide, by decide, by decide, by decide⟩ rfl (Nat.le_of_ble_eq_true rfl) ?_
      refine z_aload_n d_Que_writeTo_91 rfl ?_
      refine z_iconst (v := 3) d_Que_writeTo_92 (by decide) ?_
      refine z_iconst (v := 0) d_Que_writeTo_93 (by decide) ?_
      refine z_iload d_Que_writeTo_94 rfl ?_
      refine z_iconst (v := 0) d_Que_writeTo_96 (by decide) ?_
      refine z_callV0 d_Que_writeTo_97 g_Que_64 (c_app X J G _ (by have := qTail_l J mo (qBody J len nc m); simp only [qTail] at this; omega) 3 0 _ 0) (by omega) rfl rfl rfl ⟨by decide, by decide, by decide, by decide⟩ rfl (Nat.le_of_ble_eq_true rfl) ?_
      refine z_aload_n d_Que_writeTo_100 rfl ?_
      refine z_iconst (v := 0) d_Que_writeTo_101 (by decide) ?_
      refine z_iconst (v := 0) d_Que_writeTo_102 (by decide) ?_
      refine z_iconst (v := 0) d_Que_writeTo_103 (by decide) ?_
      refine z_iconst (v := 0) d_Que_writeTo_104 (by decide) ?_
      refine z_callV0 d_Que_writeTo_105 g_Que_64 (c_app X J G _ (by have := qTail_l J mo (qBody J len nc m); simp only [qTail] at this; rw [List.length_append]; simp only [List.length_cons, List.length_nil]; omega) 0 0 0 0) (by omega) rfl rfl rfl ⟨by decide, by decide, by decide, by decide⟩ rfl (Nat.le_of_ble_eq_true rfl) ?_
      exact z_vret d_Que_writeTo_108 rfl (by decide) (by decide) (by rw [qProg, if_neg h2]; rfl)
  | succ rem ih =>
    intro i hr hi
    refine z_iload d_Que_writeTo_17 rfl ?_
    refine z_aload_n d_Que_writeTo_19 rfl ?_
    refine z_get d_Que_writeTo_20 f_Que_22 (by omega) rfl rfl ?_
    refine z_icmp_ge d_Que_writeTo_23 47 (by decide) (fun h9 => absurd h9 (by rw [zwr_n J _ (show (32 : Nat) ≠ 15 ∧ (32 : Nat) ≠ 16 by decide), hc]; exact nI_ge (show i < nc by omega) (by omega))) (fun _ => ?_)
    refine z_aload_n d_Que_writeTo_26 rfl ?_
    refine z_iconst (v := 1) d_Que_writeTo_27 (by decide) ?_
    refine z_iload d_Que_writeTo_28 rfl ?_
    refine z_aload_n d_Que_writeTo_30 rfl ?_
    refine z_get d_Que_writeTo_31 f_Que_9 (by omega) rfl rfl ?_
    refine z_iload d_Que_writeTo_34 rfl ?_
    refine z_iald d_Que_writeTo_36 (by omega) rfl (show zin (nI i) i 2 from ⟨rfl, by omega, by decide⟩) ?_
    refine z_iconst (v := 0) d_Que_writeTo_37 (by decide) ?_
    rw [zwr_n J _ (show (33 : Nat) ≠ 15 ∧ (33 : Nat) ≠ 16 by decide)]
    refine z_callV0 d_Que_writeTo_38 g_Que_64 (c_app X J G _ (by rw [qOpens_l]; omega) 1 (nI i) (J 33 i) 0) (by omega) rfl rfl rfl ⟨by decide, by decide, by decide, by decide⟩ rfl (Nat.le_of_ble_eq_true rfl) ?_
    refine z_iinc (lv' := [(0, _), (1, _), (2, _), (3, _), (4, _), (5, _)]) d_Que_writeTo_41 (by decide) rfl (show _ + Int32.ofInt 1 = nI (i + 1) from nI_1 _) rfl ?_
    refine z_goto d_Que_writeTo_44 17 (by decide) ?_
    exact ih (i + 1) (by omega) (by omega)
set_option maxRecDepth 100000 in
set_option maxHeartbeats 4000000 in
theorem c_Que_writeTo (X : zX) (J : zJT) (G : zGT) {m mo nc : Nat} {jo : Bool} (hm : J 32 2 = nI m) (hm4 : m ≤ 4) (ho : J 32 1 = nI mo) (ho4 : mo ≤ 4) (hc : J 32 3 = nI nc) (hc1 : nc ≤ 2) (hj : J 32 10 = zb jo) (len : Int32) : zK X 5 m_Que_writeTo [.ref 32, .ref 15, .int len] J G none (zwr J (qProg J len nc m mo jo)) G := by
  refine zC_of (by decide) (Nat.le_of_ble_eq_true rfl) ?_
  refine z_iload_n d_Que_writeTo_0 rfl ?_
  refine z_iconst (v := 1) d_Que_writeTo_1 (by decide) ?_
  refine z_isub d_Que_writeTo_2 ?_
  refine z_istore_n (lv' := [(0, _), (1, _), (2, _), (3, _)]) d_Que_writeTo_3 (by decide) rfl ?_
  refine z_iload_n d_Que_writeTo_4 rfl ?_
  refine z_iconst (v := 1) d_Que_writeTo_5 (by decide) ?_
  refine z_isub d_Que_writeTo_6 ?_
  refine z_istore (lv' := [(0, _), (1, _), (2, _), (3, _), (4, _)]) d_Que_writeTo_7 (by decide) rfl ?_
  refine z_aload_n d_Que_writeTo_9 rfl ?_
  refine z_iconst (v := 0) d_Que_writeTo_10 (by decide) ?_
  refine z_put d_Que_writeTo_11 f_Que_57 p_6_0 (by omega) rfl (Nat.le_of_ble_eq_true rfl) rfl rfl (hp_pi 0 rfl) ?_
  refine z_iconst (v := 0) d_Que_writeTo_14 (by decide) ?_
  refine z_istore (lv' := [(0, _), (1, _), (2, _), (3, _), (4, _), (5, _)]) d_Que_writeTo_15 (by decide) rfl ?_
  refine z_loc (lv' := [(0, .ref 32), (1, .ref 15), (2, .int len), (3, .int (len - 1)), (4, .int (len - 1 - 1)), (5, .int (nI 0))]) (by simp [nI_0]) (z_heq ?_ (l_Que_writeTo X J G hm hm4 ho ho4 hc hc1 hj len nc 0 (by omega) (by omega)))
  rw [qOpens, zwr, zpw_nil, zu_self]; rfl
set_option maxRecDepth 100000 in
set_option maxHeartbeats 4000000 in
theorem c_Que_hasCursor (X : zX) (i : Int32) (J : zJT) (G : zGT) : zK X 1 m_Que_hasCursor [.ref 32, .int i] J G (some (.int (zb (decide (0 ≤ i) && decide (i < J 32 3))))) J G := by
  refine zC_of (by decide) (Nat.le_of_ble_eq_true rfl) ?_
  refine z_iload_n d_Que_hasCursor_0 rfl ?_
  refine z_aload_n d_Que_hasCursor_1 rfl ?_
  refine z_get d_Que_hasCursor_2 f_Que_22 (by omega) rfl rfl ?_
  refine z_callN1 d_Que_hasCursor_5 g_Que_53 (c_isIndex X 0 _ _ _ _) rfl ⟨by decide, by decide, by decide, by decide⟩ rfl (Nat.le_of_ble_eq_true rfl) ?_
  exact z_zret d_Que_hasCursor_8 rfl (by decide) (by decide) (zb_n _) rfl rfl
set_option maxRecDepth 100000 in
set_option maxHeartbeats 4000000 in
theorem c_Que_bringOutput (X : zX) (J : zJT) (G : zGT) {m : Nat} (hm : J 32 1 = nI m) (hm4 : m < 4) (c k : Int32) : zK X 0 m_Que_bringOutput [.ref 32, .int c, .int k] J G none (va_up (va_up (va_up J 34 (upd (J 34) m c)) 35 (upd (J 35) m k)) 32 (va_up (J 32) 1 (nI m + 1))) G := by
  refine zC_of (by decide) (Nat.le_of_ble_eq_true rfl) ?_
  refine z_aload_n d_Que_bringOutput_0 rfl ?_
  refine z_get d_Que_bringOutput_1 f_Que_25 (by omega) rfl rfl ?_
  refine z_aload_n d_Que_bringOutput_4 rfl ?_
  refine z_get d_Que_bringOutput_5 f_Que_15 (by omega) rfl rfl ?_
  refine z_iload_n d_Que_bringOutput_8 rfl ?_
  refine z_iast d_Que_bringOutput_9 (by omega) rfl (show zin (J 32 1) m 4 from ⟨hm, hm4, by decide⟩) (hp_ai rfl) ?_
  refine z_aload_n d_Que_bringOutput_10 rfl ?_
  refine z_get d_Que_bringOutput_11 f_Que_28 (by omega) rfl rfl ?_
  refine z_aload_n d_Que_bringOutput_14 rfl ?_
  refine z_get d_Que_bringOutput_15 f_Que_15 (by omega) rfl rfl ?_
  refine z_iload_n d_Que_bringOutput_18 rfl ?_
  refine z_iast d_Que_bringOutput_19 (by omega) rfl (show zin (J 32 1) m 4 from ⟨hm, hm4, by decide⟩) (hp_ai rfl) ?_
  refine z_aload_n d_Que_bringOutput_20 rfl ?_
  refine z_dup d_Que_bringOutput_21 rfl ?_
  refine z_get d_Que_bringOutput_22 f_Que_15 (by omega) rfl rfl ?_
  refine z_iconst (v := 1) d_Que_bringOutput_25 (by decide) ?_
  refine z_iadd d_Que_bringOutput_26 ?_
  refine z_put d_Que_bringOutput_27 f_Que_15 p_8_1 (by omega) rfl (Nat.le_of_ble_eq_true rfl) rfl rfl (hp_pi 1 rfl) ?_
  exact z_vret d_Que_bringOutput_30 rfl (by decide) (by decide) (by simp [zu_n, hm])
set_option maxRecDepth 100000 in
set_option maxHeartbeats 4000000 in
theorem c_Que_bringCondition (X : zX) (J : zJT) (G : zGT) {m : Nat} (hm : J 32 2 = nI m) (hm4 : m < 4) (c k o v : Int32) : zK X 0 m_Que_bringCondition [.ref 32, .int c, .int k, .int o, .int v] J G none (va_up (va_up (va_up (va_up (va_up J 36 (upd (J 36) m c)) 37 (upd (J 37) m k)) 38 (upd (J 38) m o)) 39 (upd (J 39) m v)) 32 (va_up (J 32) 2 (nI m + 1))) G := by
  refine zC_of (by decide) (Nat.le_of_ble_eq_true rfl) ?_
  refine z_aload_n d_Que_bringCondition_0 rfl ?_
  refine z_get d_Que_bringCondition_1 f_Que_31 (by omega) rfl rfl ?_
  refine z_aload_n d_Que_bringCondition_4 rfl ?_
  refine z_get d_Que_bringCondition_5 f_Que_19 (by omega) rfl rfl ?_
  refine z_iload_n d_Que_bringCondition_8 rfl ?_
  refine z_iast d_Que_bringCondition_9 (by omega) rfl (show zin (J 32 2) m 4 from ⟨hm, hm4, by decide⟩) (hp_ai rfl) ?_
  refine z_aload_n d_Que_bringCondition_10 rfl ?_
  refine z_get d_Que_bringCondition_11 f_Que_34 (by omega) rfl rfl ?_
  refine z_aload_n d_Que_bringCondition_14 rfl ?_
  refine z_get d_Que_bringCondition_15 f_Que_19 (by omega) rfl rfl ?_
  refine z_iload_n d_Que_bringCondition_18 rfl ?_
  refine z_iast d_Que_bringCondition_19 (by omega) rfl (show zin (J 32 2) m 4 from ⟨hm, hm4, by decide⟩) (hp_ai rfl) ?_
  refine z_aload_n d_Que_bringCondition_20 rfl ?_
  refine z_get d_Que_bringCondition_21 f_Que_37 (by omega) rfl rfl ?_
  refine z_aload_n d_Que_bringCondition_24 rfl ?_
  refine z_get d_Que_bringCondition_25 f_Que_19 (by omega) rfl rfl ?_
  refine z_iload_n d_Que_bringCondition_28 rfl ?_
  refine z_iast d_Que_bringCondition_29 (by omega) rfl (show zin (J 32 2) m 4 from ⟨hm, hm4, by decide⟩) (hp_ai rfl) ?_
  refine z_aload_n d_Que_bringCondition_30 rfl ?_
  refine z_get d_Que_bringCondition_31 f_Que_40 (by omega) rfl rfl ?_
  refine z_aload_n d_Que_bringCondition_34 rfl ?_
  refine z_get d_Que_bringCondition_35 f_Que_19 (by omega) rfl rfl ?_
  refine z_iload d_Que_bringCondition_38 rfl ?_
  refine z_iast d_Que_bringCondition_40 (by omega) rfl (show zin (J 32 2) m 4 from ⟨hm, hm4, by decide⟩) (hp_ai rfl) ?_
  refine z_aload_n d_Que_bringCondition_41 rfl ?_
  refine z_dup d_Que_bringCondition_42 rfl ?_
  refine z_get d_Que_bringCondition_43 f_Que_19 (by omega) rfl rfl ?_
  refine z_iconst (v := 1) d_Que_bringCondition_46 (by decide) ?_
  refine z_iadd d_Que_bringCondition_47 ?_
  refine z_put d_Que_bringCondition_48 f_Que_19 p_8_2 (by omega) rfl (Nat.le_of_ble_eq_true rfl) rfl rfl (hp_pi 2 rfl) ?_
  exact z_vret d_Que_bringCondition_51 rfl (by decide) (by decide) (by simp [zu_n, hm])
set_option maxRecDepth 100000 in
set_option maxHeartbeats 4000000 in
theorem c_Que_bringJoin (X : zX) (J : zJT) (G : zGT) (k l : Int32) : zK X 0 m_Que_bringJoin [.ref 32, .int k, .int l] J G none (va_up J 32 (va_up (va_up (va_up (J 32) 10 1) 11 k) 12 l)) G := by
  refine zC_of (by decide) (Nat.le_of_ble_eq_true rfl) ?_
  refine z_aload_n d_Que_bringJoin_0 rfl ?_
  refine z_iconst (v := 1) d_Que_bringJoin_1 (by decide) ?_
  refine z_put d_Que_bringJoin_2 f_Que_43 p_8_10 (by omega) rfl (Nat.le_of_ble_eq_true rfl) (zb_n true) (zb_f true) (hp_pi 10 rfl) ?_
  refine z_aload_n d_Que_bringJoin_5 rfl ?_
  refine z_iload_n d_Que_bringJoin_6 rfl ?_
  refine z_put d_Que_bringJoin_7 f_Que_47 p_8_11 (by omega) rfl (Nat.le_of_ble_eq_true rfl) rfl rfl (hp_pi 11 rfl) ?_
  refine z_aload_n d_Que_bringJoin_10 rfl ?_
  refine z_iload_n d_Que_bringJoin_11 rfl ?_
  refine z_put d_Que_bringJoin_12 f_Que_50 p_8_12 (by omega) rfl (Nat.le_of_ble_eq_true rfl) rfl rfl (hp_pi 12 rfl) ?_
  exact z_vret d_Que_bringJoin_15 rfl (by decide) (by decide) (by simp only [bx_uu, zu_s])
set_option maxRecDepth 100000 in
set_option maxHeartbeats 4000000 in
theorem c_Que_begin1 (X : zX) (J : zJT) (G : zGT) (t u : Int32) (hu : u = -1) : zK X 0 m_Que_begin [.ref 32, .int t, .int u] J G none (va_up (va_up J 33 (upd (upd (J 33) 0 t) 1 u)) 32 (va_up (va_up (va_up (va_up (J 32) 3 1) 1 0) 2 0) 10 0)) G := by
  refine zC_of (by decide) (Nat.le_of_ble_eq_true rfl) ?_
  refine z_aload_n d_Que_begin_0 rfl ?_
  refine z_get d_Que_begin_1 f_Que_9 (by omega) rfl rfl ?_
  refine z_iconst (v := 0) d_Que_begin_4 (by decide) ?_
  refine z_iload_n d_Que_begin_5 rfl ?_
  refine z_iast d_Que_begin_6 (by omega) rfl ⟨rfl, by decide, by decide⟩ (hp_ai rfl) ?_
  refine z_aload_n d_Que_begin_7 rfl ?_
  refine z_get d_Que_begin_8 f_Que_9 (by omega) rfl rfl ?_
  refine z_iconst (v := 1) d_Que_begin_11 (by decide) ?_
  refine z_iload_n d_Que_begin_12 rfl ?_
  refine z_iast d_Que_begin_13 (by omega) rfl ⟨rfl, by decide, by decide⟩ (hp_ai rfl) ?_
  refine z_aload_n d_Que_begin_14 rfl ?_
  refine z_iload_n d_Que_begin_15 rfl ?_
  refine z_iconst (v := (-1)) d_Que_begin_16 (by decide) ?_
  refine z_icmp_ne d_Que_begin_17 24 (by decide) (fun h9 => absurd h9 (fun h9 => h9 hu)) (fun _ => ?_)
  refine z_iconst (v := 1) d_Que_begin_20 (by decide) ?_
  refine z_goto d_Que_begin_21 25 (by decide) ?_
  refine z_put d_Que_begin_25 f_Que_22 p_8_3 (by omega) rfl (Nat.le_of_ble_eq_true rfl) rfl rfl (hp_pi 3 rfl) ?_
  refine z_aload_n d_Que_begin_28 rfl ?_
  refine z_iconst (v := 0) d_Que_begin_29 (by decide) ?_
  refine z_put d_Que_begin_30 f_Que_15 p_8_1 (by omega) rfl (Nat.le_of_ble_eq_true rfl) rfl rfl (hp_pi 1 rfl) ?_
  refine z_aload_n d_Que_begin_33 rfl ?_
  refine z_iconst (v := 0) d_Que_begin_34 (by decide) ?_
  refine z_put d_Que_begin_35 f_Que_19 p_8_2 (by omega) rfl (Nat.le_of_ble_eq_true rfl) rfl rfl (hp_pi 2 rfl) ?_
  refine z_aload_n d_Que_begin_38 rfl ?_
  refine z_iconst (v := 0) d_Que_begin_39 (by decide) ?_
  refine z_put d_Que_begin_40 f_Que_43 p_8_10 (by omega) rfl (Nat.le_of_ble_eq_true rfl) (zb_n false) (zb_f false) (hp_pi 10 rfl) ?_
  exact z_vret d_Que_begin_43 rfl (by decide) (by decide) (by simp [bx_uu, zu_s, zu_n])
set_option maxRecDepth 100000 in
set_option maxHeartbeats 4000000 in
theorem c_Que_begin2 (X : zX) (J : zJT) (G : zGT) (t u : Int32) (hu : ¬ u = -1) : zK X 0 m_Que_begin [.ref 32, .int t, .int u] J G none (va_up (va_up J 33 (upd (upd (J 33) 0 t) 1 u)) 32 (va_up (va_up (va_up (va_up (J 32) 3 2) 1 0) 2 0) 10 0)) G := by
  refine zC_of (by decide) (Nat.le_of_ble_eq_true rfl) ?_
  refine z_aload_n d_Que_begin_0 rfl ?_
  refine z_get d_Que_begin_1 f_Que_9 (by omega) rfl rfl ?_
  refine z_iconst (v := 0) d_Que_begin_4 (by decide) ?_
  refine z_iload_n d_Que_begin_5 rfl ?_
  refine z_iast d_Que_begin_6 (by omega) rfl ⟨rfl, by decide, by decide⟩ (hp_ai rfl) ?_
  refine z_aload_n d_Que_begin_7 rfl ?_
  refine z_get d_Que_begin_8 f_Que_9 (by omega) rfl rfl ?_
  refine z_iconst (v := 1) d_Que_begin_11 (by decide) ?_
  refine z_iload_n d_Que_begin_12 rfl ?_
  refine z_iast d_Que_begin_13 (by omega) rfl ⟨rfl, by decide, by decide⟩ (hp_ai rfl) ?_
  refine z_aload_n d_Que_begin_14 rfl ?_
  refine z_iload_n d_Que_begin_15 rfl ?_
  refine z_iconst (v := (-1)) d_Que_begin_16 (by decide) ?_
  refine z_icmp_ne d_Que_begin_17 24 (by decide) (fun _ => ?_) (fun h9 => absurd h9 hu)
  refine z_iconst (v := 2) d_Que_begin_24 (by decide) ?_
  refine z_put d_Que_begin_25 f_Que_22 p_8_3 (by omega) rfl (Nat.le_of_ble_eq_true rfl) rfl rfl (hp_pi 3 rfl) ?_
  refine z_aload_n d_Que_begin_28 rfl ?_
  refine z_iconst (v := 0) d_Que_begin_29 (by decide) ?_
  refine z_put d_Que_begin_30 f_Que_15 p_8_1 (by omega) rfl (Nat.le_of_ble_eq_true rfl) rfl rfl (hp_pi 1 rfl) ?_
  refine z_aload_n d_Que_begin_33 rfl ?_
  refine z_iconst (v := 0) d_Que_begin_34 (by decide) ?_
  refine z_put d_Que_begin_35 f_Que_19 p_8_2 (by omega) rfl (Nat.le_of_ble_eq_true rfl) rfl rfl (hp_pi 2 rfl) ?_
  refine z_aload_n d_Que_begin_38 rfl ?_
  refine z_iconst (v := 0) d_Que_begin_39 (by decide) ?_
  refine z_put d_Que_begin_40 f_Que_43 p_8_10 (by omega) rfl (Nat.le_of_ble_eq_true rfl) (zb_n false) (zb_f false) (hp_pi 10 rfl) ?_
  exact z_vret d_Que_begin_43 rfl (by decide) (by decide) (by simp [bx_uu, zu_s, zu_n])
