set_option maxRecDepth 100000 in
set_option maxHeartbeats 4000000 in
theorem c_TM_table (X : zX) (J : zJT) (G : zGT) {t : Nat} (ht : t < 3) (hJ : J 2 1 = nI t) (v : Int32) (h1 : ¬ v < 1) (h4 : v ≤ 4) : zK X 1 m_TM_table [.ref 0, .int v] J G (some (.int (nI t))) (va_up (va_up J (9 + 2 * t) (va_up (J (9 + 2 * t)) 0 v)) 2 (va_up (J 2) 1 (nI t + 1))) G := by
  refine zC_of (by decide) (Nat.le_of_ble_eq_true rfl) ?_
  refine z_iload_n d_TM_table_0 rfl ?_
  refine z_iconst (v := 1) d_TM_table_1 (by decide) ?_
  refine z_icmp_lt d_TM_table_2 10 (by decide) (fun h9 => absurd h9 h1) (fun _ => ?_)
  refine z_iload_n d_TM_table_5 rfl ?_
  refine z_iconst (v := 4) d_TM_table_6 (by decide) ?_
  refine z_icmp_le d_TM_table_7 20 (by decide) (fun _ => ?_) (fun h9 => absurd h4 h9)
  refine z_aload_n d_TM_table_20 rfl ?_
  refine z_get d_TM_table_21 f_TM_20 (by omega) rfl rfl ?_
  refine z_get d_TM_table_24 f_TM_54 (by omega) rfl rfl ?_
  refine z_iconst (v := 3) d_TM_table_27 (by decide) ?_
  refine z_icmp_ne d_TM_table_28 41 (by decide) (fun _ => ?_) (fun h9 => absurd h9 (by rw [hJ]; exact fun h9 => absurd ((nI_eq (by omega) (by decide)).mp (show nI t = nI 3 from h9)) (by omega)))
  refine z_aload_n d_TM_table_41 rfl ?_
  refine z_get d_TM_table_42 f_TM_20 (by omega) rfl rfl ?_
  refine z_iload_n d_TM_table_45 rfl ?_
  refine z_callV1 d_TM_table_46 g_TM_65 (c_Sto_begin X ht J G hJ v) (by omega) rfl rfl rfl ⟨by decide, by decide, by decide, by decide⟩ rfl (Nat.le_of_ble_eq_true rfl) ?_
  exact z_iret d_TM_table_49 rfl (by decide) (by decide) rfl rfl
set_option maxRecDepth 100000 in
set_option maxHeartbeats 4000000 in
theorem c_TM_set0 (X : zX) (J : zJT) (G : zGT) (v n : Int32) (x : Int64) (hno : (decide (0 ≤ v) && decide (v < 4)) = false) : zK X 1 m_TM_set [.ref 0, .int v, .int n, .long x] J G (some (.int 0)) J G := by
  refine zC_of (by decide) (Nat.le_of_ble_eq_true rfl) ?_
  refine z_iload_n d_TM_set_0 rfl ?_
  refine z_iconst (v := 4) d_TM_set_1 (by decide) ?_
  refine z_callS1 d_TM_set_2 g_TM_69 (c_isIndex X 0 _ _ _ _) rfl ⟨by decide, by decide, by decide, by decide⟩ rfl (Nat.le_of_ble_eq_true rfl) ?_
  refine z_if_ne d_TM_set_5 10 (by decide) (fun h9 => absurd h9 (fun h9 => h9 (by rw [hno]; rfl))) (fun _ => ?_)
  refine z_iconst (v := 0) d_TM_set_8 (by decide) ?_
  exact z_zret d_TM_set_9 rfl (by decide) (by decide) (by decide) rfl rfl
set_option maxRecDepth 100000 in
set_option maxHeartbeats 4000000 in
theorem c_TM_set1 (X : zX) (J : zJT) (G : zGT) {i : Nat} (hi : i < 4) (n : Int32) (hn : ¬ n = 0) (x : Int64) : zK X 1 m_TM_set [.ref 0, .int (nI i), .int n, .long x] J G (some (.int 1)) (va_up J 31 (upd (J 31) i 1)) (va_up G 30 (vp_updL (G 30) i x)) := by
  refine zC_of (by decide) (Nat.le_of_ble_eq_true rfl) ?_
  refine z_iload_n d_TM_set_0 rfl ?_
  refine z_iconst (v := 4) d_TM_set_1 (by decide) ?_
  refine z_callS1 d_TM_set_2 g_TM_69 (c_isIndex X 0 _ _ _ _) rfl ⟨by decide, by decide, by decide, by decide⟩ rfl (Nat.le_of_ble_eq_true rfl) ?_
  refine z_if_ne d_TM_set_5 10 (by decide) (fun _ => ?_) (fun h9 => absurd h9 (by rw [decide_eq_true (nI_pos' (by omega)), decide_eq_true (show nI i < 4 from nI_lt (show i < 4 from hi) (by decide))]; decide))
  refine z_iload_n d_TM_set_10 rfl ?_
  refine z_if_eq d_TM_set_11 26 (by decide) (fun h9 => absurd h9 hn) (fun _ => ?_)
  refine z_aload_n d_TM_set_14 rfl ?_
  refine z_get d_TM_set_15 f_TM_36 (by omega) rfl rfl ?_
  refine z_iload_n d_TM_set_18 rfl ?_
  refine z_lload_n d_TM_set_19 rfl ?_
  refine z_callV0 d_TM_set_20 g_TM_73 (c_Val_put X 0 zVal29 (show zin (nI i) i 4 from ⟨rfl, hi, by decide⟩) J G x) (by omega) rfl rfl rfl ⟨by decide, by decide, by decide, by decide⟩ rfl (Nat.le_of_ble_eq_true rfl) ?_
  refine z_goto d_TM_set_23 34 (by decide) ?_
  refine z_iconst (v := 1) d_TM_set_34 (by decide) ?_
  exact z_zret d_TM_set_35 rfl (by decide) (by decide) (by decide) rfl rfl
set_option maxRecDepth 100000 in
set_option maxHeartbeats 4000000 in
theorem c_TM_set2 (X : zX) (J : zJT) (G : zGT) {i : Nat} (hi : i < 4) (x : Int64) : zK X 1 m_TM_set [.ref 0, .int (nI i), .int 0, .long x] J G (some (.int 1)) (va_up J 31 (upd (J 31) i 0)) (va_up G 30 (vp_updL (G 30) i 0)) := by
  refine zC_of (by decide) (Nat.le_of_ble_eq_true rfl) ?_
  refine z_iload_n d_TM_set_0 rfl ?_
  refine z_iconst (v := 4) d_TM_set_1 (by decide) ?_
  refine z_callS1 d_TM_set_2 g_TM_69 (c_isIndex X 0 _ _ _ _) rfl ⟨by decide, by decide, by decide, by decide⟩ rfl (Nat.le_of_ble_eq_true rfl) ?_
  refine z_if_ne d_TM_set_5 10 (by decide) (fun _ => ?_) (fun h9 => absurd h9 (by rw [decide_eq_true (nI_pos' (by omega)), decide_eq_true (show nI i < 4 from nI_lt (show i < 4 from hi) (by decide))]; decide))
  refine z_iload_n d_TM_set_10 rfl ?_
  refine z_if_eq d_TM_set_11 26 (by decide) (fun _ => ?_) (fun h9 => absurd rfl h9)
  refine z_aload_n d_TM_set_26 rfl ?_
  refine z_get d_TM_set_27 f_TM_36 (by omega) rfl rfl ?_
  refine z_iload_n d_TM_set_30 rfl ?_
  refine z_callV0 d_TM_set_31 g_TM_77 (c_Val_clear X 0 zVal29 (show zin (nI i) i 4 from ⟨rfl, hi, by decide⟩) J G) (by omega) rfl rfl rfl ⟨by decide, by decide, by decide, by decide⟩ rfl (Nat.le_of_ble_eq_true rfl) ?_
  refine z_iconst (v := 1) d_TM_set_34 (by decide) ?_
  exact z_zret d_TM_set_35 rfl (by decide) (by decide) (by decide) rfl rfl
set_option maxRecDepth 100000 in
set_option maxHeartbeats 4000000 in
theorem c_TM_reqTable (X : zX) (J : zJT) (G : zGT) (v : Int32) (hyes : (decide (0 ≤ v) && decide (v < J 2 1)) = true) : zK X 2 m_TM_requireTable [.ref 0, .int v] J G none J G := by
  refine zC_of (by decide) (Nat.le_of_ble_eq_true rfl) ?_
  refine z_aload_n d_TM_requireTable_0 rfl ?_
  refine z_get d_TM_requireTable_1 f_TM_20 (by omega) rfl rfl ?_
  refine z_iload_n d_TM_requireTable_4 rfl ?_
  refine z_callV1 d_TM_requireTable_5 g_TM_97 (c_Sto_hasTable X v J G) (by omega) rfl rfl rfl ⟨by decide, by decide, by decide, by decide⟩ rfl (Nat.le_of_ble_eq_true rfl) ?_
  refine z_if_ne d_TM_requireTable_8 21 (by decide) (fun _ => ?_) (fun h9 => absurd h9 (by rw [hyes]; decide))
  exact z_vret d_TM_requireTable_21 rfl (by decide) (by decide) rfl
set_option maxRecDepth 100000 in
set_option maxHeartbeats 4000000 in
theorem c_TM_insert (X : zX) (J : zJT) (G : zGT) (v : Int32) (hyes : (decide (0 ≤ v) && decide (v < J 2 1)) = true) (key : Int64) (hf : ¬ J 2 5 = 0) {r : Int32} {J' : zJT} {G' : zGT} (hr : narrow .boolean (.int r) = .int r) (hm : zK X 1 m_Sto_bring [.ref 2, .int v, .long key, .ref 29, .int 0] J G (some (.int r)) J' G') : zK X 3 m_TM_insert [.ref 0, .int v, .long key] J G (some (.int r)) J' G' := by
  refine zC_of (by decide) (Nat.le_of_ble_eq_true rfl) ?_
  refine z_aload_n d_TM_insert_0 rfl ?_
  refine z_iload_n d_TM_insert_1 rfl ?_
  refine z_callV0 d_TM_insert_2 g_TM_80 (c_TM_reqTable X J G v hyes) (by omega) rfl rfl rfl ⟨by decide, by decide, by decide, by decide⟩ rfl (Nat.le_of_ble_eq_true rfl) ?_
  refine z_aload_n d_TM_insert_5 rfl ?_
  refine z_get d_TM_insert_6 f_TM_20 (by omega) rfl rfl ?_
  refine z_callV1 d_TM_insert_9 g_TM_83 (c_Sto_isFull X J G) (by omega) rfl rfl rfl ⟨by decide, by decide, by decide, by decide⟩ rfl (Nat.le_of_ble_eq_true rfl) ?_
  refine z_if_eq d_TM_insert_12 25 (by decide) (fun _ => ?_) (fun h9 => absurd (by rw [decide_eq_false hf]; rfl) h9)
  refine z_aload_n d_TM_insert_25 rfl ?_
  refine z_get d_TM_insert_26 f_TM_20 (by omega) rfl rfl ?_
  refine z_iload_n d_TM_insert_29 rfl ?_
  refine z_lload_n d_TM_insert_30 rfl ?_
  refine z_aload_n d_TM_insert_31 rfl ?_
  refine z_get d_TM_insert_32 f_TM_36 (by omega) rfl rfl ?_
  refine z_iconst (v := 0) d_TM_insert_35 (by decide) ?_
  refine z_callV1 d_TM_insert_36 g_TM_89 (hm) (by omega) rfl rfl rfl ⟨by decide, by decide, by decide, by decide⟩ rfl (Nat.le_of_ble_eq_true rfl) ?_
  exact z_zret d_TM_insert_39 rfl (by decide) (by decide) hr rfl rfl
set_option maxRecDepth 100000 in
set_option maxHeartbeats 4000000 in
theorem c_TM_delete (X : zX) (J : zJT) (G : zGT) (v : Int32) (hyes : (decide (0 ≤ v) && decide (v < J 2 1)) = true) (key : Int64) {r : Int32} {J' : zJT} {G' : zGT} (hr : narrow .boolean (.int r) = .int r) (hm : zK X 1 m_Sto_drop [.ref 2, .int v, .long key] J G (some (.int r)) J' G') : zK X 3 m_TM_delete [.ref 0, .int v, .long key] J G (some (.int r)) J' G' := by
  refine zC_of (by decide) (Nat.le_of_ble_eq_true rfl) ?_
  refine z_aload_n d_TM_delete_0 rfl ?_
  refine z_iload_n d_TM_delete_1 rfl ?_
  refine z_callV0 d_TM_delete_2 g_TM_80 (c_TM_reqTable X J G v hyes) (by omega) rfl rfl rfl ⟨by decide, by decide, by decide, by decide⟩ rfl (Nat.le_of_ble_eq_true rfl) ?_
  refine z_aload_n d_TM_delete_5 rfl ?_
  refine z_get d_TM_delete_6 f_TM_20 (by omega) rfl rfl ?_
  refine z_iload_n d_TM_delete_9 rfl ?_
  refine z_lload_n d_TM_delete_10 rfl ?_
  refine z_callV1 d_TM_delete_11 g_TM_93 (hm) (by omega) rfl rfl rfl ⟨by decide, by decide, by decide, by decide⟩ rfl (Nat.le_of_ble_eq_true rfl) ?_
  exact z_zret d_TM_delete_14 rfl (by decide) (by decide) hr rfl rfl
set_option maxRecDepth 100000 in
set_option maxHeartbeats 4000000 in
theorem c_TM_count0 (X : zX) (J : zJT) (G : zGT) (v : Int32) (hno : (decide (0 ≤ v) && decide (v < J 2 1)) = false) : zK X 2 m_TM_count [.ref 0, .int v] J G (some (.int (-1))) J G := by
  refine zC_of (by decide) (Nat.le_of_ble_eq_true rfl) ?_
  refine z_aload_n d_TM_count_0 rfl ?_
  refine z_get d_TM_count_1 f_TM_20 (by omega) rfl rfl ?_
  refine z_iload_n d_TM_count_4 rfl ?_
  refine z_callV1 d_TM_count_5 g_TM_97 (c_Sto_hasTable X v J G) (by omega) rfl rfl rfl ⟨by decide, by decide, by decide, by decide⟩ rfl (Nat.le_of_ble_eq_true rfl) ?_
  refine z_if_eq d_TM_count_8 26 (by decide) (fun _ => ?_) (fun h9 => absurd (by rw [hno]; rfl) h9)
  refine z_iconst (v := (-1)) d_TM_count_26 (by decide) ?_
  exact z_iret d_TM_count_27 rfl (by decide) (by decide) rfl rfl
set_option maxRecDepth 100000 in
set_option maxHeartbeats 4000000 in
theorem c_TM_count (X : zX) (J : zJT) (G : zGT) {t : Nat} (ht : t < 3) (hyes : (decide (0 ≤ nI t) && decide (nI t < J 2 1)) = true) : zK X 2 m_TM_count [.ref 0, .int (nI t)] J G (some (.int (J (9 + 2 * t) 1))) J G := by
  refine zC_of (by decide) (Nat.le_of_ble_eq_true rfl) ?_
  refine z_aload_n d_TM_count_0 rfl ?_
  refine z_get d_TM_count_1 f_TM_20 (by omega) rfl rfl ?_
  refine z_iload_n d_TM_count_4 rfl ?_
  refine z_callV1 d_TM_count_5 g_TM_97 (c_Sto_hasTable X (nI t) J G) (by omega) rfl rfl rfl ⟨by decide, by decide, by decide, by decide⟩ rfl (Nat.le_of_ble_eq_true rfl) ?_
  refine z_if_eq d_TM_count_8 26 (by decide) (fun h9 => absurd h9 (by rw [hyes]; decide)) (fun _ => ?_)
  refine z_aload_n d_TM_count_11 rfl ?_
  refine z_get d_TM_count_12 f_TM_20 (by omega) rfl rfl ?_
  refine z_get d_TM_count_15 f_TM_101 (by omega) rfl rfl ?_
  refine z_iload_n d_TM_count_18 rfl ?_
  refine z_aald d_TM_count_19 (by omega) rfl rfl (show zin (nI t) t 3 from ⟨rfl, ht, by decide⟩) (zt_at ht) ?_
  refine z_get d_TM_count_20 f_TM_105 (by omega) (zt_c ht _ _) rfl ?_
  refine z_goto d_TM_count_23 27 (by decide) ?_
  exact z_iret d_TM_count_27 rfl (by decide) (by decide) rfl rfl
set_option maxRecDepth 100000 in
set_option maxHeartbeats 4000000 in
theorem c_TM_next (X : zX) (J : zJT) (G : zGT) {t n r : Nat} (hT : zTn J t n) (hyes : (decide (0 ≤ nI t) && decide (nI t < J 2 1)) = true) (key : Int64) (o : Bool) (hr : r ≤ n) (hb : ∀ p, p < n → (zbl (zky J G t p) key o ↔ p < r)) (hp : r < n) : zK X 3 m_TM_next [.ref 0, .int (nI t), .long key, .int (zb o)] J G (some (.long (zky J G t r))) J G := by
  have ht3 := hT.1
  have hn9 := hT.2.1
  refine zC_of (by decide) (Nat.le_of_ble_eq_true rfl) ?_
  refine z_aload_n d_TM_next_0 rfl ?_
  refine z_iload_n d_TM_next_1 rfl ?_
  refine z_callV0 d_TM_next_2 g_TM_80 (c_TM_reqTable X J G _ hyes) (by omega) rfl rfl rfl ⟨by decide, by decide, by decide, by decide⟩ rfl (Nat.le_of_ble_eq_true rfl) ?_
  refine z_aload_n d_TM_next_5 rfl ?_
  refine z_get d_TM_next_6 f_TM_20 (by omega) rfl rfl ?_
  refine z_iload_n d_TM_next_9 rfl ?_
  refine z_lload_n d_TM_next_10 rfl ?_
  refine z_iload d_TM_next_11 rfl ?_
  refine z_callV1 d_TM_next_13 g_TM_110 (c_Sto_rows X J G hT key o hr hb) (by omega) rfl rfl rfl ⟨by decide, by decide, by decide, by decide⟩ rfl (Nat.le_of_ble_eq_true rfl) ?_
  refine z_istore (lv' := [(0, _), (1, _), (2, _), (4, _), (5, _)]) d_TM_next_16 (by decide) rfl ?_
  refine z_aload_n d_TM_next_18 rfl ?_
  refine z_get d_TM_next_19 f_TM_20 (by omega) rfl rfl ?_
  refine z_iload_n d_TM_next_22 rfl ?_
  refine z_iload d_TM_next_23 rfl ?_
  refine z_callV1 d_TM_next_25 g_TM_114 (c_Sto_hasPlace X hT.1 J G (nI r)) (by omega) rfl rfl rfl ⟨by decide, by decide, by decide, by decide⟩ rfl (Nat.le_of_ble_eq_true rfl) ?_
  refine z_if_ne d_TM_next_28 41 (by decide) (fun _ => ?_) (fun h9 => absurd h9 (by rw [hT.2.2.1, decide_eq_true (nI_lt hp (by omega))]; decide))
  refine z_aload_n d_TM_next_41 rfl ?_
  refine z_get d_TM_next_42 f_TM_20 (by omega) rfl rfl ?_
  refine z_iload_n d_TM_next_45 rfl ?_
  refine z_iload d_TM_next_46 rfl ?_
  refine z_callV1 d_TM_next_48 g_TM_122 (c_Sto_keyAt X hT.1 J G (show zin (nI r) r 90 from ⟨rfl, by omega, by decide⟩) (hT.2.2.2 r hp).1 (hT.2.2.2 r hp).2.1) (by omega) rfl rfl rfl ⟨by decide, by decide, by decide, by decide⟩ rfl (Nat.le_of_ble_eq_true rfl) ?_
  exact z_lret d_TM_next_51 rfl (by decide) (by decide) rfl rfl
set_option maxRecDepth 100000 in
set_option maxHeartbeats 4000000 in
theorem c_TM_reqCell (X : zX) (J : zJT) (G : zGT) {t k u : Nat} (ht : t < 3) (hyes : (decide (0 ≤ nI t) && decide (nI t < J 2 1)) = true) (hcol : (decide (0 ≤ nI k) && decide (nI k < J (9 + 2 * t) 0)) = true) (hu : u < 90) (hk4 : k < 4) (key : Int64) (hs : zK X 1 m_Sto_slotOf [.ref 2, .int (nI t), .long key] J G (some (.int (nI u))) J G) : zK X 3 m_TM_requireCell [.ref 0, .int (nI t), .long key, .int (nI k)] J G (some (.int (nI (4 * u + k)))) J G := by
  refine zC_of (by decide) (Nat.le_of_ble_eq_true rfl) ?_
  refine z_aload_n d_TM_requireCell_0 rfl ?_
  refine z_get d_TM_requireCell_1 f_TM_20 (by omega) rfl rfl ?_
  refine z_iload_n d_TM_requireCell_4 rfl ?_
  refine z_iload d_TM_requireCell_5 rfl ?_
  refine z_callV1 d_TM_requireCell_7 g_TM_223 (c_Sto_hasColumn X ht (nI k) J G hyes) (by omega) rfl rfl rfl ⟨by decide, by decide, by decide, by decide⟩ rfl (Nat.le_of_ble_eq_true rfl) ?_
  refine z_if_ne d_TM_requireCell_10 23 (by decide) (fun _ => ?_) (fun h9 => absurd h9 (by rw [hcol]; decide))
  refine z_aload_n d_TM_requireCell_23 rfl ?_
  refine z_get d_TM_requireCell_24 f_TM_20 (by omega) rfl rfl ?_
  refine z_iload_n d_TM_requireCell_27 rfl ?_
  refine z_lload_n d_TM_requireCell_28 rfl ?_
  refine z_callV1 d_TM_requireCell_29 g_TM_228 (hs) (by omega) rfl rfl rfl ⟨by decide, by decide, by decide, by decide⟩ rfl (Nat.le_of_ble_eq_true rfl) ?_
  refine z_istore (lv' := [(0, _), (1, _), (2, _), (4, _), (5, _)]) d_TM_requireCell_32 (by decide) rfl ?_
  refine z_iload d_TM_requireCell_34 rfl ?_
  refine z_iconst (v := (-1)) d_TM_requireCell_36 (by decide) ?_
  refine z_icmp_ne d_TM_requireCell_37 50 (by decide) (fun _ => ?_) (fun h9 => absurd h9 (nI_m1 (by omega)))
  refine z_iload d_TM_requireCell_50 rfl ?_
  refine z_iconst (v := 4) d_TM_requireCell_52 (by decide) ?_
  refine z_imul d_TM_requireCell_53 ?_
  refine z_iload d_TM_requireCell_54 rfl ?_
  refine z_iadd d_TM_requireCell_56 ?_
  exact z_iret d_TM_requireCell_57 rfl (by decide) (by decide) (by rw [show (4 : Int32) = nI 4 from rfl, pk_mul, nI_add, Nat.mul_comm]) rfl
set_option maxRecDepth 100000 in
set_option maxHeartbeats 4000000 in
theorem c_TM_value (X : zX) (J : zJT) (G : zGT) {t k u : Nat} (ht : t < 3) (hyes : (decide (0 ≤ nI t) && decide (nI t < J 2 1)) = true) (hcol : (decide (0 ≤ nI k) && decide (nI k < J (9 + 2 * t) 0)) = true) (hu : u < 90) (hk4 : k < 4) (key : Int64) (hs : zK X 1 m_Sto_slotOf [.ref 2, .int (nI t), .long key] J G (some (.int (nI u))) J G) : zK X 4 m_TM_value [.ref 0, .int (nI t), .long key, .int (nI k)] J G (some (.long (G 5 (4 * u + k)))) J G := by
  refine zC_of (by decide) (Nat.le_of_ble_eq_true rfl) ?_
  refine z_aload_n d_TM_value_0 rfl ?_
  refine z_get d_TM_value_1 f_TM_20 (by omega) rfl rfl ?_
  refine z_get d_TM_value_4 f_TM_126 (by omega) rfl rfl ?_
  refine z_aload_n d_TM_value_7 rfl ?_
  refine z_iload_n d_TM_value_8 rfl ?_
  refine z_lload_n d_TM_value_9 rfl ?_
  refine z_iload d_TM_value_10 rfl ?_
  refine z_callV1 d_TM_value_12 g_TM_129 (c_TM_reqCell X J G ht hyes hcol hu hk4 key hs) (by omega) rfl rfl rfl ⟨by decide, by decide, by decide, by decide⟩ rfl (Nat.le_of_ble_eq_true rfl) ?_
  refine z_callV1 d_TM_value_15 g_TM_133 (c_Val_number X 0 zVal4 (show zin (nI (4 * u + k)) (4 * u + k) 360 from ⟨rfl, by omega, by decide⟩) J G) (by omega) rfl rfl rfl ⟨by decide, by decide, by decide, by decide⟩ rfl (Nat.le_of_ble_eq_true rfl) ?_
  exact z_lret d_TM_value_18 rfl (by decide) (by decide) rfl rfl
set_option maxRecDepth 100000 in
set_option maxHeartbeats 4000000 in
theorem c_TM_isNull (X : zX) (J : zJT) (G : zGT) {t k u : Nat} (ht : t < 3) (hyes : (decide (0 ≤ nI t) && decide (nI t < J 2 1)) = true) (hcol : (decide (0 ≤ nI k) && decide (nI k < J (9 + 2 * t) 0)) = true) (hu : u < 90) (hk4 : k < 4) (key : Int64) (hs : zK X 1 m_Sto_slotOf [.ref 2, .int (nI t), .long key] J G (some (.int (nI u))) J G) (b : Bool) (hb : J 6 (4 * u + k) = zb b) : zK X 4 m_TM_isNull [.ref 0, .int (nI t), .long key, .int (nI k)] J G (some (.int (zb (!b)))) J G := by
  refine zC_of (by decide) (Nat.le_of_ble_eq_true rfl) ?_
  refine z_aload_n d_TM_isNull_0 rfl ?_
  refine z_get d_TM_isNull_1 f_TM_20 (by omega) rfl rfl ?_
  refine z_get d_TM_isNull_4 f_TM_126 (by omega) rfl rfl ?_
  refine z_aload_n d_TM_isNull_7 rfl ?_
  refine z_iload_n d_TM_isNull_8 rfl ?_
  refine z_lload_n d_TM_isNull_9 rfl ?_
  refine z_iload d_TM_isNull_10 rfl ?_
  refine z_callV1 d_TM_isNull_12 g_TM_129 (c_TM_reqCell X J G ht hyes hcol hu hk4 key hs) (by omega) rfl rfl rfl ⟨by decide, by decide, by decide, by decide⟩ rfl (Nat.le_of_ble_eq_true rfl) ?_
  refine z_callV1 d_TM_isNull_15 g_TM_137 (c_Val_has X 0 zVal4 (show zin (nI (4 * u + k)) (4 * u + k) 360 from ⟨rfl, by omega, by decide⟩) J G (by rw [show J (4 + 2) (4 * u + k) = zb b from hb]; exact zb_n b)) (by omega) rfl rfl rfl ⟨by decide, by decide, by decide, by decide⟩ rfl (Nat.le_of_ble_eq_true rfl) ?_
  rw [show J (4 + 2) (4 * u + k) = zb b from hb]
  refine z_if_ne d_TM_isNull_18 25 (by decide) (fun h18 => ?_) (fun h18 => ?_)
  · refine z_iconst (v := 0) d_TM_isNull_25 (by decide) ?_
    exact z_zret d_TM_isNull_26 rfl (by decide) (by decide) (by decide) (by first | (rw [zb0 h18]; rfl) | (rw [zb1' h18]; rfl)) rfl
  · refine z_iconst (v := 1) d_TM_isNull_21 (by decide) ?_
    refine z_goto d_TM_isNull_22 26 (by decide) ?_
    exact z_zret d_TM_isNull_26 rfl (by decide) (by decide) (by decide) (by first | (rw [zb0 h18]; rfl) | (rw [zb1' h18]; rfl)) rfl
set_option maxRecDepth 100000 in
set_option maxHeartbeats 4000000 in
theorem c_TM_add (X : zX) (J : zJT) (G : zGT) {o m : Nat} (ho : o < 22) (hm : J 15 0 = nI m) (hm6 : m < 60) (p q s : Int32) (ha : zAcc o p q s = true) : zK X 3 m_TM_add [.ref 0, .int (nI o), .int p, .int q, .int s] J G (some (.int (nI m))) (va_up (va_up J 16 (zapp (J 16) m (nI o) (if zKinds.getD (3 * o + 0) 0 = 0 then 0 else p) (if zKinds.getD (3 * o + 1) 0 = 0 then 0 else q) (if zKinds.getD (3 * o + 2) 0 = 0 then 0 else s))) 15 (va_up (J 15) 0 (nI m + 1))) G := by
  refine zC_of (by decide) (Nat.le_of_ble_eq_true rfl) ?_
  refine z_iload_n d_TM_add_0 rfl ?_
  refine z_iload_n d_TM_add_1 rfl ?_
  refine z_iload_n d_TM_add_2 rfl ?_
  refine z_iload d_TM_add_3 rfl ?_
  refine z_callS1 d_TM_add_5 g_TM_140 (c_Op_accepts X ho p q s J G) rfl ⟨by decide, by decide, by decide, by decide⟩ rfl (Nat.le_of_ble_eq_true rfl) ?_
  refine z_if_ne d_TM_add_8 21 (by decide) (fun _ => ?_) (fun h9 => absurd h9 (by rw [ha]; decide))
  refine z_aload_n d_TM_add_21 rfl ?_
  refine z_get d_TM_add_22 f_TM_25 (by omega) rfl rfl ?_
  refine z_get d_TM_add_25 f_TM_148 (by omega) rfl rfl ?_
  refine z_bipush (v := 60) d_TM_add_28 (by decide) ?_
  refine z_icmp_ne d_TM_add_30 43 (by decide) (fun _ => ?_) (fun h9 => absurd h9 (by rw [hm]; exact fun h9 => absurd ((nI_eq (by omega) (by decide)).mp (show nI m = nI 60 from h9)) (by omega)))
  refine z_aload_n d_TM_add_43 rfl ?_
  refine z_get d_TM_add_44 f_TM_25 (by omega) rfl rfl ?_
  refine z_iload_n d_TM_add_47 rfl ?_
  refine z_iload_n d_TM_add_48 rfl ?_
  refine z_iconst (v := 0) d_TM_add_49 (by decide) ?_
  refine z_iload_n d_TM_add_50 rfl ?_
  refine z_callS1 d_TM_add_51 g_TM_153 (c_Op_kept (w := 0) X ho (by decide) p J G) rfl ⟨by decide, by decide, by decide, by decide⟩ rfl (Nat.le_of_ble_eq_true rfl) ?_
  refine z_iload_n d_TM_add_54 rfl ?_
  refine z_iconst (v := 1) d_TM_add_55 (by decide) ?_
  refine z_iload_n d_TM_add_56 rfl ?_
  refine z_callS1 d_TM_add_57 g_TM_153 (c_Op_kept (w := 1) X ho (by decide) q J G) rfl ⟨by decide, by decide, by decide, by decide⟩ rfl (Nat.le_of_ble_eq_true rfl) ?_
  refine z_iload_n d_TM_add_60 rfl ?_
  refine z_iconst (v := 2) d_TM_add_61 (by decide) ?_
  refine z_iload d_TM_add_62 rfl ?_
  refine z_callS1 d_TM_add_64 g_TM_153 (c_Op_kept (w := 2) X ho (by decide) s J G) rfl ⟨by decide, by decide, by decide, by decide⟩ rfl (Nat.le_of_ble_eq_true rfl) ?_
  refine z_callV0 d_TM_add_67 g_TM_157 (c_Pro_append X hm6 _ _ _ _ J G hm) (by omega) rfl rfl rfl ⟨by decide, by decide, by decide, by decide⟩ rfl (Nat.le_of_ble_eq_true rfl) ?_
  refine z_aload_n d_TM_add_70 rfl ?_
  refine z_get d_TM_add_71 f_TM_25 (by omega) rfl rfl ?_
  refine z_get d_TM_add_74 f_TM_148 (by omega) rfl rfl ?_
  refine z_iconst (v := 1) d_TM_add_77 (by decide) ?_
  refine z_isub d_TM_add_78 ?_
  exact z_iret d_TM_add_79 rfl (by decide) (by decide) (by rw [zu_s, zu_s, nI_1, nI_pred]) rfl
set_option maxRecDepth 100000 in
set_option maxHeartbeats 4000000 in
theorem c_TM_wipe (X : zX) (J : zJT) (G : zGT) : zK X 0 m_TM_wipe [.ref 0] J G none (va_up J 15 (va_up (J 15) 0 0)) G := by
  refine zC_of (by decide) (Nat.le_of_ble_eq_true rfl) ?_
  refine z_aload_n d_TM_wipe_0 rfl ?_
  refine z_get d_TM_wipe_1 f_TM_25 (by omega) rfl rfl ?_
  refine z_iconst (v := 0) d_TM_wipe_4 (by decide) ?_
  refine z_put d_TM_wipe_5 f_TM_148 p_6_0 (by omega) rfl (Nat.le_of_ble_eq_true rfl) rfl rfl (hp_pi 0 rfl) ?_
  exact z_vret d_TM_wipe_8 rfl (by decide) (by decide) rfl
set_option maxRecDepth 100000 in
set_option maxHeartbeats 4000000 in
theorem c_TM_code (X : zX) (J : zJT) (G : zGT) {m k w : Nat} (hm : J 15 0 = nI m) (hm6 : m ≤ 60) (hk : k < m) (hw : w < 4) : zK X 1 m_TM_code [.ref 0, .int (nI k), .int (nI w)] J G (some (.int (J 16 (4 * k + w)))) J G := by
  refine zC_of (by decide) (Nat.le_of_ble_eq_true rfl) ?_
  refine z_iload_n d_TM_code_0 rfl ?_
  refine z_aload_n d_TM_code_1 rfl ?_
  refine z_get d_TM_code_2 f_TM_25 (by omega) rfl rfl ?_
  refine z_get d_TM_code_5 f_TM_148 (by omega) rfl rfl ?_
  refine z_callS1 d_TM_code_8 g_TM_69 (c_isIndex X 0 _ _ _ _) rfl ⟨by decide, by decide, by decide, by decide⟩ rfl (Nat.le_of_ble_eq_true rfl) ?_
  refine z_if_eq d_TM_code_11 22 (by decide) (fun h9 => absurd h9 (by rw [decide_eq_true (nI_pos' (by omega)), decide_eq_true (show nI k < J 15 0 from by rw [hm]; exact nI_lt hk (by omega))]; decide)) (fun _ => ?_)
  refine z_iload_n d_TM_code_14 rfl ?_
  refine z_iconst (v := 4) d_TM_code_15 (by decide) ?_
  refine z_callS1 d_TM_code_16 g_TM_69 (c_isIndex X 0 _ _ _ _) rfl ⟨by decide, by decide, by decide, by decide⟩ rfl (Nat.le_of_ble_eq_true rfl) ?_
  refine z_if_ne d_TM_code_19 32 (by decide) (fun _ => ?_) (fun h9 => absurd h9 (by rw [decide_eq_true (nI_pos' (by omega)), decide_eq_true (show nI w < 4 from nI_lt (show w < 4 from hw) (by decide))]; decide))
  refine z_aload_n d_TM_code_32 rfl ?_
  refine z_get d_TM_code_33 f_TM_25 (by omega) rfl rfl ?_
  refine z_iload_n d_TM_code_36 rfl ?_
  refine z_iload_n d_TM_code_37 rfl ?_
  refine z_callV1 d_TM_code_38 g_TM_166 (c_Pro_word X (show k < 60 by omega) hw J G) (by omega) rfl rfl rfl ⟨by decide, by decide, by decide, by decide⟩ rfl (Nat.le_of_ble_eq_true rfl) ?_
  exact z_iret d_TM_code_41 rfl (by decide) (by decide) rfl rfl
set_option maxRecDepth 100000 in
set_option maxHeartbeats 4000000 in
theorem c_TM_run (X : zX) (J : zJT) (G : zGT) (v : Int32) (h0 : ¬ v < 0) (h4 : v ≤ 4000) (hs : zK X 1 m_Pro_isSound [.ref 15, .int (J 2 1)] J G (some (.int 1)) J G) {r : Int32} {J' : zJT} {G' : zGT} (hm : zK X 5 m_Mac_execute [.ref 1, .int v] J G (some (.int r)) J' G') : zK X 6 m_TM_run [.ref 0, .int v] J G (some (.int r)) J' G' := by
  refine zC_of (by decide) (Nat.le_of_ble_eq_true rfl) ?_
  refine z_iload_n d_TM_run_0 rfl ?_
  refine z_if_lt d_TM_run_1 11 (by decide) (fun h9 => absurd h9 h0) (fun _ => ?_)
  refine z_iload_n d_TM_run_4 rfl ?_
  refine z_sipush (v := 4000) d_TM_run_5 (by decide) ?_
  refine z_icmp_le d_TM_run_8 21 (by decide) (fun _ => ?_) (fun h9 => absurd h4 h9)
  refine z_aload_n d_TM_run_21 rfl ?_
  refine z_get d_TM_run_22 f_TM_25 (by omega) rfl rfl ?_
  refine z_aload_n d_TM_run_25 rfl ?_
  refine z_get d_TM_run_26 f_TM_20 (by omega) rfl rfl ?_
  refine z_get d_TM_run_29 f_TM_54 (by omega) rfl rfl ?_
  refine z_callV1 d_TM_run_32 g_TM_172 (hs) (by omega) rfl rfl rfl ⟨by decide, by decide, by decide, by decide⟩ rfl (Nat.le_of_ble_eq_true rfl) ?_
  refine z_if_ne d_TM_run_35 48 (by decide) (fun _ => ?_) (fun h9 => absurd h9 (by decide))
  refine z_aload_n d_TM_run_48 rfl ?_
  refine z_get d_TM_run_49 f_TM_10 (by omega) rfl rfl ?_
  refine z_iload_n d_TM_run_52 rfl ?_
  refine z_callV1 d_TM_run_53 g_TM_177 (hm) (by omega) rfl rfl rfl ⟨by decide, by decide, by decide, by decide⟩ rfl (Nat.le_of_ble_eq_true rfl) ?_
  exact z_iret d_TM_run_56 rfl (by decide) (by decide) rfl rfl
set_option maxRecDepth 100000 in
set_option maxHeartbeats 4000000 in
theorem c_TM_reqResult (X : zX) (J : zJT) (G : zGT) {m i k w : Nat} (hm : J 17 0 = nI m) (hm6 : m ≤ 64) (hi : i < m) (hw : J 18 i = nI w) (hw4 : w ≤ 4) (hk : k < w) : zK X 2 m_TM_requireResult [.ref 0, .int (nI i), .int (nI k)] J G (some (.int (nI (4 * i + k)))) J G := by
  refine zC_of (by decide) (Nat.le_of_ble_eq_true rfl) ?_
  refine z_aload_n d_TM_requireResult_0 rfl ?_
  refine z_get d_TM_requireResult_1 f_TM_30 (by omega) rfl rfl ?_
  refine z_iload_n d_TM_requireResult_4 rfl ?_
  refine z_callV1 d_TM_requireResult_5 g_TM_183 (c_Res_hasRow X (nI i) J G) (by omega) rfl rfl rfl ⟨by decide, by decide, by decide, by decide⟩ rfl (Nat.le_of_ble_eq_true rfl) ?_
  refine z_if_eq d_TM_requireResult_8 27 (by decide) (fun h9 => absurd h9 (by rw [decide_eq_true (nI_pos' (by omega)), decide_eq_true (show nI i < J 17 0 from by rw [hm]; exact nI_lt hi (by omega))]; decide)) (fun _ => ?_)
  refine z_iload_n d_TM_requireResult_11 rfl ?_
  refine z_aload_n d_TM_requireResult_12 rfl ?_
  refine z_get d_TM_requireResult_13 f_TM_30 (by omega) rfl rfl ?_
  refine z_get d_TM_requireResult_16 f_TM_186 (by omega) rfl rfl ?_
  refine z_iload_n d_TM_requireResult_19 rfl ?_
  refine z_iald d_TM_requireResult_20 (by omega) rfl (show zin (nI i) i 64 from ⟨rfl, by omega, by decide⟩) ?_
  refine z_callS1 d_TM_requireResult_21 g_TM_69 (c_isIndex X 0 _ _ _ _) rfl ⟨by decide, by decide, by decide, by decide⟩ rfl (Nat.le_of_ble_eq_true rfl) ?_
  refine z_if_ne d_TM_requireResult_24 37 (by decide) (fun _ => ?_) (fun h9 => absurd h9 (by rw [decide_eq_true (nI_pos' (by omega)), decide_eq_true (show nI k < J 18 i from by rw [hw]; exact nI_lt hk (by omega))]; decide))
  refine z_iload_n d_TM_requireResult_37 rfl ?_
  refine z_iconst (v := 4) d_TM_requireResult_38 (by decide) ?_
  refine z_imul d_TM_requireResult_39 ?_
  refine z_iload_n d_TM_requireResult_40 rfl ?_
  refine z_iadd d_TM_requireResult_41 ?_
  exact z_iret d_TM_requireResult_42 rfl (by decide) (by decide) (by rw [show (4 : Int32) = nI 4 from rfl, pk_mul, nI_add, Nat.mul_comm]) rfl
set_option maxRecDepth 100000 in
set_option maxHeartbeats 4000000 in
theorem c_TM_resultN (X : zX) (J : zJT) (G : zGT) (k : Int32) : zK X 0 m_TM_result [.ref 0, .int (-1), .int k] J G (some (.long (J 17 0).toInt64)) J G := by
  refine zC_of (by decide) (Nat.le_of_ble_eq_true rfl) ?_
  refine z_iload_n d_TM_result_0 rfl ?_
  refine z_iconst (v := (-1)) d_TM_result_1 (by decide) ?_
  refine z_icmp_ne d_TM_result_2 14 (by decide) (fun h9 => absurd h9 (fun h9 => h9 rfl)) (fun _ => ?_)
  refine z_aload_n d_TM_result_5 rfl ?_
  refine z_get d_TM_result_6 f_TM_30 (by omega) rfl rfl ?_
  refine z_get d_TM_result_9 f_TM_180 (by omega) rfl rfl ?_
  refine z_i2l d_TM_result_12 ?_
  exact z_lret d_TM_result_13 rfl (by decide) (by decide) rfl rfl
set_option maxRecDepth 100000 in
set_option maxHeartbeats 4000000 in
theorem c_TM_resultW (X : zX) (J : zJT) (G : zGT) {m i : Nat} (hm : J 17 0 = nI m) (hm6 : m ≤ 64) (hi : i < m) : zK X 2 m_TM_result [.ref 0, .int (nI i), .int (-1)] J G (some (.long (J 18 i).toInt64)) J G := by
  refine zC_of (by decide) (Nat.le_of_ble_eq_true rfl) ?_
  refine z_iload_n d_TM_result_0 rfl ?_
  refine z_iconst (v := (-1)) d_TM_result_1 (by decide) ?_
  refine z_icmp_ne d_TM_result_2 14 (by decide) (fun _ => ?_) (fun h9 => absurd h9 (nI_m1 (by omega)))
  refine z_iload_n d_TM_result_14 rfl ?_
  refine z_iconst (v := (-1)) d_TM_result_15 (by decide) ?_
  refine z_icmp_ne d_TM_result_16 41 (by decide) (fun h9 => absurd h9 (fun h9 => h9 rfl)) (fun _ => ?_)
  refine z_aload_n d_TM_result_19 rfl ?_
  refine z_get d_TM_result_20 f_TM_30 (by omega) rfl rfl ?_
  refine z_iload_n d_TM_result_23 rfl ?_
  refine z_callV1 d_TM_result_24 g_TM_183 (c_Res_hasRow X (nI i) J G) (by omega) rfl rfl rfl ⟨by decide, by decide, by decide, by decide⟩ rfl (Nat.le_of_ble_eq_true rfl) ?_
  refine z_if_eq d_TM_result_27 41 (by decide) (fun h9 => absurd h9 (by rw [decide_eq_true (nI_pos' (by omega)), decide_eq_true (show nI i < J 17 0 from by rw [hm]; exact nI_lt hi (by omega))]; decide)) (fun _ => ?_)
  refine z_aload_n d_TM_result_30 rfl ?_
  refine z_get d_TM_result_31 f_TM_30 (by omega) rfl rfl ?_
  refine z_get d_TM_result_34 f_TM_186 (by omega) rfl rfl ?_
  refine z_iload_n d_TM_result_37 rfl ?_
  refine z_iald d_TM_result_38 (by omega) rfl (show zin (nI i) i 64 from ⟨rfl, by omega, by decide⟩) ?_
  refine z_i2l d_TM_result_39 ?_
  exact z_lret d_TM_result_40 rfl (by decide) (by decide) rfl rfl
set_option maxRecDepth 100000 in
set_option maxHeartbeats 4000000 in
theorem c_TM_resultV (X : zX) (J : zJT) (G : zGT) {m i k w : Nat} (hm : J 17 0 = nI m) (hm6 : m ≤ 64) (hi : i < m) (hw : J 18 i = nI w) (hw4 : w ≤ 4) (hk : k < w) : zK X 3 m_TM_result [.ref 0, .int (nI i), .int (nI k)] J G (some (.long (G 20 (4 * i + k)))) J G := by
  refine zC_of (by decide) (Nat.le_of_ble_eq_true rfl) ?_
  refine z_iload_n d_TM_result_0 rfl ?_
  refine z_iconst (v := (-1)) d_TM_result_1 (by decide) ?_
  refine z_icmp_ne d_TM_result_2 14 (by decide) (fun _ => ?_) (fun h9 => absurd h9 (nI_m1 (by omega)))
  refine z_iload_n d_TM_result_14 rfl ?_
  refine z_iconst (v := (-1)) d_TM_result_15 (by decide) ?_
  refine z_icmp_ne d_TM_result_16 41 (by decide) (fun _ => ?_) (fun h9 => absurd h9 (nI_m1 (by omega)))
  refine z_aload_n d_TM_result_41 rfl ?_
  refine z_get d_TM_result_42 f_TM_30 (by omega) rfl rfl ?_
  refine z_get d_TM_result_45 f_TM_190 (by omega) rfl rfl ?_
  refine z_aload_n d_TM_result_48 rfl ?_
  refine z_iload_n d_TM_result_49 rfl ?_
  refine z_iload_n d_TM_result_50 rfl ?_
  refine z_callV1 d_TM_result_51 g_TM_191 (c_TM_reqResult X J G hm hm6 hi hw hw4 hk) (by omega) rfl rfl rfl ⟨by decide, by decide, by decide, by decide⟩ rfl (Nat.le_of_ble_eq_true rfl) ?_
  refine z_callV1 d_TM_result_54 g_TM_133 (c_Val_number X 0 zVal19 (show zin (nI (4 * i + k)) (4 * i + k) 256 from ⟨rfl, by omega, by decide⟩) J G) (by omega) rfl rfl rfl ⟨by decide, by decide, by decide, by decide⟩ rfl (Nat.le_of_ble_eq_true rfl) ?_
  exact z_lret d_TM_result_57 rfl (by decide) (by decide) rfl rfl
set_option maxRecDepth 100000 in
set_option maxHeartbeats 4000000 in
theorem c_TM_wasNull (X : zX) (J : zJT) (G : zGT) {m i k w : Nat} (hm : J 17 0 = nI m) (hm6 : m ≤ 64) (hi : i < m) (hw : J 18 i = nI w) (hw4 : w ≤ 4) (hk : k < w) (b : Bool) (hb : J 21 (4 * i + k) = zb b) : zK X 3 m_TM_wasNull [.ref 0, .int (nI i), .int (nI k)] J G (some (.int (zb (!b)))) J G := by
  refine zC_of (by decide) (Nat.le_of_ble_eq_true rfl) ?_
  refine z_aload_n d_TM_wasNull_0 rfl ?_
  refine z_get d_TM_wasNull_1 f_TM_30 (by omega) rfl rfl ?_
  refine z_get d_TM_wasNull_4 f_TM_190 (by omega) rfl rfl ?_
  refine z_aload_n d_TM_wasNull_7 rfl ?_
  refine z_iload_n d_TM_wasNull_8 rfl ?_
  refine z_iload_n d_TM_wasNull_9 rfl ?_
  refine z_callV1 d_TM_wasNull_10 g_TM_191 (c_TM_reqResult X J G hm hm6 hi hw hw4 hk) (by omega) rfl rfl rfl ⟨by decide, by decide, by decide, by decide⟩ rfl (Nat.le_of_ble_eq_true rfl) ?_
  refine z_callV1 d_TM_wasNull_13 g_TM_137 (c_Val_has X 0 zVal19 (show zin (nI (4 * i + k)) (4 * i + k) 256 from ⟨rfl, by omega, by decide⟩) J G (by rw [show J (19 + 2) (4 * i + k) = zb b from hb]; exact zb_n b)) (by omega) rfl rfl rfl ⟨by decide, by decide, by decide, by decide⟩ rfl (Nat.le_of_ble_eq_true rfl) ?_
  rw [show J (19 + 2) (4 * i + k) = zb b from hb]
  refine z_if_ne d_TM_wasNull_16 23 (by decide) (fun h16 => ?_) (fun h16 => ?_)
  · refine z_iconst (v := 0) d_TM_wasNull_23 (by decide) ?_
    exact z_zret d_TM_wasNull_24 rfl (by decide) (by decide) (by decide) (by first | (rw [zb0 h16]; rfl) | (rw [zb1' h16]; rfl)) rfl
  · refine z_iconst (v := 1) d_TM_wasNull_19 (by decide) ?_
    refine z_goto d_TM_wasNull_20 24 (by decide) ?_
    exact z_zret d_TM_wasNull_24 rfl (by decide) (by decide) (by decide) (by first | (rw [zb0 h16]; rfl) | (rw [zb1' h16]; rfl)) rfl
set_option maxRecDepth 100000 in
set_option maxHeartbeats 4000000 in
theorem c_TM_ask0 (X : zX) (J : zJT) (G : zGT) (t u : Int32) (hno : (decide (0 ≤ t) && decide (t < J 2 1)) = false ∨ (¬ u = -1 ∧ (decide (0 ≤ u) && decide (u < J 2 1)) = false)) : zK X 2 m_TM_ask [.ref 0, .int t, .int u] J G (some (.int 0)) J G := by
  refine zC_of (by decide) (Nat.le_of_ble_eq_true rfl) ?_
  refine z_aload_n d_TM_ask_0 rfl ?_
  refine z_get d_TM_ask_1 f_TM_20 (by omega) rfl rfl ?_
  refine z_iload_n d_TM_ask_4 rfl ?_
  refine z_callV1 d_TM_ask_5 g_TM_97 (c_Sto_hasTable X t J G) (by omega) rfl rfl rfl ⟨by decide, by decide, by decide, by decide⟩ rfl (Nat.le_of_ble_eq_true rfl) ?_
  refine z_if_eq d_TM_ask_8 27 (by decide) (fun h8 => ?_) (fun h8 => ?_)
  · refine z_iconst (v := 0) d_TM_ask_27 (by decide) ?_
    exact z_zret d_TM_ask_28 rfl (by decide) (by decide) (by decide) rfl rfl
  · refine z_iload_n d_TM_ask_11 rfl ?_
    refine z_iconst (v := (-1)) d_TM_ask_12 (by decide) ?_
    refine z_icmp_eq d_TM_ask_13 29 (by decide) (fun h9 => absurd h9 (fun h9 => (hno.resolve_left (by rw [zb1' h8]; decide)).1 h9)) (fun _ => ?_)
    refine z_aload_n d_TM_ask_16 rfl ?_
    refine z_get d_TM_ask_17 f_TM_20 (by omega) rfl rfl ?_
    refine z_iload_n d_TM_ask_20 rfl ?_
    refine z_callV1 d_TM_ask_21 g_TM_97 (c_Sto_hasTable X u J G) (by omega) rfl rfl rfl ⟨by decide, by decide, by decide, by decide⟩ rfl (Nat.le_of_ble_eq_true rfl) ?_
    refine z_if_ne d_TM_ask_24 29 (by decide) (fun h9 => absurd h9 (fun h9 => h9 (by rw [(hno.resolve_left (by rw [zb1' h8]; decide)).2]; rfl))) (fun _ => ?_)
    refine z_iconst (v := 0) d_TM_ask_27 (by decide) ?_
    exact z_zret d_TM_ask_28 rfl (by decide) (by decide) (by decide) rfl rfl
set_option maxRecDepth 100000 in
set_option maxHeartbeats 4000000 in
theorem c_TM_ask1 (X : zX) (J : zJT) (G : zGT) (t u : Int32) (hyt : (decide (0 ≤ t) && decide (t < J 2 1)) = true) (hu : u = -1) : zK X 2 m_TM_ask [.ref 0, .int t, .int u] J G (some (.int 1)) (va_up (va_up J 33 (upd (upd (J 33) 0 t) 1 u)) 32 (va_up (va_up (va_up (va_up (J 32) 3 1) 1 0) 2 0) 10 0)) G := by
  refine zC_of (by decide) (Nat.le_of_ble_eq_true rfl) ?_
  refine z_aload_n d_TM_ask_0 rfl ?_
  refine z_get d_TM_ask_1 f_TM_20 (by omega) rfl rfl ?_
  refine z_iload_n d_TM_ask_4 rfl ?_
  refine z_callV1 d_TM_ask_5 g_TM_97 (c_Sto_hasTable X t J G) (by omega) rfl rfl rfl ⟨by decide, by decide, by decide, by decide⟩ rfl (Nat.le_of_ble_eq_true rfl) ?_
  refine z_if_eq d_TM_ask_8 27 (by decide) (fun h9 => absurd h9 (by rw [hyt]; decide)) (fun _ => ?_)
  refine z_iload_n d_TM_ask_11 rfl ?_
  refine z_iconst (v := (-1)) d_TM_ask_12 (by decide) ?_
  refine z_icmp_eq d_TM_ask_13 29 (by decide) (fun _ => ?_) (fun h9 => absurd hu h9)
  refine z_aload_n d_TM_ask_29 rfl ?_
  refine z_get d_TM_ask_30 f_TM_43 (by omega) rfl rfl ?_
  refine z_iload_n d_TM_ask_33 rfl ?_
  refine z_iload_n d_TM_ask_34 rfl ?_
  refine z_callV0 d_TM_ask_35 g_TM_194 (c_Que_begin1 X J G t u hu) (by omega) rfl rfl rfl ⟨by decide, by decide, by decide, by decide⟩ rfl (Nat.le_of_ble_eq_true rfl) ?_
  refine z_iconst (v := 1) d_TM_ask_38 (by decide) ?_
  exact z_zret d_TM_ask_39 rfl (by decide) (by decide) (by decide) rfl rfl
set_option maxRecDepth 100000 in
set_option maxHeartbeats 4000000 in
theorem c_TM_ask2 (X : zX) (J : zJT) (G : zGT) (t u : Int32) (hyt : (decide (0 ≤ t) && decide (t < J 2 1)) = true) (hu : ¬ u = -1) (hyu : (decide (0 ≤ u) && decide (u < J 2 1)) = true) : zK X 2 m_TM_ask [.ref 0, .int t, .int u] J G (some (.int 1)) (va_up (va_up J 33 (upd (upd (J 33) 0 t) 1 u)) 32 (va_up (va_up (va_up (va_up (J 32) 3 2) 1 0) 2 0) 10 0)) G := by
  refine zC_of (by decide) (Nat.le_of_ble_eq_true rfl) ?_
  refine z_aload_n d_TM_ask_0 rfl ?_
  refine z_get d_TM_ask_1 f_TM_20 (by omega) rfl rfl ?_
  refine z_iload_n d_TM_ask_4 rfl ?_
  refine z_callV1 d_TM_ask_5 g_TM_97 (c_Sto_hasTable X t J G) (by omega) rfl rfl rfl ⟨by decide, by decide, by decide, by decide⟩ rfl (Nat.le_of_ble_eq_true rfl) ?_
  refine z_if_eq d_TM_ask_8 27 (by decide) (fun h9 => absurd h9 (by rw [hyt]; decide)) (fun _ => ?_)
  refine z_iload_n d_TM_ask_11 rfl ?_
  refine z_iconst (v := (-1)) d_TM_ask_12 (by decide) ?_
  refine z_icmp_eq d_TM_ask_13 29 (by decide) (fun h9 => absurd h9 hu) (fun _ => ?_)
  refine z_aload_n d_TM_ask_16 rfl ?_
  refine z_get d_TM_ask_17 f_TM_20 (by omega) rfl rfl ?_
  refine z_iload_n d_TM_ask_20 rfl ?_
  refine z_callV1 d_TM_ask_21 g_TM_97 (c_Sto_hasTable X u J G) (by omega) rfl rfl rfl ⟨by decide, by decide, by decide, by decide⟩ rfl (Nat.le_of_ble_eq_true rfl) ?_
  refine z_if_ne d_TM_ask_24 29 (by decide) (fun _ => ?_) (fun h9 => absurd h9 (by rw [hyu]; decide))
  refine z_aload_n d_TM_ask_29 rfl ?_
  refine z_get d_TM_ask_30 f_TM_43 (by omega) rfl rfl ?_
  refine z_iload_n d_TM_ask_33 rfl ?_
  refine z_iload_n d_TM_ask_34 rfl ?_
  refine z_callV0 d_TM_ask_35 g_TM_194 (c_Que_begin2 X J G t u hu) (by omega) rfl rfl rfl ⟨by decide, by decide, by decide, by decide⟩ rfl (Nat.le_of_ble_eq_true rfl) ?_
  refine z_iconst (v := 1) d_TM_ask_38 (by decide) ?_
  exact z_zret d_TM_ask_39 rfl (by decide) (by decide) (by decide) rfl rfl
set_option maxRecDepth 100000 in
set_option maxHeartbeats 4000000 in
theorem c_TM_can0 (X : zX) (J : zJT) (G : zGT) (c k : Int32) (hno : (decide (0 ≤ c) && decide (c < J 32 3)) = false) : zK X 3 m_TM_canAskFor [.ref 0, .int c, .int k] J G (some (.int 0)) J G := by
  refine zC_of (by decide) (Nat.le_of_ble_eq_true rfl) ?_
  refine z_aload_n d_TM_canAskFor_0 rfl ?_
  refine z_get d_TM_canAskFor_1 f_TM_43 (by omega) rfl rfl ?_
  refine z_iload_n d_TM_canAskFor_4 rfl ?_
  refine z_callV1 d_TM_canAskFor_5 g_TM_236 (c_Que_hasCursor X c J G) (by omega) rfl rfl rfl ⟨by decide, by decide, by decide, by decide⟩ rfl (Nat.le_of_ble_eq_true rfl) ?_
  refine z_if_ne d_TM_canAskFor_8 13 (by decide) (fun h9 => absurd h9 (fun h9 => h9 (by rw [hno]; rfl))) (fun _ => ?_)
  refine z_iconst (v := 0) d_TM_canAskFor_11 (by decide) ?_
  exact z_zret d_TM_canAskFor_12 rfl (by decide) (by decide) (by decide) rfl rfl
set_option maxRecDepth 100000 in
set_option maxHeartbeats 4000000 in
theorem c_TM_canK (X : zX) (J : zJT) (G : zGT) (c : Int32) (hyes : (decide (0 ≤ c) && decide (c < J 32 3)) = true) : zK X 3 m_TM_canAskFor [.ref 0, .int c, .int (-1)] J G (some (.int 1)) J G := by
  refine zC_of (by decide) (Nat.le_of_ble_eq_true rfl) ?_
  refine z_aload_n d_TM_canAskFor_0 rfl ?_
  refine z_get d_TM_canAskFor_1 f_TM_43 (by omega) rfl rfl ?_
  refine z_iload_n d_TM_canAskFor_4 rfl ?_
  refine z_callV1 d_TM_canAskFor_5 g_TM_236 (c_Que_hasCursor X c J G) (by omega) rfl rfl rfl ⟨by decide, by decide, by decide, by decide⟩ rfl (Nat.le_of_ble_eq_true rfl) ?_
  refine z_if_ne d_TM_canAskFor_8 13 (by decide) (fun _ => ?_) (fun h9 => absurd h9 (by rw [hyes]; decide))
  refine z_iload_n d_TM_canAskFor_13 rfl ?_
  refine z_iconst (v := (-1)) d_TM_canAskFor_14 (by decide) ?_
  refine z_icmp_eq d_TM_canAskFor_15 38 (by decide) (fun _ => ?_) (fun h9 => absurd rfl h9)
  refine z_iconst (v := 1) d_TM_canAskFor_38 (by decide) ?_
  refine z_goto d_TM_canAskFor_39 43 (by decide) ?_
  exact z_zret d_TM_canAskFor_43 rfl (by decide) (by decide) (by decide) rfl rfl
set_option maxRecDepth 100000 in
set_option maxHeartbeats 4000000 in
theorem c_TM_can (X : zX) (J : zJT) (G : zGT) {c t : Nat} (hc : c < 2) (k : Int32) (hk : ¬ k = -1) (hyes : (decide (0 ≤ nI c) && decide (nI c < J 32 3)) = true) (ht : t < 3) (hJ : J 33 c = nI t) (hyt : (decide (0 ≤ nI t) && decide (nI t < J 2 1)) = true) : zK X 3 m_TM_canAskFor [.ref 0, .int (nI c), .int k] J G (some (.int (zb (decide (0 ≤ k) && decide (k < J (9 + 2 * t) 0))))) J G := by
  refine zC_of (by decide) (Nat.le_of_ble_eq_true rfl) ?_
  refine z_aload_n d_TM_canAskFor_0 rfl ?_
  refine z_get d_TM_canAskFor_1 f_TM_43 (by omega) rfl rfl ?_
  refine z_iload_n d_TM_canAskFor_4 rfl ?_
  refine z_callV1 d_TM_canAskFor_5 g_TM_236 (c_Que_hasCursor X (nI c) J G) (by omega) rfl rfl rfl ⟨by decide, by decide, by decide, by decide⟩ rfl (Nat.le_of_ble_eq_true rfl) ?_
  refine z_if_ne d_TM_canAskFor_8 13 (by decide) (fun _ => ?_) (fun h9 => absurd h9 (by rw [hyes]; decide))
  refine z_iload_n d_TM_canAskFor_13 rfl ?_
  refine z_iconst (v := (-1)) d_TM_canAskFor_14 (by decide) ?_
  refine z_icmp_eq d_TM_canAskFor_15 38 (by decide) (fun h9 => absurd h9 hk) (fun _ => ?_)
  refine z_aload_n d_TM_canAskFor_18 rfl ?_
  refine z_get d_TM_canAskFor_19 f_TM_20 (by omega) rfl rfl ?_
  refine z_aload_n d_TM_canAskFor_22 rfl ?_
  refine z_get d_TM_canAskFor_23 f_TM_43 (by omega) rfl rfl ?_
  refine z_get d_TM_canAskFor_26 f_TM_239 (by omega) rfl rfl ?_
  refine z_iload_n d_TM_canAskFor_29 rfl ?_
  refine z_iald d_TM_canAskFor_30 (by omega) rfl (show zin (nI c) c 2 from ⟨rfl, hc, by decide⟩) ?_
  refine z_iload_n d_TM_canAskFor_31 rfl ?_
  rw [hJ]
  refine z_callV1 d_TM_canAskFor_32 g_TM_223 (c_Sto_hasColumn X ht k J G hyt) (by omega) rfl rfl rfl ⟨by decide, by decide, by decide, by decide⟩ rfl (Nat.le_of_ble_eq_true rfl) ?_
  refine z_if_eq d_TM_canAskFor_35 42 (by decide) (fun h35 => ?_) (fun h35 => ?_)
  · refine z_iconst (v := 0) d_TM_canAskFor_42 (by decide) ?_
    exact z_zret d_TM_canAskFor_43 rfl (by decide) (by decide) (by decide) (by first | (rw [zb0 h35]; rfl) | (rw [zb1' h35]; rfl)) rfl
  · refine z_iconst (v := 1) d_TM_canAskFor_38 (by decide) ?_
    refine z_goto d_TM_canAskFor_39 43 (by decide) ?_
    exact z_zret d_TM_canAskFor_43 rfl (by decide) (by decide) (by decide) (by first | (rw [zb0 h35]; rfl) | (rw [zb1' h35]; rfl)) rfl
set_option maxRecDepth 100000 in
set_option maxHeartbeats 4000000 in
theorem c_TM_outputF (X : zX) (J : zJT) (G : zGT) (c k : Int32) (hf : J 32 1 = 4) : zK X 4 m_TM_output [.ref 0, .int c, .int k] J G (some (.int 0)) J G := by
  refine zC_of (by decide) (Nat.le_of_ble_eq_true rfl) ?_
  refine z_aload_n d_TM_output_0 rfl ?_
  refine z_get d_TM_output_1 f_TM_43 (by omega) rfl rfl ?_
  refine z_get d_TM_output_4 f_TM_197 (by omega) rfl rfl ?_
  refine z_iconst (v := 4) d_TM_output_7 (by decide) ?_
  refine z_icmp_eq d_TM_output_8 20 (by decide) (fun _ => ?_) (fun h9 => absurd hf h9)
  refine z_iconst (v := 0) d_TM_output_20 (by decide) ?_
  exact z_zret d_TM_output_21 rfl (by decide) (by decide) (by decide) rfl rfl
set_option maxRecDepth 100000 in
set_option maxHeartbeats 4000000 in
theorem c_TM_output0 (X : zX) (J : zJT) (G : zGT) (c k : Int32) (hf : ¬ J 32 1 = 4) (hm : zK X 3 m_TM_canAskFor [.ref 0, .int c, .int k] J G (some (.int 0)) J G) : zK X 4 m_TM_output [.ref 0, .int c, .int k] J G (some (.int 0)) J G := by
  refine zC_of (by decide) (Nat.le_of_ble_eq_true rfl) ?_
  refine z_aload_n d_TM_output_0 rfl ?_
  refine z_get d_TM_output_1 f_TM_43 (by omega) rfl rfl ?_
  refine z_get d_TM_output_4 f_TM_197 (by omega) rfl rfl ?_
  refine z_iconst (v := 4) d_TM_output_7 (by decide) ?_
  refine z_icmp_eq d_TM_output_8 20 (by decide) (fun h9 => absurd h9 hf) (fun _ => ?_)
  refine z_aload_n d_TM_output_11 rfl ?_
  refine z_iload_n d_TM_output_12 rfl ?_
  refine z_iload_n d_TM_output_13 rfl ?_
  refine z_callV1 d_TM_output_14 g_TM_200 (hm) (by omega) rfl rfl rfl ⟨by decide, by decide, by decide, by decide⟩ rfl (Nat.le_of_ble_eq_true rfl) ?_
  refine z_if_ne d_TM_output_17 22 (by decide) (fun h9 => absurd h9 (fun h9 => h9 rfl)) (fun _ => ?_)
  refine z_iconst (v := 0) d_TM_output_20 (by decide) ?_
  exact z_zret d_TM_output_21 rfl (by decide) (by decide) (by decide) rfl rfl
set_option maxRecDepth 100000 in
set_option maxHeartbeats 4000000 in
theorem c_TM_output1 (X : zX) (J : zJT) (G : zGT) (c k : Int32) {n : Nat} (hn : J 32 1 = nI n) (hn4 : n < 4) (hm : zK X 3 m_TM_canAskFor [.ref 0, .int c, .int k] J G (some (.int 1)) J G) : zK X 4 m_TM_output [.ref 0, .int c, .int k] J G (some (.int 1)) (va_up (va_up (va_up J 34 (upd (J 34) n c)) 35 (upd (J 35) n k)) 32 (va_up (J 32) 1 (nI n + 1))) G := by
  refine zC_of (by decide) (Nat.le_of_ble_eq_true rfl) ?_
  refine z_aload_n d_TM_output_0 rfl ?_
  refine z_get d_TM_output_1 f_TM_43 (by omega) rfl rfl ?_
  refine z_get d_TM_output_4 f_TM_197 (by omega) rfl rfl ?_
  refine z_iconst (v := 4) d_TM_output_7 (by decide) ?_
  refine z_icmp_eq d_TM_output_8 20 (by decide) (fun h9 => absurd h9 (by rw [hn]; exact fun h9 => absurd ((nI_eq (by omega) (by decide)).mp (show nI n = nI 4 from h9)) (by omega))) (fun _ => ?_)
  refine z_aload_n d_TM_output_11 rfl ?_
  refine z_iload_n d_TM_output_12 rfl ?_
  refine z_iload_n d_TM_output_13 rfl ?_
  refine z_callV1 d_TM_output_14 g_TM_200 (hm) (by omega) rfl rfl rfl ⟨by decide, by decide, by decide, by decide⟩ rfl (Nat.le_of_ble_eq_true rfl) ?_
  refine z_if_ne d_TM_output_17 22 (by decide) (fun _ => ?_) (fun h9 => absurd h9 (by decide))
  refine z_aload_n d_TM_output_22 rfl ?_
  refine z_get d_TM_output_23 f_TM_43 (by omega) rfl rfl ?_
  refine z_iload_n d_TM_output_26 rfl ?_
  refine z_iload_n d_TM_output_27 rfl ?_
  refine z_callV0 d_TM_output_28 g_TM_203 (c_Que_bringOutput X J G hn hn4 c k) (by omega) rfl rfl rfl ⟨by decide, by decide, by decide, by decide⟩ rfl (Nat.le_of_ble_eq_true rfl) ?_
  refine z_iconst (v := 1) d_TM_output_31 (by decide) ?_
  exact z_zret d_TM_output_32 rfl (by decide) (by decide) (by decide) rfl rfl
set_option maxRecDepth 100000 in
set_option maxHeartbeats 4000000 in
theorem c_TM_condF (X : zX) (J : zJT) (G : zGT) (c k o v : Int32) (hf : J 32 2 = 4) : zK X 4 m_TM_condition [.ref 0, .int c, .int k, .int o, .int v] J G (some (.int 0)) J G := by
  refine zC_of (by decide) (Nat.le_of_ble_eq_true rfl) ?_
  refine z_aload_n d_TM_condition_0 rfl ?_
  refine z_get d_TM_condition_1 f_TM_43 (by omega) rfl rfl ?_
  refine z_get d_TM_condition_4 f_TM_206 (by omega) rfl rfl ?_
  refine z_iconst (v := 4) d_TM_condition_7 (by decide) ?_
  refine z_icmp_eq d_TM_condition_8 20 (by decide) (fun _ => ?_) (fun h9 => absurd hf h9)
  refine z_iconst (v := 0) d_TM_condition_20 (by decide) ?_
  exact z_zret d_TM_condition_21 rfl (by decide) (by decide) (by decide) rfl rfl
set_option maxRecDepth 100000 in
set_option maxHeartbeats 4000000 in
theorem c_TM_cond0 (X : zX) (J : zJT) (G : zGT) (c k o v : Int32) (hf : ¬ J 32 2 = 4) (hm : zK X 3 m_TM_canAskFor [.ref 0, .int c, .int k] J G (some (.int 0)) J G) : zK X 4 m_TM_condition [.ref 0, .int c, .int k, .int o, .int v] J G (some (.int 0)) J G := by
  refine zC_of (by decide) (Nat.le_of_ble_eq_true rfl) ?_
  refine z_aload_n d_TM_condition_0 rfl ?_
  refine z_get d_TM_condition_1 f_TM_43 (by omega) rfl rfl ?_
  refine z_get d_TM_condition_4 f_TM_206 (by omega) rfl rfl ?_
  refine z_iconst (v := 4) d_TM_condition_7 (by decide) ?_
  refine z_icmp_eq d_TM_condition_8 20 (by decide) (fun h9 => absurd h9 hf) (fun _ => ?_)
  refine z_aload_n d_TM_condition_11 rfl ?_
  refine z_iload_n d_TM_condition_12 rfl ?_
  refine z_iload_n d_TM_condition_13 rfl ?_
  refine z_callV1 d_TM_condition_14 g_TM_200 (hm) (by omega) rfl rfl rfl ⟨by decide, by decide, by decide, by decide⟩ rfl (Nat.le_of_ble_eq_true rfl) ?_
  refine z_if_ne d_TM_condition_17 22 (by decide) (fun h9 => absurd h9 (fun h9 => h9 rfl)) (fun _ => ?_)
  refine z_iconst (v := 0) d_TM_condition_20 (by decide) ?_
  exact z_zret d_TM_condition_21 rfl (by decide) (by decide) (by decide) rfl rfl
set_option maxRecDepth 100000 in
set_option maxHeartbeats 4000000 in
theorem c_TM_condO (X : zX) (J : zJT) (G : zGT) (c k o v : Int32) (hf : ¬ J 32 2 = 4) (hm : zK X 3 m_TM_canAskFor [.ref 0, .int c, .int k] J G (some (.int 1)) J G) (ho : (decide (0 ≤ o) && decide (o < 8)) = false) : zK X 4 m_TM_condition [.ref 0, .int c, .int k, .int o, .int v] J G (some (.int 0)) J G := by
  refine zC_of (by decide) (Nat.le_of_ble_eq_true rfl) ?_
  refine z_aload_n d_TM_condition_0 rfl ?_
  refine z_get d_TM_condition_1 f_TM_43 (by omega) rfl rfl ?_
  refine z_get d_TM_condition_4 f_TM_206 (by omega) rfl rfl ?_
  refine z_iconst (v := 4) d_TM_condition_7 (by decide) ?_
  refine z_icmp_eq d_TM_condition_8 20 (by decide) (fun h9 => absurd h9 hf) (fun _ => ?_)
  refine z_aload_n d_TM_condition_11 rfl ?_
  refine z_iload_n d_TM_condition_12 rfl ?_
  refine z_iload_n d_TM_condition_13 rfl ?_
  refine z_callV1 d_TM_condition_14 g_TM_200 (hm) (by omega) rfl rfl rfl ⟨by decide, by decide, by decide, by decide⟩ rfl (Nat.le_of_ble_eq_true rfl) ?_
  refine z_if_ne d_TM_condition_17 22 (by decide) (fun _ => ?_) (fun h9 => absurd h9 (by decide))
  refine z_iload_n d_TM_condition_22 rfl ?_
  refine z_bipush (v := 8) d_TM_condition_23 (by decide) ?_
  refine z_callS1 d_TM_condition_25 g_TM_69 (c_isIndex X 0 _ _ _ _) rfl ⟨by decide, by decide, by decide, by decide⟩ rfl (Nat.le_of_ble_eq_true rfl) ?_
  refine z_if_ne d_TM_condition_28 33 (by decide) (fun h9 => absurd h9 (fun h9 => h9 (by rw [ho]; rfl))) (fun _ => ?_)
  refine z_iconst (v := 0) d_TM_condition_31 (by decide) ?_
  exact z_zret d_TM_condition_32 rfl (by decide) (by decide) (by decide) rfl rfl
set_option maxRecDepth 100000 in
set_option maxHeartbeats 4000000 in
theorem c_TM_cond1 (X : zX) (J : zJT) (G : zGT) (c k o v : Int32) {n : Nat} (hn : J 32 2 = nI n) (hn4 : n < 4) (hm : zK X 3 m_TM_canAskFor [.ref 0, .int c, .int k] J G (some (.int 1)) J G) (ho : (decide (0 ≤ o) && decide (o < 8)) = true) : zK X 4 m_TM_condition [.ref 0, .int c, .int k, .int o, .int v] J G (some (.int 1)) (va_up (va_up (va_up (va_up (va_up J 36 (upd (J 36) n c)) 37 (upd (J 37) n k)) 38 (upd (J 38) n o)) 39 (upd (J 39) n v)) 32 (va_up (J 32) 2 (nI n + 1))) G := by
  refine zC_of (by decide) (Nat.le_of_ble_eq_true rfl) ?_
  refine z_aload_n d_TM_condition_0 rfl ?_
  refine z_get d_TM_condition_1 f_TM_43 (by omega) rfl rfl ?_
  refine z_get d_TM_condition_4 f_TM_206 (by omega) rfl rfl ?_
  refine z_iconst (v := 4) d_TM_condition_7 (by decide) ?_
  refine z_icmp_eq d_TM_condition_8 20 (by decide) (fun h9 => absurd h9 (by rw [hn]; exact fun h9 => absurd ((nI_eq (by omega) (by decide)).mp (show nI n = nI 4 from h9)) (by omega))) (fun _ => ?_)
  refine z_aload_n d_TM_condition_11 rfl ?_
  refine z_iload_n d_TM_condition_12 rfl ?_
  refine z_iload_n d_TM_condition_13 rfl ?_
  refine z_callV1 d_TM_condition_14 g_TM_200 (hm) (by omega) rfl rfl rfl ⟨by decide, by decide, by decide, by decide⟩ rfl (Nat.le_of_ble_eq_true rfl) ?_
  refine z_if_ne d_TM_condition_17 22 (by decide) (fun _ => ?_) (fun h9 => absurd h9 (by decide))
  refine z_iload_n d_TM_condition_22 rfl ?_
  refine z_bipush (v := 8) d_TM_condition_23 (by decide) ?_
  refine z_callS1 d_TM_condition_25 g_TM_69 (c_isIndex X 0 _ _ _ _) rfl ⟨by decide, by decide, by decide, by decide⟩ rfl (Nat.le_of_ble_eq_true rfl) ?_
  refine z_if_ne d_TM_condition_28 33 (by decide) (fun _ => ?_) (fun h9 => absurd h9 (by rw [ho]; decide))
  refine z_aload_n d_TM_condition_33 rfl ?_
  refine z_get d_TM_condition_34 f_TM_43 (by omega) rfl rfl ?_
  refine z_iload_n d_TM_condition_37 rfl ?_
  refine z_iload_n d_TM_condition_38 rfl ?_
  refine z_iload_n d_TM_condition_39 rfl ?_
  refine z_iload d_TM_condition_40 rfl ?_
  refine z_callV0 d_TM_condition_42 g_TM_209 (c_Que_bringCondition X J G hn hn4 c k o v) (by omega) rfl rfl rfl ⟨by decide, by decide, by decide, by decide⟩ rfl (Nat.le_of_ble_eq_true rfl) ?_
  refine z_iconst (v := 1) d_TM_condition_45 (by decide) ?_
  exact z_zret d_TM_condition_46 rfl (by decide) (by decide) (by decide) rfl rfl
set_option maxRecDepth 100000 in
set_option maxHeartbeats 4000000 in
theorem c_TM_join0 (X : zX) (J : zJT) (G : zGT) (k l : Int32) (hm : zK X 3 m_TM_canAskFor [.ref 0, .int 0, .int k] J G (some (.int 0)) J G) : zK X 4 m_TM_join [.ref 0, .int k, .int l] J G (some (.int 0)) J G := by
  refine zC_of (by decide) (Nat.le_of_ble_eq_true rfl) ?_
  refine z_aload_n d_TM_join_0 rfl ?_
  refine z_iconst (v := 0) d_TM_join_1 (by decide) ?_
  refine z_iload_n d_TM_join_2 rfl ?_
  refine z_callV1 d_TM_join_3 g_TM_200 (hm) (by omega) rfl rfl rfl ⟨by decide, by decide, by decide, by decide⟩ rfl (Nat.le_of_ble_eq_true rfl) ?_
  refine z_if_eq d_TM_join_6 18 (by decide) (fun _ => ?_) (fun h9 => absurd rfl h9)
  refine z_iconst (v := 0) d_TM_join_18 (by decide) ?_
  exact z_zret d_TM_join_19 rfl (by decide) (by decide) (by decide) rfl rfl
set_option maxRecDepth 100000 in
set_option maxHeartbeats 4000000 in
theorem c_TM_join2 (X : zX) (J : zJT) (G : zGT) (k l : Int32) (hm : zK X 3 m_TM_canAskFor [.ref 0, .int 0, .int k] J G (some (.int 1)) J G) (hm2 : zK X 3 m_TM_canAskFor [.ref 0, .int 1, .int l] J G (some (.int 0)) J G) : zK X 4 m_TM_join [.ref 0, .int k, .int l] J G (some (.int 0)) J G := by
  refine zC_of (by decide) (Nat.le_of_ble_eq_true rfl) ?_
  refine z_aload_n d_TM_join_0 rfl ?_
  refine z_iconst (v := 0) d_TM_join_1 (by decide) ?_
  refine z_iload_n d_TM_join_2 rfl ?_
  refine z_callV1 d_TM_join_3 g_TM_200 (hm) (by omega) rfl rfl rfl ⟨by decide, by decide, by decide, by decide⟩ rfl (Nat.le_of_ble_eq_true rfl) ?_
  refine z_if_eq d_TM_join_6 18 (by decide) (fun h9 => absurd h9 (by decide)) (fun _ => ?_)
  refine z_aload_n d_TM_join_9 rfl ?_
  refine z_iconst (v := 1) d_TM_join_10 (by decide) ?_
  refine z_iload_n d_TM_join_11 rfl ?_
  refine z_callV1 d_TM_join_12 g_TM_200 (hm2) (by omega) rfl rfl rfl ⟨by decide, by decide, by decide, by decide⟩ rfl (Nat.le_of_ble_eq_true rfl) ?_
  refine z_if_ne d_TM_join_15 20 (by decide) (fun h9 => absurd h9 (fun h9 => h9 rfl)) (fun _ => ?_)
  refine z_iconst (v := 0) d_TM_join_18 (by decide) ?_
  exact z_zret d_TM_join_19 rfl (by decide) (by decide) (by decide) rfl rfl
set_option maxRecDepth 100000 in
set_option maxHeartbeats 4000000 in
theorem c_TM_join1 (X : zX) (J : zJT) (G : zGT) (k l : Int32) (hm : zK X 3 m_TM_canAskFor [.ref 0, .int 0, .int k] J G (some (.int 1)) J G) (hm2 : zK X 3 m_TM_canAskFor [.ref 0, .int 1, .int l] J G (some (.int 1)) J G) : zK X 4 m_TM_join [.ref 0, .int k, .int l] J G (some (.int 1)) (va_up J 32 (va_up (va_up (va_up (J 32) 10 1) 11 k) 12 l)) G := by
  refine zC_of (by decide) (Nat.le_of_ble_eq_true rfl) ?_
  refine z_aload_n d_TM_join_0 rfl ?_
  refine z_iconst (v := 0) d_TM_join_1 (by decide) ?_
  refine z_iload_n d_TM_join_2 rfl ?_
  refine z_callV1 d_TM_join_3 g_TM_200 (hm) (by omega) rfl rfl rfl ⟨by decide, by decide, by decide, by decide⟩ rfl (Nat.le_of_ble_eq_true rfl) ?_
  refine z_if_eq d_TM_join_6 18 (by decide) (fun h9 => absurd h9 (by decide)) (fun _ => ?_)
  refine z_aload_n d_TM_join_9 rfl ?_
  refine z_iconst (v := 1) d_TM_join_10 (by decide) ?_
  refine z_iload_n d_TM_join_11 rfl ?_
  refine z_callV1 d_TM_join_12 g_TM_200 (hm2) (by omega) rfl rfl rfl ⟨by decide, by decide, by decide, by decide⟩ rfl (Nat.le_of_ble_eq_true rfl) ?_
  refine z_if_ne d_TM_join_15 20 (by decide) (fun _ => ?_) (fun h9 => absurd h9 (by decide))
  refine z_aload_n d_TM_join_20 rfl ?_
  refine z_get d_TM_join_21 f_TM_43 (by omega) rfl rfl ?_
  refine z_iload_n d_TM_join_24 rfl ?_
  refine z_iload_n d_TM_join_25 rfl ?_
  refine z_callV0 d_TM_join_26 g_TM_212 (c_Que_bringJoin X J G k l) (by omega) rfl rfl rfl ⟨by decide, by decide, by decide, by decide⟩ rfl (Nat.le_of_ble_eq_true rfl) ?_
  refine z_iconst (v := 1) d_TM_join_29 (by decide) ?_
  exact z_zret d_TM_join_30 rfl (by decide) (by decide) (by decide) rfl rfl
