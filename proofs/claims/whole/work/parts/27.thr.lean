/-! how the face throws -/
abbrev zKT (X : zX) (d : Nat) (M : zM) (av : List Value) (J : zJT) (G : zGT) (E : String) : Prop := zTC X d M 1 6 av (hp J G) 60 E
set_option maxRecDepth 100000 in
set_option maxHeartbeats 4000000 in
theorem t_TM_table1 (X : zX) (J : zJT) (G : zGT) (v : Int32) (h : v < 1) : zKT X 3 m_TM_table [.ref 0, .int v] J G "java/lang/IllegalArgumentException" := by
  refine zTC_of (by decide) (Nat.le_of_ble_eq_true rfl) ?_
  refine z_iload_n d_TM_table_0 rfl ?_
  refine z_iconst (v := 1) d_TM_table_1 (by decide) ?_
  refine z_icmp_lt d_TM_table_2 10 (by decide) (fun _ => ?_) (fun h9 => absurd h h9)
  exact z_throw rfl (by decide) zTx_A (List.mem_of_getElem? (i := 0) rfl) d_TM_table_10 d_TM_table_13 d_TM_table_14 d_TM_table_16 d_TM_table_19
set_option maxRecDepth 100000 in
set_option maxHeartbeats 4000000 in
theorem t_TM_table2 (X : zX) (J : zJT) (G : zGT) (v : Int32) (h1 : ¬ v < 1) (h : ¬ v ≤ 4) : zKT X 3 m_TM_table [.ref 0, .int v] J G "java/lang/IllegalArgumentException" := by
  refine zTC_of (by decide) (Nat.le_of_ble_eq_true rfl) ?_
  refine z_iload_n d_TM_table_0 rfl ?_
  refine z_iconst (v := 1) d_TM_table_1 (by decide) ?_
  refine z_icmp_lt d_TM_table_2 10 (by decide) (fun h9 => absurd h9 h1) (fun _ => ?_)
  refine z_iload_n d_TM_table_5 rfl ?_
  refine z_iconst (v := 4) d_TM_table_6 (by decide) ?_
  refine z_icmp_le d_TM_table_7 20 (by decide) (fun h9 => absurd h9 h) (fun _ => ?_)
  exact z_throw rfl (by decide) zTx_A (List.mem_of_getElem? (i := 0) rfl) d_TM_table_10 d_TM_table_13 d_TM_table_14 d_TM_table_16 d_TM_table_19
set_option maxRecDepth 100000 in
set_option maxHeartbeats 4000000 in
theorem t_TM_table3 (X : zX) (J : zJT) (G : zGT) (v : Int32) (h1 : ¬ v < 1) (h4 : v ≤ 4) (hJ : J 2 1 = 3) : zKT X 3 m_TM_table [.ref 0, .int v] J G "java/lang/IllegalStateException" := by
  refine zTC_of (by decide) (Nat.le_of_ble_eq_true rfl) ?_
  refine z_iload_n d_TM_table_0 rfl ?_
  refine z_iconst (v := 1) d_TM_table_1 (by decide) ?_
  refine z_icmp_lt d_TM_table_2 10 (by decide) (fun h9 => absurd h9 h1) (fun _ => ?_)
  refine z_iload_n d_TM_table_5 rfl ?_
  refine z_iconst (v := 4) d_TM_table_6 (by decide) ?_
  refine z_icmp_le d_TM_table_7 20 (by decide) (fun _ => ?_) (fun h9 => absurd h4 h9)
  refine z_aload_n d_TM_table_20 rfl ?_
  refine z_get d_TM_table_21 f_TM_20 (by omega) rfl rfl ?_
  refine z_get d_TM_table_24 f_TM_54 (by omega) rfl rfl ?_
  refine z_iconst (v := 3) d_TM_table_27 (by decide) ?_
  refine z_icmp_ne d_TM_table_28 41 (by decide) (fun h9 => absurd h9 (fun h9 => h9 hJ)) (fun _ => ?_)
  exact z_throw rfl (by decide) zTx_S (List.mem_of_getElem? (i := 1) rfl) d_TM_table_31 d_TM_table_34 d_TM_table_35 d_TM_table_37 d_TM_table_40
set_option maxRecDepth 100000 in
set_option maxHeartbeats 4000000 in
theorem t_TM_reqTable (X : zX) (J : zJT) (G : zGT) (v : Int32) (hno : (decide (0 ≤ v) && decide (v < J 2 1)) = false) : zKT X 3 m_TM_requireTable [.ref 0, .int v] J G "java/lang/IllegalArgumentException" := by
  refine zTC_of (by decide) (Nat.le_of_ble_eq_true rfl) ?_
  refine z_aload_n d_TM_requireTable_0 rfl ?_
  refine z_get d_TM_requireTable_1 f_TM_20 (by omega) rfl rfl ?_
  refine z_iload_n d_TM_requireTable_4 rfl ?_
  refine z_callV1 d_TM_requireTable_5 g_TM_97 (c_Sto_hasTable X v J G) (by omega) rfl rfl rfl ⟨by decide, by decide, by decide, by decide⟩ rfl (Nat.le_of_ble_eq_true rfl) ?_
  refine z_if_ne d_TM_requireTable_8 21 (by decide) (fun h9 => absurd h9 (fun h9 => h9 (by rw [hno]; rfl))) (fun _ => ?_)
  exact z_throw rfl (by decide) zTx_A (List.mem_of_getElem? (i := 2) rfl) d_TM_requireTable_11 d_TM_requireTable_14 d_TM_requireTable_15 d_TM_requireTable_17 d_TM_requireTable_20
set_option maxRecDepth 100000 in
set_option maxHeartbeats 4000000 in
theorem t_TM_insert1 (X : zX) (J : zJT) (G : zGT) (v : Int32) (key : Int64) (hno : (decide (0 ≤ v) && decide (v < J 2 1)) = false) : zKT X 4 m_TM_insert [.ref 0, .int v, .long key] J G "java/lang/IllegalArgumentException" := by
  refine zTC_of (by decide) (Nat.le_of_ble_eq_true rfl) ?_
  refine z_aload_n d_TM_insert_0 rfl ?_
  refine z_iload_n d_TM_insert_1 rfl ?_
  exact z_callT rfl d_TM_insert_2 g_TM_80 (t_TM_reqTable X J G v hno) (by omega) rfl rfl rfl ⟨by decide, by decide, by decide, by decide⟩ rfl (Nat.le_of_ble_eq_true rfl)
set_option maxRecDepth 100000 in
set_option maxHeartbeats 4000000 in
theorem t_TM_insert2 (X : zX) (J : zJT) (G : zGT) (v : Int32) (key : Int64) (hyes : (decide (0 ≤ v) && decide (v < J 2 1)) = true) (hf : J 2 5 = 0) : zKT X 4 m_TM_insert [.ref 0, .int v, .long key] J G "java/lang/IllegalStateException" := by
  refine zTC_of (by decide) (Nat.le_of_ble_eq_true rfl) ?_
  refine z_aload_n d_TM_insert_0 rfl ?_
  refine z_iload_n d_TM_insert_1 rfl ?_
  refine z_callV0 d_TM_insert_2 g_TM_80 (c_TM_reqTable X J G v hyes) (by omega) rfl rfl rfl ⟨by decide, by decide, by decide, by decide⟩ rfl (Nat.le_of_ble_eq_true rfl) ?_
  refine z_aload_n d_TM_insert_5 rfl ?_
  refine z_get d_TM_insert_6 f_TM_20 (by omega) rfl rfl ?_
  refine z_callV1 d_TM_insert_9 g_TM_83 (c_Sto_isFull X J G) (by omega) rfl rfl rfl ⟨by decide, by decide, by decide, by decide⟩ rfl (Nat.le_of_ble_eq_true rfl) ?_
  refine z_if_eq d_TM_insert_12 25 (by decide) (fun h9 => absurd h9 (fun h9 => absurd h9 (by rw [decide_eq_true hf]; decide))) (fun _ => ?_)
  exact z_throw rfl (by decide) zTx_S (List.mem_of_getElem? (i := 3) rfl) d_TM_insert_15 d_TM_insert_18 d_TM_insert_19 d_TM_insert_21 d_TM_insert_24
set_option maxRecDepth 100000 in
set_option maxHeartbeats 4000000 in
theorem t_TM_delete (X : zX) (J : zJT) (G : zGT) (v : Int32) (key : Int64) (hno : (decide (0 ≤ v) && decide (v < J 2 1)) = false) : zKT X 4 m_TM_delete [.ref 0, .int v, .long key] J G "java/lang/IllegalArgumentException" := by
  refine zTC_of (by decide) (Nat.le_of_ble_eq_true rfl) ?_
  refine z_aload_n d_TM_delete_0 rfl ?_
  refine z_iload_n d_TM_delete_1 rfl ?_
  exact z_callT rfl d_TM_delete_2 g_TM_80 (t_TM_reqTable X J G v hno) (by omega) rfl rfl rfl ⟨by decide, by decide, by decide, by decide⟩ rfl (Nat.le_of_ble_eq_true rfl)
set_option maxRecDepth 100000 in
set_option maxHeartbeats 4000000 in
theorem t_TM_next1 (X : zX) (J : zJT) (G : zGT) (v : Int32) (key : Int64) (o : Int32) (hno : (decide (0 ≤ v) && decide (v < J 2 1)) = false) : zKT X 4 m_TM_next [.ref 0, .int v, .long key, .int o] J G "java/lang/IllegalArgumentException" := by
  refine zTC_of (by decide) (Nat.le_of_ble_eq_true rfl) ?_
  refine z_aload_n d_TM_next_0 rfl ?_
  refine z_iload_n d_TM_next_1 rfl ?_
  exact z_callT rfl d_TM_next_2 g_TM_80 (t_TM_reqTable X J G v hno) (by omega) rfl rfl rfl ⟨by decide, by decide, by decide, by decide⟩ rfl (Nat.le_of_ble_eq_true rfl)
set_option maxRecDepth 100000 in
set_option maxHeartbeats 4000000 in
theorem t_TM_next2 (X : zX) (J : zJT) (G : zGT) {t n : Nat} (hT : zTn J t n) (hyes : (decide (0 ≤ nI t) && decide (nI t < J 2 1)) = true) (key : Int64) (o : Bool) (hb : ∀ p, p < n → zbl (zky J G t p) key o) : zKT X 4 m_TM_next [.ref 0, .int (nI t), .long key, .int (zb o)] J G "java/util/NoSuchElementException" := by
  have ht3 := hT.1
  have hn9 := hT.2.1
  refine zTC_of (by decide) (Nat.le_of_ble_eq_true rfl) ?_
  refine z_aload_n d_TM_next_0 rfl ?_
  refine z_iload_n d_TM_next_1 rfl ?_
  refine z_callV0 d_TM_next_2 g_TM_80 (c_TM_reqTable X J G _ hyes) (by omega) rfl rfl rfl ⟨by decide, by decide, by decide, by decide⟩ rfl (Nat.le_of_ble_eq_true rfl) ?_
  refine z_aload_n d_TM_next_5 rfl ?_
  refine z_get d_TM_next_6 f_TM_20 (by omega) rfl rfl ?_
  refine z_iload_n d_TM_next_9 rfl ?_
  refine z_lload_n d_TM_next_10 rfl ?_
  refine z_iload d_TM_next_11 rfl ?_
  refine z_callV1 d_TM_next_13 g_TM_110 (c_Sto_rows X J G hT key o (Nat.le_refl n) (fun p hp => ⟨fun _ => hp, fun _ => hb p hp⟩)) (by omega) rfl rfl rfl ⟨by decide, by decide, by decide, by decide⟩ rfl (Nat.le_of_ble_eq_true rfl) ?_
  refine z_istore (lv' := [(0, _), (1, _), (2, _), (4, _), (5, _)]) d_TM_next_16 (by decide) rfl ?_
  refine z_aload_n d_TM_next_18 rfl ?_
  refine z_get d_TM_next_19 f_TM_20 (by omega) rfl rfl ?_
  refine z_iload_n d_TM_next_22 rfl ?_
  refine z_iload d_TM_next_23 rfl ?_
  refine z_callV1 d_TM_next_25 g_TM_114 (c_Sto_hasPlace X hT.1 J G (nI n)) (by omega) rfl rfl rfl ⟨by decide, by decide, by decide, by decide⟩ rfl (Nat.le_of_ble_eq_true rfl) ?_
  refine z_if_ne d_TM_next_28 41 (by decide) (fun h9 => absurd h9 (fun h9 => h9 (by rw [hT.2.2.1, decide_eq_false (fun h8 => Int32.lt_irrefl h8)]; rfl))) (fun _ => ?_)
  exact z_throw rfl (by decide) zTx_E (List.mem_of_getElem? (i := 4) rfl) d_TM_next_31 d_TM_next_34 d_TM_next_35 d_TM_next_37 d_TM_next_40
set_option maxRecDepth 100000 in
set_option maxHeartbeats 4000000 in
theorem t_TM_reqCell1 (X : zX) (J : zJT) (G : zGT) (v k : Int32) (key : Int64) (hno : (decide (0 ≤ v) && decide (v < J 2 1)) = false) : zKT X 4 m_TM_requireCell [.ref 0, .int v, .long key, .int k] J G "java/lang/IllegalArgumentException" := by
  refine zTC_of (by decide) (Nat.le_of_ble_eq_true rfl) ?_
  refine z_aload_n d_TM_requireCell_0 rfl ?_
  refine z_get d_TM_requireCell_1 f_TM_20 (by omega) rfl rfl ?_
  refine z_iload_n d_TM_requireCell_4 rfl ?_
  refine z_iload d_TM_requireCell_5 rfl ?_
  refine z_callV1 d_TM_requireCell_7 g_TM_223 (c_Sto_hasColumn0 X v k J G hno) (by omega) rfl rfl rfl ⟨by decide, by decide, by decide, by decide⟩ rfl (Nat.le_of_ble_eq_true rfl) ?_
  refine z_if_ne d_TM_requireCell_10 23 (by decide) (fun h9 => absurd h9 (fun h9 => h9 rfl)) (fun _ => ?_)
  exact z_throw rfl (by decide) zTx_A (List.mem_of_getElem? (i := 5) rfl) d_TM_requireCell_13 d_TM_requireCell_16 d_TM_requireCell_17 d_TM_requireCell_19 d_TM_requireCell_22
set_option maxRecDepth 100000 in
set_option maxHeartbeats 4000000 in
theorem t_TM_reqCell2 (X : zX) (J : zJT) (G : zGT) {t : Nat} (ht : t < 3) (k : Int32) (key : Int64) (hyes : (decide (0 ≤ nI t) && decide (nI t < J 2 1)) = true) (hcol : (decide (0 ≤ k) && decide (k < J (9 + 2 * t) 0)) = false) : zKT X 4 m_TM_requireCell [.ref 0, .int (nI t), .long key, .int k] J G "java/lang/IllegalArgumentException" := by
  refine zTC_of (by decide) (Nat.le_of_ble_eq_true rfl) ?_
  refine z_aload_n d_TM_requireCell_0 rfl ?_
  refine z_get d_TM_requireCell_1 f_TM_20 (by omega) rfl rfl ?_
  refine z_iload_n d_TM_requireCell_4 rfl ?_
  refine z_iload d_TM_requireCell_5 rfl ?_
  refine z_callV1 d_TM_requireCell_7 g_TM_223 (c_Sto_hasColumn X ht k J G hyes) (by omega) rfl rfl rfl ⟨by decide, by decide, by decide, by decide⟩ rfl (Nat.le_of_ble_eq_true rfl) ?_
  refine z_if_ne d_TM_requireCell_10 23 (by decide) (fun h9 => absurd h9 (fun h9 => h9 (by rw [hcol]; rfl))) (fun _ => ?_)
  exact z_throw rfl (by decide) zTx_A (List.mem_of_getElem? (i := 5) rfl) d_TM_requireCell_13 d_TM_requireCell_16 d_TM_requireCell_17 d_TM_requireCell_19 d_TM_requireCell_22
set_option maxRecDepth 100000 in
set_option maxHeartbeats 4000000 in
theorem t_TM_reqCell3 (X : zX) (J : zJT) (G : zGT) {t : Nat} (ht : t < 3) (k : Int32) (key : Int64) (hyes : (decide (0 ≤ nI t) && decide (nI t < J 2 1)) = true) (hcol : (decide (0 ≤ k) && decide (k < J (9 + 2 * t) 0)) = true) (hs : zK X 1 m_Sto_slotOf [.ref 2, .int (nI t), .long key] J G (some (.int (-1))) J G) : zKT X 4 m_TM_requireCell [.ref 0, .int (nI t), .long key, .int k] J G "java/util/NoSuchElementException" := by
  refine zTC_of (by decide) (Nat.le_of_ble_eq_true rfl) ?_
  refine z_aload_n d_TM_requireCell_0 rfl ?_
  refine z_get d_TM_requireCell_1 f_TM_20 (by omega) rfl rfl ?_
  refine z_iload_n d_TM_requireCell_4 rfl ?_
  refine z_iload d_TM_requireCell_5 rfl ?_
  refine z_callV1 d_TM_requireCell_7 g_TM_223 (c_Sto_hasColumn X ht k J G hyes) (by omega) rfl rfl rfl ⟨by decide, by decide, by decide, by decide⟩ rfl (Nat.le_of_ble_eq_true rfl) ?_
  refine z_if_ne d_TM_requireCell_10 23 (by decide) (fun _ => ?_) (fun h9 => absurd h9 (by rw [hcol]; decide))
  refine z_aload_n d_TM_requireCell_23 rfl ?_
  refine z_get d_TM_requireCell_24 f_TM_20 (by omega) rfl rfl ?_
  refine z_iload_n d_TM_requireCell_27 rfl ?_
  refine z_lload_n d_TM_requireCell_28 rfl ?_
  refine z_callV1 d_TM_requireCell_29 g_TM_228 (hs) (by omega) rfl rfl rfl ⟨by decide, by decide, by decide, by decide⟩ rfl (Nat.le_of_ble_eq_true rfl) ?_
  refine z_istore (lv' := [(0, _), (1, _), (2, _), (4, _), (5, _)]) d_TM_requireCell_32 (by decide) rfl ?_
  refine z_iload d_TM_requireCell_34 rfl ?_
  refine z_iconst (v := (-1)) d_TM_requireCell_36 (by decide) ?_
  refine z_icmp_ne d_TM_requireCell_37 50 (by decide) (fun h9 => absurd h9 (fun h9 => h9 rfl)) (fun _ => ?_)
  exact z_throw rfl (by decide) zTx_E (List.mem_of_getElem? (i := 6) rfl) d_TM_requireCell_40 d_TM_requireCell_43 d_TM_requireCell_44 d_TM_requireCell_46 d_TM_requireCell_49
set_option maxRecDepth 100000 in
set_option maxHeartbeats 4000000 in
theorem t_TM_value (X : zX) (J : zJT) (G : zGT) (v k : Int32) (key : Int64) {E : String} (hm : zKT X 4 m_TM_requireCell [.ref 0, .int v, .long key, .int k] J G E) : zKT X 5 m_TM_value [.ref 0, .int v, .long key, .int k] J G E := by
  refine zTC_of (by decide) (Nat.le_of_ble_eq_true rfl) ?_
  refine z_aload_n d_TM_value_0 rfl ?_
  refine z_get d_TM_value_1 f_TM_20 (by omega) rfl rfl ?_
  refine z_get d_TM_value_4 f_TM_126 (by omega) rfl rfl ?_
  refine z_aload_n d_TM_value_7 rfl ?_
  refine z_iload_n d_TM_value_8 rfl ?_
  refine z_lload_n d_TM_value_9 rfl ?_
  refine z_iload d_TM_value_10 rfl ?_
  exact z_callT rfl d_TM_value_12 g_TM_129 (hm) (by omega) rfl rfl rfl ⟨by decide, by decide, by decide, by decide⟩ rfl (Nat.le_of_ble_eq_true rfl)
set_option maxRecDepth 100000 in
set_option maxHeartbeats 4000000 in
theorem t_TM_isNull (X : zX) (J : zJT) (G : zGT) (v k : Int32) (key : Int64) {E : String} (hm : zKT X 4 m_TM_requireCell [.ref 0, .int v, .long key, .int k] J G E) : zKT X 5 m_TM_isNull [.ref 0, .int v, .long key, .int k] J G E := by
  refine zTC_of (by decide) (Nat.le_of_ble_eq_true rfl) ?_
  refine z_aload_n d_TM_isNull_0 rfl ?_
  refine z_get d_TM_isNull_1 f_TM_20 (by omega) rfl rfl ?_
  refine z_get d_TM_isNull_4 f_TM_126 (by omega) rfl rfl ?_
  refine z_aload_n d_TM_isNull_7 rfl ?_
  refine z_iload_n d_TM_isNull_8 rfl ?_
  refine z_lload_n d_TM_isNull_9 rfl ?_
  refine z_iload d_TM_isNull_10 rfl ?_
  exact z_callT rfl d_TM_isNull_12 g_TM_129 (hm) (by omega) rfl rfl rfl ⟨by decide, by decide, by decide, by decide⟩ rfl (Nat.le_of_ble_eq_true rfl)
set_option maxRecDepth 100000 in
set_option maxHeartbeats 4000000 in
theorem t_TM_add0 (X : zX) (J : zJT) (G : zGT) (i p q s : Int32) (hno : (decide (0 ≤ i) && decide (i < 22)) = false) : zKT X 4 m_TM_add [.ref 0, .int i, .int p, .int q, .int s] J G "java/lang/IllegalArgumentException" := by
  refine zTC_of (by decide) (Nat.le_of_ble_eq_true rfl) ?_
  refine z_iload_n d_TM_add_0 rfl ?_
  refine z_iload_n d_TM_add_1 rfl ?_
  refine z_iload_n d_TM_add_2 rfl ?_
  refine z_iload d_TM_add_3 rfl ?_
  refine z_callS1 d_TM_add_5 g_TM_140 (c_Op_accepts0 X i p q s J G hno) rfl ⟨by decide, by decide, by decide, by decide⟩ rfl (Nat.le_of_ble_eq_true rfl) ?_
  refine z_if_ne d_TM_add_8 21 (by decide) (fun h9 => absurd h9 (fun h9 => h9 rfl)) (fun _ => ?_)
  exact z_throw rfl (by decide) zTx_A (List.mem_of_getElem? (i := 7) rfl) d_TM_add_11 d_TM_add_14 d_TM_add_15 d_TM_add_17 d_TM_add_20
set_option maxRecDepth 100000 in
set_option maxHeartbeats 4000000 in
theorem t_TM_add1 (X : zX) (J : zJT) (G : zGT) {o : Nat} (ho : o < 22) (p q s : Int32) (ha : zAcc o p q s = false) : zKT X 4 m_TM_add [.ref 0, .int (nI o), .int p, .int q, .int s] J G "java/lang/IllegalArgumentException" := by
  refine zTC_of (by decide) (Nat.le_of_ble_eq_true rfl) ?_
  refine z_iload_n d_TM_add_0 rfl ?_
  refine z_iload_n d_TM_add_1 rfl ?_
  refine z_iload_n d_TM_add_2 rfl ?_
  refine z_iload d_TM_add_3 rfl ?_
  refine z_callS1 d_TM_add_5 g_TM_140 (c_Op_accepts X ho p q s J G) rfl ⟨by decide, by decide, by decide, by decide⟩ rfl (Nat.le_of_ble_eq_true rfl) ?_
  refine z_if_ne d_TM_add_8 21 (by decide) (fun h9 => absurd h9 (fun h9 => h9 (by rw [ha]; rfl))) (fun _ => ?_)
  exact z_throw rfl (by decide) zTx_A (List.mem_of_getElem? (i := 7) rfl) d_TM_add_11 d_TM_add_14 d_TM_add_15 d_TM_add_17 d_TM_add_20
set_option maxRecDepth 100000 in
set_option maxHeartbeats 4000000 in
theorem t_TM_add2 (X : zX) (J : zJT) (G : zGT) {o : Nat} (ho : o < 22) (p q s : Int32) (ha : zAcc o p q s = true) (hm : J 15 0 = 60) : zKT X 4 m_TM_add [.ref 0, .int (nI o), .int p, .int q, .int s] J G "java/lang/IllegalStateException" := by
  refine zTC_of (by decide) (Nat.le_of_ble_eq_true rfl) ?_
  refine z_iload_n d_TM_add_0 rfl ?_
  refine z_iload_n d_TM_add_1 rfl ?_
  refine z_iload_n d_TM_add_2 rfl ?_
  refine z_iload d_TM_add_3 rfl ?_
  refine z_callS1 d_TM_add_5 g_TM_140 (c_Op_accepts X ho p q s J G) rfl ⟨by decide, by decide, by decide, by decide⟩ rfl (Nat.le_of_ble_eq_true rfl) ?_
  refine z_if_ne d_TM_add_8 21 (by decide) (fun _ => ?_) (fun h9 => absurd h9 (by rw [ha]; decide))
  refine z_aload_n d_TM_add_21 rfl ?_
  refine z_get d_TM_add_22 f_TM_25 (by omega) rfl rfl ?_
  refine z_get d_TM_add_25 f_TM_148 (by omega) rfl rfl ?_
  refine z_bipush (v := 60) d_TM_add_28 (by decide) ?_
  refine z_icmp_ne d_TM_add_30 43 (by decide) (fun h9 => absurd h9 (fun h9 => h9 hm)) (fun _ => ?_)
  exact z_throw rfl (by decide) zTx_S (List.mem_of_getElem? (i := 8) rfl) d_TM_add_33 d_TM_add_36 d_TM_add_37 d_TM_add_39 d_TM_add_42
set_option maxRecDepth 100000 in
set_option maxHeartbeats 4000000 in
theorem t_TM_code1 (X : zX) (J : zJT) (G : zGT) (k w : Int32) (h : (decide (0 ≤ k) && decide (k < J 15 0)) = false) : zKT X 3 m_TM_code [.ref 0, .int k, .int w] J G "java/lang/IndexOutOfBoundsException" := by
  refine zTC_of (by decide) (Nat.le_of_ble_eq_true rfl) ?_
  refine z_iload_n d_TM_code_0 rfl ?_
  refine z_aload_n d_TM_code_1 rfl ?_
  refine z_get d_TM_code_2 f_TM_25 (by omega) rfl rfl ?_
  refine z_get d_TM_code_5 f_TM_148 (by omega) rfl rfl ?_
  refine z_callS1 d_TM_code_8 g_TM_69 (c_isIndex X 0 _ _ _ _) rfl ⟨by decide, by decide, by decide, by decide⟩ rfl (Nat.le_of_ble_eq_true rfl) ?_
  refine z_if_eq d_TM_code_11 22 (by decide) (fun _ => ?_) (fun h9 => absurd (by rw [h]; rfl) h9)
  exact z_throw rfl (by decide) zTx_I (List.mem_of_getElem? (i := 9) rfl) d_TM_code_22 d_TM_code_25 d_TM_code_26 d_TM_code_28 d_TM_code_31
set_option maxRecDepth 100000 in
set_option maxHeartbeats 4000000 in
theorem t_TM_code2 (X : zX) (J : zJT) (G : zGT) (k w : Int32) (h1 : (decide (0 ≤ k) && decide (k < J 15 0)) = true) (h : (decide (0 ≤ w) && decide (w < 4)) = false) : zKT X 3 m_TM_code [.ref 0, .int k, .int w] J G "java/lang/IndexOutOfBoundsException" := by
  refine zTC_of (by decide) (Nat.le_of_ble_eq_true rfl) ?_
  refine z_iload_n d_TM_code_0 rfl ?_
  refine z_aload_n d_TM_code_1 rfl ?_
  refine z_get d_TM_code_2 f_TM_25 (by omega) rfl rfl ?_
  refine z_get d_TM_code_5 f_TM_148 (by omega) rfl rfl ?_
  refine z_callS1 d_TM_code_8 g_TM_69 (c_isIndex X 0 _ _ _ _) rfl ⟨by decide, by decide, by decide, by decide⟩ rfl (Nat.le_of_ble_eq_true rfl) ?_
  refine z_if_eq d_TM_code_11 22 (by decide) (fun h9 => absurd h9 (by rw [h1]; decide)) (fun _ => ?_)
  refine z_iload_n d_TM_code_14 rfl ?_
  refine z_iconst (v := 4) d_TM_code_15 (by decide) ?_
  refine z_callS1 d_TM_code_16 g_TM_69 (c_isIndex X 0 _ _ _ _) rfl ⟨by decide, by decide, by decide, by decide⟩ rfl (Nat.le_of_ble_eq_true rfl) ?_
  refine z_if_ne d_TM_code_19 32 (by decide) (fun h9 => absurd h9 (fun h9 => h9 (by rw [h]; rfl))) (fun _ => ?_)
  exact z_throw rfl (by decide) zTx_I (List.mem_of_getElem? (i := 9) rfl) d_TM_code_22 d_TM_code_25 d_TM_code_26 d_TM_code_28 d_TM_code_31
set_option maxRecDepth 100000 in
set_option maxHeartbeats 4000000 in
theorem t_TM_run1 (X : zX) (J : zJT) (G : zGT) (v : Int32) (h : v < 0) : zKT X 3 m_TM_run [.ref 0, .int v] J G "java/lang/IllegalArgumentException" := by
  refine zTC_of (by decide) (Nat.le_of_ble_eq_true rfl) ?_
  refine z_iload_n d_TM_run_0 rfl ?_
  refine z_if_lt d_TM_run_1 11 (by decide) (fun _ => ?_) (fun h9 => absurd h h9)
  exact z_throw rfl (by decide) zTx_A (List.mem_of_getElem? (i := 10) rfl) d_TM_run_11 d_TM_run_14 d_TM_run_15 d_TM_run_17 d_TM_run_20
set_option maxRecDepth 100000 in
set_option maxHeartbeats 4000000 in
theorem t_TM_run2 (X : zX) (J : zJT) (G : zGT) (v : Int32) (h0 : ¬ v < 0) (h : ¬ v ≤ 4000) : zKT X 3 m_TM_run [.ref 0, .int v] J G "java/lang/IllegalArgumentException" := by
  refine zTC_of (by decide) (Nat.le_of_ble_eq_true rfl) ?_
  refine z_iload_n d_TM_run_0 rfl ?_
  refine z_if_lt d_TM_run_1 11 (by decide) (fun h9 => absurd h9 h0) (fun _ => ?_)
  refine z_iload_n d_TM_run_4 rfl ?_
  refine z_sipush (v := 4000) d_TM_run_5 (by decide) ?_
  refine z_icmp_le d_TM_run_8 21 (by decide) (fun h9 => absurd h9 h) (fun _ => ?_)
  exact z_throw rfl (by decide) zTx_A (List.mem_of_getElem? (i := 10) rfl) d_TM_run_11 d_TM_run_14 d_TM_run_15 d_TM_run_17 d_TM_run_20
set_option maxRecDepth 100000 in
set_option maxHeartbeats 4000000 in
theorem t_TM_run3 (X : zX) (J : zJT) (G : zGT) (v : Int32) (h0 : ¬ v < 0) (h4 : v ≤ 4000) (hs : zK X 1 m_Pro_isSound [.ref 15, .int (J 2 1)] J G (some (.int 0)) J G) : zKT X 3 m_TM_run [.ref 0, .int v] J G "java/lang/IllegalArgumentException" := by
  refine zTC_of (by decide) (Nat.le_of_ble_eq_true rfl) ?_
  refine z_iload_n d_TM_run_0 rfl ?_
  refine z_if_lt d_TM_run_1 11 (by decide) (fun h9 => absurd h9 h0) (fun _ => ?_)
  refine z_iload_n d_TM_run_4 rfl ?_
  refine z_sipush (v := 4000) d_TM_run_5 (by decide) ?_
  refine z_icmp_le d_TM_run_8 21 (by decide) (fun _ => ?_) (fun h9 => absurd h4 h9)
  refine z_aload_n d_TM_run_21 rfl ?_
  refine z_get d_TM_run_22 f_TM_25 (by omega) rfl rfl ?_
  refine z_aload_n d_TM_run_25 rfl ?_
  refine z_get d_TM_run_26 f_TM_20 (by omega) rfl rfl ?_
  refine z_get d_TM_run_29 f_TM_54 (by omega) rfl rfl ?_
  refine z_callV1 d_TM_run_32 g_TM_172 (hs) (by omega) rfl rfl rfl ⟨by decide, by decide, by decide, by decide⟩ rfl (Nat.le_of_ble_eq_true rfl) ?_
  refine z_if_ne d_TM_run_35 48 (by decide) (fun h9 => absurd h9 (fun h9 => h9 rfl)) (fun _ => ?_)
  exact z_throw rfl (by decide) zTx_A (List.mem_of_getElem? (i := 11) rfl) d_TM_run_38 d_TM_run_41 d_TM_run_42 d_TM_run_44 d_TM_run_47
set_option maxRecDepth 100000 in
set_option maxHeartbeats 4000000 in
theorem t_TM_reqResult1 (X : zX) (J : zJT) (G : zGT) (i k : Int32) (h : (decide (0 ≤ i) && decide (i < J 17 0)) = false) : zKT X 3 m_TM_requireResult [.ref 0, .int i, .int k] J G "java/lang/IndexOutOfBoundsException" := by
  refine zTC_of (by decide) (Nat.le_of_ble_eq_true rfl) ?_
  refine z_aload_n d_TM_requireResult_0 rfl ?_
  refine z_get d_TM_requireResult_1 f_TM_30 (by omega) rfl rfl ?_
  refine z_iload_n d_TM_requireResult_4 rfl ?_
  refine z_callV1 d_TM_requireResult_5 g_TM_183 (c_Res_hasRow X i J G) (by omega) rfl rfl rfl ⟨by decide, by decide, by decide, by decide⟩ rfl (Nat.le_of_ble_eq_true rfl) ?_
  refine z_if_eq d_TM_requireResult_8 27 (by decide) (fun _ => ?_) (fun h9 => absurd (by rw [h]; rfl) h9)
  exact z_throw rfl (by decide) zTx_I (List.mem_of_getElem? (i := 12) rfl) d_TM_requireResult_27 d_TM_requireResult_30 d_TM_requireResult_31 d_TM_requireResult_33 d_TM_requireResult_36
set_option maxRecDepth 100000 in
set_option maxHeartbeats 4000000 in
theorem t_TM_reqResult2 (X : zX) (J : zJT) (G : zGT) {m i : Nat} (hm : J 17 0 = nI m) (hm6 : m ≤ 64) (hi : i < m) (k : Int32) (h : (decide (0 ≤ k) && decide (k < J 18 i)) = false) : zKT X 3 m_TM_requireResult [.ref 0, .int (nI i), .int k] J G "java/lang/IndexOutOfBoundsException" := by
  refine zTC_of (by decide) (Nat.le_of_ble_eq_true rfl) ?_
  refine z_aload_n d_TM_requireResult_0 rfl ?_
  refine z_get d_TM_requireResult_1 f_TM_30 (by omega) rfl rfl ?_
  refine z_iload_n d_TM_requireResult_4 rfl ?_
  refine z_callV1 d_TM_requireResult_5 g_TM_183 (c_Res_hasRow X (nI i) J G) (by omega) rfl rfl rfl ⟨by decide, by decide, by decide, by decide⟩ rfl (Nat.le_of_ble_eq_true rfl) ?_
  refine z_if_eq d_TM_requireResult_8 27 (by decide) (fun h9 => absurd h9 (by rw [decide_eq_true (nI_pos' (by omega)), decide_eq_true (show nI i < J 17 0 from by rw [hm]; exact nI_lt hi (by omega))]; decide)) (fun _ => ?_)
  refine z_iload_n d_TM_requireResult_11 rfl ?_
  refine z_aload_n d_TM_requireResult_12 rfl ?_
  refine z_get d_TM_requireResult_13 f_TM_30 (by omega) rfl rfl ?_
  refine z_get d_TM_requireResult_16 f_TM_186 (by omega) rfl rfl ?_
  refine z_iload_n d_TM_requireResult_19 rfl ?_
  refine z_iald d_TM_requireResult_20 (by omega) rfl (show zin (nI i) i 64 from ⟨rfl, by omega, by decide⟩) ?_
  refine z_callS1 d_TM_requireResult_21 g_TM_69 (c_isIndex X 0 _ _ _ _) rfl ⟨by decide, by decide, by decide, by decide⟩ rfl (Nat.le_of_ble_eq_true rfl) ?_
  refine z_if_ne d_TM_requireResult_24 37 (by decide) (fun h9 => absurd h9 (fun h9 => h9 (by rw [h]; rfl))) (fun _ => ?_)
  exact z_throw rfl (by decide) zTx_I (List.mem_of_getElem? (i := 12) rfl) d_TM_requireResult_27 d_TM_requireResult_30 d_TM_requireResult_31 d_TM_requireResult_33 d_TM_requireResult_36
set_option maxRecDepth 100000 in
set_option maxHeartbeats 4000000 in
theorem t_TM_result1 (X : zX) (J : zJT) (G : zGT) (i k : Int32) {E : String} (hm : zKT X 3 m_TM_requireResult [.ref 0, .int i, .int k] J G E) (hi : ¬ i = -1) (hk : ¬ k = -1) : zKT X 4 m_TM_result [.ref 0, .int i, .int k] J G E := by
  refine zTC_of (by decide) (Nat.le_of_ble_eq_true rfl) ?_
  refine z_iload_n d_TM_result_0 rfl ?_
  refine z_iconst (v := (-1)) d_TM_result_1 (by decide) ?_
  refine z_icmp_ne d_TM_result_2 14 (by decide) (fun _ => ?_) (fun h9 => absurd h9 hi)
  refine z_iload_n d_TM_result_14 rfl ?_
  refine z_iconst (v := (-1)) d_TM_result_15 (by decide) ?_
  refine z_icmp_ne d_TM_result_16 41 (by decide) (fun _ => ?_) (fun h9 => absurd h9 hk)
  refine z_aload_n d_TM_result_41 rfl ?_
  refine z_get d_TM_result_42 f_TM_30 (by omega) rfl rfl ?_
  refine z_get d_TM_result_45 f_TM_190 (by omega) rfl rfl ?_
  refine z_aload_n d_TM_result_48 rfl ?_
  refine z_iload_n d_TM_result_49 rfl ?_
  refine z_iload_n d_TM_result_50 rfl ?_
  exact z_callT rfl d_TM_result_51 g_TM_191 (hm) (by omega) rfl rfl rfl ⟨by decide, by decide, by decide, by decide⟩ rfl (Nat.le_of_ble_eq_true rfl)
set_option maxRecDepth 100000 in
set_option maxHeartbeats 4000000 in
theorem t_TM_result2 (X : zX) (J : zJT) (G : zGT) (i : Int32) {E : String} (hm : zKT X 3 m_TM_requireResult [.ref 0, .int i, .int (-1)] J G E) (hi : ¬ i = -1) (h : (decide (0 ≤ i) && decide (i < J 17 0)) = false) : zKT X 4 m_TM_result [.ref 0, .int i, .int (-1)] J G E := by
  refine zTC_of (by decide) (Nat.le_of_ble_eq_true rfl) ?_
  refine z_iload_n d_TM_result_0 rfl ?_
  refine z_iconst (v := (-1)) d_TM_result_1 (by decide) ?_
  refine z_icmp_ne d_TM_result_2 14 (by decide) (fun _ => ?_) (fun h9 => absurd h9 hi)
  refine z_iload_n d_TM_result_14 rfl ?_
  refine z_iconst (v := (-1)) d_TM_result_15 (by decide) ?_
  refine z_icmp_ne d_TM_result_16 41 (by decide) (fun h9 => absurd h9 (fun h9 => h9 rfl)) (fun _ => ?_)
  refine z_aload_n d_TM_result_19 rfl ?_
  refine z_get d_TM_result_20 f_TM_30 (by omega) rfl rfl ?_
  refine z_iload_n d_TM_result_23 rfl ?_
  refine z_callV1 d_TM_result_24 g_TM_183 (c_Res_hasRow X i J G) (by omega) rfl rfl rfl ⟨by decide, by decide, by decide, by decide⟩ rfl (Nat.le_of_ble_eq_true rfl) ?_
  refine z_if_eq d_TM_result_27 41 (by decide) (fun _ => ?_) (fun h9 => absurd (by rw [h]; rfl) h9)
  refine z_aload_n d_TM_result_41 rfl ?_
  refine z_get d_TM_result_42 f_TM_30 (by omega) rfl rfl ?_
  refine z_get d_TM_result_45 f_TM_190 (by omega) rfl rfl ?_
  refine z_aload_n d_TM_result_48 rfl ?_
  refine z_iload_n d_TM_result_49 rfl ?_
  refine z_iload_n d_TM_result_50 rfl ?_
  exact z_callT rfl d_TM_result_51 g_TM_191 (hm) (by omega) rfl rfl rfl ⟨by decide, by decide, by decide, by decide⟩ rfl (Nat.le_of_ble_eq_true rfl)
set_option maxRecDepth 100000 in
set_option maxHeartbeats 4000000 in
theorem t_TM_wasNull (X : zX) (J : zJT) (G : zGT) (i k : Int32) {E : String} (hm : zKT X 3 m_TM_requireResult [.ref 0, .int i, .int k] J G E) : zKT X 4 m_TM_wasNull [.ref 0, .int i, .int k] J G E := by
  refine zTC_of (by decide) (Nat.le_of_ble_eq_true rfl) ?_
  refine z_aload_n d_TM_wasNull_0 rfl ?_
  refine z_get d_TM_wasNull_1 f_TM_30 (by omega) rfl rfl ?_
  refine z_get d_TM_wasNull_4 f_TM_190 (by omega) rfl rfl ?_
  refine z_aload_n d_TM_wasNull_7 rfl ?_
  refine z_iload_n d_TM_wasNull_8 rfl ?_
  refine z_iload_n d_TM_wasNull_9 rfl ?_
  exact z_callT rfl d_TM_wasNull_10 g_TM_191 (hm) (by omega) rfl rfl rfl ⟨by decide, by decide, by decide, by decide⟩ rfl (Nat.le_of_ble_eq_true rfl)
set_option maxRecDepth 100000 in
set_option maxHeartbeats 4000000 in
theorem t_TM_compile (X : zX) (J : zJT) (G : zGT) (ho : J 32 1 = 0) : zKT X 3 m_TM_compile [.ref 0] J G "java/lang/IllegalStateException" := by
  refine zTC_of (by decide) (Nat.le_of_ble_eq_true rfl) ?_
  refine z_aload_n d_TM_compile_0 rfl ?_
  refine z_get d_TM_compile_1 f_TM_43 (by omega) rfl rfl ?_
  refine z_get d_TM_compile_4 f_TM_197 (by omega) rfl rfl ?_
  refine z_if_ne d_TM_compile_7 20 (by decide) (fun h9 => absurd h9 (fun h9 => h9 ho)) (fun _ => ?_)
  exact z_throw rfl (by decide) zTx_S (List.mem_of_getElem? (i := 13) rfl) d_TM_compile_10 d_TM_compile_13 d_TM_compile_14 d_TM_compile_16 d_TM_compile_19
