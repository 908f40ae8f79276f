/-! the wrappers of the law: what comes back, and what is caught -/
abbrev h_Law_table : List (Nat × Nat × Nat × Nat) := [(0, 9, 12, 13), (0, 9, 15, 15)]
theorem d_Law_table_0 : decode m_Law_table.2.1 0 = .ok (.aload_n 2, 1) := by decide +kernel
theorem d_Law_table_1 : decode m_Law_table.2.1 1 = .ok (.iconst 0, 1) := by decide +kernel
theorem d_Law_table_2 : decode m_Law_table.2.1 2 = .ok (.aload_n 0, 1) := by decide +kernel
theorem d_Law_table_3 : decode m_Law_table.2.1 3 = .ok (.iload_n 1, 1) := by decide +kernel
theorem d_Law_table_4 : decode m_Law_table.2.1 4 = .ok (.invokevirtual 7, 3) := by decide +kernel
theorem d_Law_table_7 : decode m_Law_table.2.1 7 = .ok (.i2l, 1) := by decide +kernel
theorem d_Law_table_8 : decode m_Law_table.2.1 8 = .ok (.lastore, 1) := by decide +kernel
theorem d_Law_table_9 : decode m_Law_table.2.1 9 = .ok (.goto 9, 3) := by decide +kernel
theorem d_Law_table_12 : decode m_Law_table.2.1 12 = .ok (.astore_n 3, 1) := by decide +kernel
theorem d_Law_table_13 : decode m_Law_table.2.1 13 = .ok (.iconst 1, 1) := by decide +kernel
theorem d_Law_table_14 : decode m_Law_table.2.1 14 = .ok (.ireturn, 1) := by decide +kernel
theorem d_Law_table_15 : decode m_Law_table.2.1 15 = .ok (.astore_n 3, 1) := by decide +kernel
theorem d_Law_table_16 : decode m_Law_table.2.1 16 = .ok (.iconst 2, 1) := by decide +kernel
theorem d_Law_table_17 : decode m_Law_table.2.1 17 = .ok (.ireturn, 1) := by decide +kernel
theorem d_Law_table_18 : decode m_Law_table.2.1 18 = .ok (.iconst 0, 1) := by decide +kernel
theorem d_Law_table_19 : decode m_Law_table.2.1 19 = .ok (.ireturn, 1) := by decide +kernel
theorem g_Law_7 : zGv "TableMachineLaw" 7 m_TM_table 1 := ⟨⟨zWA_of (i := 335) (by decide +kernel) (by decide +kernel), zWA_of (i := 1) (by decide +kernel) (by decide +kernel), ⟨by decide +kernel, by decide +kernel, by decide +kernel⟩, by decide⟩, zWA_of (i := 332) (by decide +kernel) (by decide +kernel), zWA_of (i := 333) (by decide +kernel) (by decide +kernel), zWA_of (i := 334) (by decide +kernel) (by decide +kernel)⟩
set_option maxRecDepth 100000 in
set_option maxHeartbeats 4000000 in
theorem w_table (X : zX) (J : zJT) (G : zGT) (v0 : Int32) {d : Nat} (hd : d ≤ 6) (r : Int32) {J' : zJT} {G' : zGT} (hm : zK X d m_TM_table [.ref 0, .int v0] J G (some (.int r)) J' G') : zCW X 7 m_Law_table h_Law_table 0 0 [.ref 0, .int v0, .ref 59] (hp J G) 60 (some (.int 0)) (hp J' (va_up G' 59 (vp_updL (G' 59) 0 r.toInt64))) 60 := by
  refine zCW_of (by decide) rfl (Nat.le_of_ble_eq_true rfl) ?_
  refine z_aload_n d_Law_table_0 rfl ?_
  refine z_iconst (v := 0) d_Law_table_1 (by decide) ?_
  refine z_aload_n d_Law_table_2 rfl ?_
  refine z_iload_n d_Law_table_3 rfl ?_
  refine z_callV1 d_Law_table_4 g_Law_7 (hm) (by omega) rfl rfl rfl ⟨by show d + 4 ≤ 10; omega, by show 33 * d + 33 ≤ 231; omega, by decide, by decide⟩ rfl (Nat.le_of_ble_eq_true rfl) ?_
  refine z_i2l d_Law_table_7 ?_
  refine z_last d_Law_table_8 (by omega) rfl ⟨rfl, by decide, by decide⟩ (hp_al rfl) ?_
  refine z_goto d_Law_table_9 18 (by decide) ?_
  refine z_iconst (v := 0) d_Law_table_18 (by decide) ?_
  exact z_iret d_Law_table_19 rfl (by decide) (by decide) (by first | rfl | (simp_all; done) | grind) rfl
theorem k_table_A : zCat m_Law_table "java/lang/IllegalArgumentException" 4 12 := zCat1 (a0 := 0) (a1 := 9) (ct := 13) (hr := [(0, 9, 15, 15)]) (zWA_of (i := 329) (by decide +kernel) (by decide +kernel)) (zWA_of (i := 330) (by decide +kernel) (by decide +kernel)) (by decide)
set_option maxRecDepth 100000 in
set_option maxHeartbeats 4000000 in
theorem w_table_A (X : zX) (J : zJT) (G : zGT) (v0 : Int32) {d : Nat} (hd : d ≤ 6) (hm : zKT X d m_TM_table [.ref 0, .int v0] J G "java/lang/IllegalArgumentException") : zCW X 7 m_Law_table h_Law_table 1 6 [.ref 0, .int v0, .ref 59] (hp J G) 60 (some (.int 1)) (hp J G) 60 := by
  refine zCW_of (by decide) rfl (Nat.le_of_ble_eq_true rfl) ?_
  refine z_aload_n d_Law_table_0 rfl ?_
  refine z_iconst (v := 0) d_Law_table_1 (by decide) ?_
  refine z_aload_n d_Law_table_2 rfl ?_
  refine z_iload_n d_Law_table_3 rfl ?_
  refine z_callC (len := 1) (i := 3) d_Law_table_4 g_Law_7 (hm) (by omega) rfl rfl rfl ⟨by show d + 4 ≤ 10; omega, by show 33 * d + 33 ≤ 231; omega, by decide, by decide⟩ rfl (Nat.le_of_ble_eq_true rfl) k_table_A (Or.inr ⟨rfl, 3, rfl, d_Law_table_12⟩) (by decide) (by simp [lv_args, Value.category]) ?_
  refine z_iconst (v := 1) d_Law_table_13 (by decide) ?_
  exact z_iret d_Law_table_14 rfl (by decide) (by decide) (by first | rfl | (simp_all; done) | grind) rfl
theorem k_table_S : zCat m_Law_table "java/lang/IllegalStateException" 4 15 := zCat2 (a0 := 0) (a1 := 9) (ct := 15) (b0 := 0) (b1 := 9) (hb := 12) (cb := 13) (hr := []) (by decide) (zWA_of (i := 329) (by decide +kernel) (by decide +kernel)) (zWA_of (i := 330) (by decide +kernel) (by decide +kernel)) (zWA_of (i := 331) (by decide +kernel) (by decide +kernel)) (by decide) (by decide)
set_option maxRecDepth 100000 in
set_option maxHeartbeats 4000000 in
theorem w_table_S (X : zX) (J : zJT) (G : zGT) (v0 : Int32) {d : Nat} (hd : d ≤ 6) (hm : zKT X d m_TM_table [.ref 0, .int v0] J G "java/lang/IllegalStateException") : zCW X 7 m_Law_table h_Law_table 1 6 [.ref 0, .int v0, .ref 59] (hp J G) 60 (some (.int 2)) (hp J G) 60 := by
  refine zCW_of (by decide) rfl (Nat.le_of_ble_eq_true rfl) ?_
  refine z_aload_n d_Law_table_0 rfl ?_
  refine z_iconst (v := 0) d_Law_table_1 (by decide) ?_
  refine z_aload_n d_Law_table_2 rfl ?_
  refine z_iload_n d_Law_table_3 rfl ?_
  refine z_callC (len := 1) (i := 3) d_Law_table_4 g_Law_7 (hm) (by omega) rfl rfl rfl ⟨by show d + 4 ≤ 10; omega, by show 33 * d + 33 ≤ 231; omega, by decide, by decide⟩ rfl (Nat.le_of_ble_eq_true rfl) k_table_S (Or.inr ⟨rfl, 3, rfl, d_Law_table_15⟩) (by decide) (by simp [lv_args, Value.category]) ?_
  refine z_iconst (v := 2) d_Law_table_16 (by decide) ?_
  exact z_iret d_Law_table_17 rfl (by decide) (by decide) (by first | rfl | (simp_all; done) | grind) rfl
abbrev h_Law_insert : List (Nat × Nat × Nat × Nat) := [(0, 18, 21, 13), (0, 18, 25, 15)]
theorem d_Law_insert_0 : decode m_Law_insert.2.1 0 = .ok (.aload 4, 2) := by decide +kernel
theorem d_Law_insert_2 : decode m_Law_insert.2.1 2 = .ok (.iconst 0, 1) := by decide +kernel
theorem d_Law_insert_3 : decode m_Law_insert.2.1 3 = .ok (.aload_n 0, 1) := by decide +kernel
theorem d_Law_insert_4 : decode m_Law_insert.2.1 4 = .ok (.iload_n 1, 1) := by decide +kernel
theorem d_Law_insert_5 : decode m_Law_insert.2.1 5 = .ok (.lload_n 2, 1) := by decide +kernel
theorem d_Law_insert_6 : decode m_Law_insert.2.1 6 = .ok (.invokevirtual 17, 3) := by decide +kernel
theorem d_Law_insert_9 : decode m_Law_insert.2.1 9 = .ok (.ifCond .eq 7, 3) := by decide +kernel
theorem d_Law_insert_12 : decode m_Law_insert.2.1 12 = .ok (.lconst 1, 1) := by decide +kernel
theorem d_Law_insert_13 : decode m_Law_insert.2.1 13 = .ok (.goto 4, 3) := by decide +kernel
theorem d_Law_insert_16 : decode m_Law_insert.2.1 16 = .ok (.lconst 0, 1) := by decide +kernel
theorem d_Law_insert_17 : decode m_Law_insert.2.1 17 = .ok (.lastore, 1) := by decide +kernel
theorem d_Law_insert_18 : decode m_Law_insert.2.1 18 = .ok (.goto 11, 3) := by decide +kernel
theorem d_Law_insert_21 : decode m_Law_insert.2.1 21 = .ok (.astore 5, 2) := by decide +kernel
theorem d_Law_insert_23 : decode m_Law_insert.2.1 23 = .ok (.iconst 1, 1) := by decide +kernel
theorem d_Law_insert_24 : decode m_Law_insert.2.1 24 = .ok (.ireturn, 1) := by decide +kernel
theorem d_Law_insert_25 : decode m_Law_insert.2.1 25 = .ok (.astore 5, 2) := by decide +kernel
theorem d_Law_insert_27 : decode m_Law_insert.2.1 27 = .ok (.iconst 2, 1) := by decide +kernel
theorem d_Law_insert_28 : decode m_Law_insert.2.1 28 = .ok (.ireturn, 1) := by decide +kernel
theorem d_Law_insert_29 : decode m_Law_insert.2.1 29 = .ok (.iconst 0, 1) := by decide +kernel
theorem d_Law_insert_30 : decode m_Law_insert.2.1 30 = .ok (.ireturn, 1) := by decide +kernel
theorem g_Law_17 : zGv "TableMachineLaw" 17 m_TM_insert 2 := ⟨⟨zWA_of (i := 431) (by decide +kernel) (by decide +kernel), zWA_of (i := 1) (by decide +kernel) (by decide +kernel), ⟨by decide +kernel, by decide +kernel, by decide +kernel⟩, by decide⟩, zWA_of (i := 428) (by decide +kernel) (by decide +kernel), zWA_of (i := 429) (by decide +kernel) (by decide +kernel), zWA_of (i := 430) (by decide +kernel) (by decide +kernel)⟩
set_option maxRecDepth 100000 in
set_option maxHeartbeats 4000000 in
theorem w_insert0 (X : zX) (J : zJT) (G : zGT) (v0 : Int32) (v1 : Int64) {d : Nat} (hd : d ≤ 6) {J' : zJT} {G' : zGT} (hm : zK X d m_TM_insert [.ref 0, .int v0, .long v1] J G (some (.int 0)) J' G') : zCW X 7 m_Law_insert h_Law_insert 0 0 [.ref 0, .int v0, .long v1, .ref 59] (hp J G) 60 (some (.int 0)) (hp J' (va_up G' 59 (vp_updL (G' 59) 0 0))) 60 := by
  refine zCW_of (by decide) rfl (Nat.le_of_ble_eq_true rfl) ?_
  refine z_aload d_Law_insert_0 rfl ?_
  refine z_iconst (v := 0) d_Law_insert_2 (by decide) ?_
  refine z_aload_n d_Law_insert_3 rfl ?_
  refine z_iload_n d_Law_insert_4 rfl ?_
  refine z_lload_n d_Law_insert_5 rfl ?_
  refine z_callV1 d_Law_insert_6 g_Law_17 (hm) (by omega) rfl rfl rfl ⟨by show d + 4 ≤ 10; omega, by show 33 * d + 33 ≤ 231; omega, by decide, by decide⟩ rfl (Nat.le_of_ble_eq_true rfl) ?_
  refine z_if_eq d_Law_insert_9 16 (by decide) (fun _ => ?_) (fun h9 => absurd rfl h9)
  refine z_lconst (v := 0) d_Law_insert_16 (by decide) ?_
  refine z_last d_Law_insert_17 (by omega) rfl ⟨rfl, by decide, by decide⟩ (hp_al rfl) ?_
  refine z_goto d_Law_insert_18 29 (by decide) ?_
  refine z_iconst (v := 0) d_Law_insert_29 (by decide) ?_
  exact z_iret d_Law_insert_30 rfl (by decide) (by decide) (by first | rfl | (simp_all; done) | grind) rfl
set_option maxRecDepth 100000 in
set_option maxHeartbeats 4000000 in
theorem w_insert1 (X : zX) (J : zJT) (G : zGT) (v0 : Int32) (v1 : Int64) {d : Nat} (hd : d ≤ 6) {J' : zJT} {G' : zGT} (hm : zK X d m_TM_insert [.ref 0, .int v0, .long v1] J G (some (.int 1)) J' G') : zCW X 7 m_Law_insert h_Law_insert 0 0 [.ref 0, .int v0, .long v1, .ref 59] (hp J G) 60 (some (.int 0)) (hp J' (va_up G' 59 (vp_updL (G' 59) 0 1))) 60 := by
  refine zCW_of (by decide) rfl (Nat.le_of_ble_eq_true rfl) ?_
  refine z_aload d_Law_insert_0 rfl ?_
  refine z_iconst (v := 0) d_Law_insert_2 (by decide) ?_
  refine z_aload_n d_Law_insert_3 rfl ?_
  refine z_iload_n d_Law_insert_4 rfl ?_
  refine z_lload_n d_Law_insert_5 rfl ?_
  refine z_callV1 d_Law_insert_6 g_Law_17 (hm) (by omega) rfl rfl rfl ⟨by show d + 4 ≤ 10; omega, by show 33 * d + 33 ≤ 231; omega, by decide, by decide⟩ rfl (Nat.le_of_ble_eq_true rfl) ?_
  refine z_if_eq d_Law_insert_9 16 (by decide) (fun h9 => absurd h9 (by decide)) (fun _ => ?_)
  refine z_lconst (v := 1) d_Law_insert_12 (by decide) ?_
  refine z_goto d_Law_insert_13 17 (by decide) ?_
  refine z_last d_Law_insert_17 (by omega) rfl ⟨rfl, by decide, by decide⟩ (hp_al rfl) ?_
  refine z_goto d_Law_insert_18 29 (by decide) ?_
  refine z_iconst (v := 0) d_Law_insert_29 (by decide) ?_
  exact z_iret d_Law_insert_30 rfl (by decide) (by decide) (by first | rfl | (simp_all; done) | grind) rfl
theorem k_insert_A : zCat m_Law_insert "java/lang/IllegalArgumentException" 6 21 := zCat1 (a0 := 0) (a1 := 18) (ct := 13) (hr := [(0, 18, 25, 15)]) (zWA_of (i := 427) (by decide +kernel) (by decide +kernel)) (zWA_of (i := 330) (by decide +kernel) (by decide +kernel)) (by decide)
set_option maxRecDepth 100000 in
set_option maxHeartbeats 4000000 in
theorem w_insert_A (X : zX) (J : zJT) (G : zGT) (v0 : Int32) (v1 : Int64) {d : Nat} (hd : d ≤ 6) (hm : zKT X d m_TM_insert [.ref 0, .int v0, .long v1] J G "java/lang/IllegalArgumentException") : zCW X 7 m_Law_insert h_Law_insert 1 6 [.ref 0, .int v0, .long v1, .ref 59] (hp J G) 60 (some (.int 1)) (hp J G) 60 := by
  refine zCW_of (by decide) rfl (Nat.le_of_ble_eq_true rfl) ?_
  refine z_aload d_Law_insert_0 rfl ?_
  refine z_iconst (v := 0) d_Law_insert_2 (by decide) ?_
  refine z_aload_n d_Law_insert_3 rfl ?_
  refine z_iload_n d_Law_insert_4 rfl ?_
  refine z_lload_n d_Law_insert_5 rfl ?_
  refine z_callC (len := 2) (i := 5) d_Law_insert_6 g_Law_17 (hm) (by omega) rfl rfl rfl ⟨by show d + 4 ≤ 10; omega, by show 33 * d + 33 ≤ 231; omega, by decide, by decide⟩ rfl (Nat.le_of_ble_eq_true rfl) k_insert_A (Or.inl ⟨rfl, d_Law_insert_21⟩) (by decide) (by simp [lv_args, Value.category]) ?_
  refine z_iconst (v := 1) d_Law_insert_23 (by decide) ?_
  exact z_iret d_Law_insert_24 rfl (by decide) (by decide) (by first | rfl | (simp_all; done) | grind) rfl
theorem k_insert_S : zCat m_Law_insert "java/lang/IllegalStateException" 6 25 := zCat2 (a0 := 0) (a1 := 18) (ct := 15) (b0 := 0) (b1 := 18) (hb := 21) (cb := 13) (hr := []) (by decide) (zWA_of (i := 427) (by decide +kernel) (by decide +kernel)) (zWA_of (i := 330) (by decide +kernel) (by decide +kernel)) (zWA_of (i := 331) (by decide +kernel) (by decide +kernel)) (by decide) (by decide)
set_option maxRecDepth 100000 in
set_option maxHeartbeats 4000000 in
theorem w_insert_S (X : zX) (J : zJT) (G : zGT) (v0 : Int32) (v1 : Int64) {d : Nat} (hd : d ≤ 6) (hm : zKT X d m_TM_insert [.ref 0, .int v0, .long v1] J G "java/lang/IllegalStateException") : zCW X 7 m_Law_insert h_Law_insert 1 6 [.ref 0, .int v0, .long v1, .ref 59] (hp J G) 60 (some (.int 2)) (hp J G) 60 := by
  refine zCW_of (by decide) rfl (Nat.le_of_ble_eq_true rfl) ?_
  refine z_aload d_Law_insert_0 rfl ?_
  refine z_iconst (v := 0) d_Law_insert_2 (by decide) ?_
  refine z_aload_n d_Law_insert_3 rfl ?_
  refine z_iload_n d_Law_insert_4 rfl ?_
  refine z_lload_n d_Law_insert_5 rfl ?_
  refine z_callC (len := 2) (i := 5) d_Law_insert_6 g_Law_17 (hm) (by omega) rfl rfl rfl ⟨by show d + 4 ≤ 10; omega, by show 33 * d + 33 ≤ 231; omega, by decide, by decide⟩ rfl (Nat.le_of_ble_eq_true rfl) k_insert_S (Or.inl ⟨rfl, d_Law_insert_25⟩) (by decide) (by simp [lv_args, Value.category]) ?_
  refine z_iconst (v := 2) d_Law_insert_27 (by decide) ?_
  exact z_iret d_Law_insert_28 rfl (by decide) (by decide) (by first | rfl | (simp_all; done) | grind) rfl
abbrev h_Law_delete : List (Nat × Nat × Nat × Nat) := [(0, 18, 21, 13)]
theorem d_Law_delete_0 : decode m_Law_delete.2.1 0 = .ok (.aload 4, 2) := by decide +kernel
theorem d_Law_delete_2 : decode m_Law_delete.2.1 2 = .ok (.iconst 0, 1) := by decide +kernel
theorem d_Law_delete_3 : decode m_Law_delete.2.1 3 = .ok (.aload_n 0, 1) := by decide +kernel
theorem d_Law_delete_4 : decode m_Law_delete.2.1 4 = .ok (.iload_n 1, 1) := by decide +kernel
theorem d_Law_delete_5 : decode m_Law_delete.2.1 5 = .ok (.lload_n 2, 1) := by decide +kernel
theorem d_Law_delete_6 : decode m_Law_delete.2.1 6 = .ok (.invokevirtual 21, 3) := by decide +kernel
theorem d_Law_delete_9 : decode m_Law_delete.2.1 9 = .ok (.ifCond .eq 7, 3) := by decide +kernel
theorem d_Law_delete_12 : decode m_Law_delete.2.1 12 = .ok (.lconst 1, 1) := by decide +kernel
theorem d_Law_delete_13 : decode m_Law_delete.2.1 13 = .ok (.goto 4, 3) := by decide +kernel
theorem d_Law_delete_16 : decode m_Law_delete.2.1 16 = .ok (.lconst 0, 1) := by decide +kernel
theorem d_Law_delete_17 : decode m_Law_delete.2.1 17 = .ok (.lastore, 1) := by decide +kernel
theorem d_Law_delete_18 : decode m_Law_delete.2.1 18 = .ok (.goto 7, 3) := by decide +kernel
theorem d_Law_delete_21 : decode m_Law_delete.2.1 21 = .ok (.astore 5, 2) := by decide +kernel
theorem d_Law_delete_23 : decode m_Law_delete.2.1 23 = .ok (.iconst 1, 1) := by decide +kernel
theorem d_Law_delete_24 : decode m_Law_delete.2.1 24 = .ok (.ireturn, 1) := by decide +kernel
theorem d_Law_delete_25 : decode m_Law_delete.2.1 25 = .ok (.iconst 0, 1) := by decide +kernel
theorem d_Law_delete_26 : decode m_Law_delete.2.1 26 = .ok (.ireturn, 1) := by decide +kernel
theorem g_Law_21 : zGv "TableMachineLaw" 21 m_TM_delete 2 := ⟨⟨zWA_of (i := 469) (by decide +kernel) (by decide +kernel), zWA_of (i := 1) (by decide +kernel) (by decide +kernel), ⟨by decide +kernel, by decide +kernel, by decide +kernel⟩, by decide⟩, zWA_of (i := 466) (by decide +kernel) (by decide +kernel), zWA_of (i := 467) (by decide +kernel) (by decide +kernel), zWA_of (i := 468) (by decide +kernel) (by decide +kernel)⟩
set_option maxRecDepth 100000 in
set_option maxHeartbeats 4000000 in
theorem w_delete0 (X : zX) (J : zJT) (G : zGT) (v0 : Int32) (v1 : Int64) {d : Nat} (hd : d ≤ 6) {J' : zJT} {G' : zGT} (hm : zK X d m_TM_delete [.ref 0, .int v0, .long v1] J G (some (.int 0)) J' G') : zCW X 7 m_Law_delete h_Law_delete 0 0 [.ref 0, .int v0, .long v1, .ref 59] (hp J G) 60 (some (.int 0)) (hp J' (va_up G' 59 (vp_updL (G' 59) 0 0))) 60 := by
  refine zCW_of (by decide) rfl (Nat.le_of_ble_eq_true rfl) ?_
  refine z_aload d_Law_delete_0 rfl ?_
  refine z_iconst (v := 0) d_Law_delete_2 (by decide) ?_
  refine z_aload_n d_Law_delete_3 rfl ?_
  refine z_iload_n d_Law_delete_4 rfl ?_
  refine z_lload_n d_Law_delete_5 rfl ?_
  refine z_callV1 d_Law_delete_6 g_Law_21 (hm) (by omega) rfl rfl rfl ⟨by show d + 4 ≤ 10; omega, by show 33 * d + 33 ≤ 231; omega, by decide, by decide⟩ rfl (Nat.le_of_ble_eq_true rfl) ?_
  refine z_if_eq d_Law_delete_9 16 (by decide) (fun _ => ?_) (fun h9 => absurd rfl h9)
  refine z_lconst (v := 0) d_Law_delete_16 (by decide) ?_
  refine z_last d_Law_delete_17 (by omega) rfl ⟨rfl, by decide, by decide⟩ (hp_al rfl) ?_
  refine z_goto d_Law_delete_18 25 (by decide) ?_
  refine z_iconst (v := 0) d_Law_delete_25 (by decide) ?_
  exact z_iret d_Law_delete_26 rfl (by decide) (by decide) (by first | rfl | (simp_all; done) | grind) rfl
set_option maxRecDepth 100000 in
set_option maxHeartbeats 4000000 in
theorem w_delete1 (X : zX) (J : zJT) (G : zGT) (v0 : Int32) (v1 : Int64) {d : Nat} (hd : d ≤ 6) {J' : zJT} {G' : zGT} (hm : zK X d m_TM_delete [.ref 0, .int v0, .long v1] J G (some (.int 1)) J' G') : zCW X 7 m_Law_delete h_Law_delete 0 0 [.ref 0, .int v0, .long v1, .ref 59] (hp J G) 60 (some (.int 0)) (hp J' (va_up G' 59 (vp_updL (G' 59) 0 1))) 60 := by
  refine zCW_of (by decide) rfl (Nat.le_of_ble_eq_true rfl) ?_
  refine z_aload d_Law_delete_0 rfl ?_
  refine z_iconst (v := 0) d_Law_delete_2 (by decide) ?_
  refine z_aload_n d_Law_delete_3 rfl ?_
  refine z_iload_n d_Law_delete_4 rfl ?_
  refine z_lload_n d_Law_delete_5 rfl ?_
  refine z_callV1 d_Law_delete_6 g_Law_21 (hm) (by omega) rfl rfl rfl ⟨by show d + 4 ≤ 10; omega, by show 33 * d + 33 ≤ 231; omega, by decide, by decide⟩ rfl (Nat.le_of_ble_eq_true rfl) ?_
  refine z_if_eq d_Law_delete_9 16 (by decide) (fun h9 => absurd h9 (by decide)) (fun _ => ?_)
  refine z_lconst (v := 1) d_Law_delete_12 (by decide) ?_
  refine z_goto d_Law_delete_13 17 (by decide) ?_
  refine z_last d_Law_delete_17 (by omega) rfl ⟨rfl, by decide, by decide⟩ (hp_al rfl) ?_
  refine z_goto d_Law_delete_18 25 (by decide) ?_
  refine z_iconst (v := 0) d_Law_delete_25 (by decide) ?_
  exact z_iret d_Law_delete_26 rfl (by decide) (by decide) (by first | rfl | (simp_all; done) | grind) rfl
theorem k_delete_A : zCat m_Law_delete "java/lang/IllegalArgumentException" 6 21 := zCat1 (a0 := 0) (a1 := 18) (ct := 13) (hr := []) (zWA_of (i := 465) (by decide +kernel) (by decide +kernel)) (zWA_of (i := 330) (by decide +kernel) (by decide +kernel)) (by decide)
set_option maxRecDepth 100000 in
set_option maxHeartbeats 4000000 in
theorem w_delete_A (X : zX) (J : zJT) (G : zGT) (v0 : Int32) (v1 : Int64) {d : Nat} (hd : d ≤ 6) (hm : zKT X d m_TM_delete [.ref 0, .int v0, .long v1] J G "java/lang/IllegalArgumentException") : zCW X 7 m_Law_delete h_Law_delete 1 6 [.ref 0, .int v0, .long v1, .ref 59] (hp J G) 60 (some (.int 1)) (hp J G) 60 := by
  refine zCW_of (by decide) rfl (Nat.le_of_ble_eq_true rfl) ?_
  refine z_aload d_Law_delete_0 rfl ?_
  refine z_iconst (v := 0) d_Law_delete_2 (by decide) ?_
  refine z_aload_n d_Law_delete_3 rfl ?_
  refine z_iload_n d_Law_delete_4 rfl ?_
  refine z_lload_n d_Law_delete_5 rfl ?_
  refine z_callC (len := 2) (i := 5) d_Law_delete_6 g_Law_21 (hm) (by omega) rfl rfl rfl ⟨by show d + 4 ≤ 10; omega, by show 33 * d + 33 ≤ 231; omega, by decide, by decide⟩ rfl (Nat.le_of_ble_eq_true rfl) k_delete_A (Or.inl ⟨rfl, d_Law_delete_21⟩) (by decide) (by simp [lv_args, Value.category]) ?_
  refine z_iconst (v := 1) d_Law_delete_23 (by decide) ?_
  exact z_iret d_Law_delete_24 rfl (by decide) (by decide) (by first | rfl | (simp_all; done) | grind) rfl
abbrev h_Law_next : List (Nat × Nat × Nat × Nat) := [(0, 12, 15, 13), (0, 12, 19, 28)]
theorem d_Law_next_0 : decode m_Law_next.2.1 0 = .ok (.aload 5, 2) := by decide +kernel
theorem d_Law_next_2 : decode m_Law_next.2.1 2 = .ok (.iconst 0, 1) := by decide +kernel
theorem d_Law_next_3 : decode m_Law_next.2.1 3 = .ok (.aload_n 0, 1) := by decide +kernel
theorem d_Law_next_4 : decode m_Law_next.2.1 4 = .ok (.iload_n 1, 1) := by decide +kernel
theorem d_Law_next_5 : decode m_Law_next.2.1 5 = .ok (.lload_n 2, 1) := by decide +kernel
theorem d_Law_next_6 : decode m_Law_next.2.1 6 = .ok (.iload 4, 2) := by decide +kernel
theorem d_Law_next_8 : decode m_Law_next.2.1 8 = .ok (.invokevirtual 24, 3) := by decide +kernel
theorem d_Law_next_11 : decode m_Law_next.2.1 11 = .ok (.lastore, 1) := by decide +kernel
theorem d_Law_next_12 : decode m_Law_next.2.1 12 = .ok (.goto 11, 3) := by decide +kernel
theorem d_Law_next_15 : decode m_Law_next.2.1 15 = .ok (.astore 6, 2) := by decide +kernel
theorem d_Law_next_17 : decode m_Law_next.2.1 17 = .ok (.iconst 1, 1) := by decide +kernel
theorem d_Law_next_18 : decode m_Law_next.2.1 18 = .ok (.ireturn, 1) := by decide +kernel
theorem d_Law_next_19 : decode m_Law_next.2.1 19 = .ok (.astore 6, 2) := by decide +kernel
theorem d_Law_next_21 : decode m_Law_next.2.1 21 = .ok (.iconst 2, 1) := by decide +kernel
theorem d_Law_next_22 : decode m_Law_next.2.1 22 = .ok (.ireturn, 1) := by decide +kernel
theorem d_Law_next_23 : decode m_Law_next.2.1 23 = .ok (.iconst 0, 1) := by decide +kernel
theorem d_Law_next_24 : decode m_Law_next.2.1 24 = .ok (.ireturn, 1) := by decide +kernel
theorem g_Law_24 : zGv "TableMachineLaw" 24 m_TM_next 3 := ⟨⟨zWA_of (i := 485) (by decide +kernel) (by decide +kernel), zWA_of (i := 1) (by decide +kernel) (by decide +kernel), ⟨by decide +kernel, by decide +kernel, by decide +kernel⟩, by decide⟩, zWA_of (i := 482) (by decide +kernel) (by decide +kernel), zWA_of (i := 483) (by decide +kernel) (by decide +kernel), zWA_of (i := 484) (by decide +kernel) (by decide +kernel)⟩
set_option maxRecDepth 100000 in
set_option maxHeartbeats 4000000 in
theorem w_next (X : zX) (J : zJT) (G : zGT) (v0 : Int32) (v1 : Int64) (v2 : Int32) {d : Nat} (hd : d ≤ 6) (r : Int64) {J' : zJT} {G' : zGT} (hm : zK X d m_TM_next [.ref 0, .int v0, .long v1, .int v2] J G (some (.long r)) J' G') : zCW X 7 m_Law_next h_Law_next 0 0 [.ref 0, .int v0, .long v1, .int v2, .ref 59] (hp J G) 60 (some (.int 0)) (hp J' (va_up G' 59 (vp_updL (G' 59) 0 r))) 60 := by
  refine zCW_of (by decide) rfl (Nat.le_of_ble_eq_true rfl) ?_
  refine z_aload d_Law_next_0 rfl ?_
  refine z_iconst (v := 0) d_Law_next_2 (by decide) ?_
  refine z_aload_n d_Law_next_3 rfl ?_
  refine z_iload_n d_Law_next_4 rfl ?_
  refine z_lload_n d_Law_next_5 rfl ?_
  refine z_iload d_Law_next_6 rfl ?_
  refine z_callV1 d_Law_next_8 g_Law_24 (hm) (by omega) rfl rfl rfl ⟨by show d + 4 ≤ 10; omega, by show 33 * d + 33 ≤ 231; omega, by decide, by decide⟩ rfl (Nat.le_of_ble_eq_true rfl) ?_
  refine z_last d_Law_next_11 (by omega) rfl ⟨rfl, by decide, by decide⟩ (hp_al rfl) ?_
  refine z_goto d_Law_next_12 23 (by decide) ?_
  refine z_iconst (v := 0) d_Law_next_23 (by decide) ?_
  exact z_iret d_Law_next_24 rfl (by decide) (by decide) (by first | rfl | (simp_all; done) | grind) rfl
theorem k_next_A : zCat m_Law_next "java/lang/IllegalArgumentException" 8 15 := zCat1 (a0 := 0) (a1 := 12) (ct := 13) (hr := [(0, 12, 19, 28)]) (zWA_of (i := 480) (by decide +kernel) (by decide +kernel)) (zWA_of (i := 330) (by decide +kernel) (by decide +kernel)) (by decide)
set_option maxRecDepth 100000 in
set_option maxHeartbeats 4000000 in
theorem w_next_A (X : zX) (J : zJT) (G : zGT) (v0 : Int32) (v1 : Int64) (v2 : Int32) {d : Nat} (hd : d ≤ 6) (hm : zKT X d m_TM_next [.ref 0, .int v0, .long v1, .int v2] J G "java/lang/IllegalArgumentException") : zCW X 7 m_Law_next h_Law_next 1 6 [.ref 0, .int v0, .long v1, .int v2, .ref 59] (hp J G) 60 (some (.int 1)) (hp J G) 60 := by
  refine zCW_of (by decide) rfl (Nat.le_of_ble_eq_true rfl) ?_
  refine z_aload d_Law_next_0 rfl ?_
  refine z_iconst (v := 0) d_Law_next_2 (by decide) ?_
  refine z_aload_n d_Law_next_3 rfl ?_
  refine z_iload_n d_Law_next_4 rfl ?_
  refine z_lload_n d_Law_next_5 rfl ?_
  refine z_iload d_Law_next_6 rfl ?_
  refine z_callC (len := 2) (i := 6) d_Law_next_8 g_Law_24 (hm) (by omega) rfl rfl rfl ⟨by show d + 4 ≤ 10; omega, by show 33 * d + 33 ≤ 231; omega, by decide, by decide⟩ rfl (Nat.le_of_ble_eq_true rfl) k_next_A (Or.inl ⟨rfl, d_Law_next_15⟩) (by decide) (by simp [lv_args, Value.category]) ?_
  refine z_iconst (v := 1) d_Law_next_17 (by decide) ?_
  exact z_iret d_Law_next_18 rfl (by decide) (by decide) (by first | rfl | (simp_all; done) | grind) rfl
theorem k_next_E : zCat m_Law_next "java/util/NoSuchElementException" 8 19 := zCat2 (a0 := 0) (a1 := 12) (ct := 28) (b0 := 0) (b1 := 12) (hb := 15) (cb := 13) (hr := []) (by decide) (zWA_of (i := 480) (by decide +kernel) (by decide +kernel)) (zWA_of (i := 330) (by decide +kernel) (by decide +kernel)) (zWA_of (i := 481) (by decide +kernel) (by decide +kernel)) (by decide) (by decide)
set_option maxRecDepth 100000 in
set_option maxHeartbeats 4000000 in
theorem w_next_E (X : zX) (J : zJT) (G : zGT) (v0 : Int32) (v1 : Int64) (v2 : Int32) {d : Nat} (hd : d ≤ 6) (hm : zKT X d m_TM_next [.ref 0, .int v0, .long v1, .int v2] J G "java/util/NoSuchElementException") : zCW X 7 m_Law_next h_Law_next 1 6 [.ref 0, .int v0, .long v1, .int v2, .ref 59] (hp J G) 60 (some (.int 2)) (hp J G) 60 := by
  refine zCW_of (by decide) rfl (Nat.le_of_ble_eq_true rfl) ?_
  refine z_aload d_Law_next_0 rfl ?_
  refine z_iconst (v := 0) d_Law_next_2 (by decide) ?_
  refine z_aload_n d_Law_next_3 rfl ?_
  refine z_iload_n d_Law_next_4 rfl ?_
  refine z_lload_n d_Law_next_5 rfl ?_
  refine z_iload d_Law_next_6 rfl ?_
  refine z_callC (len := 2) (i := 6) d_Law_next_8 g_Law_24 (hm) (by omega) rfl rfl rfl ⟨by show d + 4 ≤ 10; omega, by show 33 * d + 33 ≤ 231; omega, by decide, by decide⟩ rfl (Nat.le_of_ble_eq_true rfl) k_next_E (Or.inl ⟨rfl, d_Law_next_19⟩) (by decide) (by simp [lv_args, Value.category]) ?_
  refine z_iconst (v := 2) d_Law_next_21 (by decide) ?_
  exact z_iret d_Law_next_22 rfl (by decide) (by decide) (by first | rfl | (simp_all; done) | grind) rfl
abbrev h_Law_value : List (Nat × Nat × Nat × Nat) := [(0, 12, 15, 13), (0, 12, 19, 28)]
theorem d_Law_value_0 : decode m_Law_value.2.1 0 = .ok (.aload 5, 2) := by decide +kernel
theorem d_Law_value_2 : decode m_Law_value.2.1 2 = .ok (.iconst 0, 1) := by decide +kernel
theorem d_Law_value_3 : decode m_Law_value.2.1 3 = .ok (.aload_n 0, 1) := by decide +kernel
theorem d_Law_value_4 : decode m_Law_value.2.1 4 = .ok (.iload_n 1, 1) := by decide +kernel
theorem d_Law_value_5 : decode m_Law_value.2.1 5 = .ok (.lload_n 2, 1) := by decide +kernel
theorem d_Law_value_6 : decode m_Law_value.2.1 6 = .ok (.iload 4, 2) := by decide +kernel
theorem d_Law_value_8 : decode m_Law_value.2.1 8 = .ok (.invokevirtual 30, 3) := by decide +kernel
theorem d_Law_value_11 : decode m_Law_value.2.1 11 = .ok (.lastore, 1) := by decide +kernel
theorem d_Law_value_12 : decode m_Law_value.2.1 12 = .ok (.goto 11, 3) := by decide +kernel
theorem d_Law_value_15 : decode m_Law_value.2.1 15 = .ok (.astore 6, 2) := by decide +kernel
theorem d_Law_value_17 : decode m_Law_value.2.1 17 = .ok (.iconst 1, 1) := by decide +kernel
theorem d_Law_value_18 : decode m_Law_value.2.1 18 = .ok (.ireturn, 1) := by decide +kernel
theorem d_Law_value_19 : decode m_Law_value.2.1 19 = .ok (.astore 6, 2) := by decide +kernel
theorem d_Law_value_21 : decode m_Law_value.2.1 21 = .ok (.iconst 2, 1) := by decide +kernel
theorem d_Law_value_22 : decode m_Law_value.2.1 22 = .ok (.ireturn, 1) := by decide +kernel
theorem d_Law_value_23 : decode m_Law_value.2.1 23 = .ok (.iconst 0, 1) := by decide +kernel
theorem d_Law_value_24 : decode m_Law_value.2.1 24 = .ok (.ireturn, 1) := by decide +kernel
theorem g_Law_30 : zGv "TableMachineLaw" 30 m_TM_value 3 := ⟨⟨zWA_of (i := 517) (by decide +kernel) (by decide +kernel), zWA_of (i := 1) (by decide +kernel) (by decide +kernel), ⟨by decide +kernel, by decide +kernel, by decide +kernel⟩, by decide⟩, zWA_of (i := 514) (by decide +kernel) (by decide +kernel), zWA_of (i := 515) (by decide +kernel) (by decide +kernel), zWA_of (i := 516) (by decide +kernel) (by decide +kernel)⟩
set_option maxRecDepth 100000 in
set_option maxHeartbeats 4000000 in
theorem w_value (X : zX) (J : zJT) (G : zGT) (v0 : Int32) (v1 : Int64) (v2 : Int32) {d : Nat} (hd : d ≤ 6) (r : Int64) {J' : zJT} {G' : zGT} (hm : zK X d m_TM_value [.ref 0, .int v0, .long v1, .int v2] J G (some (.long r)) J' G') : zCW X 7 m_Law_value h_Law_value 0 0 [.ref 0, .int v0, .long v1, .int v2, .ref 59] (hp J G) 60 (some (.int 0)) (hp J' (va_up G' 59 (vp_updL (G' 59) 0 r))) 60 := by
  refine zCW_of (by decide) rfl (Nat.le_of_ble_eq_true rfl) ?_
  refine z_aload d_Law_value_0 rfl ?_
  refine z_iconst (v := 0) d_Law_value_2 (by decide) ?_
  refine z_aload_n d_Law_value_3 rfl ?_
  refine z_iload_n d_Law_value_4 rfl ?_
  refine z_lload_n d_Law_value_5 rfl ?_
  refine z_iload d_Law_value_6 rfl ?_
  refine z_callV1 d_Law_value_8 g_Law_30 (hm) (by omega) rfl rfl rfl ⟨by show d + 4 ≤ 10; omega, by show 33 * d + 33 ≤ 231; omega, by decide, by decide⟩ rfl (Nat.le_of_ble_eq_true rfl) ?_
  refine z_last d_Law_value_11 (by omega) rfl ⟨rfl, by decide, by decide⟩ (hp_al rfl) ?_
  refine z_goto d_Law_value_12 23 (by decide) ?_
  refine z_iconst (v := 0) d_Law_value_23 (by decide) ?_
  exact z_iret d_Law_value_24 rfl (by decide) (by decide) (by first | rfl | (simp_all; done) | grind) rfl
theorem k_value_A : zCat m_Law_value "java/lang/IllegalArgumentException" 8 15 := zCat1 (a0 := 0) (a1 := 12) (ct := 13) (hr := [(0, 12, 19, 28)]) (zWA_of (i := 513) (by decide +kernel) (by decide +kernel)) (zWA_of (i := 330) (by decide +kernel) (by decide +kernel)) (by decide)
set_option maxRecDepth 100000 in
set_option maxHeartbeats 4000000 in
theorem w_value_A (X : zX) (J : zJT) (G : zGT) (v0 : Int32) (v1 : Int64) (v2 : Int32) {d : Nat} (hd : d ≤ 6) (hm : zKT X d m_TM_value [.ref 0, .int v0, .long v1, .int v2] J G "java/lang/IllegalArgumentException") : zCW X 7 m_Law_value h_Law_value 1 6 [.ref 0, .int v0, .long v1, .int v2, .ref 59] (hp J G) 60 (some (.int 1)) (hp J G) 60 := by
  refine zCW_of (by decide) rfl (Nat.le_of_ble_eq_true rfl) ?_
  refine z_aload d_Law_value_0 rfl ?_
  refine z_iconst (v := 0) d_Law_value_2 (by decide) ?_
  refine z_aload_n d_Law_value_3 rfl ?_
  refine z_iload_n d_Law_value_4 rfl ?_
  refine z_lload_n d_Law_value_5 rfl ?_
  refine z_iload d_Law_value_6 rfl ?_
  refine z_callC (len := 2) (i := 6) d_Law_value_8 g_Law_30 (hm) (by omega) rfl rfl rfl ⟨by show d + 4 ≤ 10; omega, by show 33 * d + 33 ≤ 231; omega, by decide, by decide⟩ rfl (Nat.le_of_ble_eq_true rfl) k_value_A (Or.inl ⟨rfl, d_Law_value_15⟩) (by decide) (by simp [lv_args, Value.category]) ?_
  refine z_iconst (v := 1) d_Law_value_17 (by decide) ?_
  exact z_iret d_Law_value_18 rfl (by decide) (by decide) (by first | rfl | (simp_all; done) | grind) rfl
theorem k_value_E : zCat m_Law_value "java/util/NoSuchElementException" 8 19 := zCat2 (a0 := 0) (a1 := 12) (ct := 28) (b0 := 0) (b1 := 12) (hb := 15) (cb := 13) (hr := []) (by decide) (zWA_of (i := 513) (by decide +kernel) (by decide +kernel)) (zWA_of (i := 330) (by decide +kernel) (by decide +kernel)) (zWA_of (i := 481) (by decide +kernel) (by decide +kernel)) (by decide) (by decide)
set_option maxRecDepth 100000 in
set_option maxHeartbeats 4000000 in
theorem w_value_E (X : zX) (J : zJT) (G : zGT) (v0 : Int32) (v1 : Int64) (v2 : Int32) {d : Nat} (hd : d ≤ 6) (hm : zKT X d m_TM_value [.ref 0, .int v0, .long v1, .int v2] J G "java/util/NoSuchElementException") : zCW X 7 m_Law_value h_Law_value 1 6 [.ref 0, .int v0, .long v1, .int v2, .ref 59] (hp J G) 60 (some (.int 2)) (hp J G) 60 := by
  refine zCW_of (by decide) rfl (Nat.le_of_ble_eq_true rfl) ?_
  refine z_aload d_Law_value_0 rfl ?_
  refine z_iconst (v := 0) d_Law_value_2 (by decide) ?_
  refine z_aload_n d_Law_value_3 rfl ?_
  refine z_iload_n d_Law_value_4 rfl ?_
  refine z_lload_n d_Law_value_5 rfl ?_
  refine z_iload d_Law_value_6 rfl ?_
  refine z_callC (len := 2) (i := 6) d_Law_value_8 g_Law_30 (hm) (by omega) rfl rfl rfl ⟨by show d + 4 ≤ 10; omega, by show 33 * d + 33 ≤ 231; omega, by decide, by decide⟩ rfl (Nat.le_of_ble_eq_true rfl) k_value_E (Or.inl ⟨rfl, d_Law_value_19⟩) (by decide) (by simp [lv_args, Value.category]) ?_
  refine z_iconst (v := 2) d_Law_value_21 (by decide) ?_
  exact z_iret d_Law_value_22 rfl (by decide) (by decide) (by first | rfl | (simp_all; done) | grind) rfl
abbrev h_Law_isNull : List (Nat × Nat × Nat × Nat) := [(0, 20, 23, 13), (0, 20, 27, 28)]
theorem d_Law_isNull_0 : decode m_Law_isNull.2.1 0 = .ok (.aload 5, 2) := by decide +kernel
theorem d_Law_isNull_2 : decode m_Law_isNull.2.1 2 = .ok (.iconst 0, 1) := by decide +kernel
theorem d_Law_isNull_3 : decode m_Law_isNull.2.1 3 = .ok (.aload_n 0, 1) := by decide +kernel
theorem d_Law_isNull_4 : decode m_Law_isNull.2.1 4 = .ok (.iload_n 1, 1) := by decide +kernel
theorem d_Law_isNull_5 : decode m_Law_isNull.2.1 5 = .ok (.lload_n 2, 1) := by decide +kernel
theorem d_Law_isNull_6 : decode m_Law_isNull.2.1 6 = .ok (.iload 4, 2) := by decide +kernel
theorem d_Law_isNull_8 : decode m_Law_isNull.2.1 8 = .ok (.invokevirtual 34, 3) := by decide +kernel
theorem d_Law_isNull_11 : decode m_Law_isNull.2.1 11 = .ok (.ifCond .eq 7, 3) := by decide +kernel
theorem d_Law_isNull_14 : decode m_Law_isNull.2.1 14 = .ok (.lconst 1, 1) := by decide +kernel
theorem d_Law_isNull_15 : decode m_Law_isNull.2.1 15 = .ok (.goto 4, 3) := by decide +kernel
theorem d_Law_isNull_18 : decode m_Law_isNull.2.1 18 = .ok (.lconst 0, 1) := by decide +kernel
theorem d_Law_isNull_19 : decode m_Law_isNull.2.1 19 = .ok (.lastore, 1) := by decide +kernel
theorem d_Law_isNull_20 : decode m_Law_isNull.2.1 20 = .ok (.goto 11, 3) := by decide +kernel
theorem d_Law_isNull_23 : decode m_Law_isNull.2.1 23 = .ok (.astore 6, 2) := by decide +kernel
theorem d_Law_isNull_25 : decode m_Law_isNull.2.1 25 = .ok (.iconst 1, 1) := by decide +kernel
theorem d_Law_isNull_26 : decode m_Law_isNull.2.1 26 = .ok (.ireturn, 1) := by decide +kernel
theorem d_Law_isNull_27 : decode m_Law_isNull.2.1 27 = .ok (.astore 6, 2) := by decide +kernel
theorem d_Law_isNull_29 : decode m_Law_isNull.2.1 29 = .ok (.iconst 2, 1) := by decide +kernel
theorem d_Law_isNull_30 : decode m_Law_isNull.2.1 30 = .ok (.ireturn, 1) := by decide +kernel
theorem d_Law_isNull_31 : decode m_Law_isNull.2.1 31 = .ok (.iconst 0, 1) := by decide +kernel
theorem d_Law_isNull_32 : decode m_Law_isNull.2.1 32 = .ok (.ireturn, 1) := by decide +kernel
theorem g_Law_34 : zGv "TableMachineLaw" 34 m_TM_isNull 3 := ⟨⟨zWA_of (i := 538) (by decide +kernel) (by decide +kernel), zWA_of (i := 1) (by decide +kernel) (by decide +kernel), ⟨by decide +kernel, by decide +kernel, by decide +kernel⟩, by decide⟩, zWA_of (i := 535) (by decide +kernel) (by decide +kernel), zWA_of (i := 536) (by decide +kernel) (by decide +kernel), zWA_of (i := 537) (by decide +kernel) (by decide +kernel)⟩
set_option maxRecDepth 100000 in
set_option maxHeartbeats 4000000 in
theorem w_isNull0 (X : zX) (J : zJT) (G : zGT) (v0 : Int32) (v1 : Int64) (v2 : Int32) {d : Nat} (hd : d ≤ 6) {J' : zJT} {G' : zGT} (hm : zK X d m_TM_isNull [.ref 0, .int v0, .long v1, .int v2] J G (some (.int 0)) J' G') : zCW X 7 m_Law_isNull h_Law_isNull 0 0 [.ref 0, .int v0, .long v1, .int v2, .ref 59] (hp J G) 60 (some (.int 0)) (hp J' (va_up G' 59 (vp_updL (G' 59) 0 0))) 60 := by
  refine zCW_of (by decide) rfl (Nat.le_of_ble_eq_true rfl) ?_
  refine z_aload d_Law_isNull_0 rfl ?_
  refine z_iconst (v := 0) d_Law_isNull_2 (by decide) ?_
  refine z_aload_n d_Law_isNull_3 rfl ?_
  refine z_iload_n d_Law_isNull_4 rfl ?_
  refine z_lload_n d_Law_isNull_5 rfl ?_
  refine z_iload d_Law_isNull_6 rfl ?_
  refine z_callV1 d_Law_isNull_8 g_Law_34 (hm) (by omega) rfl rfl rfl ⟨by show d + 4 ≤ 10; omega, by show 33 * d + 33 ≤ 231; omega, by decide, by decide⟩ rfl (Nat.le_of_ble_eq_true rfl) ?_
  refine z_if_eq d_Law_isNull_11 18 (by decide) (fun _ => ?_) (fun h9 => absurd rfl h9)
  refine z_lconst (v := 0) d_Law_isNull_18 (by decide) ?_
  refine z_last d_Law_isNull_19 (by omega) rfl ⟨rfl, by decide, by decide⟩ (hp_al rfl) ?_
  refine z_goto d_Law_isNull_20 31 (by decide) ?_
  refine z_iconst (v := 0) d_Law_isNull_31 (by decide) ?_
  exact z_iret d_Law_isNull_32 rfl (by decide) (by decide) (by first | rfl | (simp_all; done) | grind) rfl
set_option maxRecDepth 100000 in
set_option maxHeartbeats 4000000 in
theorem w_isNull1 (X : zX) (J : zJT) (G : zGT) (v0 : Int32) (v1 : Int64) (v2 : Int32) {d : Nat} (hd : d ≤ 6) {J' : zJT} {G' : zGT} (hm : zK X d m_TM_isNull [.ref 0, .int v0, .long v1, .int v2] J G (some (.int 1)) J' G') : zCW X 7 m_Law_isNull h_Law_isNull 0 0 [.ref 0, .int v0, .long v1, .int v2, .ref 59] (hp J G) 60 (some (.int 0)) (hp J' (va_up G' 59 (vp_updL (G' 59) 0 1))) 60 := by
  refine zCW_of (by decide) rfl (Nat.le_of_ble_eq_true rfl) ?_
  refine z_aload d_Law_isNull_0 rfl ?_
  refine z_iconst (v := 0) d_Law_isNull_2 (by decide) ?_
  refine z_aload_n d_Law_isNull_3 rfl ?_
  refine z_iload_n d_Law_isNull_4 rfl ?_
  refine z_lload_n d_Law_isNull_5 rfl ?_
  refine z_iload d_Law_isNull_6 rfl ?_
  refine z_callV1 d_Law_isNull_8 g_Law_34 (hm) (by omega) rfl rfl rfl ⟨by show d + 4 ≤ 10; omega, by show 33 * d + 33 ≤ 231; omega, by decide, by decide⟩ rfl (Nat.le_of_ble_eq_true rfl) ?_
  refine z_if_eq d_Law_isNull_11 18 (by decide) (fun h9 => absurd h9 (by decide)) (fun _ => ?_)
  refine z_lconst (v := 1) d_Law_isNull_14 (by decide) ?_
  refine z_goto d_Law_isNull_15 19 (by decide) ?_
  refine z_last d_Law_isNull_19 (by omega) rfl ⟨rfl, by decide, by decide⟩ (hp_al rfl) ?_
  refine z_goto d_Law_isNull_20 31 (by decide) ?_
  refine z_iconst (v := 0) d_Law_isNull_31 (by decide) ?_
  exact z_iret d_Law_isNull_32 rfl (by decide) (by decide) (by first | rfl | (simp_all; done) | grind) rfl
theorem k_isNull_A : zCat m_Law_isNull "java/lang/IllegalArgumentException" 8 23 := zCat1 (a0 := 0) (a1 := 20) (ct := 13) (hr := [(0, 20, 27, 28)]) (zWA_of (i := 534) (by decide +kernel) (by decide +kernel)) (zWA_of (i := 330) (by decide +kernel) (by decide +kernel)) (by decide)
set_option maxRecDepth 100000 in
set_option maxHeartbeats 4000000 in
theorem w_isNull_A (X : zX) (J : zJT) (G : zGT) (v0 : Int32) (v1 : Int64) (v2 : Int32) {d : Nat} (hd : d ≤ 6) (hm : zKT X d m_TM_isNull [.ref 0, .int v0, .long v1, .int v2] J G "java/lang/IllegalArgumentException") : zCW X 7 m_Law_isNull h_Law_isNull 1 6 [.ref 0, .int v0, .long v1, .int v2, .ref 59] (hp J G) 60 (some (.int 1)) (hp J G) 60 := by
  refine zCW_of (by decide) rfl (Nat.le_of_ble_eq_true rfl) ?_
  refine z_aload d_Law_isNull_0 rfl ?_
  refine z_iconst (v := 0) d_Law_isNull_2 (by decide) ?_
  refine z_aload_n d_Law_isNull_3 rfl ?_
  refine z_iload_n d_Law_isNull_4 rfl ?_
  refine z_lload_n d_Law_isNull_5 rfl ?_
  refine z_iload d_Law_isNull_6 rfl ?_
  refine z_callC (len := 2) (i := 6) d_Law_isNull_8 g_Law_34 (hm) (by omega) rfl rfl rfl ⟨by show d + 4 ≤ 10; omega, by show 33 * d + 33 ≤ 231; omega, by decide, by decide⟩ rfl (Nat.le_of_ble_eq_true rfl) k_isNull_A (Or.inl ⟨rfl, d_Law_isNull_23⟩) (by decide) (by simp [lv_args, Value.category]) ?_
  refine z_iconst (v := 1) d_Law_isNull_25 (by decide) ?_
  exact z_iret d_Law_isNull_26 rfl (by decide) (by decide) (by first | rfl | (simp_all; done) | grind) rfl
theorem k_isNull_E : zCat m_Law_isNull "java/util/NoSuchElementException" 8 27 := zCat2 (a0 := 0) (a1 := 20) (ct := 28) (b0 := 0) (b1 := 20) (hb := 23) (cb := 13) (hr := []) (by decide) (zWA_of (i := 534) (by decide +kernel) (by decide +kernel)) (zWA_of (i := 330) (by decide +kernel) (by decide +kernel)) (zWA_of (i := 481) (by decide +kernel) (by decide +kernel)) (by decide) (by decide)
set_option maxRecDepth 100000 in
set_option maxHeartbeats 4000000 in
theorem w_isNull_E (X : zX) (J : zJT) (G : zGT) (v0 : Int32) (v1 : Int64) (v2 : Int32) {d : Nat} (hd : d ≤ 6) (hm : zKT X d m_TM_isNull [.ref 0, .int v0, .long v1, .int v2] J G "java/util/NoSuchElementException") : zCW X 7 m_Law_isNull h_Law_isNull 1 6 [.ref 0, .int v0, .long v1, .int v2, .ref 59] (hp J G) 60 (some (.int 2)) (hp J G) 60 := by
  refine zCW_of (by decide) rfl (Nat.le_of_ble_eq_true rfl) ?_
  refine z_aload d_Law_isNull_0 rfl ?_
  refine z_iconst (v := 0) d_Law_isNull_2 (by decide) ?_
  refine z_aload_n d_Law_isNull_3 rfl ?_
  refine z_iload_n d_Law_isNull_4 rfl ?_
  refine z_lload_n d_Law_isNull_5 rfl ?_
  refine z_iload d_Law_isNull_6 rfl ?_
  refine z_callC (len := 2) (i := 6) d_Law_isNull_8 g_Law_34 (hm) (by omega) rfl rfl rfl ⟨by show d + 4 ≤ 10; omega, by show 33 * d + 33 ≤ 231; omega, by decide, by decide⟩ rfl (Nat.le_of_ble_eq_true rfl) k_isNull_E (Or.inl ⟨rfl, d_Law_isNull_27⟩) (by decide) (by simp [lv_args, Value.category]) ?_
  refine z_iconst (v := 2) d_Law_isNull_29 (by decide) ?_
  exact z_iret d_Law_isNull_30 rfl (by decide) (by decide) (by first | rfl | (simp_all; done) | grind) rfl
abbrev h_Law_add : List (Nat × Nat × Nat × Nat) := [(0, 14, 17, 13), (0, 14, 21, 15)]
theorem d_Law_add_0 : decode m_Law_add.2.1 0 = .ok (.aload 5, 2) := by decide +kernel
theorem d_Law_add_2 : decode m_Law_add.2.1 2 = .ok (.iconst 0, 1) := by decide +kernel
theorem d_Law_add_3 : decode m_Law_add.2.1 3 = .ok (.aload_n 0, 1) := by decide +kernel
theorem d_Law_add_4 : decode m_Law_add.2.1 4 = .ok (.iload_n 1, 1) := by decide +kernel
theorem d_Law_add_5 : decode m_Law_add.2.1 5 = .ok (.iload_n 2, 1) := by decide +kernel
theorem d_Law_add_6 : decode m_Law_add.2.1 6 = .ok (.iload_n 3, 1) := by decide +kernel
theorem d_Law_add_7 : decode m_Law_add.2.1 7 = .ok (.iload 4, 2) := by decide +kernel
theorem d_Law_add_9 : decode m_Law_add.2.1 9 = .ok (.invokevirtual 38, 3) := by decide +kernel
theorem d_Law_add_12 : decode m_Law_add.2.1 12 = .ok (.i2l, 1) := by decide +kernel
theorem d_Law_add_13 : decode m_Law_add.2.1 13 = .ok (.lastore, 1) := by decide +kernel
theorem d_Law_add_14 : decode m_Law_add.2.1 14 = .ok (.goto 11, 3) := by decide +kernel
theorem d_Law_add_17 : decode m_Law_add.2.1 17 = .ok (.astore 6, 2) := by decide +kernel
theorem d_Law_add_19 : decode m_Law_add.2.1 19 = .ok (.iconst 1, 1) := by decide +kernel
theorem d_Law_add_20 : decode m_Law_add.2.1 20 = .ok (.ireturn, 1) := by decide +kernel
theorem d_Law_add_21 : decode m_Law_add.2.1 21 = .ok (.astore 6, 2) := by decide +kernel
theorem d_Law_add_23 : decode m_Law_add.2.1 23 = .ok (.iconst 2, 1) := by decide +kernel
theorem d_Law_add_24 : decode m_Law_add.2.1 24 = .ok (.ireturn, 1) := by decide +kernel
theorem d_Law_add_25 : decode m_Law_add.2.1 25 = .ok (.iconst 0, 1) := by decide +kernel
theorem d_Law_add_26 : decode m_Law_add.2.1 26 = .ok (.ireturn, 1) := by decide +kernel
theorem g_Law_38 : zGv "TableMachineLaw" 38 m_TM_add 4 := ⟨⟨zWA_of (i := 549) (by decide +kernel) (by decide +kernel), zWA_of (i := 1) (by decide +kernel) (by decide +kernel), ⟨by decide +kernel, by decide +kernel, by decide +kernel⟩, by decide⟩, zWA_of (i := 546) (by decide +kernel) (by decide +kernel), zWA_of (i := 547) (by decide +kernel) (by decide +kernel), zWA_of (i := 548) (by decide +kernel) (by decide +kernel)⟩
set_option maxRecDepth 100000 in
set_option maxHeartbeats 4000000 in
theorem w_add (X : zX) (J : zJT) (G : zGT) (v0 : Int32) (v1 : Int32) (v2 : Int32) (v3 : Int32) {d : Nat} (hd : d ≤ 6) (r : Int32) {J' : zJT} {G' : zGT} (hm : zK X d m_TM_add [.ref 0, .int v0, .int v1, .int v2, .int v3] J G (some (.int r)) J' G') : zCW X 7 m_Law_add h_Law_add 0 0 [.ref 0, .int v0, .int v1, .int v2, .int v3, .ref 59] (hp J G) 60 (some (.int 0)) (hp J' (va_up G' 59 (vp_updL (G' 59) 0 r.toInt64))) 60 := by
  refine zCW_of (by decide) rfl (Nat.le_of_ble_eq_true rfl) ?_
  refine z_aload d_Law_add_0 rfl ?_
  refine z_iconst (v := 0) d_Law_add_2 (by decide) ?_
  refine z_aload_n d_Law_add_3 rfl ?_
  refine z_iload_n d_Law_add_4 rfl ?_
  refine z_iload_n d_Law_add_5 rfl ?_
  refine z_iload_n d_Law_add_6 rfl ?_
  refine z_iload d_Law_add_7 rfl ?_
  refine z_callV1 d_Law_add_9 g_Law_38 (hm) (by omega) rfl rfl rfl ⟨by show d + 4 ≤ 10; omega, by show 33 * d + 33 ≤ 231; omega, by decide, by decide⟩ rfl (Nat.le_of_ble_eq_true rfl) ?_
  refine z_i2l d_Law_add_12 ?_
  refine z_last d_Law_add_13 (by omega) rfl ⟨rfl, by decide, by decide⟩ (hp_al rfl) ?_
  refine z_goto d_Law_add_14 25 (by decide) ?_
  refine z_iconst (v := 0) d_Law_add_25 (by decide) ?_
  exact z_iret d_Law_add_26 rfl (by decide) (by decide) (by first | rfl | (simp_all; done) | grind) rfl
theorem k_add_A : zCat m_Law_add "java/lang/IllegalArgumentException" 9 17 := zCat1 (a0 := 0) (a1 := 14) (ct := 13) (hr := [(0, 14, 21, 15)]) (zWA_of (i := 545) (by decide +kernel) (by decide +kernel)) (zWA_of (i := 330) (by decide +kernel) (by decide +kernel)) (by decide)
set_option maxRecDepth 100000 in
set_option maxHeartbeats 4000000 in
theorem w_add_A (X : zX) (J : zJT) (G : zGT) (v0 : Int32) (v1 : Int32) (v2 : Int32) (v3 : Int32) {d : Nat} (hd : d ≤ 6) (hm : zKT X d m_TM_add [.ref 0, .int v0, .int v1, .int v2, .int v3] J G "java/lang/IllegalArgumentException") : zCW X 7 m_Law_add h_Law_add 1 6 [.ref 0, .int v0, .int v1, .int v2, .int v3, .ref 59] (hp J G) 60 (some (.int 1)) (hp J G) 60 := by
  refine zCW_of (by decide) rfl (Nat.le_of_ble_eq_true rfl) ?_
  refine z_aload d_Law_add_0 rfl ?_
  refine z_iconst (v := 0) d_Law_add_2 (by decide) ?_
  refine z_aload_n d_Law_add_3 rfl ?_
  refine z_iload_n d_Law_add_4 rfl ?_
  refine z_iload_n d_Law_add_5 rfl ?_
  refine z_iload_n d_Law_add_6 rfl ?_
  refine z_iload d_Law_add_7 rfl ?_
  refine z_callC (len := 2) (i := 6) d_Law_add_9 g_Law_38 (hm) (by omega) rfl rfl rfl ⟨by show d + 4 ≤ 10; omega, by show 33 * d + 33 ≤ 231; omega, by decide, by decide⟩ rfl (Nat.le_of_ble_eq_true rfl) k_add_A (Or.inl ⟨rfl, d_Law_add_17⟩) (by decide) (by simp [lv_args, Value.category]) ?_
  refine z_iconst (v := 1) d_Law_add_19 (by decide) ?_
  exact z_iret d_Law_add_20 rfl (by decide) (by decide) (by first | rfl | (simp_all; done) | grind) rfl
theorem k_add_S : zCat m_Law_add "java/lang/IllegalStateException" 9 21 := zCat2 (a0 := 0) (a1 := 14) (ct := 15) (b0 := 0) (b1 := 14) (hb := 17) (cb := 13) (hr := []) (by decide) (zWA_of (i := 545) (by decide +kernel) (by decide +kernel)) (zWA_of (i := 330) (by decide +kernel) (by decide +kernel)) (zWA_of (i := 331) (by decide +kernel) (by decide +kernel)) (by decide) (by decide)
set_option maxRecDepth 100000 in
set_option maxHeartbeats 4000000 in
theorem w_add_S (X : zX) (J : zJT) (G : zGT) (v0 : Int32) (v1 : Int32) (v2 : Int32) (v3 : Int32) {d : Nat} (hd : d ≤ 6) (hm : zKT X d m_TM_add [.ref 0, .int v0, .int v1, .int v2, .int v3] J G "java/lang/IllegalStateException") : zCW X 7 m_Law_add h_Law_add 1 6 [.ref 0, .int v0, .int v1, .int v2, .int v3, .ref 59] (hp J G) 60 (some (.int 2)) (hp J G) 60 := by
  refine zCW_of (by decide) rfl (Nat.le_of_ble_eq_true rfl) ?_
  refine z_aload d_Law_add_0 rfl ?_
  refine z_iconst (v := 0) d_Law_add_2 (by decide) ?_
  refine z_aload_n d_Law_add_3 rfl ?_
  refine z_iload_n d_Law_add_4 rfl ?_
  refine z_iload_n d_Law_add_5 rfl ?_
  refine z_iload_n d_Law_add_6 rfl ?_
  refine z_iload d_Law_add_7 rfl ?_
  refine z_callC (len := 2) (i := 6) d_Law_add_9 g_Law_38 (hm) (by omega) rfl rfl rfl ⟨by show d + 4 ≤ 10; omega, by show 33 * d + 33 ≤ 231; omega, by decide, by decide⟩ rfl (Nat.le_of_ble_eq_true rfl) k_add_S (Or.inl ⟨rfl, d_Law_add_21⟩) (by decide) (by simp [lv_args, Value.category]) ?_
  refine z_iconst (v := 2) d_Law_add_23 (by decide) ?_
  exact z_iret d_Law_add_24 rfl (by decide) (by decide) (by first | rfl | (simp_all; done) | grind) rfl
abbrev h_Law_code : List (Nat × Nat × Nat × Nat) := [(0, 10, 13, 46)]
theorem d_Law_code_0 : decode m_Law_code.2.1 0 = .ok (.aload_n 3, 1) := by decide +kernel
theorem d_Law_code_1 : decode m_Law_code.2.1 1 = .ok (.iconst 0, 1) := by decide +kernel
theorem d_Law_code_2 : decode m_Law_code.2.1 2 = .ok (.aload_n 0, 1) := by decide +kernel
theorem d_Law_code_3 : decode m_Law_code.2.1 3 = .ok (.iload_n 1, 1) := by decide +kernel
theorem d_Law_code_4 : decode m_Law_code.2.1 4 = .ok (.iload_n 2, 1) := by decide +kernel
theorem d_Law_code_5 : decode m_Law_code.2.1 5 = .ok (.invokevirtual 42, 3) := by decide +kernel
theorem d_Law_code_8 : decode m_Law_code.2.1 8 = .ok (.i2l, 1) := by decide +kernel
theorem d_Law_code_9 : decode m_Law_code.2.1 9 = .ok (.lastore, 1) := by decide +kernel
theorem d_Law_code_10 : decode m_Law_code.2.1 10 = .ok (.goto 7, 3) := by decide +kernel
theorem d_Law_code_13 : decode m_Law_code.2.1 13 = .ok (.astore 4, 2) := by decide +kernel
theorem d_Law_code_15 : decode m_Law_code.2.1 15 = .ok (.iconst 1, 1) := by decide +kernel
theorem d_Law_code_16 : decode m_Law_code.2.1 16 = .ok (.ireturn, 1) := by decide +kernel
theorem d_Law_code_17 : decode m_Law_code.2.1 17 = .ok (.iconst 0, 1) := by decide +kernel
theorem d_Law_code_18 : decode m_Law_code.2.1 18 = .ok (.ireturn, 1) := by decide +kernel
theorem g_Law_42 : zGv "TableMachineLaw" 42 m_TM_code 2 := ⟨⟨zWA_of (i := 579) (by decide +kernel) (by decide +kernel), zWA_of (i := 1) (by decide +kernel) (by decide +kernel), ⟨by decide +kernel, by decide +kernel, by decide +kernel⟩, by decide⟩, zWA_of (i := 576) (by decide +kernel) (by decide +kernel), zWA_of (i := 577) (by decide +kernel) (by decide +kernel), zWA_of (i := 578) (by decide +kernel) (by decide +kernel)⟩
set_option maxRecDepth 100000 in
set_option maxHeartbeats 4000000 in
theorem w_code (X : zX) (J : zJT) (G : zGT) (v0 : Int32) (v1 : Int32) {d : Nat} (hd : d ≤ 6) (r : Int32) {J' : zJT} {G' : zGT} (hm : zK X d m_TM_code [.ref 0, .int v0, .int v1] J G (some (.int r)) J' G') : zCW X 7 m_Law_code h_Law_code 0 0 [.ref 0, .int v0, .int v1, .ref 59] (hp J G) 60 (some (.int 0)) (hp J' (va_up G' 59 (vp_updL (G' 59) 0 r.toInt64))) 60 := by
  refine zCW_of (by decide) rfl (Nat.le_of_ble_eq_true rfl) ?_
  refine z_aload_n d_Law_code_0 rfl ?_
  refine z_iconst (v := 0) d_Law_code_1 (by decide) ?_
  refine z_aload_n d_Law_code_2 rfl ?_
  refine z_iload_n d_Law_code_3 rfl ?_
  refine z_iload_n d_Law_code_4 rfl ?_
  refine z_callV1 d_Law_code_5 g_Law_42 (hm) (by omega) rfl rfl rfl ⟨by show d + 4 ≤ 10; omega, by show 33 * d + 33 ≤ 231; omega, by decide, by decide⟩ rfl (Nat.le_of_ble_eq_true rfl) ?_
  refine z_i2l d_Law_code_8 ?_
  refine z_last d_Law_code_9 (by omega) rfl ⟨rfl, by decide, by decide⟩ (hp_al rfl) ?_
  refine z_goto d_Law_code_10 17 (by decide) ?_
  refine z_iconst (v := 0) d_Law_code_17 (by decide) ?_
  exact z_iret d_Law_code_18 rfl (by decide) (by decide) (by first | rfl | (simp_all; done) | grind) rfl
theorem k_code_I : zCat m_Law_code "java/lang/IndexOutOfBoundsException" 5 13 := zCat1 (a0 := 0) (a1 := 10) (ct := 46) (hr := []) (zWA_of (i := 574) (by decide +kernel) (by decide +kernel)) (zWA_of (i := 575) (by decide +kernel) (by decide +kernel)) (by decide)
set_option maxRecDepth 100000 in
set_option maxHeartbeats 4000000 in
theorem w_code_I (X : zX) (J : zJT) (G : zGT) (v0 : Int32) (v1 : Int32) {d : Nat} (hd : d ≤ 6) (hm : zKT X d m_TM_code [.ref 0, .int v0, .int v1] J G "java/lang/IndexOutOfBoundsException") : zCW X 7 m_Law_code h_Law_code 1 6 [.ref 0, .int v0, .int v1, .ref 59] (hp J G) 60 (some (.int 1)) (hp J G) 60 := by
  refine zCW_of (by decide) rfl (Nat.le_of_ble_eq_true rfl) ?_
  refine z_aload_n d_Law_code_0 rfl ?_
  refine z_iconst (v := 0) d_Law_code_1 (by decide) ?_
  refine z_aload_n d_Law_code_2 rfl ?_
  refine z_iload_n d_Law_code_3 rfl ?_
  refine z_iload_n d_Law_code_4 rfl ?_
  refine z_callC (len := 2) (i := 4) d_Law_code_5 g_Law_42 (hm) (by omega) rfl rfl rfl ⟨by show d + 4 ≤ 10; omega, by show 33 * d + 33 ≤ 231; omega, by decide, by decide⟩ rfl (Nat.le_of_ble_eq_true rfl) k_code_I (Or.inl ⟨rfl, d_Law_code_13⟩) (by decide) (by simp [lv_args, Value.category]) ?_
  refine z_iconst (v := 1) d_Law_code_15 (by decide) ?_
  exact z_iret d_Law_code_16 rfl (by decide) (by decide) (by first | rfl | (simp_all; done) | grind) rfl
abbrev h_Law_run : List (Nat × Nat × Nat × Nat) := [(0, 9, 12, 13)]
theorem d_Law_run_0 : decode m_Law_run.2.1 0 = .ok (.aload_n 2, 1) := by decide +kernel
theorem d_Law_run_1 : decode m_Law_run.2.1 1 = .ok (.iconst 0, 1) := by decide +kernel
theorem d_Law_run_2 : decode m_Law_run.2.1 2 = .ok (.aload_n 0, 1) := by decide +kernel
theorem d_Law_run_3 : decode m_Law_run.2.1 3 = .ok (.iload_n 1, 1) := by decide +kernel
theorem d_Law_run_4 : decode m_Law_run.2.1 4 = .ok (.invokevirtual 48, 3) := by decide +kernel
theorem d_Law_run_7 : decode m_Law_run.2.1 7 = .ok (.i2l, 1) := by decide +kernel
theorem d_Law_run_8 : decode m_Law_run.2.1 8 = .ok (.lastore, 1) := by decide +kernel
theorem d_Law_run_9 : decode m_Law_run.2.1 9 = .ok (.goto 6, 3) := by decide +kernel
theorem d_Law_run_12 : decode m_Law_run.2.1 12 = .ok (.astore_n 3, 1) := by decide +kernel
theorem d_Law_run_13 : decode m_Law_run.2.1 13 = .ok (.iconst 1, 1) := by decide +kernel
theorem d_Law_run_14 : decode m_Law_run.2.1 14 = .ok (.ireturn, 1) := by decide +kernel
theorem d_Law_run_15 : decode m_Law_run.2.1 15 = .ok (.iconst 0, 1) := by decide +kernel
theorem d_Law_run_16 : decode m_Law_run.2.1 16 = .ok (.ireturn, 1) := by decide +kernel
theorem g_Law_48 : zGv "TableMachineLaw" 48 m_TM_run 1 := ⟨⟨zWA_of (i := 606) (by decide +kernel) (by decide +kernel), zWA_of (i := 1) (by decide +kernel) (by decide +kernel), ⟨by decide +kernel, by decide +kernel, by decide +kernel⟩, by decide⟩, zWA_of (i := 603) (by decide +kernel) (by decide +kernel), zWA_of (i := 604) (by decide +kernel) (by decide +kernel), zWA_of (i := 605) (by decide +kernel) (by decide +kernel)⟩
set_option maxRecDepth 100000 in
set_option maxHeartbeats 4000000 in
theorem w_run (X : zX) (J : zJT) (G : zGT) (v0 : Int32) {d : Nat} (hd : d ≤ 6) (r : Int32) {J' : zJT} {G' : zGT} (hm : zK X d m_TM_run [.ref 0, .int v0] J G (some (.int r)) J' G') : zCW X 7 m_Law_run h_Law_run 0 0 [.ref 0, .int v0, .ref 59] (hp J G) 60 (some (.int 0)) (hp J' (va_up G' 59 (vp_updL (G' 59) 0 r.toInt64))) 60 := by
  refine zCW_of (by decide) rfl (Nat.le_of_ble_eq_true rfl) ?_
  refine z_aload_n d_Law_run_0 rfl ?_
  refine z_iconst (v := 0) d_Law_run_1 (by decide) ?_
  refine z_aload_n d_Law_run_2 rfl ?_
  refine z_iload_n d_Law_run_3 rfl ?_
  refine z_callV1 d_Law_run_4 g_Law_48 (hm) (by omega) rfl rfl rfl ⟨by show d + 4 ≤ 10; omega, by show 33 * d + 33 ≤ 231; omega, by decide, by decide⟩ rfl (Nat.le_of_ble_eq_true rfl) ?_
  refine z_i2l d_Law_run_7 ?_
  refine z_last d_Law_run_8 (by omega) rfl ⟨rfl, by decide, by decide⟩ (hp_al rfl) ?_
  refine z_goto d_Law_run_9 15 (by decide) ?_
  refine z_iconst (v := 0) d_Law_run_15 (by decide) ?_
  exact z_iret d_Law_run_16 rfl (by decide) (by decide) (by first | rfl | (simp_all; done) | grind) rfl
theorem k_run_A : zCat m_Law_run "java/lang/IllegalArgumentException" 4 12 := zCat1 (a0 := 0) (a1 := 9) (ct := 13) (hr := []) (zWA_of (i := 602) (by decide +kernel) (by decide +kernel)) (zWA_of (i := 330) (by decide +kernel) (by decide +kernel)) (by decide)
set_option maxRecDepth 100000 in
set_option maxHeartbeats 4000000 in
theorem w_run_A (X : zX) (J : zJT) (G : zGT) (v0 : Int32) {d : Nat} (hd : d ≤ 6) (hm : zKT X d m_TM_run [.ref 0, .int v0] J G "java/lang/IllegalArgumentException") : zCW X 7 m_Law_run h_Law_run 1 6 [.ref 0, .int v0, .ref 59] (hp J G) 60 (some (.int 1)) (hp J G) 60 := by
  refine zCW_of (by decide) rfl (Nat.le_of_ble_eq_true rfl) ?_
  refine z_aload_n d_Law_run_0 rfl ?_
  refine z_iconst (v := 0) d_Law_run_1 (by decide) ?_
  refine z_aload_n d_Law_run_2 rfl ?_
  refine z_iload_n d_Law_run_3 rfl ?_
  refine z_callC (len := 1) (i := 3) d_Law_run_4 g_Law_48 (hm) (by omega) rfl rfl rfl ⟨by show d + 4 ≤ 10; omega, by show 33 * d + 33 ≤ 231; omega, by decide, by decide⟩ rfl (Nat.le_of_ble_eq_true rfl) k_run_A (Or.inr ⟨rfl, 3, rfl, d_Law_run_12⟩) (by decide) (by simp [lv_args, Value.category]) ?_
  refine z_iconst (v := 1) d_Law_run_13 (by decide) ?_
  exact z_iret d_Law_run_14 rfl (by decide) (by decide) (by first | rfl | (simp_all; done) | grind) rfl
abbrev h_Law_result : List (Nat × Nat × Nat × Nat) := [(0, 9, 12, 46)]
theorem d_Law_result_0 : decode m_Law_result.2.1 0 = .ok (.aload_n 3, 1) := by decide +kernel
theorem d_Law_result_1 : decode m_Law_result.2.1 1 = .ok (.iconst 0, 1) := by decide +kernel
theorem d_Law_result_2 : decode m_Law_result.2.1 2 = .ok (.aload_n 0, 1) := by decide +kernel
theorem d_Law_result_3 : decode m_Law_result.2.1 3 = .ok (.iload_n 1, 1) := by decide +kernel
theorem d_Law_result_4 : decode m_Law_result.2.1 4 = .ok (.iload_n 2, 1) := by decide +kernel
theorem d_Law_result_5 : decode m_Law_result.2.1 5 = .ok (.invokevirtual 51, 3) := by decide +kernel
theorem d_Law_result_8 : decode m_Law_result.2.1 8 = .ok (.lastore, 1) := by decide +kernel
theorem d_Law_result_9 : decode m_Law_result.2.1 9 = .ok (.goto 7, 3) := by decide +kernel
theorem d_Law_result_12 : decode m_Law_result.2.1 12 = .ok (.astore 4, 2) := by decide +kernel
theorem d_Law_result_14 : decode m_Law_result.2.1 14 = .ok (.iconst 1, 1) := by decide +kernel
theorem d_Law_result_15 : decode m_Law_result.2.1 15 = .ok (.ireturn, 1) := by decide +kernel
theorem d_Law_result_16 : decode m_Law_result.2.1 16 = .ok (.iconst 0, 1) := by decide +kernel
theorem d_Law_result_17 : decode m_Law_result.2.1 17 = .ok (.ireturn, 1) := by decide +kernel
theorem g_Law_51 : zGv "TableMachineLaw" 51 m_TM_result 2 := ⟨⟨zWA_of (i := 723) (by decide +kernel) (by decide +kernel), zWA_of (i := 1) (by decide +kernel) (by decide +kernel), ⟨by decide +kernel, by decide +kernel, by decide +kernel⟩, by decide⟩, zWA_of (i := 720) (by decide +kernel) (by decide +kernel), zWA_of (i := 721) (by decide +kernel) (by decide +kernel), zWA_of (i := 722) (by decide +kernel) (by decide +kernel)⟩
set_option maxRecDepth 100000 in
set_option maxHeartbeats 4000000 in
theorem w_result (X : zX) (J : zJT) (G : zGT) (v0 : Int32) (v1 : Int32) {d : Nat} (hd : d ≤ 6) (r : Int64) {J' : zJT} {G' : zGT} (hm : zK X d m_TM_result [.ref 0, .int v0, .int v1] J G (some (.long r)) J' G') : zCW X 7 m_Law_result h_Law_result 0 0 [.ref 0, .int v0, .int v1, .ref 59] (hp J G) 60 (some (.int 0)) (hp J' (va_up G' 59 (vp_updL (G' 59) 0 r))) 60 := by
  refine zCW_of (by decide) rfl (Nat.le_of_ble_eq_true rfl) ?_
  refine z_aload_n d_Law_result_0 rfl ?_
  refine z_iconst (v := 0) d_Law_result_1 (by decide) ?_
  refine z_aload_n d_Law_result_2 rfl ?_
  refine z_iload_n d_Law_result_3 rfl ?_
  refine z_iload_n d_Law_result_4 rfl ?_
  refine z_callV1 d_Law_result_5 g_Law_51 (hm) (by omega) rfl rfl rfl ⟨by show d + 4 ≤ 10; omega, by show 33 * d + 33 ≤ 231; omega, by decide, by decide⟩ rfl (Nat.le_of_ble_eq_true rfl) ?_
  refine z_last d_Law_result_8 (by omega) rfl ⟨rfl, by decide, by decide⟩ (hp_al rfl) ?_
  refine z_goto d_Law_result_9 16 (by decide) ?_
  refine z_iconst (v := 0) d_Law_result_16 (by decide) ?_
  exact z_iret d_Law_result_17 rfl (by decide) (by decide) (by first | rfl | (simp_all; done) | grind) rfl
theorem k_result_I : zCat m_Law_result "java/lang/IndexOutOfBoundsException" 5 12 := zCat1 (a0 := 0) (a1 := 9) (ct := 46) (hr := []) (zWA_of (i := 719) (by decide +kernel) (by decide +kernel)) (zWA_of (i := 575) (by decide +kernel) (by decide +kernel)) (by decide)
set_option maxRecDepth 100000 in
set_option maxHeartbeats 4000000 in
theorem w_result_I (X : zX) (J : zJT) (G : zGT) (v0 : Int32) (v1 : Int32) {d : Nat} (hd : d ≤ 6) (hm : zKT X d m_TM_result [.ref 0, .int v0, .int v1] J G "java/lang/IndexOutOfBoundsException") : zCW X 7 m_Law_result h_Law_result 1 6 [.ref 0, .int v0, .int v1, .ref 59] (hp J G) 60 (some (.int 1)) (hp J G) 60 := by
  refine zCW_of (by decide) rfl (Nat.le_of_ble_eq_true rfl) ?_
  refine z_aload_n d_Law_result_0 rfl ?_
  refine z_iconst (v := 0) d_Law_result_1 (by decide) ?_
  refine z_aload_n d_Law_result_2 rfl ?_
  refine z_iload_n d_Law_result_3 rfl ?_
  refine z_iload_n d_Law_result_4 rfl ?_
  refine z_callC (len := 2) (i := 4) d_Law_result_5 g_Law_51 (hm) (by omega) rfl rfl rfl ⟨by show d + 4 ≤ 10; omega, by show 33 * d + 33 ≤ 231; omega, by decide, by decide⟩ rfl (Nat.le_of_ble_eq_true rfl) k_result_I (Or.inl ⟨rfl, d_Law_result_12⟩) (by decide) (by simp [lv_args, Value.category]) ?_
  refine z_iconst (v := 1) d_Law_result_14 (by decide) ?_
  exact z_iret d_Law_result_15 rfl (by decide) (by decide) (by first | rfl | (simp_all; done) | grind) rfl
abbrev h_Law_wasNull : List (Nat × Nat × Nat × Nat) := [(0, 17, 20, 46)]
theorem d_Law_wasNull_0 : decode m_Law_wasNull.2.1 0 = .ok (.aload_n 3, 1) := by decide +kernel
theorem d_Law_wasNull_1 : decode m_Law_wasNull.2.1 1 = .ok (.iconst 0, 1) := by decide +kernel
theorem d_Law_wasNull_2 : decode m_Law_wasNull.2.1 2 = .ok (.aload_n 0, 1) := by decide +kernel
theorem d_Law_wasNull_3 : decode m_Law_wasNull.2.1 3 = .ok (.iload_n 1, 1) := by decide +kernel
theorem d_Law_wasNull_4 : decode m_Law_wasNull.2.1 4 = .ok (.iload_n 2, 1) := by decide +kernel
theorem d_Law_wasNull_5 : decode m_Law_wasNull.2.1 5 = .ok (.invokevirtual 55, 3) := by decide +kernel
theorem d_Law_wasNull_8 : decode m_Law_wasNull.2.1 8 = .ok (.ifCond .eq 7, 3) := by decide +kernel
theorem d_Law_wasNull_11 : decode m_Law_wasNull.2.1 11 = .ok (.lconst 1, 1) := by decide +kernel
theorem d_Law_wasNull_12 : decode m_Law_wasNull.2.1 12 = .ok (.goto 4, 3) := by decide +kernel
theorem d_Law_wasNull_15 : decode m_Law_wasNull.2.1 15 = .ok (.lconst 0, 1) := by decide +kernel
theorem d_Law_wasNull_16 : decode m_Law_wasNull.2.1 16 = .ok (.lastore, 1) := by decide +kernel
theorem d_Law_wasNull_17 : decode m_Law_wasNull.2.1 17 = .ok (.goto 7, 3) := by decide +kernel
theorem d_Law_wasNull_20 : decode m_Law_wasNull.2.1 20 = .ok (.astore 4, 2) := by decide +kernel
theorem d_Law_wasNull_22 : decode m_Law_wasNull.2.1 22 = .ok (.iconst 1, 1) := by decide +kernel
theorem d_Law_wasNull_23 : decode m_Law_wasNull.2.1 23 = .ok (.ireturn, 1) := by decide +kernel
theorem d_Law_wasNull_24 : decode m_Law_wasNull.2.1 24 = .ok (.iconst 0, 1) := by decide +kernel
theorem d_Law_wasNull_25 : decode m_Law_wasNull.2.1 25 = .ok (.ireturn, 1) := by decide +kernel
theorem g_Law_55 : zGv "TableMachineLaw" 55 m_TM_wasNull 2 := ⟨⟨zWA_of (i := 740) (by decide +kernel) (by decide +kernel), zWA_of (i := 1) (by decide +kernel) (by decide +kernel), ⟨by decide +kernel, by decide +kernel, by decide +kernel⟩, by decide⟩, zWA_of (i := 737) (by decide +kernel) (by decide +kernel), zWA_of (i := 738) (by decide +kernel) (by decide +kernel), zWA_of (i := 739) (by decide +kernel) (by decide +kernel)⟩
set_option maxRecDepth 100000 in
set_option maxHeartbeats 4000000 in
theorem w_wasNull0 (X : zX) (J : zJT) (G : zGT) (v0 : Int32) (v1 : Int32) {d : Nat} (hd : d ≤ 6) {J' : zJT} {G' : zGT} (hm : zK X d m_TM_wasNull [.ref 0, .int v0, .int v1] J G (some (.int 0)) J' G') : zCW X 7 m_Law_wasNull h_Law_wasNull 0 0 [.ref 0, .int v0, .int v1, .ref 59] (hp J G) 60 (some (.int 0)) (hp J' (va_up G' 59 (vp_updL (G' 59) 0 0))) 60 := by
  refine zCW_of (by decide) rfl (Nat.le_of_ble_eq_true rfl) ?_
  refine z_aload_n d_Law_wasNull_0 rfl ?_
  refine z_iconst (v := 0) d_Law_wasNull_1 (by decide) ?_
  refine z_aload_n d_Law_wasNull_2 rfl ?_
  refine z_iload_n d_Law_wasNull_3 rfl ?_
  refine z_iload_n d_Law_wasNull_4 rfl ?_
  refine z_callV1 d_Law_wasNull_5 g_Law_55 (hm) (by omega) rfl rfl rfl ⟨by show d + 4 ≤ 10; omega, by show 33 * d + 33 ≤ 231; omega, by decide, by decide⟩ rfl (Nat.le_of_ble_eq_true rfl) ?_
  refine z_if_eq d_Law_wasNull_8 15 (by decide) (fun _ => ?_) (fun h9 => absurd rfl h9)
  refine z_lconst (v := 0) d_Law_wasNull_15 (by decide) ?_
  refine z_last d_Law_wasNull_16 (by omega) rfl ⟨rfl, by decide, by decide⟩ (hp_al rfl) ?_
  refine z_goto d_Law_wasNull_17 24 (by decide) ?_
  refine z_iconst (v := 0) d_Law_wasNull_24 (by decide) ?_
  exact z_iret d_Law_wasNull_25 rfl (by decide) (by decide) (by first | rfl | (simp_all; done) | grind) rfl
set_option maxRecDepth 100000 in
set_option maxHeartbeats 4000000 in
theorem w_wasNull1 (X : zX) (J : zJT) (G : zGT) (v0 : Int32) (v1 : Int32) {d : Nat} (hd : d ≤ 6) {J' : zJT} {G' : zGT} (hm : zK X d m_TM_wasNull [.ref 0, .int v0, .int v1] J G (some (.int 1)) J' G') : zCW X 7 m_Law_wasNull h_Law_wasNull 0 0 [.ref 0, .int v0, .int v1, .ref 59] (hp J G) 60 (some (.int 0)) (hp J' (va_up G' 59 (vp_updL (G' 59) 0 1))) 60 := by
  refine zCW_of (by decide) rfl (Nat.le_of_ble_eq_true rfl) ?_
  refine z_aload_n d_Law_wasNull_0 rfl ?_
  refine z_iconst (v := 0) d_Law_wasNull_1 (by decide) ?_
  refine z_aload_n d_Law_wasNull_2 rfl ?_
  refine z_iload_n d_Law_wasNull_3 rfl ?_
  refine z_iload_n d_Law_wasNull_4 rfl ?_
  refine z_callV1 d_Law_wasNull_5 g_Law_55 (hm) (by omega) rfl rfl rfl ⟨by show d + 4 ≤ 10; omega, by show 33 * d + 33 ≤ 231; omega, by decide, by decide⟩ rfl (Nat.le_of_ble_eq_true rfl) ?_
  refine z_if_eq d_Law_wasNull_8 15 (by decide) (fun h9 => absurd h9 (by decide)) (fun _ => ?_)
  refine z_lconst (v := 1) d_Law_wasNull_11 (by decide) ?_
  refine z_goto d_Law_wasNull_12 16 (by decide) ?_
  refine z_last d_Law_wasNull_16 (by omega) rfl ⟨rfl, by decide, by decide⟩ (hp_al rfl) ?_
  refine z_goto d_Law_wasNull_17 24 (by decide) ?_
  refine z_iconst (v := 0) d_Law_wasNull_24 (by decide) ?_
  exact z_iret d_Law_wasNull_25 rfl (by decide) (by decide) (by first | rfl | (simp_all; done) | grind) rfl
theorem k_wasNull_I : zCat m_Law_wasNull "java/lang/IndexOutOfBoundsException" 5 20 := zCat1 (a0 := 0) (a1 := 17) (ct := 46) (hr := []) (zWA_of (i := 736) (by decide +kernel) (by decide +kernel)) (zWA_of (i := 575) (by decide +kernel) (by decide +kernel)) (by decide)
set_option maxRecDepth 100000 in
set_option maxHeartbeats 4000000 in
theorem w_wasNull_I (X : zX) (J : zJT) (G : zGT) (v0 : Int32) (v1 : Int32) {d : Nat} (hd : d ≤ 6) (hm : zKT X d m_TM_wasNull [.ref 0, .int v0, .int v1] J G "java/lang/IndexOutOfBoundsException") : zCW X 7 m_Law_wasNull h_Law_wasNull 1 6 [.ref 0, .int v0, .int v1, .ref 59] (hp J G) 60 (some (.int 1)) (hp J G) 60 := by
  refine zCW_of (by decide) rfl (Nat.le_of_ble_eq_true rfl) ?_
  refine z_aload_n d_Law_wasNull_0 rfl ?_
  refine z_iconst (v := 0) d_Law_wasNull_1 (by decide) ?_
  refine z_aload_n d_Law_wasNull_2 rfl ?_
  refine z_iload_n d_Law_wasNull_3 rfl ?_
  refine z_iload_n d_Law_wasNull_4 rfl ?_
  refine z_callC (len := 2) (i := 4) d_Law_wasNull_5 g_Law_55 (hm) (by omega) rfl rfl rfl ⟨by show d + 4 ≤ 10; omega, by show 33 * d + 33 ≤ 231; omega, by decide, by decide⟩ rfl (Nat.le_of_ble_eq_true rfl) k_wasNull_I (Or.inl ⟨rfl, d_Law_wasNull_20⟩) (by decide) (by simp [lv_args, Value.category]) ?_
  refine z_iconst (v := 1) d_Law_wasNull_22 (by decide) ?_
  exact z_iret d_Law_wasNull_23 rfl (by decide) (by decide) (by first | rfl | (simp_all; done) | grind) rfl
abbrev h_Law_compile : List (Nat × Nat × Nat × Nat) := [(0, 8, 11, 15)]
theorem d_Law_compile_0 : decode m_Law_compile.2.1 0 = .ok (.aload_n 1, 1) := by decide +kernel
theorem d_Law_compile_1 : decode m_Law_compile.2.1 1 = .ok (.iconst 0, 1) := by decide +kernel
theorem d_Law_compile_2 : decode m_Law_compile.2.1 2 = .ok (.aload_n 0, 1) := by decide +kernel
theorem d_Law_compile_3 : decode m_Law_compile.2.1 3 = .ok (.invokevirtual 59, 3) := by decide +kernel
theorem d_Law_compile_6 : decode m_Law_compile.2.1 6 = .ok (.i2l, 1) := by decide +kernel
theorem d_Law_compile_7 : decode m_Law_compile.2.1 7 = .ok (.lastore, 1) := by decide +kernel
theorem d_Law_compile_8 : decode m_Law_compile.2.1 8 = .ok (.goto 6, 3) := by decide +kernel
theorem d_Law_compile_11 : decode m_Law_compile.2.1 11 = .ok (.astore_n 2, 1) := by decide +kernel
theorem d_Law_compile_12 : decode m_Law_compile.2.1 12 = .ok (.iconst 1, 1) := by decide +kernel
theorem d_Law_compile_13 : decode m_Law_compile.2.1 13 = .ok (.ireturn, 1) := by decide +kernel
theorem d_Law_compile_14 : decode m_Law_compile.2.1 14 = .ok (.iconst 0, 1) := by decide +kernel
theorem d_Law_compile_15 : decode m_Law_compile.2.1 15 = .ok (.ireturn, 1) := by decide +kernel
theorem g_Law_59 : zGv "TableMachineLaw" 59 m_TM_compile 0 := ⟨⟨zWA_of (i := 747) (by decide +kernel) (by decide +kernel), zWA_of (i := 1) (by decide +kernel) (by decide +kernel), ⟨by decide +kernel, by decide +kernel, by decide +kernel⟩, by decide⟩, zWA_of (i := 744) (by decide +kernel) (by decide +kernel), zWA_of (i := 745) (by decide +kernel) (by decide +kernel), zWA_of (i := 746) (by decide +kernel) (by decide +kernel)⟩
set_option maxRecDepth 100000 in
set_option maxHeartbeats 4000000 in
theorem w_compile (X : zX) (J : zJT) (G : zGT)  {d : Nat} (hd : d ≤ 6) (r : Int32) {J' : zJT} {G' : zGT} (hm : zK X d m_TM_compile [.ref 0] J G (some (.int r)) J' G') : zCW X 7 m_Law_compile h_Law_compile 0 0 [.ref 0, .ref 59] (hp J G) 60 (some (.int 0)) (hp J' (va_up G' 59 (vp_updL (G' 59) 0 r.toInt64))) 60 := by
  refine zCW_of (by decide) rfl (Nat.le_of_ble_eq_true rfl) ?_
  refine z_aload_n d_Law_compile_0 rfl ?_
  refine z_iconst (v := 0) d_Law_compile_1 (by decide) ?_
  refine z_aload_n d_Law_compile_2 rfl ?_
  refine z_callV1 d_Law_compile_3 g_Law_59 (hm) (by omega) rfl rfl rfl ⟨by show d + 4 ≤ 10; omega, by show 33 * d + 33 ≤ 231; omega, by decide, by decide⟩ rfl (Nat.le_of_ble_eq_true rfl) ?_
  refine z_i2l d_Law_compile_6 ?_
  refine z_last d_Law_compile_7 (by omega) rfl ⟨rfl, by decide, by decide⟩ (hp_al rfl) ?_
  refine z_goto d_Law_compile_8 14 (by decide) ?_
  refine z_iconst (v := 0) d_Law_compile_14 (by decide) ?_
  exact z_iret d_Law_compile_15 rfl (by decide) (by decide) (by first | rfl | (simp_all; done) | grind) rfl
theorem k_compile_S : zCat m_Law_compile "java/lang/IllegalStateException" 3 11 := zCat1 (a0 := 0) (a1 := 8) (ct := 15) (hr := []) (zWA_of (i := 743) (by decide +kernel) (by decide +kernel)) (zWA_of (i := 331) (by decide +kernel) (by decide +kernel)) (by decide)
set_option maxRecDepth 100000 in
set_option maxHeartbeats 4000000 in
theorem w_compile_S (X : zX) (J : zJT) (G : zGT)  {d : Nat} (hd : d ≤ 6) (hm : zKT X d m_TM_compile [.ref 0] J G "java/lang/IllegalStateException") : zCW X 7 m_Law_compile h_Law_compile 1 6 [.ref 0, .ref 59] (hp J G) 60 (some (.int 1)) (hp J G) 60 := by
  refine zCW_of (by decide) rfl (Nat.le_of_ble_eq_true rfl) ?_
  refine z_aload_n d_Law_compile_0 rfl ?_
  refine z_iconst (v := 0) d_Law_compile_1 (by decide) ?_
  refine z_aload_n d_Law_compile_2 rfl ?_
  refine z_callC (len := 1) (i := 2) d_Law_compile_3 g_Law_59 (hm) (by omega) rfl rfl rfl ⟨by show d + 4 ≤ 10; omega, by show 33 * d + 33 ≤ 231; omega, by decide, by decide⟩ rfl (Nat.le_of_ble_eq_true rfl) k_compile_S (Or.inr ⟨rfl, 2, rfl, d_Law_compile_11⟩) (by decide) (by simp [lv_args, Value.category]) ?_
  refine z_iconst (v := 1) d_Law_compile_12 (by decide) ?_
  exact z_iret d_Law_compile_13 rfl (by decide) (by decide) (by first | rfl | (simp_all; done) | grind) rfl
