theorem nI_m1 {u : Nat} (h : u < 2 ^ 31) : ¬ nI u = -1 := fun h9 => by
  have h8 := nI_toInt h
  rw [h9] at h8
  rw [show (-1 : Int32).toInt = -1 from by decide] at h8
  omega
set_option maxRecDepth 100000 in
set_option maxHeartbeats 4000000 in
theorem c_Mac_advance0 (X : zX) {c : Nat} (hc : c < 3) (J : zJT) (G : zGT) (hk : J (26 + c) 1 = 0) : zK X 2 m_Mac_advance [.ref 1, .ref (26 + c)] J G (some (.int 0)) J G := by
  refine zC_of (by decide) (Nat.le_of_ble_eq_true rfl) ?_
  refine z_aload_n d_Mac_advance_0 rfl ?_
  refine z_get d_Mac_advance_1 f_Mac_147 (by omega) (zc_c hc _ _) rfl ?_
  refine z_if_ne d_Mac_advance_4 9 (by decide) (fun h9 => absurd h9 (fun h9 => h9 hk)) (fun _ => ?_)
  refine z_iconst (v := 0) d_Mac_advance_7 (by decide) ?_
  exact z_zret d_Mac_advance_8 rfl (by decide) (by decide) (by decide) rfl rfl
set_option maxRecDepth 100000 in
set_option maxHeartbeats 4000000 in
theorem c_Mac_advance1 (X : zX) {c t n r : Nat} (hc : c < 3) (J : zJT) (G : zGT) (hT : zTn J t n) (ht : J (26 + c) 0 = nI t) (hk : J (26 + c) 1 = 1) (hr : r ≤ n) (hb : ∀ p, p < n → (zbl (zky J G t p) (G (26 + c) 2) true ↔ p < r)) (hp : r < n) : zK X 2 m_Mac_advance [.ref 1, .ref (26 + c)] J G (some (.int 1)) (va_up J (26 + c) (va_up (J (26 + c)) 1 (zb true))) (va_up G (26 + c) (va_up (G (26 + c)) 2 (zky J G t r))) := by
  have ht3 := hT.1
  have hn9 := hT.2.1
  have h8 : decide (nI r < J (9 + 2 * t) 1) = true := by rw [hT.2.2.1]; exact decide_eq_true (nI_lt hp (by omega))
  refine zC_of (by decide) (Nat.le_of_ble_eq_true rfl) ?_
  refine z_aload_n d_Mac_advance_0 rfl ?_
  refine z_get d_Mac_advance_1 f_Mac_147 (by omega) (zc_c hc _ _) rfl ?_
  refine z_if_ne d_Mac_advance_4 9 (by decide) (fun _ => ?_) (fun h9 => absurd h9 (by rw [hk]; decide))
  refine z_aload_n d_Mac_advance_9 rfl ?_
  refine z_get d_Mac_advance_10 f_Mac_12 (by omega) rfl rfl ?_
  refine z_aload_n d_Mac_advance_13 rfl ?_
  refine z_get d_Mac_advance_14 f_Mac_140 (by omega) (zc_c hc _ _) rfl ?_
  refine z_aload_n d_Mac_advance_17 rfl ?_
  refine z_get d_Mac_advance_18 f_Mac_155 (by omega) (zc_c hc _ _) rfl ?_
  refine z_iconst (v := 1) d_Mac_advance_21 (by decide) ?_
  rw [ht]
  refine z_callV1 d_Mac_advance_22 g_Mac_159 (c_Sto_rows X J G hT (G (26 + c) 2) true hr hb) (by omega) rfl rfl rfl ⟨by decide, by decide, by decide, by decide⟩ rfl (Nat.le_of_ble_eq_true rfl) ?_
  refine z_istore_n (lv' := [(0, _), (1, _), (2, _)]) d_Mac_advance_25 (by decide) rfl ?_
  refine z_aload_n d_Mac_advance_26 rfl ?_
  refine z_get d_Mac_advance_27 f_Mac_12 (by omega) rfl rfl ?_
  refine z_aload_n d_Mac_advance_30 rfl ?_
  refine z_get d_Mac_advance_31 f_Mac_140 (by omega) (zc_c hc _ _) rfl ?_
  refine z_iload_n d_Mac_advance_34 rfl ?_
  rw [ht]
  refine z_callV1 d_Mac_advance_35 g_Mac_143 (c_Sto_hasPlace X ht3 J G (nI r)) (by omega) rfl rfl rfl ⟨by decide, by decide, by decide, by decide⟩ rfl (Nat.le_of_ble_eq_true rfl) ?_
  refine z_if_eq d_Mac_advance_38 54 (by decide) (fun h9 => absurd h9 (by rw [h8]; decide)) (fun _ => ?_)
  refine z_aload_n d_Mac_advance_41 rfl ?_
  refine z_aload_n d_Mac_advance_42 rfl ?_
  refine z_iload_n d_Mac_advance_43 rfl ?_
  refine z_callV1 d_Mac_advance_44 g_Mac_89 (c_Mac_moveTo1 X hc J G hT ht hp) (by omega) rfl rfl rfl ⟨by decide, by decide, by decide, by decide⟩ rfl (Nat.le_of_ble_eq_true rfl) ?_
  refine z_if_eq d_Mac_advance_47 54 (by decide) (fun h9 => absurd h9 (by decide)) (fun _ => ?_)
  refine z_iconst (v := 1) d_Mac_advance_50 (by decide) ?_
  refine z_goto d_Mac_advance_51 55 (by decide) ?_
  exact z_zret d_Mac_advance_55 rfl (by decide) (by decide) (by decide) rfl rfl
set_option maxRecDepth 100000 in
set_option maxHeartbeats 4000000 in
theorem c_Mac_advance2 (X : zX) {c t n r : Nat} (hc : c < 3) (J : zJT) (G : zGT) (hT : zTn J t n) (ht : J (26 + c) 0 = nI t) (hk : J (26 + c) 1 = 1) (hr : r ≤ n) (hb : ∀ p, p < n → (zbl (zky J G t p) (G (26 + c) 2) true ↔ p < r)) (hp : n ≤ r) : zK X 2 m_Mac_advance [.ref 1, .ref (26 + c)] J G (some (.int 0)) J G := by
  have ht3 := hT.1
  have hn9 := hT.2.1
  have h8 : decide (nI r < J (9 + 2 * t) 1) = false := by rw [hT.2.2.1]; exact decide_eq_false (nI_nlt hp (by omega))
  refine zC_of (by decide) (Nat.le_of_ble_eq_true rfl) ?_
  refine z_aload_n d_Mac_advance_0 rfl ?_
  refine z_get d_Mac_advance_1 f_Mac_147 (by omega) (zc_c hc _ _) rfl ?_
  refine z_if_ne d_Mac_advance_4 9 (by decide) (fun _ => ?_) (fun h9 => absurd h9 (by rw [hk]; decide))
  refine z_aload_n d_Mac_advance_9 rfl ?_
  refine z_get d_Mac_advance_10 f_Mac_12 (by omega) rfl rfl ?_
  refine z_aload_n d_Mac_advance_13 rfl ?_
  refine z_get d_Mac_advance_14 f_Mac_140 (by omega) (zc_c hc _ _) rfl ?_
  refine z_aload_n d_Mac_advance_17 rfl ?_
  refine z_get d_Mac_advance_18 f_Mac_155 (by omega) (zc_c hc _ _) rfl ?_
  refine z_iconst (v := 1) d_Mac_advance_21 (by decide) ?_
  rw [ht]
  refine z_callV1 d_Mac_advance_22 g_Mac_159 (c_Sto_rows X J G hT (G (26 + c) 2) true hr hb) (by omega) rfl rfl rfl ⟨by decide, by decide, by decide, by decide⟩ rfl (Nat.le_of_ble_eq_true rfl) ?_
  refine z_istore_n (lv' := [(0, _), (1, _), (2, _)]) d_Mac_advance_25 (by decide) rfl ?_
  refine z_aload_n d_Mac_advance_26 rfl ?_
  refine z_get d_Mac_advance_27 f_Mac_12 (by omega) rfl rfl ?_
  refine z_aload_n d_Mac_advance_30 rfl ?_
  refine z_get d_Mac_advance_31 f_Mac_140 (by omega) (zc_c hc _ _) rfl ?_
  refine z_iload_n d_Mac_advance_34 rfl ?_
  rw [ht]
  refine z_callV1 d_Mac_advance_35 g_Mac_143 (c_Sto_hasPlace X ht3 J G (nI r)) (by omega) rfl rfl rfl ⟨by decide, by decide, by decide, by decide⟩ rfl (Nat.le_of_ble_eq_true rfl) ?_
  refine z_if_eq d_Mac_advance_38 54 (by decide) (fun _ => ?_) (fun h9 => absurd (by rw [h8]; rfl) h9)
  refine z_iconst (v := 0) d_Mac_advance_54 (by decide) ?_
  exact z_zret d_Mac_advance_55 rfl (by decide) (by decide) (by decide) rfl rfl
set_option maxRecDepth 100000 in
set_option maxHeartbeats 4000000 in
theorem c_Mac_seek0 (X : zX) {c : Nat} (hc : c < 3) (J : zJT) (G : zGT) {i : Nat} (hi : i < 16) (hvi : J 24 i = 0) : zK X 2 m_Mac_seek [.ref 1, .ref (26 + c), .int (nI i)] J G (some (.int 0)) (va_up J (26 + c) (va_up (J (26 + c)) 1 (zb false))) G := by
  refine zC_of (by decide) (Nat.le_of_ble_eq_true rfl) ?_
  refine z_aload_n d_Mac_seek_0 rfl ?_
  refine z_get d_Mac_seek_1 f_Mac_37 (by omega) rfl rfl ?_
  refine z_iload_n d_Mac_seek_4 rfl ?_
  refine z_callV1 d_Mac_seek_5 g_Mac_125 (c_Val_has X 0 zVal22 (show zin (nI i) i 16 from ⟨rfl, hi, by decide⟩) J G (by rw [show J (22 + 2) i = 0 from hvi]; decide)) (by omega) rfl rfl rfl ⟨by decide, by decide, by decide, by decide⟩ rfl (Nat.le_of_ble_eq_true rfl) ?_
  refine z_if_ne d_Mac_seek_8 18 (by decide) (fun h9 => absurd h9 (fun h9 => h9 hvi)) (fun _ => ?_)
  refine z_aload_n d_Mac_seek_11 rfl ?_
  refine z_iconst (v := 0) d_Mac_seek_12 (by decide) ?_
  refine z_put d_Mac_seek_13 f_Mac_147 p_5_1 (by omega) (zc_c hc _ _) (Nat.le_of_ble_eq_true rfl) (zb_n false) (zb_f false) (hp_c1 hc) ?_
  refine z_iconst (v := 0) d_Mac_seek_16 (by decide) ?_
  exact z_zret d_Mac_seek_17 rfl (by decide) (by decide) (by decide) rfl rfl
set_option maxRecDepth 100000 in
set_option maxHeartbeats 4000000 in
theorem c_Mac_seek1_1 (X : zX) {c t n r : Nat} (hc : c < 3) (J : zJT) (G : zGT) (hT : zTn J t n) (ht : J (26 + c) 0 = nI t) {i : Nat} (hi : i < 16) (hvi : J 24 i = 1) (hr : r ≤ n) (hb : ∀ p, p < n → (zbl (zky J G t p) (G 23 i) false ↔ p < r)) (hp : r < n) : zK X 2 m_Mac_seek [.ref 1, .ref (26 + c), .int (nI i)] J G (some (.int 1)) (va_up J (26 + c) (va_up (J (26 + c)) 1 (zb true))) (va_up G (26 + c) (va_up (G (26 + c)) 2 (zky J G t r))) := by
  have ht3 := hT.1
  have hn9 := hT.2.1
  refine zC_of (by decide) (Nat.le_of_ble_eq_true rfl) ?_
  refine z_aload_n d_Mac_seek_0 rfl ?_
  refine z_get d_Mac_seek_1 f_Mac_37 (by omega) rfl rfl ?_
  refine z_iload_n d_Mac_seek_4 rfl ?_
  refine z_callV1 d_Mac_seek_5 g_Mac_125 (c_Val_has X 0 zVal22 (show zin (nI i) i 16 from ⟨rfl, hi, by decide⟩) J G (by rw [show J (22 + 2) i = 1 from hvi]; decide)) (by omega) rfl rfl rfl ⟨by decide, by decide, by decide, by decide⟩ rfl (Nat.le_of_ble_eq_true rfl) ?_
  refine z_if_ne d_Mac_seek_8 18 (by decide) (fun _ => ?_) (fun h9 => absurd h9 (by rw [show J (22 + 2) i = 1 from hvi]; decide))
  refine z_aload_n d_Mac_seek_18 rfl ?_
  refine z_aload_n d_Mac_seek_19 rfl ?_
  refine z_aload_n d_Mac_seek_20 rfl ?_
  refine z_get d_Mac_seek_21 f_Mac_12 (by omega) rfl rfl ?_
  refine z_aload_n d_Mac_seek_24 rfl ?_
  refine z_get d_Mac_seek_25 f_Mac_140 (by omega) (zc_c hc _ _) rfl ?_
  refine z_aload_n d_Mac_seek_28 rfl ?_
  refine z_get d_Mac_seek_29 f_Mac_37 (by omega) rfl rfl ?_
  refine z_iload_n d_Mac_seek_32 rfl ?_
  refine z_callV1 d_Mac_seek_33 g_Mac_163 (c_Val_number X 0 zVal22 (show zin (nI i) i 16 from ⟨rfl, hi, by decide⟩) J G) (by omega) rfl rfl rfl ⟨by decide, by decide, by decide, by decide⟩ rfl (Nat.le_of_ble_eq_true rfl) ?_
  refine z_iconst (v := 0) d_Mac_seek_36 (by decide) ?_
  rw [ht]
  refine z_callV1 d_Mac_seek_37 g_Mac_159 (c_Sto_rows X J G hT (G 23 i) false hr hb) (by omega) rfl rfl rfl ⟨by decide, by decide, by decide, by decide⟩ rfl (Nat.le_of_ble_eq_true rfl) ?_
  refine z_callV1 d_Mac_seek_40 g_Mac_89 (c_Mac_moveTo1 X hc J G hT ht hp) (by omega) rfl rfl rfl ⟨by decide, by decide, by decide, by decide⟩ rfl (Nat.le_of_ble_eq_true rfl) ?_
  exact z_zret d_Mac_seek_43 rfl (by decide) (by decide) (by decide) rfl rfl
set_option maxRecDepth 100000 in
set_option maxHeartbeats 4000000 in
theorem c_Mac_seek1_0 (X : zX) {c t n r : Nat} (hc : c < 3) (J : zJT) (G : zGT) (hT : zTn J t n) (ht : J (26 + c) 0 = nI t) {i : Nat} (hi : i < 16) (hvi : J 24 i = 1) (hr : r ≤ n) (hb : ∀ p, p < n → (zbl (zky J G t p) (G 23 i) false ↔ p < r)) (hp : n ≤ r) : zK X 2 m_Mac_seek [.ref 1, .ref (26 + c), .int (nI i)] J G (some (.int 0)) (va_up J (26 + c) (va_up (J (26 + c)) 1 (zb false))) G := by
  have ht3 := hT.1
  have hn9 := hT.2.1
  refine zC_of (by decide) (Nat.le_of_ble_eq_true rfl) ?_
  refine z_aload_n d_Mac_seek_0 rfl ?_
  refine z_get d_Mac_seek_1 f_Mac_37 (by omega) rfl rfl ?_
  refine z_iload_n d_Mac_seek_4 rfl ?_
  refine z_callV1 d_Mac_seek_5 g_Mac_125 (c_Val_has X 0 zVal22 (show zin (nI i) i 16 from ⟨rfl, hi, by decide⟩) J G (by rw [show J (22 + 2) i = 1 from hvi]; decide)) (by omega) rfl rfl rfl ⟨by decide, by decide, by decide, by decide⟩ rfl (Nat.le_of_ble_eq_true rfl) ?_
  refine z_if_ne d_Mac_seek_8 18 (by decide) (fun _ => ?_) (fun h9 => absurd h9 (by rw [show J (22 + 2) i = 1 from hvi]; decide))
  refine z_aload_n d_Mac_seek_18 rfl ?_
  refine z_aload_n d_Mac_seek_19 rfl ?_
  refine z_aload_n d_Mac_seek_20 rfl ?_
  refine z_get d_Mac_seek_21 f_Mac_12 (by omega) rfl rfl ?_
  refine z_aload_n d_Mac_seek_24 rfl ?_
  refine z_get d_Mac_seek_25 f_Mac_140 (by omega) (zc_c hc _ _) rfl ?_
  refine z_aload_n d_Mac_seek_28 rfl ?_
  refine z_get d_Mac_seek_29 f_Mac_37 (by omega) rfl rfl ?_
  refine z_iload_n d_Mac_seek_32 rfl ?_
  refine z_callV1 d_Mac_seek_33 g_Mac_163 (c_Val_number X 0 zVal22 (show zin (nI i) i 16 from ⟨rfl, hi, by decide⟩) J G) (by omega) rfl rfl rfl ⟨by decide, by decide, by decide, by decide⟩ rfl (Nat.le_of_ble_eq_true rfl) ?_
  refine z_iconst (v := 0) d_Mac_seek_36 (by decide) ?_
  rw [ht]
  refine z_callV1 d_Mac_seek_37 g_Mac_159 (c_Sto_rows X J G hT (G 23 i) false hr hb) (by omega) rfl rfl rfl ⟨by decide, by decide, by decide, by decide⟩ rfl (Nat.le_of_ble_eq_true rfl) ?_
  refine z_callV1 d_Mac_seek_40 g_Mac_89 (c_Mac_moveTo0 X hc J G hT ht ⟨hp, by omega⟩) (by omega) rfl rfl rfl ⟨by decide, by decide, by decide, by decide⟩ rfl (Nat.le_of_ble_eq_true rfl) ?_
  exact z_zret d_Mac_seek_43 rfl (by decide) (by decide) (by decide) rfl rfl
set_option maxRecDepth 100000 in
set_option maxHeartbeats 4000000 in
theorem c_Mac_slotAt0 (X : zX) {c : Nat} (hc : c < 3) (J : zJT) (G : zGT) (hk : J (26 + c) 1 = 0) : zK X 2 m_Mac_slotAt [.ref 1, .ref (26 + c)] J G (some (.int (-1))) J G := by
  refine zC_of (by decide) (Nat.le_of_ble_eq_true rfl) ?_
  refine z_aload_n d_Mac_slotAt_0 rfl ?_
  refine z_get d_Mac_slotAt_1 f_Mac_147 (by omega) (zc_c hc _ _) rfl ?_
  refine z_if_eq d_Mac_slotAt_4 25 (by decide) (fun _ => ?_) (fun h9 => absurd hk h9)
  refine z_iconst (v := (-1)) d_Mac_slotAt_25 (by decide) ?_
  exact z_iret d_Mac_slotAt_26 rfl (by decide) (by decide) rfl rfl
set_option maxRecDepth 100000 in
set_option maxHeartbeats 4000000 in
theorem c_Mac_slotAt1 (X : zX) {c t n r : Nat} (hc : c < 3) (J : zJT) (G : zGT) (hT : zTn J t n) (ht : J (26 + c) 0 = nI t) (hk : J (26 + c) 1 = 1) (hr : r ≤ n) (hb : ∀ p, p < n → (zbl (zky J G t p) (G (26 + c) 2) false ↔ p < r)) : zK X 2 m_Mac_slotAt [.ref 1, .ref (26 + c)] J G (some (.int (if r < n ∧ zky J G t r = G (26 + c) 2 then J (10 + 2 * t) r else -1))) J G := by
  have ht3 := hT.1
  have hn9 := hT.2.1
  refine zC_of (by decide) (Nat.le_of_ble_eq_true rfl) ?_
  refine z_aload_n d_Mac_slotAt_0 rfl ?_
  refine z_get d_Mac_slotAt_1 f_Mac_147 (by omega) (zc_c hc _ _) rfl ?_
  refine z_if_eq d_Mac_slotAt_4 25 (by decide) (fun h9 => absurd h9 (by rw [hk]; decide)) (fun _ => ?_)
  refine z_aload_n d_Mac_slotAt_7 rfl ?_
  refine z_get d_Mac_slotAt_8 f_Mac_12 (by omega) rfl rfl ?_
  refine z_aload_n d_Mac_slotAt_11 rfl ?_
  refine z_get d_Mac_slotAt_12 f_Mac_140 (by omega) (zc_c hc _ _) rfl ?_
  refine z_aload_n d_Mac_slotAt_15 rfl ?_
  refine z_get d_Mac_slotAt_16 f_Mac_155 (by omega) (zc_c hc _ _) rfl ?_
  rw [ht]
  refine z_callV1 d_Mac_slotAt_19 g_Mac_167 (c_Sto_slotOf X J G hT (G (26 + c) 2) hr hb) (by omega) rfl rfl rfl ⟨by decide, by decide, by decide, by decide⟩ rfl (Nat.le_of_ble_eq_true rfl) ?_
  refine z_goto d_Mac_slotAt_22 26 (by decide) ?_
  exact z_iret d_Mac_slotAt_26 rfl (by decide) (by decide) rfl rfl
set_option maxRecDepth 100000 in
set_option maxHeartbeats 4000000 in
theorem c_Mac_readColumn0 (X : zX) {c : Nat} (hc : c < 3) (J : zJT) (G : zGT) {i : Nat} (hi : i < 16) (k : Int32) (hs : zK X 2 m_Mac_slotAt [.ref 1, .ref (26 + c)] J G (some (.int (-1))) J G) : zK X 3 m_Mac_readColumn [.ref 1, .ref (26 + c), .int k, .int (nI i)] J G none (va_up J 24 (upd (J 24) i 0)) (va_up G 23 (vp_updL (G 23) i 0)) := by
  refine zC_of (by decide) (Nat.le_of_ble_eq_true rfl) ?_
  refine z_aload_n d_Mac_readColumn_0 rfl ?_
  refine z_aload_n d_Mac_readColumn_1 rfl ?_
  refine z_callV1 d_Mac_readColumn_2 g_Mac_171 (hs) (by omega) rfl rfl rfl ⟨by decide, by decide, by decide, by decide⟩ rfl (Nat.le_of_ble_eq_true rfl) ?_
  refine z_istore (lv' := [(0, _), (1, _), (2, _), (3, _), (4, _)]) d_Mac_readColumn_5 (by decide) rfl ?_
  refine z_iload d_Mac_readColumn_7 rfl ?_
  refine z_iconst (v := (-1)) d_Mac_readColumn_9 (by decide) ?_
  refine z_icmp_eq d_Mac_readColumn_10 28 (by decide) (fun _ => ?_) (fun h9 => absurd rfl h9)
  refine z_aload_n d_Mac_readColumn_28 rfl ?_
  refine z_get d_Mac_readColumn_29 f_Mac_37 (by omega) rfl rfl ?_
  refine z_iload_n d_Mac_readColumn_32 rfl ?_
  refine z_callV0 d_Mac_readColumn_33 g_Mac_122 (c_Val_clear X 0 zVal22 (show zin (nI i) i 16 from ⟨rfl, hi, by decide⟩) J G) (by omega) rfl rfl rfl ⟨by decide, by decide, by decide, by decide⟩ rfl (Nat.le_of_ble_eq_true rfl) ?_
  refine z_goto d_Mac_readColumn_36 60 (by decide) ?_
  exact z_vret d_Mac_readColumn_60 rfl (by decide) (by decide) rfl
set_option maxRecDepth 100000 in
set_option maxHeartbeats 4000000 in
theorem c_Mac_readColumn1 (X : zX) {c t : Nat} (hc : c < 3) (J : zJT) (G : zGT) {i : Nat} (hi : i < 16) (k v : Int32) (ht3 : t < 3) (ht : J (26 + c) 0 = nI t) (hv : ¬ v = -1) (hs : zK X 2 m_Mac_slotAt [.ref 1, .ref (26 + c)] J G (some (.int v)) J G) (hyes : (decide (0 ≤ nI t) && decide (nI t < J 2 1)) = true) (hcol : (decide (0 ≤ k) && decide (k < J (9 + 2 * t) 0)) = false) : zK X 3 m_Mac_readColumn [.ref 1, .ref (26 + c), .int k, .int (nI i)] J G none (va_up J 24 (upd (J 24) i 0)) (va_up G 23 (vp_updL (G 23) i 0)) := by
  refine zC_of (by decide) (Nat.le_of_ble_eq_true rfl) ?_
  refine z_aload_n d_Mac_readColumn_0 rfl ?_
  refine z_aload_n d_Mac_readColumn_1 rfl ?_
  refine z_callV1 d_Mac_readColumn_2 g_Mac_171 (hs) (by omega) rfl rfl rfl ⟨by decide, by decide, by decide, by decide⟩ rfl (Nat.le_of_ble_eq_true rfl) ?_
  refine z_istore (lv' := [(0, _), (1, _), (2, _), (3, _), (4, _)]) d_Mac_readColumn_5 (by decide) rfl ?_
  refine z_iload d_Mac_readColumn_7 rfl ?_
  refine z_iconst (v := (-1)) d_Mac_readColumn_9 (by decide) ?_
  refine z_icmp_eq d_Mac_readColumn_10 28 (by decide) (fun h9 => absurd h9 hv) (fun _ => ?_)
  refine z_aload_n d_Mac_readColumn_13 rfl ?_
  refine z_get d_Mac_readColumn_14 f_Mac_12 (by omega) rfl rfl ?_
  refine z_aload_n d_Mac_readColumn_17 rfl ?_
  refine z_get d_Mac_readColumn_18 f_Mac_140 (by omega) (zc_c hc _ _) rfl ?_
  refine z_iload_n d_Mac_readColumn_21 rfl ?_
  rw [ht]
  refine z_callV1 d_Mac_readColumn_22 g_Mac_175 (c_Sto_hasColumn X ht3 k J G hyes) (by omega) rfl rfl rfl ⟨by decide, by decide, by decide, by decide⟩ rfl (Nat.le_of_ble_eq_true rfl) ?_
  refine z_if_ne d_Mac_readColumn_25 39 (by decide) (fun h9 => absurd h9 (fun h9 => h9 (by rw [hcol]; rfl))) (fun _ => ?_)
  refine z_aload_n d_Mac_readColumn_28 rfl ?_
  refine z_get d_Mac_readColumn_29 f_Mac_37 (by omega) rfl rfl ?_
  refine z_iload_n d_Mac_readColumn_32 rfl ?_
  refine z_callV0 d_Mac_readColumn_33 g_Mac_122 (c_Val_clear X 0 zVal22 (show zin (nI i) i 16 from ⟨rfl, hi, by decide⟩) J G) (by omega) rfl rfl rfl ⟨by decide, by decide, by decide, by decide⟩ rfl (Nat.le_of_ble_eq_true rfl) ?_
  refine z_goto d_Mac_readColumn_36 60 (by decide) ?_
  exact z_vret d_Mac_readColumn_60 rfl (by decide) (by decide) rfl
set_option maxRecDepth 100000 in
set_option maxHeartbeats 4000000 in
theorem c_Mac_readColumn2 (X : zX) {c t k u : Nat} (hc : c < 3) (J : zJT) (G : zGT) {i : Nat} (hi : i < 16) (ht3 : t < 3) (ht : J (26 + c) 0 = nI t) (hu : u < 90) (hk4 : k < 4) (hs : zK X 2 m_Mac_slotAt [.ref 1, .ref (26 + c)] J G (some (.int (nI u))) J G) (hyes : (decide (0 ≤ nI t) && decide (nI t < J 2 1)) = true) (hcol : (decide (0 ≤ nI k) && decide (nI k < J (9 + 2 * t) 0)) = true) (hbool : vp_nar .boolean (J 6 (4 * u + k)) = J 6 (4 * u + k)) : zK X 3 m_Mac_readColumn [.ref 1, .ref (26 + c), .int (nI k), .int (nI i)] J G none (va_up J 24 (upd (J 24) i (J 6 (4 * u + k)))) (va_up G 23 (vp_updL (G 23) i (G 5 (4 * u + k)))) := by
  refine zC_of (by decide) (Nat.le_of_ble_eq_true rfl) ?_
  refine z_aload_n d_Mac_readColumn_0 rfl ?_
  refine z_aload_n d_Mac_readColumn_1 rfl ?_
  refine z_callV1 d_Mac_readColumn_2 g_Mac_171 (hs) (by omega) rfl rfl rfl ⟨by decide, by decide, by decide, by decide⟩ rfl (Nat.le_of_ble_eq_true rfl) ?_
  refine z_istore (lv' := [(0, _), (1, _), (2, _), (3, _), (4, _)]) d_Mac_readColumn_5 (by decide) rfl ?_
  refine z_iload d_Mac_readColumn_7 rfl ?_
  refine z_iconst (v := (-1)) d_Mac_readColumn_9 (by decide) ?_
  refine z_icmp_eq d_Mac_readColumn_10 28 (by decide) (fun h9 => absurd h9 (fun h9 => absurd h9 (nI_m1 (by omega)))) (fun _ => ?_)
  refine z_aload_n d_Mac_readColumn_13 rfl ?_
  refine z_get d_Mac_readColumn_14 f_Mac_12 (by omega) rfl rfl ?_
  refine z_aload_n d_Mac_readColumn_17 rfl ?_
  refine z_get d_Mac_readColumn_18 f_Mac_140 (by omega) (zc_c hc _ _) rfl ?_
  refine z_iload_n d_Mac_readColumn_21 rfl ?_
  rw [ht]
  refine z_callV1 d_Mac_readColumn_22 g_Mac_175 (c_Sto_hasColumn X ht3 (nI k) J G hyes) (by omega) rfl rfl rfl ⟨by decide, by decide, by decide, by decide⟩ rfl (Nat.le_of_ble_eq_true rfl) ?_
  refine z_if_ne d_Mac_readColumn_25 39 (by decide) (fun _ => ?_) (fun h9 => absurd h9 (by rw [hcol]; decide))
  refine z_aload_n d_Mac_readColumn_39 rfl ?_
  refine z_get d_Mac_readColumn_40 f_Mac_37 (by omega) rfl rfl ?_
  refine z_iload_n d_Mac_readColumn_43 rfl ?_
  refine z_aload_n d_Mac_readColumn_44 rfl ?_
  refine z_get d_Mac_readColumn_45 f_Mac_12 (by omega) rfl rfl ?_
  refine z_get d_Mac_readColumn_48 f_Mac_178 (by omega) rfl rfl ?_
  refine z_iload d_Mac_readColumn_51 rfl ?_
  refine z_iconst (v := 4) d_Mac_readColumn_53 (by decide) ?_
  refine z_imul d_Mac_readColumn_54 ?_
  refine z_iload_n d_Mac_readColumn_55 rfl ?_
  refine z_iadd d_Mac_readColumn_56 ?_
  refine z_callV0 d_Mac_readColumn_57 g_Mac_181 (c_Val_copy X zVal22 (show zin (nI i) i 16 from ⟨rfl, hi, by decide⟩) zVal4 (show zin (nI u * 4 + nI k) (4 * u + k) 360 from ⟨by rw [show (4 : Int32) = nI 4 from rfl, pk_mul, nI_add, Nat.mul_comm], by omega, by decide⟩) J G hbool) (by omega) rfl rfl rfl ⟨by decide, by decide, by decide, by decide⟩ rfl (Nat.le_of_ble_eq_true rfl) ?_
  exact z_vret d_Mac_readColumn_60 rfl (by decide) (by decide) rfl
set_option maxRecDepth 100000 in
set_option maxHeartbeats 4000000 in
theorem c_Mac_readKey0 (X : zX) {c : Nat} (hc : c < 3) (J : zJT) (G : zGT) {i : Nat} (hi : i < 16) (hs : zK X 2 m_Mac_slotAt [.ref 1, .ref (26 + c)] J G (some (.int (-1))) J G) : zK X 3 m_Mac_readKey [.ref 1, .ref (26 + c), .int (nI i)] J G none (va_up J 24 (upd (J 24) i 0)) (va_up G 23 (vp_updL (G 23) i 0)) := by
  refine zC_of (by decide) (Nat.le_of_ble_eq_true rfl) ?_
  refine z_aload_n d_Mac_readKey_0 rfl ?_
  refine z_aload_n d_Mac_readKey_1 rfl ?_
  refine z_callV1 d_Mac_readKey_2 g_Mac_171 (hs) (by omega) rfl rfl rfl ⟨by decide, by decide, by decide, by decide⟩ rfl (Nat.le_of_ble_eq_true rfl) ?_
  refine z_iconst (v := (-1)) d_Mac_readKey_5 (by decide) ?_
  refine z_icmp_ne d_Mac_readKey_6 20 (by decide) (fun h9 => absurd h9 (fun h9 => h9 rfl)) (fun _ => ?_)
  refine z_aload_n d_Mac_readKey_9 rfl ?_
  refine z_get d_Mac_readKey_10 f_Mac_37 (by omega) rfl rfl ?_
  refine z_iload_n d_Mac_readKey_13 rfl ?_
  refine z_callV0 d_Mac_readKey_14 g_Mac_122 (c_Val_clear X 0 zVal22 (show zin (nI i) i 16 from ⟨rfl, hi, by decide⟩) J G) (by omega) rfl rfl rfl ⟨by decide, by decide, by decide, by decide⟩ rfl (Nat.le_of_ble_eq_true rfl) ?_
  refine z_goto d_Mac_readKey_17 32 (by decide) ?_
  exact z_vret d_Mac_readKey_32 rfl (by decide) (by decide) rfl
set_option maxRecDepth 100000 in
set_option maxHeartbeats 4000000 in
theorem c_Mac_readKey1 (X : zX) {c : Nat} (hc : c < 3) (J : zJT) (G : zGT) {i : Nat} (hi : i < 16) (v : Int32) (hv : ¬ v = -1) (hs : zK X 2 m_Mac_slotAt [.ref 1, .ref (26 + c)] J G (some (.int v)) J G) : zK X 3 m_Mac_readKey [.ref 1, .ref (26 + c), .int (nI i)] J G none (va_up J 24 (upd (J 24) i 1)) (va_up G 23 (vp_updL (G 23) i (G (26 + c) 2))) := by
  refine zC_of (by decide) (Nat.le_of_ble_eq_true rfl) ?_
  refine z_aload_n d_Mac_readKey_0 rfl ?_
  refine z_aload_n d_Mac_readKey_1 rfl ?_
  refine z_callV1 d_Mac_readKey_2 g_Mac_171 (hs) (by omega) rfl rfl rfl ⟨by decide, by decide, by decide, by decide⟩ rfl (Nat.le_of_ble_eq_true rfl) ?_
  refine z_iconst (v := (-1)) d_Mac_readKey_5 (by decide) ?_
  refine z_icmp_ne d_Mac_readKey_6 20 (by decide) (fun _ => ?_) (fun h9 => absurd h9 hv)
  refine z_aload_n d_Mac_readKey_20 rfl ?_
  refine z_get d_Mac_readKey_21 f_Mac_37 (by omega) rfl rfl ?_
  refine z_iload_n d_Mac_readKey_24 rfl ?_
  refine z_aload_n d_Mac_readKey_25 rfl ?_
  refine z_get d_Mac_readKey_26 f_Mac_155 (by omega) (zc_c hc _ _) rfl ?_
  refine z_callV0 d_Mac_readKey_29 g_Mac_118 (c_Val_put X 0 zVal22 (show zin (nI i) i 16 from ⟨rfl, hi, by decide⟩) J G _) (by omega) rfl rfl rfl ⟨by decide, by decide, by decide, by decide⟩ rfl (Nat.le_of_ble_eq_true rfl) ?_
  exact z_vret d_Mac_readKey_32 rfl (by decide) (by decide) rfl
set_option maxRecDepth 100000 in
set_option maxHeartbeats 4000000 in
theorem c_Mac_sum1 (X : zX) (J : zJT) (G : zGT) {a b i : Nat} (ha : a < 16) (hb : b < 16) (hi : i < 16) (hva : J 24 a = 1) (hvb : J 24 b = 1) : zK X 1 m_Mac_sum [.ref 1, .int (nI a), .int (nI b), .int (nI i)] J G none (va_up J 24 (upd (J 24) i 1)) (va_up G 23 (vp_updL (G 23) i (G 23 a + G 23 b))) := by
  refine zC_of (by decide) (Nat.le_of_ble_eq_true rfl) ?_
  refine z_aload_n d_Mac_sum_0 rfl ?_
  refine z_get d_Mac_sum_1 f_Mac_37 (by omega) rfl rfl ?_
  refine z_iload_n d_Mac_sum_4 rfl ?_
  refine z_callV1 d_Mac_sum_5 g_Mac_125 (c_Val_has X 0 zVal22 (show zin (nI a) a 16 from ⟨rfl, ha, by decide⟩) J G (by rw [show J (22 + 2) a = 1 from hva]; decide)) (by omega) rfl rfl rfl ⟨by decide, by decide, by decide, by decide⟩ rfl (Nat.le_of_ble_eq_true rfl) ?_
  refine z_if_eq d_Mac_sum_8 50 (by decide) (fun h9 => absurd h9 (by rw [show J (22 + 2) a = 1 from hva]; decide)) (fun _ => ?_)
  refine z_aload_n d_Mac_sum_11 rfl ?_
  refine z_get d_Mac_sum_12 f_Mac_37 (by omega) rfl rfl ?_
  refine z_iload_n d_Mac_sum_15 rfl ?_
  refine z_callV1 d_Mac_sum_16 g_Mac_125 (c_Val_has X 0 zVal22 (show zin (nI b) b 16 from ⟨rfl, hb, by decide⟩) J G (by rw [show J (22 + 2) b = 1 from hvb]; decide)) (by omega) rfl rfl rfl ⟨by decide, by decide, by decide, by decide⟩ rfl (Nat.le_of_ble_eq_true rfl) ?_
  refine z_if_eq d_Mac_sum_19 50 (by decide) (fun h9 => absurd h9 (by rw [show J (22 + 2) b = 1 from hvb]; decide)) (fun _ => ?_)
  refine z_aload_n d_Mac_sum_22 rfl ?_
  refine z_get d_Mac_sum_23 f_Mac_37 (by omega) rfl rfl ?_
  refine z_iload_n d_Mac_sum_26 rfl ?_
  refine z_aload_n d_Mac_sum_27 rfl ?_
  refine z_get d_Mac_sum_28 f_Mac_37 (by omega) rfl rfl ?_
  refine z_iload_n d_Mac_sum_31 rfl ?_
  refine z_callV1 d_Mac_sum_32 g_Mac_163 (c_Val_number X 0 zVal22 (show zin (nI a) a 16 from ⟨rfl, ha, by decide⟩) J G) (by omega) rfl rfl rfl ⟨by decide, by decide, by decide, by decide⟩ rfl (Nat.le_of_ble_eq_true rfl) ?_
  refine z_aload_n d_Mac_sum_35 rfl ?_
  refine z_get d_Mac_sum_36 f_Mac_37 (by omega) rfl rfl ?_
  refine z_iload_n d_Mac_sum_39 rfl ?_
  refine z_callV1 d_Mac_sum_40 g_Mac_163 (c_Val_number X 0 zVal22 (show zin (nI b) b 16 from ⟨rfl, hb, by decide⟩) J G) (by omega) rfl rfl rfl ⟨by decide, by decide, by decide, by decide⟩ rfl (Nat.le_of_ble_eq_true rfl) ?_
  refine z_ladd d_Mac_sum_43 ?_
  refine z_callV0 d_Mac_sum_44 g_Mac_118 (c_Val_put X 0 zVal22 (show zin (nI i) i 16 from ⟨rfl, hi, by decide⟩) J G _) (by omega) rfl rfl rfl ⟨by decide, by decide, by decide, by decide⟩ rfl (Nat.le_of_ble_eq_true rfl) ?_
  refine z_goto d_Mac_sum_47 58 (by decide) ?_
  exact z_vret d_Mac_sum_58 rfl (by decide) (by decide) rfl
set_option maxRecDepth 100000 in
set_option maxHeartbeats 4000000 in
theorem c_Mac_sum0 (X : zX) (J : zJT) (G : zGT) {a b i : Nat} (ha : a < 16) (hb : b < 16) (hi : i < 16) (hva : J 24 a = 0) : zK X 1 m_Mac_sum [.ref 1, .int (nI a), .int (nI b), .int (nI i)] J G none (va_up J 24 (upd (J 24) i 0)) (va_up G 23 (vp_updL (G 23) i 0)) := by
  refine zC_of (by decide) (Nat.le_of_ble_eq_true rfl) ?_
  refine z_aload_n d_Mac_sum_0 rfl ?_
  refine z_get d_Mac_sum_1 f_Mac_37 (by omega) rfl rfl ?_
  refine z_iload_n d_Mac_sum_4 rfl ?_
  refine z_callV1 d_Mac_sum_5 g_Mac_125 (c_Val_has X 0 zVal22 (show zin (nI a) a 16 from ⟨rfl, ha, by decide⟩) J G (by rw [show J (22 + 2) a = 0 from hva]; decide)) (by omega) rfl rfl rfl ⟨by decide, by decide, by decide, by decide⟩ rfl (Nat.le_of_ble_eq_true rfl) ?_
  refine z_if_eq d_Mac_sum_8 50 (by decide) (fun _ => ?_) (fun h9 => absurd hva h9)
  refine z_aload_n d_Mac_sum_50 rfl ?_
  refine z_get d_Mac_sum_51 f_Mac_37 (by omega) rfl rfl ?_
  refine z_iload_n d_Mac_sum_54 rfl ?_
  refine z_callV0 d_Mac_sum_55 g_Mac_122 (c_Val_clear X 0 zVal22 (show zin (nI i) i 16 from ⟨rfl, hi, by decide⟩) J G) (by omega) rfl rfl rfl ⟨by decide, by decide, by decide, by decide⟩ rfl (Nat.le_of_ble_eq_true rfl) ?_
  exact z_vret d_Mac_sum_58 rfl (by decide) (by decide) rfl
set_option maxRecDepth 100000 in
set_option maxHeartbeats 4000000 in
theorem c_Mac_sum2 (X : zX) (J : zJT) (G : zGT) {a b i : Nat} (ha : a < 16) (hb : b < 16) (hi : i < 16) (hva : J 24 a = 1) (hvb : J 24 b = 0) : zK X 1 m_Mac_sum [.ref 1, .int (nI a), .int (nI b), .int (nI i)] J G none (va_up J 24 (upd (J 24) i 0)) (va_up G 23 (vp_updL (G 23) i 0)) := by
  refine zC_of (by decide) (Nat.le_of_ble_eq_true rfl) ?_
  refine z_aload_n d_Mac_sum_0 rfl ?_
  refine z_get d_Mac_sum_1 f_Mac_37 (by omega) rfl rfl ?_
  refine z_iload_n d_Mac_sum_4 rfl ?_
  refine z_callV1 d_Mac_sum_5 g_Mac_125 (c_Val_has X 0 zVal22 (show zin (nI a) a 16 from ⟨rfl, ha, by decide⟩) J G (by rw [show J (22 + 2) a = 1 from hva]; decide)) (by omega) rfl rfl rfl ⟨by decide, by decide, by decide, by decide⟩ rfl (Nat.le_of_ble_eq_true rfl) ?_
  refine z_if_eq d_Mac_sum_8 50 (by decide) (fun h9 => absurd h9 (by rw [show J (22 + 2) a = 1 from hva]; decide)) (fun _ => ?_)
  refine z_aload_n d_Mac_sum_11 rfl ?_
  refine z_get d_Mac_sum_12 f_Mac_37 (by omega) rfl rfl ?_
  refine z_iload_n d_Mac_sum_15 rfl ?_
  refine z_callV1 d_Mac_sum_16 g_Mac_125 (c_Val_has X 0 zVal22 (show zin (nI b) b 16 from ⟨rfl, hb, by decide⟩) J G (by rw [show J (22 + 2) b = 0 from hvb]; decide)) (by omega) rfl rfl rfl ⟨by decide, by decide, by decide, by decide⟩ rfl (Nat.le_of_ble_eq_true rfl) ?_
  refine z_if_eq d_Mac_sum_19 50 (by decide) (fun _ => ?_) (fun h9 => absurd hvb h9)
  refine z_aload_n d_Mac_sum_50 rfl ?_
  refine z_get d_Mac_sum_51 f_Mac_37 (by omega) rfl rfl ?_
  refine z_iload_n d_Mac_sum_54 rfl ?_
  refine z_callV0 d_Mac_sum_55 g_Mac_122 (c_Val_clear X 0 zVal22 (show zin (nI i) i 16 from ⟨rfl, hi, by decide⟩) J G) (by omega) rfl rfl rfl ⟨by decide, by decide, by decide, by decide⟩ rfl (Nat.le_of_ble_eq_true rfl) ?_
  exact z_vret d_Mac_sum_58 rfl (by decide) (by decide) rfl
set_option maxRecDepth 100000 in
set_option maxHeartbeats 4000000 in
theorem c_Mac_holds0 (X : zX) (J : zJT) (G : zGT) {a b : Nat} (ha : a < 16) (hb : b < 16) (o : Int32) (hva : J 24 a = 0) : zK X 1 m_Mac_holds [.ref 1, .int o, .int (nI a), .int (nI b)] J G (some (.int 0)) J G := by
  refine zC_of (by decide) (Nat.le_of_ble_eq_true rfl) ?_
  refine z_aload_n d_Mac_holds_0 rfl ?_
  refine z_get d_Mac_holds_1 f_Mac_37 (by omega) rfl rfl ?_
  refine z_iload_n d_Mac_holds_4 rfl ?_
  refine z_callV1 d_Mac_holds_5 g_Mac_125 (c_Val_has X 0 zVal22 (show zin (nI a) a 16 from ⟨rfl, ha, by decide⟩) J G (by rw [show J (22 + 2) a = 0 from hva]; decide)) (by omega) rfl rfl rfl ⟨by decide, by decide, by decide, by decide⟩ rfl (Nat.le_of_ble_eq_true rfl) ?_
  refine z_if_eq d_Mac_holds_8 22 (by decide) (fun _ => ?_) (fun h9 => absurd hva h9)
  refine z_iconst (v := 0) d_Mac_holds_22 (by decide) ?_
  exact z_zret d_Mac_holds_23 rfl (by decide) (by decide) (by decide) rfl rfl
set_option maxRecDepth 100000 in
set_option maxHeartbeats 4000000 in
theorem c_Mac_holds1 (X : zX) (J : zJT) (G : zGT) {a b : Nat} (ha : a < 16) (hb : b < 16) (o : Int32) (hva : J 24 a = 1) (hvb : J 24 b = 0) : zK X 1 m_Mac_holds [.ref 1, .int o, .int (nI a), .int (nI b)] J G (some (.int 0)) J G := by
  refine zC_of (by decide) (Nat.le_of_ble_eq_true rfl) ?_
  refine z_aload_n d_Mac_holds_0 rfl ?_
  refine z_get d_Mac_holds_1 f_Mac_37 (by omega) rfl rfl ?_
  refine z_iload_n d_Mac_holds_4 rfl ?_
  refine z_callV1 d_Mac_holds_5 g_Mac_125 (c_Val_has X 0 zVal22 (show zin (nI a) a 16 from ⟨rfl, ha, by decide⟩) J G (by rw [show J (22 + 2) a = 1 from hva]; decide)) (by omega) rfl rfl rfl ⟨by decide, by decide, by decide, by decide⟩ rfl (Nat.le_of_ble_eq_true rfl) ?_
  refine z_if_eq d_Mac_holds_8 22 (by decide) (fun h9 => absurd h9 (by rw [show J (22 + 2) a = 1 from hva]; decide)) (fun _ => ?_)
  refine z_aload_n d_Mac_holds_11 rfl ?_
  refine z_get d_Mac_holds_12 f_Mac_37 (by omega) rfl rfl ?_
  refine z_iload_n d_Mac_holds_15 rfl ?_
  refine z_callV1 d_Mac_holds_16 g_Mac_125 (c_Val_has X 0 zVal22 (show zin (nI b) b 16 from ⟨rfl, hb, by decide⟩) J G (by rw [show J (22 + 2) b = 0 from hvb]; decide)) (by omega) rfl rfl rfl ⟨by decide, by decide, by decide, by decide⟩ rfl (Nat.le_of_ble_eq_true rfl) ?_
  refine z_if_ne d_Mac_holds_19 24 (by decide) (fun h9 => absurd h9 (fun h9 => h9 hvb)) (fun _ => ?_)
  refine z_iconst (v := 0) d_Mac_holds_22 (by decide) ?_
  exact z_zret d_Mac_holds_23 rfl (by decide) (by decide) (by decide) rfl rfl
/-- how two numbers compare, by the instruction's number -/
def zcmp (o : Nat) (x y : Int64) : Bool := match o with
  | 9 => decide (x = y)
  | 10 => decide (¬ x = y)
  | 11 => decide (x < y)
  | 12 => decide (x ≤ y)
  | 13 => decide (y < x)
  | _ => decide (y ≤ x)
set_option maxRecDepth 100000 in
set_option maxHeartbeats 4000000 in
theorem c_Mac_holds2 (X : zX) (J : zJT) (G : zGT) {a b : Nat} (ha : a < 16) (hb : b < 16) {o : Nat} (ho : 9 ≤ o ∧ o < 15) (hva : J 24 a = 1) (hvb : J 24 b = 1) : zK X 1 m_Mac_holds [.ref 1, .int (nI o), .int (nI a), .int (nI b)] J G (some (.int (zb (zcmp o (G 23 a) (G 23 b))))) J G := by
  rcases (show o = 9 ∨ o = 10 ∨ o = 11 ∨ o = 12 ∨ o = 13 ∨ o = 14 by omega) with rfl | rfl | rfl | rfl | rfl | rfl
  · refine zC_of (by decide) (Nat.le_of_ble_eq_true rfl) ?_
    refine z_aload_n d_Mac_holds_0 rfl ?_
    refine z_get d_Mac_holds_1 f_Mac_37 (by omega) rfl rfl ?_
    refine z_iload_n d_Mac_holds_4 rfl ?_
    refine z_callV1 d_Mac_holds_5 g_Mac_125 (c_Val_has X 0 zVal22 (show zin (nI a) a 16 from ⟨rfl, ha, by decide⟩) J G (by rw [show J (22 + 2) a = 1 from hva]; decide)) (by omega) rfl rfl rfl ⟨by decide, by decide, by decide, by decide⟩ rfl (Nat.le_of_ble_eq_true rfl) ?_
    refine z_if_eq d_Mac_holds_8 22 (by decide) (fun h9 => absurd h9 (by rw [show J (22 + 2) a = 1 from hva]; decide)) (fun _ => ?_)
    refine z_aload_n d_Mac_holds_11 rfl ?_
    refine z_get d_Mac_holds_12 f_Mac_37 (by omega) rfl rfl ?_
    refine z_iload_n d_Mac_holds_15 rfl ?_
    refine z_callV1 d_Mac_holds_16 g_Mac_125 (c_Val_has X 0 zVal22 (show zin (nI b) b 16 from ⟨rfl, hb, by decide⟩) J G (by rw [show J (22 + 2) b = 1 from hvb]; decide)) (by omega) rfl rfl rfl ⟨by decide, by decide, by decide, by decide⟩ rfl (Nat.le_of_ble_eq_true rfl) ?_
    refine z_if_ne d_Mac_holds_19 24 (by decide) (fun _ => ?_) (fun h9 => absurd h9 (by rw [show J (22 + 2) b = 1 from hvb]; decide))
    refine z_aload_n d_Mac_holds_24 rfl ?_
    refine z_get d_Mac_holds_25 f_Mac_37 (by omega) rfl rfl ?_
    refine z_iload_n d_Mac_holds_28 rfl ?_
    refine z_callV1 d_Mac_holds_29 g_Mac_163 (c_Val_number X 0 zVal22 (show zin (nI a) a 16 from ⟨rfl, ha, by decide⟩) J G) (by omega) rfl rfl rfl ⟨by decide, by decide, by decide, by decide⟩ rfl (Nat.le_of_ble_eq_true rfl) ?_
    refine z_aload_n d_Mac_holds_32 rfl ?_
    refine z_get d_Mac_holds_33 f_Mac_37 (by omega) rfl rfl ?_
    refine z_iload_n d_Mac_holds_36 rfl ?_
    refine z_callV1 d_Mac_holds_37 g_Mac_163 (c_Val_number X 0 zVal22 (show zin (nI b) b 16 from ⟨rfl, hb, by decide⟩) J G) (by omega) rfl rfl rfl ⟨by decide, by decide, by decide, by decide⟩ rfl (Nat.le_of_ble_eq_true rfl) ?_
    refine z_callS1 d_Mac_holds_40 g_Mac_193 (c_Lng_compare X _ _ J G) rfl ⟨by decide, by decide, by decide, by decide⟩ rfl (Nat.le_of_ble_eq_true rfl) ?_
    refine z_istore (lv' := [(0, _), (1, _), (2, _), (3, _), (4, _)]) d_Mac_holds_43 (by decide) rfl ?_
    refine z_iload_n d_Mac_holds_45 rfl ?_
    refine z_tableIn (off := 34) d_Mac_holds_46 80 (by decide) (by decide) (by decide) (by decide) ?_
    refine z_iload d_Mac_holds_80 rfl ?_
    refine z_if_ne d_Mac_holds_82 89 (by decide) (fun h82 => ?_) (fun h82 => ?_)
    · refine z_iconst (v := 0) d_Mac_holds_89 (by decide) ?_
      exact z_zret d_Mac_holds_90 rfl (by decide) (by decide) (by decide) (by simp only [zcmp]; have hq := lg_cmp_eq (G 23 a) (G 23 b); have hq2 := lg_cmp_ge (G 23 a) (G 23 b); have hq3 := lg_cmp_gt (G 23 a) (G 23 b); have hq4 := lg_cmp_lt (G 23 a) (G 23 b); have hq5 := lg_cmp_le (G 23 a) (G 23 b); simp_all [zb]) rfl
    · refine z_iconst (v := 1) d_Mac_holds_85 (by decide) ?_
      refine z_goto d_Mac_holds_86 90 (by decide) ?_
      exact z_zret d_Mac_holds_90 rfl (by decide) (by decide) (by decide) (by simp only [zcmp]; have hq := lg_cmp_eq (G 23 a) (G 23 b); have hq2 := lg_cmp_ge (G 23 a) (G 23 b); have hq3 := lg_cmp_gt (G 23 a) (G 23 b); have hq4 := lg_cmp_lt (G 23 a) (G 23 b); have hq5 := lg_cmp_le (G 23 a) (G 23 b); simp_all [zb]) rfl
  · refine zC_of (by decide) (Nat.le_of_ble_eq_true rfl) ?_
    refine z_aload_n d_Mac_holds_0 rfl ?_
    refine z_get d_Mac_holds_1 f_Mac_37 (by omega) rfl rfl ?_
    refine z_iload_n d_Mac_holds_4 rfl ?_
    refine z_callV1 d_Mac_holds_5 g_Mac_125 (c_Val_has X 0 zVal22 (show zin (nI a) a 16 from ⟨rfl, ha, by decide⟩) J G (by rw [show J (22 + 2) a = 1 from hva]; decide)) (by omega) rfl rfl rfl ⟨by decide, by decide, by decide, by decide⟩ rfl (Nat.le_of_ble_eq_true rfl) ?_
    refine z_if_eq d_Mac_holds_8 22 (by decide) (fun h9 => absurd h9 (by rw [show J (22 + 2) a = 1 from hva]; decide)) (fun _ => ?_)
    refine z_aload_n d_Mac_holds_11 rfl ?_
    refine z_get d_Mac_holds_12 f_Mac_37 (by omega) rfl rfl ?_
    refine z_iload_n d_Mac_holds_15 rfl ?_
    refine z_callV1 d_Mac_holds_16 g_Mac_125 (c_Val_has X 0 zVal22 (show zin (nI b) b 16 from ⟨rfl, hb, by decide⟩) J G (by rw [show J (22 + 2) b = 1 from hvb]; decide)) (by omega) rfl rfl rfl ⟨by decide, by decide, by decide, by decide⟩ rfl (Nat.le_of_ble_eq_true rfl) ?_
    refine z_if_ne d_Mac_holds_19 24 (by decide) (fun _ => ?_) (fun h9 => absurd h9 (by rw [show J (22 + 2) b = 1 from hvb]; decide))
    refine z_aload_n d_Mac_holds_24 rfl ?_
    refine z_get d_Mac_holds_25 f_Mac_37 (by omega) rfl rfl ?_
    refine z_iload_n d_Mac_holds_28 rfl ?_
    refine z_callV1 d_Mac_holds_29 g_Mac_163 (c_Val_number X 0 zVal22 (show zin (nI a) a 16 from ⟨rfl, ha, by decide⟩) J G) (by omega) rfl rfl rfl ⟨by decide, by decide, by decide, by decide⟩ rfl (Nat.le_of_ble_eq_true rfl) ?_
    refine z_aload_n d_Mac_holds_32 rfl ?_
    refine z_get d_Mac_holds_33 f_Mac_37 (by omega) rfl rfl ?_
    refine z_iload_n d_Mac_holds_36 rfl ?_
    refine z_callV1 d_Mac_holds_37 g_Mac_163 (c_Val_number X 0 zVal22 (show zin (nI b) b 16 from ⟨rfl, hb, by decide⟩) J G) (by omega) rfl rfl rfl ⟨by decide, by decide, by decide, by decide⟩ rfl (Nat.le_of_ble_eq_true rfl) ?_
    refine z_callS1 d_Mac_holds_40 g_Mac_193 (c_Lng_compare X _ _ J G) rfl ⟨by decide, by decide, by decide, by decide⟩ rfl (Nat.le_of_ble_eq_true rfl) ?_
    refine z_istore (lv' := [(0, _), (1, _), (2, _), (3, _), (4, _)]) d_Mac_holds_43 (by decide) rfl ?_
    refine z_iload_n d_Mac_holds_45 rfl ?_
    refine z_tableIn (off := 45) d_Mac_holds_46 91 (by decide) (by decide) (by decide) (by decide) ?_
    refine z_iload d_Mac_holds_91 rfl ?_
    refine z_if_eq d_Mac_holds_93 100 (by decide) (fun h93 => ?_) (fun h93 => ?_)
    · refine z_iconst (v := 0) d_Mac_holds_100 (by decide) ?_
      exact z_zret d_Mac_holds_101 rfl (by decide) (by decide) (by decide) (by simp only [zcmp]; have hq := lg_cmp_eq (G 23 a) (G 23 b); have hq2 := lg_cmp_ge (G 23 a) (G 23 b); have hq3 := lg_cmp_gt (G 23 a) (G 23 b); have hq4 := lg_cmp_lt (G 23 a) (G 23 b); have hq5 := lg_cmp_le (G 23 a) (G 23 b); simp_all [zb]) rfl
    · refine z_iconst (v := 1) d_Mac_holds_96 (by decide) ?_
      refine z_goto d_Mac_holds_97 101 (by decide) ?_
      exact z_zret d_Mac_holds_101 rfl (by decide) (by decide) (by decide) (by simp only [zcmp]; have hq := lg_cmp_eq (G 23 a) (G 23 b); have hq2 := lg_cmp_ge (G 23 a) (G 23 b); have hq3 := lg_cmp_gt (G 23 a) (G 23 b); have hq4 := lg_cmp_lt (G 23 a) (G 23 b); have hq5 := lg_cmp_le (G 23 a) (G 23 b); simp_all [zb]) rfl
  · refine zC_of (by decide) (Nat.le_of_ble_eq_true rfl) ?_
    refine z_aload_n d_Mac_holds_0 rfl ?_
    refine z_get d_Mac_holds_1 f_Mac_37 (by omega) rfl rfl ?_
    refine z_iload_n d_Mac_holds_4 rfl ?_
    refine z_callV1 d_Mac_holds_5 g_Mac_125 (c_Val_has X 0 zVal22 (show zin (nI a) a 16 from ⟨rfl, ha, by decide⟩) J G (by rw [show J (22 + 2) a = 1 from hva]; decide)) (by omega) rfl rfl rfl ⟨by decide, by decide, by decide, by decide⟩ rfl (Nat.le_of_ble_eq_true rfl) ?_
    refine z_if_eq d_Mac_holds_8 22 (by decide) (fun h9 => absurd h9 (by rw [show J (22 + 2) a = 1 from hva]; decide)) (fun _ => ?_)
    refine z_aload_n d_Mac_holds_11 rfl ?_
    refine z_get d_Mac_holds_12 f_Mac_37 (by omega) rfl rfl ?_
    refine z_iload_n d_Mac_holds_15 rfl ?_
    refine z_callV1 d_Mac_holds_16 g_Mac_125 (c_Val_has X 0 zVal22 (show zin (nI b) b 16 from ⟨rfl, hb, by decide⟩) J G (by rw [show J (22 + 2) b = 1 from hvb]; decide)) (by omega) rfl rfl rfl ⟨by decide, by decide, by decide, by decide⟩ rfl (Nat.le_of_ble_eq_true rfl) ?_
    refine z_if_ne d_Mac_holds_19 24 (by decide) (fun _ => ?_) (fun h9 => absurd h9 (by rw [show J (22 + 2) b = 1 from hvb]; decide))
    refine z_aload_n d_Mac_holds_24 rfl ?_
    refine z_get d_Mac_holds_25 f_Mac_37 (by omega) rfl rfl ?_
    refine z_iload_n d_Mac_holds_28 rfl ?_
    refine z_callV1 d_Mac_holds_29 g_Mac_163 (c_Val_number X 0 zVal22 (show zin (nI a) a 16 from ⟨rfl, ha, by decide⟩) J G) (by omega) rfl rfl rfl ⟨by decide, by decide, by decide, by decide⟩ rfl (Nat.le_of_ble_eq_true rfl) ?_
    refine z_aload_n d_Mac_holds_32 rfl ?_
    refine z_get d_Mac_holds_33 f_Mac_37 (by omega) rfl rfl ?_
    refine z_iload_n d_Mac_holds_36 rfl ?_
    refine z_callV1 d_Mac_holds_37 g_Mac_163 (c_Val_number X 0 zVal22 (show zin (nI b) b 16 from ⟨rfl, hb, by decide⟩) J G) (by omega) rfl rfl rfl ⟨by decide, by decide, by decide, by decide⟩ rfl (Nat.le_of_ble_eq_true rfl) ?_
    refine z_callS1 d_Mac_holds_40 g_Mac_193 (c_Lng_compare X _ _ J G) rfl ⟨by decide, by decide, by decide, by decide⟩ rfl (Nat.le_of_ble_eq_true rfl) ?_
    refine z_istore (lv' := [(0, _), (1, _), (2, _), (3, _), (4, _)]) d_Mac_holds_43 (by decide) rfl ?_
    refine z_iload_n d_Mac_holds_45 rfl ?_
    refine z_tableIn (off := 56) d_Mac_holds_46 102 (by decide) (by decide) (by decide) (by decide) ?_
    refine z_iload d_Mac_holds_102 rfl ?_
    refine z_if_ge d_Mac_holds_104 111 (by decide) (fun h104 => ?_) (fun h104 => ?_)
    · refine z_iconst (v := 0) d_Mac_holds_111 (by decide) ?_
      exact z_zret d_Mac_holds_112 rfl (by decide) (by decide) (by decide) (by simp only [zcmp]; have hq := lg_cmp_lt (G 23 a) (G 23 b); have hq2 := lg_cmp_ge (G 23 a) (G 23 b); have hq3 := lg_cmp_gt (G 23 a) (G 23 b); have hq4 := lg_cmp_lt (G 23 a) (G 23 b); have hq5 := lg_cmp_le (G 23 a) (G 23 b); simp_all [zb]) rfl
    · refine z_iconst (v := 1) d_Mac_holds_107 (by decide) ?_
      refine z_goto d_Mac_holds_108 112 (by decide) ?_
      exact z_zret d_Mac_holds_112 rfl (by decide) (by decide) (by decide) (by simp only [zcmp]; have hq := lg_cmp_lt (G 23 a) (G 23 b); have hq2 := lg_cmp_ge (G 23 a) (G 23 b); have hq3 := lg_cmp_gt (G 23 a) (G 23 b); have hq4 := lg_cmp_lt (G 23 a) (G 23 b); have hq5 := lg_cmp_le (G 23 a) (G 23 b); simp_all [zb]) rfl
  · refine zC_of (by decide) (Nat.le_of_ble_eq_true rfl) ?_
    refine z_aload_n d_Mac_holds_0 rfl ?_
    refine z_get d_Mac_holds_1 f_Mac_37 (by omega) rfl rfl ?_
    refine z_iload_n d_Mac_holds_4 rfl ?_
    refine z_callV1 d_Mac_holds_5 g_Mac_125 (c_Val_has X 0 zVal22 (show zin (nI a) a 16 from ⟨rfl, ha, by decide⟩) J G (by rw [show J (22 + 2) a = 1 from hva]; decide)) (by omega) rfl rfl rfl ⟨by decide, by decide, by decide, by decide⟩ rfl (Nat.le_of_ble_eq_true rfl) ?_
    refine z_if_eq d_Mac_holds_8 22 (by decide) (fun h9 => absurd h9 (by rw [show J (22 + 2) a = 1 from hva]; decide)) (fun _ => ?_)
    refine z_aload_n d_Mac_holds_11 rfl ?_
    refine z_get d_Mac_holds_12 f_Mac_37 (by omega) rfl rfl ?_
    refine z_iload_n d_Mac_holds_15 rfl ?_
    refine z_callV1 d_Mac_holds_16 g_Mac_125 (c_Val_has X 0 zVal22 (show zin (nI b) b 16 from ⟨rfl, hb, by decide⟩) J G (by rw [show J (22 + 2) b = 1 from hvb]; decide)) (by omega) rfl rfl rfl ⟨by decide, by decide, by decide, by decide⟩ rfl (Nat.le_of_ble_eq_true rfl) ?_
    refine z_if_ne d_Mac_holds_19 24 (by decide) (fun _ => ?_) (fun h9 => absurd h9 (by rw [show J (22 + 2) b = 1 from hvb]; decide))
    refine z_aload_n d_Mac_holds_24 rfl ?_
    refine z_get d_Mac_holds_25 f_Mac_37 (by omega) rfl rfl ?_
    refine z_iload_n d_Mac_holds_28 rfl ?_
    refine z_callV1 d_Mac_holds_29 g_Mac_163 (c_Val_number X 0 zVal22 (show zin (nI a) a 16 from ⟨rfl, ha, by decide⟩) J G) (by omega) rfl rfl rfl ⟨by decide, by decide, by decide, by decide⟩ rfl (Nat.le_of_ble_eq_true rfl) ?_
    refine z_aload_n d_Mac_holds_32 rfl ?_
    refine z_get d_Mac_holds_33 f_Mac_37 (by omega) rfl rfl ?_
    refine z_iload_n d_Mac_holds_36 rfl ?_
    refine z_callV1 d_Mac_holds_37 g_Mac_163 (c_Val_number X 0 zVal22 (show zin (nI b) b 16 from ⟨rfl, hb, by decide⟩) J G) (by omega) rfl rfl rfl ⟨by decide, by decide, by decide, by decide⟩ rfl (Nat.le_of_ble_eq_true rfl) ?_
    refine z_callS1 d_Mac_holds_40 g_Mac_193 (c_Lng_compare X _ _ J G) rfl ⟨by decide, by decide, by decide, by decide⟩ rfl (Nat.le_of_ble_eq_true rfl) ?_
    refine z_istore (lv' := [(0, _), (1, _), (2, _), (3, _), (4, _)]) d_Mac_holds_43 (by decide) rfl ?_
    refine z_iload_n d_Mac_holds_45 rfl ?_
    refine z_tableIn (off := 67) d_Mac_holds_46 113 (by decide) (by decide) (by decide) (by decide) ?_
    refine z_iload d_Mac_holds_113 rfl ?_
    refine z_if_gt d_Mac_holds_115 122 (by decide) (fun h115 => ?_) (fun h115 => ?_)
    · refine z_iconst (v := 0) d_Mac_holds_122 (by decide) ?_
      exact z_zret d_Mac_holds_123 rfl (by decide) (by decide) (by decide) (by simp only [zcmp]; have hq := lg_cmp_le (G 23 a) (G 23 b); have hq2 := lg_cmp_ge (G 23 a) (G 23 b); have hq3 := lg_cmp_gt (G 23 a) (G 23 b); have hq4 := lg_cmp_lt (G 23 a) (G 23 b); have hq5 := lg_cmp_le (G 23 a) (G 23 b); simp_all [zb]) rfl
    · refine z_iconst (v := 1) d_Mac_holds_118 (by decide) ?_
      refine z_goto d_Mac_holds_119 123 (by decide) ?_
      exact z_zret d_Mac_holds_123 rfl (by decide) (by decide) (by decide) (by simp only [zcmp]; have hq := lg_cmp_le (G 23 a) (G 23 b); have hq2 := lg_cmp_ge (G 23 a) (G 23 b); have hq3 := lg_cmp_gt (G 23 a) (G 23 b); have hq4 := lg_cmp_lt (G 23 a) (G 23 b); have hq5 := lg_cmp_le (G 23 a) (G 23 b); simp_all [zb]) rfl
  · refine zC_of (by decide) (Nat.le_of_ble_eq_true rfl) ?_
    refine z_aload_n d_Mac_holds_0 rfl ?_
    refine z_get d_Mac_holds_1 f_Mac_37 (by omega) rfl rfl ?_
    refine z_iload_n d_Mac_holds_4 rfl ?_
    refine z_callV1 d_Mac_holds_5 g_Mac_125 (c_Val_has X 0 zVal22 (show zin (nI a) a 16 from ⟨rfl, ha, by decide⟩) J G (by rw [show J (22 + 2) a = 1 from hva]; decide)) (by omega) rfl rfl rfl ⟨by decide, by decide, by decide, by decide⟩ rfl (Nat.le_of_ble_eq_true rfl) ?_
    refine z_if_eq d_Mac_holds_8 22 (by decide) (fun h9 => absurd h9 (by rw [show J (22 + 2) a = 1 from hva]; decide)) (fun _ => ?_)
    refine z_aload_n d_Mac_holds_11 rfl ?_
    refine z_get d_Mac_holds_12 f_Mac_37 (by omega) rfl rfl ?_
    refine z_iload_n d_Mac_holds_15 rfl ?_
    refine z_callV1 d_Mac_holds_16 g_Mac_125 (c_Val_has X 0 zVal22 (show zin (nI b) b 16 from ⟨rfl, hb, by decide⟩) J G (by rw [show J (22 + 2) b = 1 from hvb]; decide)) (by omega) rfl rfl rfl ⟨by decide, by decide, by decide, by decide⟩ rfl (Nat.le_of_ble_eq_true rfl) ?_
    refine z_if_ne d_Mac_holds_19 24 (by decide) (fun _ => ?_) (fun h9 => absurd h9 (by rw [show J (22 + 2) b = 1 from hvb]; decide))
    refine z_aload_n d_Mac_holds_24 rfl ?_
    refine z_get d_Mac_holds_25 f_Mac_37 (by omega) rfl rfl ?_
    refine z_iload_n d_Mac_holds_28 rfl ?_
    refine z_callV1 d_Mac_holds_29 g_Mac_163 (c_Val_number X 0 zVal22 (show zin (nI a) a 16 from ⟨rfl, ha, by decide⟩) J G) (by omega) rfl rfl rfl ⟨by decide, by decide, by decide, by decide⟩ rfl (Nat.le_of_ble_eq_true rfl) ?_
    refine z_aload_n d_Mac_holds_32 rfl ?_
    refine z_get d_Mac_holds_33 f_Mac_37 (by omega) rfl rfl ?_
    refine z_iload_n d_Mac_holds_36 rfl ?_
    refine z_callV1 d_Mac_holds_37 g_Mac_163 (c_Val_number X 0 zVal22 (show zin (nI b) b 16 from ⟨rfl, hb, by decide⟩) J G) (by omega) rfl rfl rfl ⟨by decide, by decide, by decide, by decide⟩ rfl (Nat.le_of_ble_eq_true rfl) ?_
    refine z_callS1 d_Mac_holds_40 g_Mac_193 (c_Lng_compare X _ _ J G) rfl ⟨by decide, by decide, by decide, by decide⟩ rfl (Nat.le_of_ble_eq_true rfl) ?_
    refine z_istore (lv' := [(0, _), (1, _), (2, _), (3, _), (4, _)]) d_Mac_holds_43 (by decide) rfl ?_
    refine z_iload_n d_Mac_holds_45 rfl ?_
    refine z_tableIn (off := 78) d_Mac_holds_46 124 (by decide) (by decide) (by decide) (by decide) ?_
    refine z_iload d_Mac_holds_124 rfl ?_
    refine z_if_le d_Mac_holds_126 133 (by decide) (fun h126 => ?_) (fun h126 => ?_)
    · refine z_iconst (v := 0) d_Mac_holds_133 (by decide) ?_
      exact z_zret d_Mac_holds_134 rfl (by decide) (by decide) (by decide) (by simp only [zcmp]; have hq := lg_cmp_gt (G 23 a) (G 23 b); have hq2 := lg_cmp_ge (G 23 a) (G 23 b); have hq3 := lg_cmp_gt (G 23 a) (G 23 b); have hq4 := lg_cmp_lt (G 23 a) (G 23 b); have hq5 := lg_cmp_le (G 23 a) (G 23 b); simp_all [zb]) rfl
    · refine z_iconst (v := 1) d_Mac_holds_129 (by decide) ?_
      refine z_goto d_Mac_holds_130 134 (by decide) ?_
      exact z_zret d_Mac_holds_134 rfl (by decide) (by decide) (by decide) (by simp only [zcmp]; have hq := lg_cmp_gt (G 23 a) (G 23 b); have hq2 := lg_cmp_ge (G 23 a) (G 23 b); have hq3 := lg_cmp_gt (G 23 a) (G 23 b); have hq4 := lg_cmp_lt (G 23 a) (G 23 b); have hq5 := lg_cmp_le (G 23 a) (G 23 b); simp_all [zb]) rfl
  · refine zC_of (by decide) (Nat.le_of_ble_eq_true rfl) ?_
    refine z_aload_n d_Mac_holds_0 rfl ?_
    refine z_get d_Mac_holds_1 f_Mac_37 (by omega) rfl rfl ?_
    refine z_iload_n d_Mac_holds_4 rfl ?_
    refine z_callV1 d_Mac_holds_5 g_Mac_125 (c_Val_has X 0 zVal22 (show zin (nI a) a 16 from ⟨rfl, ha, by decide⟩) J G (by rw [show J (22 + 2) a = 1 from hva]; decide)) (by omega) rfl rfl rfl ⟨by decide, by decide, by decide, by decide⟩ rfl (Nat.le_of_ble_eq_true rfl) ?_
    refine z_if_eq d_Mac_holds_8 22 (by decide) (fun h9 => absurd h9 (by rw [show J (22 + 2) a = 1 from hva]; decide)) (fun _ => ?_)
    refine z_aload_n d_Mac_holds_11 rfl ?_
    refine z_get d_Mac_holds_12 f_Mac_37 (by omega) rfl rfl ?_
    refine z_iload_n d_Mac_holds_15 rfl ?_
    refine z_callV1 d_Mac_holds_16 g_Mac_125 (c_Val_has X 0 zVal22 (show zin (nI b) b 16 from ⟨rfl, hb, by decide⟩) J G (by rw [show J (22 + 2) b = 1 from hvb]; decide)) (by omega) rfl rfl rfl ⟨by decide, by decide, by decide, by decide⟩ rfl (Nat.le_of_ble_eq_true rfl) ?_
    refine z_if_ne d_Mac_holds_19 24 (by decide) (fun _ => ?_) (fun h9 => absurd h9 (by rw [show J (22 + 2) b = 1 from hvb]; decide))
    refine z_aload_n d_Mac_holds_24 rfl ?_
    refine z_get d_Mac_holds_25 f_Mac_37 (by omega) rfl rfl ?_
    refine z_iload_n d_Mac_holds_28 rfl ?_
    refine z_callV1 d_Mac_holds_29 g_Mac_163 (c_Val_number X 0 zVal22 (show zin (nI a) a 16 from ⟨rfl, ha, by decide⟩) J G) (by omega) rfl rfl rfl ⟨by decide, by decide, by decide, by decide⟩ rfl (Nat.le_of_ble_eq_true rfl) ?_
    refine z_aload_n d_Mac_holds_32 rfl ?_
    refine z_get d_Mac_holds_33 f_Mac_37 (by omega) rfl rfl ?_
    refine z_iload_n d_Mac_holds_36 rfl ?_
    refine z_callV1 d_Mac_holds_37 g_Mac_163 (c_Val_number X 0 zVal22 (show zin (nI b) b 16 from ⟨rfl, hb, by decide⟩) J G) (by omega) rfl rfl rfl ⟨by decide, by decide, by decide, by decide⟩ rfl (Nat.le_of_ble_eq_true rfl) ?_
    refine z_callS1 d_Mac_holds_40 g_Mac_193 (c_Lng_compare X _ _ J G) rfl ⟨by decide, by decide, by decide, by decide⟩ rfl (Nat.le_of_ble_eq_true rfl) ?_
    refine z_istore (lv' := [(0, _), (1, _), (2, _), (3, _), (4, _)]) d_Mac_holds_43 (by decide) rfl ?_
    refine z_iload_n d_Mac_holds_45 rfl ?_
    refine z_tableOut d_Mac_holds_46 135 (by decide) (by decide) ?_
    refine z_iload d_Mac_holds_135 rfl ?_
    refine z_if_lt d_Mac_holds_137 144 (by decide) (fun h137 => ?_) (fun h137 => ?_)
    · refine z_iconst (v := 0) d_Mac_holds_144 (by decide) ?_
      exact z_zret d_Mac_holds_145 rfl (by decide) (by decide) (by decide) (by simp only [zcmp]; have hq := lg_cmp_ge (G 23 a) (G 23 b); have hq2 := lg_cmp_ge (G 23 a) (G 23 b); have hq3 := lg_cmp_gt (G 23 a) (G 23 b); have hq4 := lg_cmp_lt (G 23 a) (G 23 b); have hq5 := lg_cmp_le (G 23 a) (G 23 b); simp_all [zb]) rfl
    · refine z_iconst (v := 1) d_Mac_holds_140 (by decide) ?_
      refine z_goto d_Mac_holds_141 145 (by decide) ?_
      exact z_zret d_Mac_holds_145 rfl (by decide) (by decide) (by decide) (by simp only [zcmp]; have hq := lg_cmp_ge (G 23 a) (G 23 b); have hq2 := lg_cmp_ge (G 23 a) (G 23 b); have hq3 := lg_cmp_gt (G 23 a) (G 23 b); have hq4 := lg_cmp_lt (G 23 a) (G 23 b); have hq5 := lg_cmp_le (G 23 a) (G 23 b); simp_all [zb]) rfl
