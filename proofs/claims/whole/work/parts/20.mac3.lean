set_option maxRecDepth 100000 in
set_option maxHeartbeats 4000000 in
theorem c_Mac_bringRow0 (X : zX) {c : Nat} (hc : c < 3) (J : zJT) (G : zGT) {i : Nat} (hi : i < 16) (hvi : J 24 i = 0) : zK X 2 m_Mac_bringRow [.ref 1, .ref (26 + c), .int (nI i)] J G (some (.int (zb false))) J G := by
  refine zC_of (by decide) (Nat.le_of_ble_eq_true rfl) ?_
  refine z_aload_n d_Mac_bringRow_0 rfl ?_
  refine z_get d_Mac_bringRow_1 f_Mac_37 (by omega) rfl rfl ?_
  refine z_iload_n d_Mac_bringRow_4 rfl ?_
  refine z_callV1 d_Mac_bringRow_5 g_Mac_125 (c_Val_has X 0 zVal22 (show zin (nI i) i 16 from ⟨rfl, hi, by decide⟩) J G (by rw [show J (22 + 2) i = 0 from hvi]; decide)) (by omega) rfl rfl rfl ⟨by decide, by decide, by decide, by decide⟩ rfl (Nat.le_of_ble_eq_true rfl) ?_
  refine z_if_eq d_Mac_bringRow_8 44 (by decide) (fun _ => ?_) (fun h9 => absurd hvi h9)
  refine z_iconst (v := 0) d_Mac_bringRow_44 (by decide) ?_
  exact z_zret d_Mac_bringRow_45 rfl (by decide) (by decide) (by decide) rfl rfl
set_option maxRecDepth 100000 in
set_option maxHeartbeats 4000000 in
theorem c_Mac_bringRow1 (X : zX) {c t : Nat} (hc : c < 3) (J : zJT) (G : zGT) (ht : J (26 + c) 0 = nI t) {i : Nat} (hi : i < 16) (hvi : J 24 i = 1) (b : Bool) {J' : zJT} {G' : zGT} (hm : zK X 1 m_Sto_bring [.ref 2, .int (nI t), .long (G 23 i), .ref 22, .int (nI (i + 1))] J G (some (.int (zb b))) J' G') : zK X 2 m_Mac_bringRow [.ref 1, .ref (26 + c), .int (nI i)] J G (some (.int (zb b))) J' G' := by
  refine zC_of (by decide) (Nat.le_of_ble_eq_true rfl) ?_
  refine z_aload_n d_Mac_bringRow_0 rfl ?_
  refine z_get d_Mac_bringRow_1 f_Mac_37 (by omega) rfl rfl ?_
  refine z_iload_n d_Mac_bringRow_4 rfl ?_
  refine z_callV1 d_Mac_bringRow_5 g_Mac_125 (c_Val_has X 0 zVal22 (show zin (nI i) i 16 from ⟨rfl, hi, by decide⟩) J G (by rw [show J (22 + 2) i = 1 from hvi]; decide)) (by omega) rfl rfl rfl ⟨by decide, by decide, by decide, by decide⟩ rfl (Nat.le_of_ble_eq_true rfl) ?_
  refine z_if_eq d_Mac_bringRow_8 44 (by decide) (fun h9 => absurd h9 (by rw [show J (22 + 2) i = 1 from hvi]; decide)) (fun _ => ?_)
  refine z_aload_n d_Mac_bringRow_11 rfl ?_
  refine z_get d_Mac_bringRow_12 f_Mac_12 (by omega) rfl rfl ?_
  refine z_aload_n d_Mac_bringRow_15 rfl ?_
  refine z_get d_Mac_bringRow_16 f_Mac_140 (by omega) (zc_c hc _ _) rfl ?_
  refine z_aload_n d_Mac_bringRow_19 rfl ?_
  refine z_get d_Mac_bringRow_20 f_Mac_37 (by omega) rfl rfl ?_
  refine z_iload_n d_Mac_bringRow_23 rfl ?_
  refine z_callV1 d_Mac_bringRow_24 g_Mac_163 (c_Val_number X 0 zVal22 (show zin (nI i) i 16 from ⟨rfl, hi, by decide⟩) J G) (by omega) rfl rfl rfl ⟨by decide, by decide, by decide, by decide⟩ rfl (Nat.le_of_ble_eq_true rfl) ?_
  refine z_aload_n d_Mac_bringRow_27 rfl ?_
  refine z_get d_Mac_bringRow_28 f_Mac_37 (by omega) rfl rfl ?_
  refine z_iload_n d_Mac_bringRow_31 rfl ?_
  refine z_iconst (v := 1) d_Mac_bringRow_32 (by decide) ?_
  refine z_iadd d_Mac_bringRow_33 ?_
  rw [ht, nI_1]
  refine z_callV1 d_Mac_bringRow_34 g_Mac_185 (hm) (by omega) rfl rfl rfl ⟨by decide, by decide, by decide, by decide⟩ rfl (Nat.le_of_ble_eq_true rfl) ?_
  refine z_if_eq d_Mac_bringRow_37 44 (by decide) (fun h37 => ?_) (fun h37 => ?_)
  · refine z_iconst (v := 0) d_Mac_bringRow_44 (by decide) ?_
    exact z_zret d_Mac_bringRow_45 rfl (by decide) (by decide) (by decide) (by first | (rw [zb0 h37]; done) | (rw [zb0 h37]; rfl) | (rw [zb1' h37]; rfl)) rfl
  · refine z_iconst (v := 1) d_Mac_bringRow_40 (by decide) ?_
    refine z_goto d_Mac_bringRow_41 45 (by decide) ?_
    exact z_zret d_Mac_bringRow_45 rfl (by decide) (by decide) (by decide) (by first | (rw [zb0 h37]; done) | (rw [zb0 h37]; rfl) | (rw [zb1' h37]; rfl)) rfl
set_option maxRecDepth 100000 in
set_option maxHeartbeats 4000000 in
theorem c_Mac_dropRow0 (X : zX) {c : Nat} (hc : c < 3) (J : zJT) (G : zGT) (hk : J (26 + c) 1 = 0) : zK X 2 m_Mac_dropRow [.ref 1, .ref (26 + c)] J G none J G := by
  refine zC_of (by decide) (Nat.le_of_ble_eq_true rfl) ?_
  refine z_aload_n d_Mac_dropRow_0 rfl ?_
  refine z_get d_Mac_dropRow_1 f_Mac_147 (by omega) (zc_c hc _ _) rfl ?_
  refine z_if_eq d_Mac_dropRow_4 23 (by decide) (fun _ => ?_) (fun h9 => absurd hk h9)
  exact z_vret d_Mac_dropRow_23 rfl (by decide) (by decide) rfl
set_option maxRecDepth 100000 in
set_option maxHeartbeats 4000000 in
theorem c_Mac_dropRow1 (X : zX) {c t : Nat} (hc : c < 3) (J : zJT) (G : zGT) (ht : J (26 + c) 0 = nI t) (hk : J (26 + c) 1 = 1) (v : Int32) {J' : zJT} {G' : zGT} (hm : zK X 1 m_Sto_drop [.ref 2, .int (nI t), .long (G (26 + c) 2)] J G (some (.int v)) J' G') : zK X 2 m_Mac_dropRow [.ref 1, .ref (26 + c)] J G none J' G' := by
  refine zC_of (by decide) (Nat.le_of_ble_eq_true rfl) ?_
  refine z_aload_n d_Mac_dropRow_0 rfl ?_
  refine z_get d_Mac_dropRow_1 f_Mac_147 (by omega) (zc_c hc _ _) rfl ?_
  refine z_if_eq d_Mac_dropRow_4 23 (by decide) (fun h9 => absurd h9 (by rw [hk]; decide)) (fun _ => ?_)
  refine z_aload_n d_Mac_dropRow_7 rfl ?_
  refine z_get d_Mac_dropRow_8 f_Mac_12 (by omega) rfl rfl ?_
  refine z_aload_n d_Mac_dropRow_11 rfl ?_
  refine z_get d_Mac_dropRow_12 f_Mac_140 (by omega) (zc_c hc _ _) rfl ?_
  refine z_aload_n d_Mac_dropRow_15 rfl ?_
  refine z_get d_Mac_dropRow_16 f_Mac_155 (by omega) (zc_c hc _ _) rfl ?_
  rw [ht]
  refine z_callV1 d_Mac_dropRow_19 g_Mac_189 (hm) (by omega) rfl rfl rfl ⟨by decide, by decide, by decide, by decide⟩ rfl (Nat.le_of_ble_eq_true rfl) ?_
  refine z_pop d_Mac_dropRow_22 rfl ?_
  exact z_vret d_Mac_dropRow_23 rfl (by decide) (by decide) rfl
set_option maxRecDepth 100000 in
set_option maxHeartbeats 4000000 in
theorem c_use_shut (X : zX) {c k : Nat} (hc : c < 3) (hk : k < 60) (J : zJT) (G : zGT) (hp1 : J 16 (4 * k + 1) = nI c) (o : Int32) (hop : J (26 + c) 0 = -1) : zK X 4 m_Mac_useCursor [.ref 1, .int o, .int (nI k)] J G (some (.int (J 15 0))) (va_up J 1 (va_up (J 1) 5 3)) G := by
  refine zC_of (by decide) (Nat.le_of_ble_eq_true rfl) ?_
  refine z_aload_n d_Mac_useCursor_0 rfl ?_
  refine z_get d_Mac_useCursor_1 f_Mac_43 (by omega) rfl rfl ?_
  refine z_aload_n d_Mac_useCursor_4 rfl ?_
  refine z_get d_Mac_useCursor_5 f_Mac_21 (by omega) rfl rfl ?_
  refine z_iload_n d_Mac_useCursor_8 rfl ?_
  refine z_iconst (v := 1) d_Mac_useCursor_9 (by decide) ?_
  refine z_callV1 d_Mac_useCursor_10 g_Mac_58 (c_Pro_word (w := 1) X hk (by decide) J G) (by omega) rfl rfl rfl ⟨by decide, by decide, by decide, by decide⟩ rfl (Nat.le_of_ble_eq_true rfl) ?_
  rw [hp1]
  refine z_aald d_Mac_useCursor_13 (by omega) rfl rfl (show zin (nI c) c 3 from ⟨rfl, hc, by decide⟩) (zc_at hc) ?_
  refine z_astore_n (lv' := [(0, _), (1, _), (2, _), (3, _)]) d_Mac_useCursor_14 (by decide) rfl ?_
  refine z_aload_n d_Mac_useCursor_15 rfl ?_
  refine z_callV1 d_Mac_useCursor_16 g_Mac_81 (c_Cur_isShut X hc J G) (by omega) (zc_c hc _ _) rfl rfl ⟨by decide, by decide, by decide, by decide⟩ rfl (Nat.le_of_ble_eq_true rfl) ?_
  refine z_if_eq d_Mac_useCursor_19 28 (by decide) (fun h9 => absurd h9 (by rw [decide_eq_true hop]; decide)) (fun _ => ?_)
  refine z_aload_n d_Mac_useCursor_22 rfl ?_
  refine z_iconst (v := 3) d_Mac_useCursor_23 (by decide) ?_
  refine z_callV1 d_Mac_useCursor_24 g_Mac_85 (c_Mac_end X 3 J G) (by omega) rfl rfl rfl ⟨by decide, by decide, by decide, by decide⟩ rfl (Nat.le_of_ble_eq_true rfl) ?_
  exact z_iret d_Mac_useCursor_27 rfl (by decide) (by decide) rfl rfl
set_option maxRecDepth 100000 in
set_option maxHeartbeats 4000000 in
theorem c_use_rewind (X : zX) {c k : Nat} (hc : c < 3) (hk : k < 60) (J : zJT) (G : zGT) (hp1 : J 16 (4 * k + 1) = nI c) (hop : ¬ J (26 + c) 0 = -1) (b : Bool) {J' : zJT} {G' : zGT} (hm : zK X 1 m_Mac_moveTo [.ref 1, .ref (26 + c), .int 0] J G (some (.int (zb b))) J' G') : zK X 4 m_Mac_useCursor [.ref 1, .int (nI 2), .int (nI k)] J G (some (.int (if b then nI k + 1 else (J 16 (4 * k + 2))))) J' G' := by
  refine zC_of (by decide) (Nat.le_of_ble_eq_true rfl) ?_
  refine z_aload_n d_Mac_useCursor_0 rfl ?_
  refine z_get d_Mac_useCursor_1 f_Mac_43 (by omega) rfl rfl ?_
  refine z_aload_n d_Mac_useCursor_4 rfl ?_
  refine z_get d_Mac_useCursor_5 f_Mac_21 (by omega) rfl rfl ?_
  refine z_iload_n d_Mac_useCursor_8 rfl ?_
  refine z_iconst (v := 1) d_Mac_useCursor_9 (by decide) ?_
  refine z_callV1 d_Mac_useCursor_10 g_Mac_58 (c_Pro_word (w := 1) X hk (by decide) J G) (by omega) rfl rfl rfl ⟨by decide, by decide, by decide, by decide⟩ rfl (Nat.le_of_ble_eq_true rfl) ?_
  rw [hp1]
  refine z_aald d_Mac_useCursor_13 (by omega) rfl rfl (show zin (nI c) c 3 from ⟨rfl, hc, by decide⟩) (zc_at hc) ?_
  refine z_astore_n (lv' := [(0, _), (1, _), (2, _), (3, _)]) d_Mac_useCursor_14 (by decide) rfl ?_
  refine z_aload_n d_Mac_useCursor_15 rfl ?_
  refine z_callV1 d_Mac_useCursor_16 g_Mac_81 (c_Cur_isShut X hc J G) (by omega) (zc_c hc _ _) rfl rfl ⟨by decide, by decide, by decide, by decide⟩ rfl (Nat.le_of_ble_eq_true rfl) ?_
  refine z_if_eq d_Mac_useCursor_19 28 (by decide) (fun _ => ?_) (fun h9 => absurd (by rw [decide_eq_false hop]; rfl) h9)
  refine z_aload_n d_Mac_useCursor_28 rfl ?_
  refine z_get d_Mac_useCursor_29 f_Mac_21 (by omega) rfl rfl ?_
  refine z_iload_n d_Mac_useCursor_32 rfl ?_
  refine z_iconst (v := 2) d_Mac_useCursor_33 (by decide) ?_
  refine z_callV1 d_Mac_useCursor_34 g_Mac_58 (c_Pro_word (w := 2) X hk (by decide) J G) (by omega) rfl rfl rfl ⟨by decide, by decide, by decide, by decide⟩ rfl (Nat.le_of_ble_eq_true rfl) ?_
  refine z_istore (lv' := [(0, _), (1, _), (2, _), (3, _), (4, _)]) d_Mac_useCursor_37 (by decide) rfl ?_
  refine z_aload_n d_Mac_useCursor_39 rfl ?_
  refine z_get d_Mac_useCursor_40 f_Mac_21 (by omega) rfl rfl ?_
  refine z_iload_n d_Mac_useCursor_43 rfl ?_
  refine z_iconst (v := 3) d_Mac_useCursor_44 (by decide) ?_
  refine z_callV1 d_Mac_useCursor_45 g_Mac_58 (c_Pro_word (w := 3) X hk (by decide) J G) (by omega) rfl rfl rfl ⟨by decide, by decide, by decide, by decide⟩ rfl (Nat.le_of_ble_eq_true rfl) ?_
  refine z_istore (lv' := [(0, _), (1, _), (2, _), (3, _), (4, _), (5, _)]) d_Mac_useCursor_48 (by decide) rfl ?_
  refine z_iload_n d_Mac_useCursor_50 rfl ?_
  refine z_iconst (v := 1) d_Mac_useCursor_51 (by decide) ?_
  refine z_iadd d_Mac_useCursor_52 ?_
  refine z_istore (lv' := [(0, _), (1, _), (2, _), (3, _), (4, _), (5, _), (6, _)]) d_Mac_useCursor_53 (by decide) rfl ?_
  refine z_iload_n d_Mac_useCursor_55 rfl ?_
  refine z_tableIn (off := 92) d_Mac_useCursor_56 148 (by decide) (by decide) (by decide) (by decide) ?_
  refine z_aload_n d_Mac_useCursor_148 rfl ?_
  refine z_aload_n d_Mac_useCursor_149 rfl ?_
  refine z_iconst (v := 0) d_Mac_useCursor_150 (by decide) ?_
  refine z_callV1 d_Mac_useCursor_151 g_Mac_89 (hm) (by omega) rfl rfl rfl ⟨by decide, by decide, by decide, by decide⟩ rfl (Nat.le_of_ble_eq_true rfl) ?_
  refine z_if_eq d_Mac_useCursor_154 162 (by decide) (fun h154 => ?_) (fun h154 => ?_)
  · refine z_iload d_Mac_useCursor_162 rfl ?_
    exact z_iret d_Mac_useCursor_164 rfl (by decide) (by decide) (by first | (rw [zb0 h154]; rfl) | (rw [zb1' h154]; rfl)) rfl
  · refine z_iload d_Mac_useCursor_157 rfl ?_
    refine z_goto d_Mac_useCursor_159 164 (by decide) ?_
    exact z_iret d_Mac_useCursor_164 rfl (by decide) (by decide) (by first | (rw [zb0 h154]; rfl) | (rw [zb1' h154]; rfl)) rfl
set_option maxRecDepth 100000 in
set_option maxHeartbeats 4000000 in
theorem c_use_next (X : zX) {c k : Nat} (hc : c < 3) (hk : k < 60) (J : zJT) (G : zGT) (hp1 : J 16 (4 * k + 1) = nI c) (hop : ¬ J (26 + c) 0 = -1) (b : Bool) {J' : zJT} {G' : zGT} (hm : zK X 2 m_Mac_advance [.ref 1, .ref (26 + c)] J G (some (.int (zb b))) J' G') : zK X 4 m_Mac_useCursor [.ref 1, .int (nI 3), .int (nI k)] J G (some (.int (if b then (J 16 (4 * k + 2)) else nI k + 1))) J' G' := by
  refine zC_of (by decide) (Nat.le_of_ble_eq_true rfl) ?_
  refine z_aload_n d_Mac_useCursor_0 rfl ?_
  refine z_get d_Mac_useCursor_1 f_Mac_43 (by omega) rfl rfl ?_
  refine z_aload_n d_Mac_useCursor_4 rfl ?_
  refine z_get d_Mac_useCursor_5 f_Mac_21 (by omega) rfl rfl ?_
  refine z_iload_n d_Mac_useCursor_8 rfl ?_
  refine z_iconst (v := 1) d_Mac_useCursor_9 (by decide) ?_
  refine z_callV1 d_Mac_useCursor_10 g_Mac_58 (c_Pro_word (w := 1) X hk (by decide) J G) (by omega) rfl rfl rfl ⟨by decide, by decide, by decide, by decide⟩ rfl (Nat.le_of_ble_eq_true rfl) ?_
  rw [hp1]
  refine z_aald d_Mac_useCursor_13 (by omega) rfl rfl (show zin (nI c) c 3 from ⟨rfl, hc, by decide⟩) (zc_at hc) ?_
  refine z_astore_n (lv' := [(0, _), (1, _), (2, _), (3, _)]) d_Mac_useCursor_14 (by decide) rfl ?_
  refine z_aload_n d_Mac_useCursor_15 rfl ?_
  refine z_callV1 d_Mac_useCursor_16 g_Mac_81 (c_Cur_isShut X hc J G) (by omega) (zc_c hc _ _) rfl rfl ⟨by decide, by decide, by decide, by decide⟩ rfl (Nat.le_of_ble_eq_true rfl) ?_
  refine z_if_eq d_Mac_useCursor_19 28 (by decide) (fun _ => ?_) (fun h9 => absurd (by rw [decide_eq_false hop]; rfl) h9)
  refine z_aload_n d_Mac_useCursor_28 rfl ?_
  refine z_get d_Mac_useCursor_29 f_Mac_21 (by omega) rfl rfl ?_
  refine z_iload_n d_Mac_useCursor_32 rfl ?_
  refine z_iconst (v := 2) d_Mac_useCursor_33 (by decide) ?_
  refine z_callV1 d_Mac_useCursor_34 g_Mac_58 (c_Pro_word (w := 2) X hk (by decide) J G) (by omega) rfl rfl rfl ⟨by decide, by decide, by decide, by decide⟩ rfl (Nat.le_of_ble_eq_true rfl) ?_
  refine z_istore (lv' := [(0, _), (1, _), (2, _), (3, _), (4, _)]) d_Mac_useCursor_37 (by decide) rfl ?_
  refine z_aload_n d_Mac_useCursor_39 rfl ?_
  refine z_get d_Mac_useCursor_40 f_Mac_21 (by omega) rfl rfl ?_
  refine z_iload_n d_Mac_useCursor_43 rfl ?_
  refine z_iconst (v := 3) d_Mac_useCursor_44 (by decide) ?_
  refine z_callV1 d_Mac_useCursor_45 g_Mac_58 (c_Pro_word (w := 3) X hk (by decide) J G) (by omega) rfl rfl rfl ⟨by decide, by decide, by decide, by decide⟩ rfl (Nat.le_of_ble_eq_true rfl) ?_
  refine z_istore (lv' := [(0, _), (1, _), (2, _), (3, _), (4, _), (5, _)]) d_Mac_useCursor_48 (by decide) rfl ?_
  refine z_iload_n d_Mac_useCursor_50 rfl ?_
  refine z_iconst (v := 1) d_Mac_useCursor_51 (by decide) ?_
  refine z_iadd d_Mac_useCursor_52 ?_
  refine z_istore (lv' := [(0, _), (1, _), (2, _), (3, _), (4, _), (5, _), (6, _)]) d_Mac_useCursor_53 (by decide) rfl ?_
  refine z_iload_n d_Mac_useCursor_55 rfl ?_
  refine z_tableIn (off := 109) d_Mac_useCursor_56 165 (by decide) (by decide) (by decide) (by decide) ?_
  refine z_aload_n d_Mac_useCursor_165 rfl ?_
  refine z_aload_n d_Mac_useCursor_166 rfl ?_
  refine z_callV1 d_Mac_useCursor_167 g_Mac_93 (hm) (by omega) rfl rfl rfl ⟨by decide, by decide, by decide, by decide⟩ rfl (Nat.le_of_ble_eq_true rfl) ?_
  refine z_if_eq d_Mac_useCursor_170 178 (by decide) (fun h170 => ?_) (fun h170 => ?_)
  · refine z_iload d_Mac_useCursor_178 rfl ?_
    exact z_iret d_Mac_useCursor_180 rfl (by decide) (by decide) (by first | (rw [zb0 h170]; rfl) | (rw [zb1' h170]; rfl)) rfl
  · refine z_iload d_Mac_useCursor_173 rfl ?_
    refine z_goto d_Mac_useCursor_175 180 (by decide) ?_
    exact z_iret d_Mac_useCursor_180 rfl (by decide) (by decide) (by first | (rw [zb0 h170]; rfl) | (rw [zb1' h170]; rfl)) rfl
set_option maxRecDepth 100000 in
set_option maxHeartbeats 4000000 in
theorem c_use_column (X : zX) {c k : Nat} (hc : c < 3) (hk : k < 60) (J : zJT) (G : zGT) (hp1 : J 16 (4 * k + 1) = nI c) (hop : ¬ J (26 + c) 0 = -1)  {J' : zJT} {G' : zGT} (hm : zK X 3 m_Mac_readColumn [.ref 1, .ref (26 + c), .int (J 16 (4 * k + 2)), .int (J 16 (4 * k + 3))] J G none J' G') : zK X 4 m_Mac_useCursor [.ref 1, .int (nI 4), .int (nI k)] J G (some (.int (nI k + 1))) J' G' := by
  refine zC_of (by decide) (Nat.le_of_ble_eq_true rfl) ?_
  refine z_aload_n d_Mac_useCursor_0 rfl ?_
  refine z_get d_Mac_useCursor_1 f_Mac_43 (by omega) rfl rfl ?_
  refine z_aload_n d_Mac_useCursor_4 rfl ?_
  refine z_get d_Mac_useCursor_5 f_Mac_21 (by omega) rfl rfl ?_
  refine z_iload_n d_Mac_useCursor_8 rfl ?_
  refine z_iconst (v := 1) d_Mac_useCursor_9 (by decide) ?_
  refine z_callV1 d_Mac_useCursor_10 g_Mac_58 (c_Pro_word (w := 1) X hk (by decide) J G) (by omega) rfl rfl rfl ⟨by decide, by decide, by decide, by decide⟩ rfl (Nat.le_of_ble_eq_true rfl) ?_
  rw [hp1]
  refine z_aald d_Mac_useCursor_13 (by omega) rfl rfl (show zin (nI c) c 3 from ⟨rfl, hc, by decide⟩) (zc_at hc) ?_
  refine z_astore_n (lv' := [(0, _), (1, _), (2, _), (3, _)]) d_Mac_useCursor_14 (by decide) rfl ?_
  refine z_aload_n d_Mac_useCursor_15 rfl ?_
  refine z_callV1 d_Mac_useCursor_16 g_Mac_81 (c_Cur_isShut X hc J G) (by omega) (zc_c hc _ _) rfl rfl ⟨by decide, by decide, by decide, by decide⟩ rfl (Nat.le_of_ble_eq_true rfl) ?_
  refine z_if_eq d_Mac_useCursor_19 28 (by decide) (fun _ => ?_) (fun h9 => absurd (by rw [decide_eq_false hop]; rfl) h9)
  refine z_aload_n d_Mac_useCursor_28 rfl ?_
  refine z_get d_Mac_useCursor_29 f_Mac_21 (by omega) rfl rfl ?_
  refine z_iload_n d_Mac_useCursor_32 rfl ?_
  refine z_iconst (v := 2) d_Mac_useCursor_33 (by decide) ?_
  refine z_callV1 d_Mac_useCursor_34 g_Mac_58 (c_Pro_word (w := 2) X hk (by decide) J G) (by omega) rfl rfl rfl ⟨by decide, by decide, by decide, by decide⟩ rfl (Nat.le_of_ble_eq_true rfl) ?_
  refine z_istore (lv' := [(0, _), (1, _), (2, _), (3, _), (4, _)]) d_Mac_useCursor_37 (by decide) rfl ?_
  refine z_aload_n d_Mac_useCursor_39 rfl ?_
  refine z_get d_Mac_useCursor_40 f_Mac_21 (by omega) rfl rfl ?_
  refine z_iload_n d_Mac_useCursor_43 rfl ?_
  refine z_iconst (v := 3) d_Mac_useCursor_44 (by decide) ?_
  refine z_callV1 d_Mac_useCursor_45 g_Mac_58 (c_Pro_word (w := 3) X hk (by decide) J G) (by omega) rfl rfl rfl ⟨by decide, by decide, by decide, by decide⟩ rfl (Nat.le_of_ble_eq_true rfl) ?_
  refine z_istore (lv' := [(0, _), (1, _), (2, _), (3, _), (4, _), (5, _)]) d_Mac_useCursor_48 (by decide) rfl ?_
  refine z_iload_n d_Mac_useCursor_50 rfl ?_
  refine z_iconst (v := 1) d_Mac_useCursor_51 (by decide) ?_
  refine z_iadd d_Mac_useCursor_52 ?_
  refine z_istore (lv' := [(0, _), (1, _), (2, _), (3, _), (4, _), (5, _), (6, _)]) d_Mac_useCursor_53 (by decide) rfl ?_
  refine z_iload_n d_Mac_useCursor_55 rfl ?_
  refine z_tableIn (off := 125) d_Mac_useCursor_56 181 (by decide) (by decide) (by decide) (by decide) ?_
  refine z_aload_n d_Mac_useCursor_181 rfl ?_
  refine z_aload_n d_Mac_useCursor_182 rfl ?_
  refine z_iload d_Mac_useCursor_183 rfl ?_
  refine z_iload d_Mac_useCursor_185 rfl ?_
  refine z_callV0 d_Mac_useCursor_187 g_Mac_97 (hm) (by omega) rfl rfl rfl ⟨by decide, by decide, by decide, by decide⟩ rfl (Nat.le_of_ble_eq_true rfl) ?_
  refine z_iload d_Mac_useCursor_190 rfl ?_
  exact z_iret d_Mac_useCursor_192 rfl (by decide) (by decide) rfl rfl
set_option maxRecDepth 100000 in
set_option maxHeartbeats 4000000 in
theorem c_use_rowid (X : zX) {c k : Nat} (hc : c < 3) (hk : k < 60) (J : zJT) (G : zGT) (hp1 : J 16 (4 * k + 1) = nI c) (hop : ¬ J (26 + c) 0 = -1)  {J' : zJT} {G' : zGT} (hm : zK X 3 m_Mac_readKey [.ref 1, .ref (26 + c), .int (J 16 (4 * k + 2))] J G none J' G') : zK X 4 m_Mac_useCursor [.ref 1, .int (nI 5), .int (nI k)] J G (some (.int (nI k + 1))) J' G' := by
  refine zC_of (by decide) (Nat.le_of_ble_eq_true rfl) ?_
  refine z_aload_n d_Mac_useCursor_0 rfl ?_
  refine z_get d_Mac_useCursor_1 f_Mac_43 (by omega) rfl rfl ?_
  refine z_aload_n d_Mac_useCursor_4 rfl ?_
  refine z_get d_Mac_useCursor_5 f_Mac_21 (by omega) rfl rfl ?_
  refine z_iload_n d_Mac_useCursor_8 rfl ?_
  refine z_iconst (v := 1) d_Mac_useCursor_9 (by decide) ?_
  refine z_callV1 d_Mac_useCursor_10 g_Mac_58 (c_Pro_word (w := 1) X hk (by decide) J G) (by omega) rfl rfl rfl ⟨by decide, by decide, by decide, by decide⟩ rfl (Nat.le_of_ble_eq_true rfl) ?_
  rw [hp1]
  refine z_aald d_Mac_useCursor_13 (by omega) rfl rfl (show zin (nI c) c 3 from ⟨rfl, hc, by decide⟩) (zc_at hc) ?_
  refine z_astore_n (lv' := [(0, _), (1, _), (2, _), (3, _)]) d_Mac_useCursor_14 (by decide) rfl ?_
  refine z_aload_n d_Mac_useCursor_15 rfl ?_
  refine z_callV1 d_Mac_useCursor_16 g_Mac_81 (c_Cur_isShut X hc J G) (by omega) (zc_c hc _ _) rfl rfl ⟨by decide, by decide, by decide, by decide⟩ rfl (Nat.le_of_ble_eq_true rfl) ?_
  refine z_if_eq d_Mac_useCursor_19 28 (by decide) (fun _ => ?_) (fun h9 => absurd (by rw [decide_eq_false hop]; rfl) h9)
  refine z_aload_n d_Mac_useCursor_28 rfl ?_
  refine z_get d_Mac_useCursor_29 f_Mac_21 (by omega) rfl rfl ?_
  refine z_iload_n d_Mac_useCursor_32 rfl ?_
  refine z_iconst (v := 2) d_Mac_useCursor_33 (by decide) ?_
  refine z_callV1 d_Mac_useCursor_34 g_Mac_58 (c_Pro_word (w := 2) X hk (by decide) J G) (by omega) rfl rfl rfl ⟨by decide, by decide, by decide, by decide⟩ rfl (Nat.le_of_ble_eq_true rfl) ?_
  refine z_istore (lv' := [(0, _), (1, _), (2, _), (3, _), (4, _)]) d_Mac_useCursor_37 (by decide) rfl ?_
  refine z_aload_n d_Mac_useCursor_39 rfl ?_
  refine z_get d_Mac_useCursor_40 f_Mac_21 (by omega) rfl rfl ?_
  refine z_iload_n d_Mac_useCursor_43 rfl ?_
  refine z_iconst (v := 3) d_Mac_useCursor_44 (by decide) ?_
  refine z_callV1 d_Mac_useCursor_45 g_Mac_58 (c_Pro_word (w := 3) X hk (by decide) J G) (by omega) rfl rfl rfl ⟨by decide, by decide, by decide, by decide⟩ rfl (Nat.le_of_ble_eq_true rfl) ?_
  refine z_istore (lv' := [(0, _), (1, _), (2, _), (3, _), (4, _), (5, _)]) d_Mac_useCursor_48 (by decide) rfl ?_
  refine z_iload_n d_Mac_useCursor_50 rfl ?_
  refine z_iconst (v := 1) d_Mac_useCursor_51 (by decide) ?_
  refine z_iadd d_Mac_useCursor_52 ?_
  refine z_istore (lv' := [(0, _), (1, _), (2, _), (3, _), (4, _), (5, _), (6, _)]) d_Mac_useCursor_53 (by decide) rfl ?_
  refine z_iload_n d_Mac_useCursor_55 rfl ?_
  refine z_tableIn (off := 137) d_Mac_useCursor_56 193 (by decide) (by decide) (by decide) (by decide) ?_
  refine z_aload_n d_Mac_useCursor_193 rfl ?_
  refine z_aload_n d_Mac_useCursor_194 rfl ?_
  refine z_iload d_Mac_useCursor_195 rfl ?_
  refine z_callV0 d_Mac_useCursor_197 g_Mac_101 (hm) (by omega) rfl rfl rfl ⟨by decide, by decide, by decide, by decide⟩ rfl (Nat.le_of_ble_eq_true rfl) ?_
  refine z_iload d_Mac_useCursor_200 rfl ?_
  exact z_iret d_Mac_useCursor_202 rfl (by decide) (by decide) rfl rfl
set_option maxRecDepth 100000 in
set_option maxHeartbeats 4000000 in
theorem c_use_seek (X : zX) {c k : Nat} (hc : c < 3) (hk : k < 60) (J : zJT) (G : zGT) (hp1 : J 16 (4 * k + 1) = nI c) (hop : ¬ J (26 + c) 0 = -1) (b : Bool) {J' : zJT} {G' : zGT} (hm : zK X 2 m_Mac_seek [.ref 1, .ref (26 + c), .int (J 16 (4 * k + 3))] J G (some (.int (zb b))) J' G') : zK X 4 m_Mac_useCursor [.ref 1, .int (nI 8), .int (nI k)] J G (some (.int (if b then nI k + 1 else (J 16 (4 * k + 2))))) J' G' := by
  refine zC_of (by decide) (Nat.le_of_ble_eq_true rfl) ?_
  refine z_aload_n d_Mac_useCursor_0 rfl ?_
  refine z_get d_Mac_useCursor_1 f_Mac_43 (by omega) rfl rfl ?_
  refine z_aload_n d_Mac_useCursor_4 rfl ?_
  refine z_get d_Mac_useCursor_5 f_Mac_21 (by omega) rfl rfl ?_
  refine z_iload_n d_Mac_useCursor_8 rfl ?_
  refine z_iconst (v := 1) d_Mac_useCursor_9 (by decide) ?_
  refine z_callV1 d_Mac_useCursor_10 g_Mac_58 (c_Pro_word (w := 1) X hk (by decide) J G) (by omega) rfl rfl rfl ⟨by decide, by decide, by decide, by decide⟩ rfl (Nat.le_of_ble_eq_true rfl) ?_
  rw [hp1]
  refine z_aald d_Mac_useCursor_13 (by omega) rfl rfl (show zin (nI c) c 3 from ⟨rfl, hc, by decide⟩) (zc_at hc) ?_
  refine z_astore_n (lv' := [(0, _), (1, _), (2, _), (3, _)]) d_Mac_useCursor_14 (by decide) rfl ?_
  refine z_aload_n d_Mac_useCursor_15 rfl ?_
  refine z_callV1 d_Mac_useCursor_16 g_Mac_81 (c_Cur_isShut X hc J G) (by omega) (zc_c hc _ _) rfl rfl ⟨by decide, by decide, by decide, by decide⟩ rfl (Nat.le_of_ble_eq_true rfl) ?_
  refine z_if_eq d_Mac_useCursor_19 28 (by decide) (fun _ => ?_) (fun h9 => absurd (by rw [decide_eq_false hop]; rfl) h9)
  refine z_aload_n d_Mac_useCursor_28 rfl ?_
  refine z_get d_Mac_useCursor_29 f_Mac_21 (by omega) rfl rfl ?_
  refine z_iload_n d_Mac_useCursor_32 rfl ?_
  refine z_iconst (v := 2) d_Mac_useCursor_33 (by decide) ?_
  refine z_callV1 d_Mac_useCursor_34 g_Mac_58 (c_Pro_word (w := 2) X hk (by decide) J G) (by omega) rfl rfl rfl ⟨by decide, by decide, by decide, by decide⟩ rfl (Nat.le_of_ble_eq_true rfl) ?_
  refine z_istore (lv' := [(0, _), (1, _), (2, _), (3, _), (4, _)]) d_Mac_useCursor_37 (by decide) rfl ?_
  refine z_aload_n d_Mac_useCursor_39 rfl ?_
  refine z_get d_Mac_useCursor_40 f_Mac_21 (by omega) rfl rfl ?_
  refine z_iload_n d_Mac_useCursor_43 rfl ?_
  refine z_iconst (v := 3) d_Mac_useCursor_44 (by decide) ?_
  refine z_callV1 d_Mac_useCursor_45 g_Mac_58 (c_Pro_word (w := 3) X hk (by decide) J G) (by omega) rfl rfl rfl ⟨by decide, by decide, by decide, by decide⟩ rfl (Nat.le_of_ble_eq_true rfl) ?_
  refine z_istore (lv' := [(0, _), (1, _), (2, _), (3, _), (4, _), (5, _)]) d_Mac_useCursor_48 (by decide) rfl ?_
  refine z_iload_n d_Mac_useCursor_50 rfl ?_
  refine z_iconst (v := 1) d_Mac_useCursor_51 (by decide) ?_
  refine z_iadd d_Mac_useCursor_52 ?_
  refine z_istore (lv' := [(0, _), (1, _), (2, _), (3, _), (4, _), (5, _), (6, _)]) d_Mac_useCursor_53 (by decide) rfl ?_
  refine z_iload_n d_Mac_useCursor_55 rfl ?_
  refine z_tableIn (off := 147) d_Mac_useCursor_56 203 (by decide) (by decide) (by decide) (by decide) ?_
  refine z_aload_n d_Mac_useCursor_203 rfl ?_
  refine z_aload_n d_Mac_useCursor_204 rfl ?_
  refine z_iload d_Mac_useCursor_205 rfl ?_
  refine z_callV1 d_Mac_useCursor_207 g_Mac_105 (hm) (by omega) rfl rfl rfl ⟨by decide, by decide, by decide, by decide⟩ rfl (Nat.le_of_ble_eq_true rfl) ?_
  refine z_if_eq d_Mac_useCursor_210 218 (by decide) (fun h210 => ?_) (fun h210 => ?_)
  · refine z_iload d_Mac_useCursor_218 rfl ?_
    exact z_iret d_Mac_useCursor_220 rfl (by decide) (by decide) (by first | (rw [zb0 h210]; rfl) | (rw [zb1' h210]; rfl)) rfl
  · refine z_iload d_Mac_useCursor_213 rfl ?_
    refine z_goto d_Mac_useCursor_215 220 (by decide) ?_
    exact z_iret d_Mac_useCursor_220 rfl (by decide) (by decide) (by first | (rw [zb0 h210]; rfl) | (rw [zb1' h210]; rfl)) rfl
set_option maxRecDepth 100000 in
set_option maxHeartbeats 4000000 in
theorem c_use_insert (X : zX) {c k : Nat} (hc : c < 3) (hk : k < 60) (J : zJT) (G : zGT) (hp1 : J 16 (4 * k + 1) = nI c) (hop : ¬ J (26 + c) 0 = -1) (b : Bool) {J' : zJT} {G' : zGT} (hm : zK X 2 m_Mac_bringRow [.ref 1, .ref (26 + c), .int (J 16 (4 * k + 3))] J G (some (.int (zb b))) J' G') : zK X 4 m_Mac_useCursor [.ref 1, .int (nI 20), .int (nI k)] J G (some (.int (if b then nI k + 1 else (J 16 (4 * k + 2))))) J' G' := by
  refine zC_of (by decide) (Nat.le_of_ble_eq_true rfl) ?_
  refine z_aload_n d_Mac_useCursor_0 rfl ?_
  refine z_get d_Mac_useCursor_1 f_Mac_43 (by omega) rfl rfl ?_
  refine z_aload_n d_Mac_useCursor_4 rfl ?_
  refine z_get d_Mac_useCursor_5 f_Mac_21 (by omega) rfl rfl ?_
  refine z_iload_n d_Mac_useCursor_8 rfl ?_
  refine z_iconst (v := 1) d_Mac_useCursor_9 (by decide) ?_
  refine z_callV1 d_Mac_useCursor_10 g_Mac_58 (c_Pro_word (w := 1) X hk (by decide) J G) (by omega) rfl rfl rfl ⟨by decide, by decide, by decide, by decide⟩ rfl (Nat.le_of_ble_eq_true rfl) ?_
  rw [hp1]
  refine z_aald d_Mac_useCursor_13 (by omega) rfl rfl (show zin (nI c) c 3 from ⟨rfl, hc, by decide⟩) (zc_at hc) ?_
  refine z_astore_n (lv' := [(0, _), (1, _), (2, _), (3, _)]) d_Mac_useCursor_14 (by decide) rfl ?_
  refine z_aload_n d_Mac_useCursor_15 rfl ?_
  refine z_callV1 d_Mac_useCursor_16 g_Mac_81 (c_Cur_isShut X hc J G) (by omega) (zc_c hc _ _) rfl rfl ⟨by decide, by decide, by decide, by decide⟩ rfl (Nat.le_of_ble_eq_true rfl) ?_
  refine z_if_eq d_Mac_useCursor_19 28 (by decide) (fun _ => ?_) (fun h9 => absurd (by rw [decide_eq_false hop]; rfl) h9)
  refine z_aload_n d_Mac_useCursor_28 rfl ?_
  refine z_get d_Mac_useCursor_29 f_Mac_21 (by omega) rfl rfl ?_
  refine z_iload_n d_Mac_useCursor_32 rfl ?_
  refine z_iconst (v := 2) d_Mac_useCursor_33 (by decide) ?_
  refine z_callV1 d_Mac_useCursor_34 g_Mac_58 (c_Pro_word (w := 2) X hk (by decide) J G) (by omega) rfl rfl rfl ⟨by decide, by decide, by decide, by decide⟩ rfl (Nat.le_of_ble_eq_true rfl) ?_
  refine z_istore (lv' := [(0, _), (1, _), (2, _), (3, _), (4, _)]) d_Mac_useCursor_37 (by decide) rfl ?_
  refine z_aload_n d_Mac_useCursor_39 rfl ?_
  refine z_get d_Mac_useCursor_40 f_Mac_21 (by omega) rfl rfl ?_
  refine z_iload_n d_Mac_useCursor_43 rfl ?_
  refine z_iconst (v := 3) d_Mac_useCursor_44 (by decide) ?_
  refine z_callV1 d_Mac_useCursor_45 g_Mac_58 (c_Pro_word (w := 3) X hk (by decide) J G) (by omega) rfl rfl rfl ⟨by decide, by decide, by decide, by decide⟩ rfl (Nat.le_of_ble_eq_true rfl) ?_
  refine z_istore (lv' := [(0, _), (1, _), (2, _), (3, _), (4, _), (5, _)]) d_Mac_useCursor_48 (by decide) rfl ?_
  refine z_iload_n d_Mac_useCursor_50 rfl ?_
  refine z_iconst (v := 1) d_Mac_useCursor_51 (by decide) ?_
  refine z_iadd d_Mac_useCursor_52 ?_
  refine z_istore (lv' := [(0, _), (1, _), (2, _), (3, _), (4, _), (5, _), (6, _)]) d_Mac_useCursor_53 (by decide) rfl ?_
  refine z_iload_n d_Mac_useCursor_55 rfl ?_
  refine z_tableIn (off := 165) d_Mac_useCursor_56 221 (by decide) (by decide) (by decide) (by decide) ?_
  refine z_aload_n d_Mac_useCursor_221 rfl ?_
  refine z_aload_n d_Mac_useCursor_222 rfl ?_
  refine z_iload d_Mac_useCursor_223 rfl ?_
  refine z_callV1 d_Mac_useCursor_225 g_Mac_108 (hm) (by omega) rfl rfl rfl ⟨by decide, by decide, by decide, by decide⟩ rfl (Nat.le_of_ble_eq_true rfl) ?_
  refine z_if_eq d_Mac_useCursor_228 236 (by decide) (fun h228 => ?_) (fun h228 => ?_)
  · refine z_iload d_Mac_useCursor_236 rfl ?_
    exact z_iret d_Mac_useCursor_238 rfl (by decide) (by decide) (by first | (rw [zb0 h228]; rfl) | (rw [zb1' h228]; rfl)) rfl
  · refine z_iload d_Mac_useCursor_231 rfl ?_
    refine z_goto d_Mac_useCursor_233 238 (by decide) ?_
    exact z_iret d_Mac_useCursor_238 rfl (by decide) (by decide) (by first | (rw [zb0 h228]; rfl) | (rw [zb1' h228]; rfl)) rfl
set_option maxRecDepth 100000 in
set_option maxHeartbeats 4000000 in
theorem c_use_delete (X : zX) {c k : Nat} (hc : c < 3) (hk : k < 60) (J : zJT) (G : zGT) (hp1 : J 16 (4 * k + 1) = nI c) (hop : ¬ J (26 + c) 0 = -1)  {J' : zJT} {G' : zGT} (hm : zK X 2 m_Mac_dropRow [.ref 1, .ref (26 + c)] J G none J' G') : zK X 4 m_Mac_useCursor [.ref 1, .int (nI 21), .int (nI k)] J G (some (.int (nI k + 1))) J' G' := by
  refine zC_of (by decide) (Nat.le_of_ble_eq_true rfl) ?_
  refine z_aload_n d_Mac_useCursor_0 rfl ?_
  refine z_get d_Mac_useCursor_1 f_Mac_43 (by omega) rfl rfl ?_
  refine z_aload_n d_Mac_useCursor_4 rfl ?_
  refine z_get d_Mac_useCursor_5 f_Mac_21 (by omega) rfl rfl ?_
  refine z_iload_n d_Mac_useCursor_8 rfl ?_
  refine z_iconst (v := 1) d_Mac_useCursor_9 (by decide) ?_
  refine z_callV1 d_Mac_useCursor_10 g_Mac_58 (c_Pro_word (w := 1) X hk (by decide) J G) (by omega) rfl rfl rfl ⟨by decide, by decide, by decide, by decide⟩ rfl (Nat.le_of_ble_eq_true rfl) ?_
  rw [hp1]
  refine z_aald d_Mac_useCursor_13 (by omega) rfl rfl (show zin (nI c) c 3 from ⟨rfl, hc, by decide⟩) (zc_at hc) ?_
  refine z_astore_n (lv' := [(0, _), (1, _), (2, _), (3, _)]) d_Mac_useCursor_14 (by decide) rfl ?_
  refine z_aload_n d_Mac_useCursor_15 rfl ?_
  refine z_callV1 d_Mac_useCursor_16 g_Mac_81 (c_Cur_isShut X hc J G) (by omega) (zc_c hc _ _) rfl rfl ⟨by decide, by decide, by decide, by decide⟩ rfl (Nat.le_of_ble_eq_true rfl) ?_
  refine z_if_eq d_Mac_useCursor_19 28 (by decide) (fun _ => ?_) (fun h9 => absurd (by rw [decide_eq_false hop]; rfl) h9)
  refine z_aload_n d_Mac_useCursor_28 rfl ?_
  refine z_get d_Mac_useCursor_29 f_Mac_21 (by omega) rfl rfl ?_
  refine z_iload_n d_Mac_useCursor_32 rfl ?_
  refine z_iconst (v := 2) d_Mac_useCursor_33 (by decide) ?_
  refine z_callV1 d_Mac_useCursor_34 g_Mac_58 (c_Pro_word (w := 2) X hk (by decide) J G) (by omega) rfl rfl rfl ⟨by decide, by decide, by decide, by decide⟩ rfl (Nat.le_of_ble_eq_true rfl) ?_
  refine z_istore (lv' := [(0, _), (1, _), (2, _), (3, _), (4, _)]) d_Mac_useCursor_37 (by decide) rfl ?_
  refine z_aload_n d_Mac_useCursor_39 rfl ?_
  refine z_get d_Mac_useCursor_40 f_Mac_21 (by omega) rfl rfl ?_
  refine z_iload_n d_Mac_useCursor_43 rfl ?_
  refine z_iconst (v := 3) d_Mac_useCursor_44 (by decide) ?_
  refine z_callV1 d_Mac_useCursor_45 g_Mac_58 (c_Pro_word (w := 3) X hk (by decide) J G) (by omega) rfl rfl rfl ⟨by decide, by decide, by decide, by decide⟩ rfl (Nat.le_of_ble_eq_true rfl) ?_
  refine z_istore (lv' := [(0, _), (1, _), (2, _), (3, _), (4, _), (5, _)]) d_Mac_useCursor_48 (by decide) rfl ?_
  refine z_iload_n d_Mac_useCursor_50 rfl ?_
  refine z_iconst (v := 1) d_Mac_useCursor_51 (by decide) ?_
  refine z_iadd d_Mac_useCursor_52 ?_
  refine z_istore (lv' := [(0, _), (1, _), (2, _), (3, _), (4, _), (5, _), (6, _)]) d_Mac_useCursor_53 (by decide) rfl ?_
  refine z_iload_n d_Mac_useCursor_55 rfl ?_
  refine z_tableOut d_Mac_useCursor_56 239 (by decide) (by decide) ?_
  refine z_aload_n d_Mac_useCursor_239 rfl ?_
  refine z_aload_n d_Mac_useCursor_240 rfl ?_
  refine z_callV0 d_Mac_useCursor_241 g_Mac_111 (hm) (by omega) rfl rfl rfl ⟨by decide, by decide, by decide, by decide⟩ rfl (Nat.le_of_ble_eq_true rfl) ?_
  refine z_iload d_Mac_useCursor_244 rfl ?_
  exact z_iret d_Mac_useCursor_246 rfl (by decide) (by decide) rfl rfl
set_option maxRecDepth 100000 in
set_option maxHeartbeats 4000000 in
theorem c_com_halt (X : zX) {k : Nat} (hk : k < 60) (J : zJT) (G : zGT)  : zK X 2 m_Mac_compute [.ref 1, .int (nI 0), .int (nI k)] J G (some (.int (J 15 0))) (va_up J 1 (va_up (J 1) 5 0)) G := by
  refine zC_of (by decide) (Nat.le_of_ble_eq_true rfl) ?_
  refine z_aload_n d_Mac_compute_0 rfl ?_
  refine z_get d_Mac_compute_1 f_Mac_21 (by omega) rfl rfl ?_
  refine z_iload_n d_Mac_compute_4 rfl ?_
  refine z_iconst (v := 1) d_Mac_compute_5 (by decide) ?_
  refine z_callV1 d_Mac_compute_6 g_Mac_58 (c_Pro_word (w := 1) X hk (by decide) J G) (by omega) rfl rfl rfl ⟨by decide, by decide, by decide, by decide⟩ rfl (Nat.le_of_ble_eq_true rfl) ?_
  refine z_istore_n (lv' := [(0, _), (1, _), (2, _), (3, _)]) d_Mac_compute_9 (by decide) rfl ?_
  refine z_aload_n d_Mac_compute_10 rfl ?_
  refine z_get d_Mac_compute_11 f_Mac_21 (by omega) rfl rfl ?_
  refine z_iload_n d_Mac_compute_14 rfl ?_
  refine z_iconst (v := 2) d_Mac_compute_15 (by decide) ?_
  refine z_callV1 d_Mac_compute_16 g_Mac_58 (c_Pro_word (w := 2) X hk (by decide) J G) (by omega) rfl rfl rfl ⟨by decide, by decide, by decide, by decide⟩ rfl (Nat.le_of_ble_eq_true rfl) ?_
  refine z_istore (lv' := [(0, _), (1, _), (2, _), (3, _), (4, _)]) d_Mac_compute_19 (by decide) rfl ?_
  refine z_aload_n d_Mac_compute_21 rfl ?_
  refine z_get d_Mac_compute_22 f_Mac_21 (by omega) rfl rfl ?_
  refine z_iload_n d_Mac_compute_25 rfl ?_
  refine z_iconst (v := 3) d_Mac_compute_26 (by decide) ?_
  refine z_callV1 d_Mac_compute_27 g_Mac_58 (c_Pro_word (w := 3) X hk (by decide) J G) (by omega) rfl rfl rfl ⟨by decide, by decide, by decide, by decide⟩ rfl (Nat.le_of_ble_eq_true rfl) ?_
  refine z_istore (lv' := [(0, _), (1, _), (2, _), (3, _), (4, _), (5, _)]) d_Mac_compute_30 (by decide) rfl ?_
  refine z_iload_n d_Mac_compute_32 rfl ?_
  refine z_iconst (v := 1) d_Mac_compute_33 (by decide) ?_
  refine z_iadd d_Mac_compute_34 ?_
  refine z_istore (lv' := [(0, _), (1, _), (2, _), (3, _), (4, _), (5, _), (6, _)]) d_Mac_compute_35 (by decide) rfl ?_
  refine z_iload_n d_Mac_compute_37 rfl ?_
  refine z_tableIn (off := 94) d_Mac_compute_38 132 (by decide) (by decide) (by decide) (by decide) ?_
  refine z_aload_n d_Mac_compute_132 rfl ?_
  refine z_iconst (v := 0) d_Mac_compute_133 (by decide) ?_
  refine z_callV1 d_Mac_compute_134 g_Mac_85 (c_Mac_end X 0 J G) (by omega) rfl rfl rfl ⟨by decide, by decide, by decide, by decide⟩ rfl (Nat.le_of_ble_eq_true rfl) ?_
  exact z_iret d_Mac_compute_137 rfl (by decide) (by decide) rfl rfl
set_option maxRecDepth 100000 in
set_option maxHeartbeats 4000000 in
theorem c_com_open (X : zX) {k : Nat} (hk : k < 60) (J : zJT) (G : zGT) {c : Nat} (hc : c < 3) (hp1 : J 16 (4 * k + 1) = nI c) : zK X 2 m_Mac_compute [.ref 1, .int (nI 1), .int (nI k)] J G (some (.int (nI k + 1))) (va_up J (26 + c) (va_up (va_up (J (26 + c)) 0 (J 16 (4 * k + 2))) 1 0)) G := by
  refine zC_of (by decide) (Nat.le_of_ble_eq_true rfl) ?_
  refine z_aload_n d_Mac_compute_0 rfl ?_
  refine z_get d_Mac_compute_1 f_Mac_21 (by omega) rfl rfl ?_
  refine z_iload_n d_Mac_compute_4 rfl ?_
  refine z_iconst (v := 1) d_Mac_compute_5 (by decide) ?_
  refine z_callV1 d_Mac_compute_6 g_Mac_58 (c_Pro_word (w := 1) X hk (by decide) J G) (by omega) rfl rfl rfl ⟨by decide, by decide, by decide, by decide⟩ rfl (Nat.le_of_ble_eq_true rfl) ?_
  refine z_istore_n (lv' := [(0, _), (1, _), (2, _), (3, _)]) d_Mac_compute_9 (by decide) rfl ?_
  refine z_aload_n d_Mac_compute_10 rfl ?_
  refine z_get d_Mac_compute_11 f_Mac_21 (by omega) rfl rfl ?_
  refine z_iload_n d_Mac_compute_14 rfl ?_
  refine z_iconst (v := 2) d_Mac_compute_15 (by decide) ?_
  refine z_callV1 d_Mac_compute_16 g_Mac_58 (c_Pro_word (w := 2) X hk (by decide) J G) (by omega) rfl rfl rfl ⟨by decide, by decide, by decide, by decide⟩ rfl (Nat.le_of_ble_eq_true rfl) ?_
  refine z_istore (lv' := [(0, _), (1, _), (2, _), (3, _), (4, _)]) d_Mac_compute_19 (by decide) rfl ?_
  refine z_aload_n d_Mac_compute_21 rfl ?_
  refine z_get d_Mac_compute_22 f_Mac_21 (by omega) rfl rfl ?_
  refine z_iload_n d_Mac_compute_25 rfl ?_
  refine z_iconst (v := 3) d_Mac_compute_26 (by decide) ?_
  refine z_callV1 d_Mac_compute_27 g_Mac_58 (c_Pro_word (w := 3) X hk (by decide) J G) (by omega) rfl rfl rfl ⟨by decide, by decide, by decide, by decide⟩ rfl (Nat.le_of_ble_eq_true rfl) ?_
  refine z_istore (lv' := [(0, _), (1, _), (2, _), (3, _), (4, _), (5, _)]) d_Mac_compute_30 (by decide) rfl ?_
  refine z_iload_n d_Mac_compute_32 rfl ?_
  refine z_iconst (v := 1) d_Mac_compute_33 (by decide) ?_
  refine z_iadd d_Mac_compute_34 ?_
  refine z_istore (lv' := [(0, _), (1, _), (2, _), (3, _), (4, _), (5, _), (6, _)]) d_Mac_compute_35 (by decide) rfl ?_
  refine z_iload_n d_Mac_compute_37 rfl ?_
  refine z_tableIn (off := 100) d_Mac_compute_38 138 (by decide) (by decide) (by decide) (by decide) ?_
  refine z_aload_n d_Mac_compute_138 rfl ?_
  refine z_get d_Mac_compute_139 f_Mac_43 (by omega) rfl rfl ?_
  refine z_iload_n d_Mac_compute_142 rfl ?_
  rw [hp1]
  refine z_aald d_Mac_compute_143 (by omega) rfl rfl (show zin (nI c) c 3 from ⟨rfl, hc, by decide⟩) (zc_at hc) ?_
  refine z_iload d_Mac_compute_144 rfl ?_
  refine z_callV0 d_Mac_compute_146 g_Mac_115 (c_Cur_open X hc (J 16 (4 * k + 2)) J G) (by omega) (zc_c hc _ _) rfl rfl ⟨by decide, by decide, by decide, by decide⟩ rfl (Nat.le_of_ble_eq_true rfl) ?_
  refine z_iload d_Mac_compute_149 rfl ?_
  exact z_iret d_Mac_compute_151 rfl (by decide) (by decide) rfl rfl
set_option maxRecDepth 100000 in
set_option maxHeartbeats 4000000 in
theorem c_com_integer (X : zX) {k : Nat} (hk : k < 60) (J : zJT) (G : zGT) {i : Nat} (hi : i < 16) (hq : J 16 (4 * k + 2) = nI i) : zK X 2 m_Mac_compute [.ref 1, .int (nI 6), .int (nI k)] J G (some (.int (nI k + 1))) (va_up J 24 (upd (J 24) i 1)) (va_up G 23 (vp_updL (G 23) i ((J 16 (4 * k + 1))).toInt64)) := by
  refine zC_of (by decide) (Nat.le_of_ble_eq_true rfl) ?_
  refine z_aload_n d_Mac_compute_0 rfl ?_
  refine z_get d_Mac_compute_1 f_Mac_21 (by omega) rfl rfl ?_
  refine z_iload_n d_Mac_compute_4 rfl ?_
  refine z_iconst (v := 1) d_Mac_compute_5 (by decide) ?_
  refine z_callV1 d_Mac_compute_6 g_Mac_58 (c_Pro_word (w := 1) X hk (by decide) J G) (by omega) rfl rfl rfl ⟨by decide, by decide, by decide, by decide⟩ rfl (Nat.le_of_ble_eq_true rfl) ?_
  refine z_istore_n (lv' := [(0, _), (1, _), (2, _), (3, _)]) d_Mac_compute_9 (by decide) rfl ?_
  refine z_aload_n d_Mac_compute_10 rfl ?_
  refine z_get d_Mac_compute_11 f_Mac_21 (by omega) rfl rfl ?_
  refine z_iload_n d_Mac_compute_14 rfl ?_
  refine z_iconst (v := 2) d_Mac_compute_15 (by decide) ?_
  refine z_callV1 d_Mac_compute_16 g_Mac_58 (c_Pro_word (w := 2) X hk (by decide) J G) (by omega) rfl rfl rfl ⟨by decide, by decide, by decide, by decide⟩ rfl (Nat.le_of_ble_eq_true rfl) ?_
  refine z_istore (lv' := [(0, _), (1, _), (2, _), (3, _), (4, _)]) d_Mac_compute_19 (by decide) rfl ?_
  refine z_aload_n d_Mac_compute_21 rfl ?_
  refine z_get d_Mac_compute_22 f_Mac_21 (by omega) rfl rfl ?_
  refine z_iload_n d_Mac_compute_25 rfl ?_
  refine z_iconst (v := 3) d_Mac_compute_26 (by decide) ?_
  refine z_callV1 d_Mac_compute_27 g_Mac_58 (c_Pro_word (w := 3) X hk (by decide) J G) (by omega) rfl rfl rfl ⟨by decide, by decide, by decide, by decide⟩ rfl (Nat.le_of_ble_eq_true rfl) ?_
  refine z_istore (lv' := [(0, _), (1, _), (2, _), (3, _), (4, _), (5, _)]) d_Mac_compute_30 (by decide) rfl ?_
  refine z_iload_n d_Mac_compute_32 rfl ?_
  refine z_iconst (v := 1) d_Mac_compute_33 (by decide) ?_
  refine z_iadd d_Mac_compute_34 ?_
  refine z_istore (lv' := [(0, _), (1, _), (2, _), (3, _), (4, _), (5, _), (6, _)]) d_Mac_compute_35 (by decide) rfl ?_
  refine z_iload_n d_Mac_compute_37 rfl ?_
  refine z_tableIn (off := 114) d_Mac_compute_38 152 (by decide) (by decide) (by decide) (by decide) ?_
  refine z_aload_n d_Mac_compute_152 rfl ?_
  refine z_get d_Mac_compute_153 f_Mac_37 (by omega) rfl rfl ?_
  refine z_iload d_Mac_compute_156 rfl ?_
  refine z_iload_n d_Mac_compute_158 rfl ?_
  refine z_i2l d_Mac_compute_159 ?_
  rw [hq]
  refine z_callV0 d_Mac_compute_160 g_Mac_118 (c_Val_put X 0 zVal22 (show zin (nI i) i 16 from ⟨rfl, hi, by decide⟩) J G _) (by omega) rfl rfl rfl ⟨by decide, by decide, by decide, by decide⟩ rfl (Nat.le_of_ble_eq_true rfl) ?_
  refine z_iload d_Mac_compute_163 rfl ?_
  exact z_iret d_Mac_compute_165 rfl (by decide) (by decide) rfl rfl
set_option maxRecDepth 100000 in
set_option maxHeartbeats 4000000 in
theorem c_com_null (X : zX) {k : Nat} (hk : k < 60) (J : zJT) (G : zGT) {i : Nat} (hi : i < 16) (hp : J 16 (4 * k + 1) = nI i) : zK X 2 m_Mac_compute [.ref 1, .int (nI 7), .int (nI k)] J G (some (.int (nI k + 1))) (va_up J 24 (upd (J 24) i 0)) (va_up G 23 (vp_updL (G 23) i 0)) := by
  refine zC_of (by decide) (Nat.le_of_ble_eq_true rfl) ?_
  refine z_aload_n d_Mac_compute_0 rfl ?_
  refine z_get d_Mac_compute_1 f_Mac_21 (by omega) rfl rfl ?_
  refine z_iload_n d_Mac_compute_4 rfl ?_
  refine z_iconst (v := 1) d_Mac_compute_5 (by decide) ?_
  refine z_callV1 d_Mac_compute_6 g_Mac_58 (c_Pro_word (w := 1) X hk (by decide) J G) (by omega) rfl rfl rfl ⟨by decide, by decide, by decide, by decide⟩ rfl (Nat.le_of_ble_eq_true rfl) ?_
  refine z_istore_n (lv' := [(0, _), (1, _), (2, _), (3, _)]) d_Mac_compute_9 (by decide) rfl ?_
  refine z_aload_n d_Mac_compute_10 rfl ?_
  refine z_get d_Mac_compute_11 f_Mac_21 (by omega) rfl rfl ?_
  refine z_iload_n d_Mac_compute_14 rfl ?_
  refine z_iconst (v := 2) d_Mac_compute_15 (by decide) ?_
  refine z_callV1 d_Mac_compute_16 g_Mac_58 (c_Pro_word (w := 2) X hk (by decide) J G) (by omega) rfl rfl rfl ⟨by decide, by decide, by decide, by decide⟩ rfl (Nat.le_of_ble_eq_true rfl) ?_
  refine z_istore (lv' := [(0, _), (1, _), (2, _), (3, _), (4, _)]) d_Mac_compute_19 (by decide) rfl ?_
  refine z_aload_n d_Mac_compute_21 rfl ?_
  refine z_get d_Mac_compute_22 f_Mac_21 (by omega) rfl rfl ?_
  refine z_iload_n d_Mac_compute_25 rfl ?_
  refine z_iconst (v := 3) d_Mac_compute_26 (by decide) ?_
  refine z_callV1 d_Mac_compute_27 g_Mac_58 (c_Pro_word (w := 3) X hk (by decide) J G) (by omega) rfl rfl rfl ⟨by decide, by decide, by decide, by decide⟩ rfl (Nat.le_of_ble_eq_true rfl) ?_
  refine z_istore (lv' := [(0, _), (1, _), (2, _), (3, _), (4, _), (5, _)]) d_Mac_compute_30 (by decide) rfl ?_
  refine z_iload_n d_Mac_compute_32 rfl ?_
  refine z_iconst (v := 1) d_Mac_compute_33 (by decide) ?_
  refine z_iadd d_Mac_compute_34 ?_
  refine z_istore (lv' := [(0, _), (1, _), (2, _), (3, _), (4, _), (5, _), (6, _)]) d_Mac_compute_35 (by decide) rfl ?_
  refine z_iload_n d_Mac_compute_37 rfl ?_
  refine z_tableIn (off := 128) d_Mac_compute_38 166 (by decide) (by decide) (by decide) (by decide) ?_
  refine z_aload_n d_Mac_compute_166 rfl ?_
  refine z_get d_Mac_compute_167 f_Mac_37 (by omega) rfl rfl ?_
  refine z_iload_n d_Mac_compute_170 rfl ?_
  rw [hp]
  refine z_callV0 d_Mac_compute_171 g_Mac_122 (c_Val_clear X 0 zVal22 (show zin (nI i) i 16 from ⟨rfl, hi, by decide⟩) J G) (by omega) rfl rfl rfl ⟨by decide, by decide, by decide, by decide⟩ rfl (Nat.le_of_ble_eq_true rfl) ?_
  refine z_iload d_Mac_compute_174 rfl ?_
  exact z_iret d_Mac_compute_176 rfl (by decide) (by decide) rfl rfl
set_option maxRecDepth 100000 in
set_option maxHeartbeats 4000000 in
theorem c_com_isnull (X : zX) {k : Nat} (hk : k < 60) (J : zJT) (G : zGT) {i : Nat} (hi : i < 16) (hp : J 16 (4 * k + 1) = nI i) (b : Bool) (hvi : J 24 i = zb b) : zK X 2 m_Mac_compute [.ref 1, .int (nI 15), .int (nI k)] J G (some (.int (if b then nI k + 1 else (J 16 (4 * k + 2))))) J G := by
  refine zC_of (by decide) (Nat.le_of_ble_eq_true rfl) ?_
  refine z_aload_n d_Mac_compute_0 rfl ?_
  refine z_get d_Mac_compute_1 f_Mac_21 (by omega) rfl rfl ?_
  refine z_iload_n d_Mac_compute_4 rfl ?_
  refine z_iconst (v := 1) d_Mac_compute_5 (by decide) ?_
  refine z_callV1 d_Mac_compute_6 g_Mac_58 (c_Pro_word (w := 1) X hk (by decide) J G) (by omega) rfl rfl rfl ⟨by decide, by decide, by decide, by decide⟩ rfl (Nat.le_of_ble_eq_true rfl) ?_
  refine z_istore_n (lv' := [(0, _), (1, _), (2, _), (3, _)]) d_Mac_compute_9 (by decide) rfl ?_
  refine z_aload_n d_Mac_compute_10 rfl ?_
  refine z_get d_Mac_compute_11 f_Mac_21 (by omega) rfl rfl ?_
  refine z_iload_n d_Mac_compute_14 rfl ?_
  refine z_iconst (v := 2) d_Mac_compute_15 (by decide) ?_
  refine z_callV1 d_Mac_compute_16 g_Mac_58 (c_Pro_word (w := 2) X hk (by decide) J G) (by omega) rfl rfl rfl ⟨by decide, by decide, by decide, by decide⟩ rfl (Nat.le_of_ble_eq_true rfl) ?_
  refine z_istore (lv' := [(0, _), (1, _), (2, _), (3, _), (4, _)]) d_Mac_compute_19 (by decide) rfl ?_
  refine z_aload_n d_Mac_compute_21 rfl ?_
  refine z_get d_Mac_compute_22 f_Mac_21 (by omega) rfl rfl ?_
  refine z_iload_n d_Mac_compute_25 rfl ?_
  refine z_iconst (v := 3) d_Mac_compute_26 (by decide) ?_
  refine z_callV1 d_Mac_compute_27 g_Mac_58 (c_Pro_word (w := 3) X hk (by decide) J G) (by omega) rfl rfl rfl ⟨by decide, by decide, by decide, by decide⟩ rfl (Nat.le_of_ble_eq_true rfl) ?_
  refine z_istore (lv' := [(0, _), (1, _), (2, _), (3, _), (4, _), (5, _)]) d_Mac_compute_30 (by decide) rfl ?_
  refine z_iload_n d_Mac_compute_32 rfl ?_
  refine z_iconst (v := 1) d_Mac_compute_33 (by decide) ?_
  refine z_iadd d_Mac_compute_34 ?_
  refine z_istore (lv' := [(0, _), (1, _), (2, _), (3, _), (4, _), (5, _), (6, _)]) d_Mac_compute_35 (by decide) rfl ?_
  refine z_iload_n d_Mac_compute_37 rfl ?_
  refine z_tableIn (off := 139) d_Mac_compute_38 177 (by decide) (by decide) (by decide) (by decide) ?_
  refine z_aload_n d_Mac_compute_177 rfl ?_
  refine z_get d_Mac_compute_178 f_Mac_37 (by omega) rfl rfl ?_
  refine z_iload_n d_Mac_compute_181 rfl ?_
  rw [hp]
  refine z_callV1 d_Mac_compute_182 g_Mac_125 (c_Val_has X 0 zVal22 (show zin (nI i) i 16 from ⟨rfl, hi, by decide⟩) J G (by rw [show J (22 + 2) i = zb b from hvi]; exact zb_n b)) (by omega) rfl rfl rfl ⟨by decide, by decide, by decide, by decide⟩ rfl (Nat.le_of_ble_eq_true rfl) ?_
  refine z_if_eq d_Mac_compute_185 193 (by decide) (fun h185 => ?_) (fun h185 => ?_)
  · refine z_iload d_Mac_compute_193 rfl ?_
    exact z_iret d_Mac_compute_195 rfl (by decide) (by decide) (by rw [show J (22 + 2) i = zb b from hvi] at h185; first | (rw [zb0 h185]; rfl) | (rw [zb1' h185]; rfl)) rfl
  · refine z_iload d_Mac_compute_188 rfl ?_
    refine z_goto d_Mac_compute_190 195 (by decide) ?_
    exact z_iret d_Mac_compute_195 rfl (by decide) (by decide) (by rw [show J (22 + 2) i = zb b from hvi] at h185; first | (rw [zb0 h185]; rfl) | (rw [zb1' h185]; rfl)) rfl
set_option maxRecDepth 100000 in
set_option maxHeartbeats 4000000 in
theorem c_com_notnull (X : zX) {k : Nat} (hk : k < 60) (J : zJT) (G : zGT) {i : Nat} (hi : i < 16) (hp : J 16 (4 * k + 1) = nI i) (b : Bool) (hvi : J 24 i = zb b) : zK X 2 m_Mac_compute [.ref 1, .int (nI 16), .int (nI k)] J G (some (.int (if b then (J 16 (4 * k + 2)) else nI k + 1))) J G := by
  refine zC_of (by decide) (Nat.le_of_ble_eq_true rfl) ?_
  refine z_aload_n d_Mac_compute_0 rfl ?_
  refine z_get d_Mac_compute_1 f_Mac_21 (by omega) rfl rfl ?_
  refine z_iload_n d_Mac_compute_4 rfl ?_
  refine z_iconst (v := 1) d_Mac_compute_5 (by decide) ?_
  refine z_callV1 d_Mac_compute_6 g_Mac_58 (c_Pro_word (w := 1) X hk (by decide) J G) (by omega) rfl rfl rfl ⟨by decide, by decide, by decide, by decide⟩ rfl (Nat.le_of_ble_eq_true rfl) ?_
  refine z_istore_n (lv' := [(0, _), (1, _), (2, _), (3, _)]) d_Mac_compute_9 (by decide) rfl ?_
  refine z_aload_n d_Mac_compute_10 rfl ?_
  refine z_get d_Mac_compute_11 f_Mac_21 (by omega) rfl rfl ?_
  refine z_iload_n d_Mac_compute_14 rfl ?_
  refine z_iconst (v := 2) d_Mac_compute_15 (by decide) ?_
  refine z_callV1 d_Mac_compute_16 g_Mac_58 (c_Pro_word (w := 2) X hk (by decide) J G) (by omega) rfl rfl rfl ⟨by decide, by decide, by decide, by decide⟩ rfl (Nat.le_of_ble_eq_true rfl) ?_
  refine z_istore (lv' := [(0, _), (1, _), (2, _), (3, _), (4, _)]) d_Mac_compute_19 (by decide) rfl ?_
  refine z_aload_n d_Mac_compute_21 rfl ?_
  refine z_get d_Mac_compute_22 f_Mac_21 (by omega) rfl rfl ?_
  refine z_iload_n d_Mac_compute_25 rfl ?_
  refine z_iconst (v := 3) d_Mac_compute_26 (by decide) ?_
  refine z_callV1 d_Mac_compute_27 g_Mac_58 (c_Pro_word (w := 3) X hk (by decide) J G) (by omega) rfl rfl rfl ⟨by decide, by decide, by decide, by decide⟩ rfl (Nat.le_of_ble_eq_true rfl) ?_
  refine z_istore (lv' := [(0, _), (1, _), (2, _), (3, _), (4, _), (5, _)]) d_Mac_compute_30 (by decide) rfl ?_
  refine z_iload_n d_Mac_compute_32 rfl ?_
  refine z_iconst (v := 1) d_Mac_compute_33 (by decide) ?_
  refine z_iadd d_Mac_compute_34 ?_
  refine z_istore (lv' := [(0, _), (1, _), (2, _), (3, _), (4, _), (5, _), (6, _)]) d_Mac_compute_35 (by decide) rfl ?_
  refine z_iload_n d_Mac_compute_37 rfl ?_
  refine z_tableIn (off := 158) d_Mac_compute_38 196 (by decide) (by decide) (by decide) (by decide) ?_
  refine z_aload_n d_Mac_compute_196 rfl ?_
  refine z_get d_Mac_compute_197 f_Mac_37 (by omega) rfl rfl ?_
  refine z_iload_n d_Mac_compute_200 rfl ?_
  rw [hp]
  refine z_callV1 d_Mac_compute_201 g_Mac_125 (c_Val_has X 0 zVal22 (show zin (nI i) i 16 from ⟨rfl, hi, by decide⟩) J G (by rw [show J (22 + 2) i = zb b from hvi]; exact zb_n b)) (by omega) rfl rfl rfl ⟨by decide, by decide, by decide, by decide⟩ rfl (Nat.le_of_ble_eq_true rfl) ?_
  refine z_if_eq d_Mac_compute_204 212 (by decide) (fun h204 => ?_) (fun h204 => ?_)
  · refine z_iload d_Mac_compute_212 rfl ?_
    exact z_iret d_Mac_compute_214 rfl (by decide) (by decide) (by rw [show J (22 + 2) i = zb b from hvi] at h204; first | (rw [zb0 h204]; rfl) | (rw [zb1' h204]; rfl)) rfl
  · refine z_iload d_Mac_compute_207 rfl ?_
    refine z_goto d_Mac_compute_209 214 (by decide) ?_
    exact z_iret d_Mac_compute_214 rfl (by decide) (by decide) (by rw [show J (22 + 2) i = zb b from hvi] at h204; first | (rw [zb0 h204]; rfl) | (rw [zb1' h204]; rfl)) rfl
set_option maxRecDepth 100000 in
set_option maxHeartbeats 4000000 in
theorem c_com_add (X : zX) {k : Nat} (hk : k < 60) (J : zJT) (G : zGT) {J' : zJT} {G' : zGT} (hm : zK X 1 m_Mac_sum [.ref 1, .int (J 16 (4 * k + 1)), .int (J 16 (4 * k + 2)), .int (J 16 (4 * k + 3))] J G none J' G') : zK X 2 m_Mac_compute [.ref 1, .int (nI 17), .int (nI k)] J G (some (.int (nI k + 1))) J' G' := by
  refine zC_of (by decide) (Nat.le_of_ble_eq_true rfl) ?_
  refine z_aload_n d_Mac_compute_0 rfl ?_
  refine z_get d_Mac_compute_1 f_Mac_21 (by omega) rfl rfl ?_
  refine z_iload_n d_Mac_compute_4 rfl ?_
  refine z_iconst (v := 1) d_Mac_compute_5 (by decide) ?_
  refine z_callV1 d_Mac_compute_6 g_Mac_58 (c_Pro_word (w := 1) X hk (by decide) J G) (by omega) rfl rfl rfl ⟨by decide, by decide, by decide, by decide⟩ rfl (Nat.le_of_ble_eq_true rfl) ?_
  refine z_istore_n (lv' := [(0, _), (1, _), (2, _), (3, _)]) d_Mac_compute_9 (by decide) rfl ?_
  refine z_aload_n d_Mac_compute_10 rfl ?_
  refine z_get d_Mac_compute_11 f_Mac_21 (by omega) rfl rfl ?_
  refine z_iload_n d_Mac_compute_14 rfl ?_
  refine z_iconst (v := 2) d_Mac_compute_15 (by decide) ?_
  refine z_callV1 d_Mac_compute_16 g_Mac_58 (c_Pro_word (w := 2) X hk (by decide) J G) (by omega) rfl rfl rfl ⟨by decide, by decide, by decide, by decide⟩ rfl (Nat.le_of_ble_eq_true rfl) ?_
  refine z_istore (lv' := [(0, _), (1, _), (2, _), (3, _), (4, _)]) d_Mac_compute_19 (by decide) rfl ?_
  refine z_aload_n d_Mac_compute_21 rfl ?_
  refine z_get d_Mac_compute_22 f_Mac_21 (by omega) rfl rfl ?_
  refine z_iload_n d_Mac_compute_25 rfl ?_
  refine z_iconst (v := 3) d_Mac_compute_26 (by decide) ?_
  refine z_callV1 d_Mac_compute_27 g_Mac_58 (c_Pro_word (w := 3) X hk (by decide) J G) (by omega) rfl rfl rfl ⟨by decide, by decide, by decide, by decide⟩ rfl (Nat.le_of_ble_eq_true rfl) ?_
  refine z_istore (lv' := [(0, _), (1, _), (2, _), (3, _), (4, _), (5, _)]) d_Mac_compute_30 (by decide) rfl ?_
  refine z_iload_n d_Mac_compute_32 rfl ?_
  refine z_iconst (v := 1) d_Mac_compute_33 (by decide) ?_
  refine z_iadd d_Mac_compute_34 ?_
  refine z_istore (lv' := [(0, _), (1, _), (2, _), (3, _), (4, _), (5, _), (6, _)]) d_Mac_compute_35 (by decide) rfl ?_
  refine z_iload_n d_Mac_compute_37 rfl ?_
  refine z_tableIn (off := 177) d_Mac_compute_38 215 (by decide) (by decide) (by decide) (by decide) ?_
  refine z_aload_n d_Mac_compute_215 rfl ?_
  refine z_iload_n d_Mac_compute_216 rfl ?_
  refine z_iload d_Mac_compute_217 rfl ?_
  refine z_iload d_Mac_compute_219 rfl ?_
  refine z_callV0 d_Mac_compute_221 g_Mac_128 (hm) (by omega) rfl rfl rfl ⟨by decide, by decide, by decide, by decide⟩ rfl (Nat.le_of_ble_eq_true rfl) ?_
  refine z_iload d_Mac_compute_224 rfl ?_
  exact z_iret d_Mac_compute_226 rfl (by decide) (by decide) rfl rfl
set_option maxRecDepth 100000 in
set_option maxHeartbeats 4000000 in
theorem c_com_result1 (X : zX) {k : Nat} (hk : k < 60) (J : zJT) (G : zGT) {J' : zJT} {G' : zGT} (hm : zK X 1 m_Res_take [.ref 17, .ref 22, .int (J 16 (4 * k + 1)), .int (J 16 (4 * k + 2))] J G (some (.int (zb true))) J' G') : zK X 2 m_Mac_compute [.ref 1, .int (nI 18), .int (nI k)] J G (some (.int (nI k + 1))) J' G' := by
  refine zC_of (by decide) (Nat.le_of_ble_eq_true rfl) ?_
  refine z_aload_n d_Mac_compute_0 rfl ?_
  refine z_get d_Mac_compute_1 f_Mac_21 (by omega) rfl rfl ?_
  refine z_iload_n d_Mac_compute_4 rfl ?_
  refine z_iconst (v := 1) d_Mac_compute_5 (by decide) ?_
  refine z_callV1 d_Mac_compute_6 g_Mac_58 (c_Pro_word (w := 1) X hk (by decide) J G) (by omega) rfl rfl rfl ⟨by decide, by decide, by decide, by decide⟩ rfl (Nat.le_of_ble_eq_true rfl) ?_
  refine z_istore_n (lv' := [(0, _), (1, _), (2, _), (3, _)]) d_Mac_compute_9 (by decide) rfl ?_
  refine z_aload_n d_Mac_compute_10 rfl ?_
  refine z_get d_Mac_compute_11 f_Mac_21 (by omega) rfl rfl ?_
  refine z_iload_n d_Mac_compute_14 rfl ?_
  refine z_iconst (v := 2) d_Mac_compute_15 (by decide) ?_
  refine z_callV1 d_Mac_compute_16 g_Mac_58 (c_Pro_word (w := 2) X hk (by decide) J G) (by omega) rfl rfl rfl ⟨by decide, by decide, by decide, by decide⟩ rfl (Nat.le_of_ble_eq_true rfl) ?_
  refine z_istore (lv' := [(0, _), (1, _), (2, _), (3, _), (4, _)]) d_Mac_compute_19 (by decide) rfl ?_
  refine z_aload_n d_Mac_compute_21 rfl ?_
  refine z_get d_Mac_compute_22 f_Mac_21 (by omega) rfl rfl ?_
  refine z_iload_n d_Mac_compute_25 rfl ?_
  refine z_iconst (v := 3) d_Mac_compute_26 (by decide) ?_
  refine z_callV1 d_Mac_compute_27 g_Mac_58 (c_Pro_word (w := 3) X hk (by decide) J G) (by omega) rfl rfl rfl ⟨by decide, by decide, by decide, by decide⟩ rfl (Nat.le_of_ble_eq_true rfl) ?_
  refine z_istore (lv' := [(0, _), (1, _), (2, _), (3, _), (4, _), (5, _)]) d_Mac_compute_30 (by decide) rfl ?_
  refine z_iload_n d_Mac_compute_32 rfl ?_
  refine z_iconst (v := 1) d_Mac_compute_33 (by decide) ?_
  refine z_iadd d_Mac_compute_34 ?_
  refine z_istore (lv' := [(0, _), (1, _), (2, _), (3, _), (4, _), (5, _), (6, _)]) d_Mac_compute_35 (by decide) rfl ?_
  refine z_iload_n d_Mac_compute_37 rfl ?_
  refine z_tableIn (off := 189) d_Mac_compute_38 227 (by decide) (by decide) (by decide) (by decide) ?_
  refine z_aload_n d_Mac_compute_227 rfl ?_
  refine z_get d_Mac_compute_228 f_Mac_28 (by omega) rfl rfl ?_
  refine z_aload_n d_Mac_compute_231 rfl ?_
  refine z_get d_Mac_compute_232 f_Mac_37 (by omega) rfl rfl ?_
  refine z_iload_n d_Mac_compute_235 rfl ?_
  refine z_iload d_Mac_compute_236 rfl ?_
  refine z_callV1 d_Mac_compute_238 g_Mac_132 (hm) (by omega) rfl rfl rfl ⟨by decide, by decide, by decide, by decide⟩ rfl (Nat.le_of_ble_eq_true rfl) ?_
  refine z_if_eq d_Mac_compute_241 249 (by decide) (fun h9 => absurd h9 (by decide)) (fun _ => ?_)
  refine z_iload d_Mac_compute_244 rfl ?_
  refine z_goto d_Mac_compute_246 254 (by decide) ?_
  exact z_iret d_Mac_compute_254 rfl (by decide) (by decide) rfl rfl
set_option maxRecDepth 100000 in
set_option maxHeartbeats 4000000 in
theorem c_com_result0 (X : zX) {k : Nat} (hk : k < 60) (J : zJT) (G : zGT) (hm : zK X 1 m_Res_take [.ref 17, .ref 22, .int (J 16 (4 * k + 1)), .int (J 16 (4 * k + 2))] J G (some (.int (zb false))) J G) : zK X 2 m_Mac_compute [.ref 1, .int (nI 18), .int (nI k)] J G (some (.int (J 15 0))) (va_up J 1 (va_up (J 1) 5 2)) G := by
  refine zC_of (by decide) (Nat.le_of_ble_eq_true rfl) ?_
  refine z_aload_n d_Mac_compute_0 rfl ?_
  refine z_get d_Mac_compute_1 f_Mac_21 (by omega) rfl rfl ?_
  refine z_iload_n d_Mac_compute_4 rfl ?_
  refine z_iconst (v := 1) d_Mac_compute_5 (by decide) ?_
  refine z_callV1 d_Mac_compute_6 g_Mac_58 (c_Pro_word (w := 1) X hk (by decide) J G) (by omega) rfl rfl rfl ⟨by decide, by decide, by decide, by decide⟩ rfl (Nat.le_of_ble_eq_true rfl) ?_
  refine z_istore_n (lv' := [(0, _), (1, _), (2, _), (3, _)]) d_Mac_compute_9 (by decide) rfl ?_
  refine z_aload_n d_Mac_compute_10 rfl ?_
  refine z_get d_Mac_compute_11 f_Mac_21 (by omega) rfl rfl ?_
  refine z_iload_n d_Mac_compute_14 rfl ?_
  refine z_iconst (v := 2) d_Mac_compute_15 (by decide) ?_
  refine z_callV1 d_Mac_compute_16 g_Mac_58 (c_Pro_word (w := 2) X hk (by decide) J G) (by omega) rfl rfl rfl ⟨by decide, by decide, by decide, by decide⟩ rfl (Nat.le_of_ble_eq_true rfl) ?_
  refine z_istore (lv' := [(0, _), (1, _), (2, _), (3, _), (4, _)]) d_Mac_compute_19 (by decide) rfl ?_
  refine z_aload_n d_Mac_compute_21 rfl ?_
  refine z_get d_Mac_compute_22 f_Mac_21 (by omega) rfl rfl ?_
  refine z_iload_n d_Mac_compute_25 rfl ?_
  refine z_iconst (v := 3) d_Mac_compute_26 (by decide) ?_
  refine z_callV1 d_Mac_compute_27 g_Mac_58 (c_Pro_word (w := 3) X hk (by decide) J G) (by omega) rfl rfl rfl ⟨by decide, by decide, by decide, by decide⟩ rfl (Nat.le_of_ble_eq_true rfl) ?_
  refine z_istore (lv' := [(0, _), (1, _), (2, _), (3, _), (4, _), (5, _)]) d_Mac_compute_30 (by decide) rfl ?_
  refine z_iload_n d_Mac_compute_32 rfl ?_
  refine z_iconst (v := 1) d_Mac_compute_33 (by decide) ?_
  refine z_iadd d_Mac_compute_34 ?_
  refine z_istore (lv' := [(0, _), (1, _), (2, _), (3, _), (4, _), (5, _), (6, _)]) d_Mac_compute_35 (by decide) rfl ?_
  refine z_iload_n d_Mac_compute_37 rfl ?_
  refine z_tableIn (off := 189) d_Mac_compute_38 227 (by decide) (by decide) (by decide) (by decide) ?_
  refine z_aload_n d_Mac_compute_227 rfl ?_
  refine z_get d_Mac_compute_228 f_Mac_28 (by omega) rfl rfl ?_
  refine z_aload_n d_Mac_compute_231 rfl ?_
  refine z_get d_Mac_compute_232 f_Mac_37 (by omega) rfl rfl ?_
  refine z_iload_n d_Mac_compute_235 rfl ?_
  refine z_iload d_Mac_compute_236 rfl ?_
  refine z_callV1 d_Mac_compute_238 g_Mac_132 (hm) (by omega) rfl rfl rfl ⟨by decide, by decide, by decide, by decide⟩ rfl (Nat.le_of_ble_eq_true rfl) ?_
  refine z_if_eq d_Mac_compute_241 249 (by decide) (fun _ => ?_) (fun h9 => absurd (by decide) h9)
  refine z_aload_n d_Mac_compute_249 rfl ?_
  refine z_iconst (v := 2) d_Mac_compute_250 (by decide) ?_
  refine z_callV1 d_Mac_compute_251 g_Mac_85 (c_Mac_end X 2 J G) (by omega) rfl rfl rfl ⟨by decide, by decide, by decide, by decide⟩ rfl (Nat.le_of_ble_eq_true rfl) ?_
  exact z_iret d_Mac_compute_254 rfl (by decide) (by decide) rfl rfl
set_option maxRecDepth 100000 in
set_option maxHeartbeats 4000000 in
theorem c_com_goto (X : zX) {k : Nat} (hk : k < 60) (J : zJT) (G : zGT)  : zK X 2 m_Mac_compute [.ref 1, .int (nI 19), .int (nI k)] J G (some (.int (J 16 (4 * k + 1)))) J G := by
  refine zC_of (by decide) (Nat.le_of_ble_eq_true rfl) ?_
  refine z_aload_n d_Mac_compute_0 rfl ?_
  refine z_get d_Mac_compute_1 f_Mac_21 (by omega) rfl rfl ?_
  refine z_iload_n d_Mac_compute_4 rfl ?_
  refine z_iconst (v := 1) d_Mac_compute_5 (by decide) ?_
  refine z_callV1 d_Mac_compute_6 g_Mac_58 (c_Pro_word (w := 1) X hk (by decide) J G) (by omega) rfl rfl rfl ⟨by decide, by decide, by decide, by decide⟩ rfl (Nat.le_of_ble_eq_true rfl) ?_
  refine z_istore_n (lv' := [(0, _), (1, _), (2, _), (3, _)]) d_Mac_compute_9 (by decide) rfl ?_
  refine z_aload_n d_Mac_compute_10 rfl ?_
  refine z_get d_Mac_compute_11 f_Mac_21 (by omega) rfl rfl ?_
  refine z_iload_n d_Mac_compute_14 rfl ?_
  refine z_iconst (v := 2) d_Mac_compute_15 (by decide) ?_
  refine z_callV1 d_Mac_compute_16 g_Mac_58 (c_Pro_word (w := 2) X hk (by decide) J G) (by omega) rfl rfl rfl ⟨by decide, by decide, by decide, by decide⟩ rfl (Nat.le_of_ble_eq_true rfl) ?_
  refine z_istore (lv' := [(0, _), (1, _), (2, _), (3, _), (4, _)]) d_Mac_compute_19 (by decide) rfl ?_
  refine z_aload_n d_Mac_compute_21 rfl ?_
  refine z_get d_Mac_compute_22 f_Mac_21 (by omega) rfl rfl ?_
  refine z_iload_n d_Mac_compute_25 rfl ?_
  refine z_iconst (v := 3) d_Mac_compute_26 (by decide) ?_
  refine z_callV1 d_Mac_compute_27 g_Mac_58 (c_Pro_word (w := 3) X hk (by decide) J G) (by omega) rfl rfl rfl ⟨by decide, by decide, by decide, by decide⟩ rfl (Nat.le_of_ble_eq_true rfl) ?_
  refine z_istore (lv' := [(0, _), (1, _), (2, _), (3, _), (4, _), (5, _)]) d_Mac_compute_30 (by decide) rfl ?_
  refine z_iload_n d_Mac_compute_32 rfl ?_
  refine z_iconst (v := 1) d_Mac_compute_33 (by decide) ?_
  refine z_iadd d_Mac_compute_34 ?_
  refine z_istore (lv' := [(0, _), (1, _), (2, _), (3, _), (4, _), (5, _), (6, _)]) d_Mac_compute_35 (by decide) rfl ?_
  refine z_iload_n d_Mac_compute_37 rfl ?_
  refine z_tableIn (off := 217) d_Mac_compute_38 255 (by decide) (by decide) (by decide) (by decide) ?_
  refine z_iload_n d_Mac_compute_255 rfl ?_
  exact z_iret d_Mac_compute_256 rfl (by decide) (by decide) rfl rfl
set_option maxRecDepth 100000 in
set_option maxHeartbeats 4000000 in
theorem c_com_cmp9 (X : zX) {k : Nat} (hk : k < 60) (J : zJT) (G : zGT) (b : Bool) (hm : zK X 1 m_Mac_holds [.ref 1, .int (nI 9), .int (J 16 (4 * k + 1)), .int (J 16 (4 * k + 3))] J G (some (.int (zb b))) J G) : zK X 2 m_Mac_compute [.ref 1, .int (nI 9), .int (nI k)] J G (some (.int (if b then (J 16 (4 * k + 2)) else nI k + 1))) J G := by
  refine zC_of (by decide) (Nat.le_of_ble_eq_true rfl) ?_
  refine z_aload_n d_Mac_compute_0 rfl ?_
  refine z_get d_Mac_compute_1 f_Mac_21 (by omega) rfl rfl ?_
  refine z_iload_n d_Mac_compute_4 rfl ?_
  refine z_iconst (v := 1) d_Mac_compute_5 (by decide) ?_
  refine z_callV1 d_Mac_compute_6 g_Mac_58 (c_Pro_word (w := 1) X hk (by decide) J G) (by omega) rfl rfl rfl ⟨by decide, by decide, by decide, by decide⟩ rfl (Nat.le_of_ble_eq_true rfl) ?_
  refine z_istore_n (lv' := [(0, _), (1, _), (2, _), (3, _)]) d_Mac_compute_9 (by decide) rfl ?_
  refine z_aload_n d_Mac_compute_10 rfl ?_
  refine z_get d_Mac_compute_11 f_Mac_21 (by omega) rfl rfl ?_
  refine z_iload_n d_Mac_compute_14 rfl ?_
  refine z_iconst (v := 2) d_Mac_compute_15 (by decide) ?_
  refine z_callV1 d_Mac_compute_16 g_Mac_58 (c_Pro_word (w := 2) X hk (by decide) J G) (by omega) rfl rfl rfl ⟨by decide, by decide, by decide, by decide⟩ rfl (Nat.le_of_ble_eq_true rfl) ?_
  refine z_istore (lv' := [(0, _), (1, _), (2, _), (3, _), (4, _)]) d_Mac_compute_19 (by decide) rfl ?_
  refine z_aload_n d_Mac_compute_21 rfl ?_
  refine z_get d_Mac_compute_22 f_Mac_21 (by omega) rfl rfl ?_
  refine z_iload_n d_Mac_compute_25 rfl ?_
  refine z_iconst (v := 3) d_Mac_compute_26 (by decide) ?_
  refine z_callV1 d_Mac_compute_27 g_Mac_58 (c_Pro_word (w := 3) X hk (by decide) J G) (by omega) rfl rfl rfl ⟨by decide, by decide, by decide, by decide⟩ rfl (Nat.le_of_ble_eq_true rfl) ?_
  refine z_istore (lv' := [(0, _), (1, _), (2, _), (3, _), (4, _), (5, _)]) d_Mac_compute_30 (by decide) rfl ?_
  refine z_iload_n d_Mac_compute_32 rfl ?_
  refine z_iconst (v := 1) d_Mac_compute_33 (by decide) ?_
  refine z_iadd d_Mac_compute_34 ?_
  refine z_istore (lv' := [(0, _), (1, _), (2, _), (3, _), (4, _), (5, _), (6, _)]) d_Mac_compute_35 (by decide) rfl ?_
  refine z_iload_n d_Mac_compute_37 rfl ?_
  refine z_tableIn (off := 219) d_Mac_compute_38 257 (by decide) (by decide) (by decide) (by decide) ?_
  refine z_aload_n d_Mac_compute_257 rfl ?_
  refine z_iload_n d_Mac_compute_258 rfl ?_
  refine z_iload_n d_Mac_compute_259 rfl ?_
  refine z_iload d_Mac_compute_260 rfl ?_
  refine z_callV1 d_Mac_compute_262 g_Mac_136 (hm) (by omega) rfl rfl rfl ⟨by decide, by decide, by decide, by decide⟩ rfl (Nat.le_of_ble_eq_true rfl) ?_
  refine z_if_eq d_Mac_compute_265 273 (by decide) (fun h265 => ?_) (fun h265 => ?_)
  · refine z_iload d_Mac_compute_273 rfl ?_
    exact z_iret d_Mac_compute_275 rfl (by decide) (by decide) (by first | (rw [zb0 h265]; rfl) | (rw [zb1' h265]; rfl)) rfl
  · refine z_iload d_Mac_compute_268 rfl ?_
    refine z_goto d_Mac_compute_270 275 (by decide) ?_
    exact z_iret d_Mac_compute_275 rfl (by decide) (by decide) (by first | (rw [zb0 h265]; rfl) | (rw [zb1' h265]; rfl)) rfl
set_option maxRecDepth 100000 in
set_option maxHeartbeats 4000000 in
theorem c_com_cmp10 (X : zX) {k : Nat} (hk : k < 60) (J : zJT) (G : zGT) (b : Bool) (hm : zK X 1 m_Mac_holds [.ref 1, .int (nI 10), .int (J 16 (4 * k + 1)), .int (J 16 (4 * k + 3))] J G (some (.int (zb b))) J G) : zK X 2 m_Mac_compute [.ref 1, .int (nI 10), .int (nI k)] J G (some (.int (if b then (J 16 (4 * k + 2)) else nI k + 1))) J G := by
  refine zC_of (by decide) (Nat.le_of_ble_eq_true rfl) ?_
  refine z_aload_n d_Mac_compute_0 rfl ?_
  refine z_get d_Mac_compute_1 f_Mac_21 (by omega) rfl rfl ?_
  refine z_iload_n d_Mac_compute_4 rfl ?_
  refine z_iconst (v := 1) d_Mac_compute_5 (by decide) ?_
  refine z_callV1 d_Mac_compute_6 g_Mac_58 (c_Pro_word (w := 1) X hk (by decide) J G) (by omega) rfl rfl rfl ⟨by decide, by decide, by decide, by decide⟩ rfl (Nat.le_of_ble_eq_true rfl) ?_
  refine z_istore_n (lv' := [(0, _), (1, _), (2, _), (3, _)]) d_Mac_compute_9 (by decide) rfl ?_
  refine z_aload_n d_Mac_compute_10 rfl ?_
  refine z_get d_Mac_compute_11 f_Mac_21 (by omega) rfl rfl ?_
  refine z_iload_n d_Mac_compute_14 rfl ?_
  refine z_iconst (v := 2) d_Mac_compute_15 (by decide) ?_
  refine z_callV1 d_Mac_compute_16 g_Mac_58 (c_Pro_word (w := 2) X hk (by decide) J G) (by omega) rfl rfl rfl ⟨by decide, by decide, by decide, by decide⟩ rfl (Nat.le_of_ble_eq_true rfl) ?_
  refine z_istore (lv' := [(0, _), (1, _), (2, _), (3, _), (4, _)]) d_Mac_compute_19 (by decide) rfl ?_
  refine z_aload_n d_Mac_compute_21 rfl ?_
  refine z_get d_Mac_compute_22 f_Mac_21 (by omega) rfl rfl ?_
  refine z_iload_n d_Mac_compute_25 rfl ?_
  refine z_iconst (v := 3) d_Mac_compute_26 (by decide) ?_
  refine z_callV1 d_Mac_compute_27 g_Mac_58 (c_Pro_word (w := 3) X hk (by decide) J G) (by omega) rfl rfl rfl ⟨by decide, by decide, by decide, by decide⟩ rfl (Nat.le_of_ble_eq_true rfl) ?_
  refine z_istore (lv' := [(0, _), (1, _), (2, _), (3, _), (4, _), (5, _)]) d_Mac_compute_30 (by decide) rfl ?_
  refine z_iload_n d_Mac_compute_32 rfl ?_
  refine z_iconst (v := 1) d_Mac_compute_33 (by decide) ?_
  refine z_iadd d_Mac_compute_34 ?_
  refine z_istore (lv' := [(0, _), (1, _), (2, _), (3, _), (4, _), (5, _), (6, _)]) d_Mac_compute_35 (by decide) rfl ?_
  refine z_iload_n d_Mac_compute_37 rfl ?_
  refine z_tableIn (off := 219) d_Mac_compute_38 257 (by decide) (by decide) (by decide) (by decide) ?_
  refine z_aload_n d_Mac_compute_257 rfl ?_
  refine z_iload_n d_Mac_compute_258 rfl ?_
  refine z_iload_n d_Mac_compute_259 rfl ?_
  refine z_iload d_Mac_compute_260 rfl ?_
  refine z_callV1 d_Mac_compute_262 g_Mac_136 (hm) (by omega) rfl rfl rfl ⟨by decide, by decide, by decide, by decide⟩ rfl (Nat.le_of_ble_eq_true rfl) ?_
  refine z_if_eq d_Mac_compute_265 273 (by decide) (fun h265 => ?_) (fun h265 => ?_)
  · refine z_iload d_Mac_compute_273 rfl ?_
    exact z_iret d_Mac_compute_275 rfl (by decide) (by decide) (by first | (rw [zb0 h265]; rfl) | (rw [zb1' h265]; rfl)) rfl
  · refine z_iload d_Mac_compute_268 rfl ?_
    refine z_goto d_Mac_compute_270 275 (by decide) ?_
    exact z_iret d_Mac_compute_275 rfl (by decide) (by decide) (by first | (rw [zb0 h265]; rfl) | (rw [zb1' h265]; rfl)) rfl
set_option maxRecDepth 100000 in
set_option maxHeartbeats 4000000 in
theorem c_com_cmp11 (X : zX) {k : Nat} (hk : k < 60) (J : zJT) (G : zGT) (b : Bool) (hm : zK X 1 m_Mac_holds [.ref 1, .int (nI 11), .int (J 16 (4 * k + 1)), .int (J 16 (4 * k + 3))] J G (some (.int (zb b))) J G) : zK X 2 m_Mac_compute [.ref 1, .int (nI 11), .int (nI k)] J G (some (.int (if b then (J 16 (4 * k + 2)) else nI k + 1))) J G := by
  refine zC_of (by decide) (Nat.le_of_ble_eq_true rfl) ?_
  refine z_aload_n d_Mac_compute_0 rfl ?_
  refine z_get d_Mac_compute_1 f_Mac_21 (by omega) rfl rfl ?_
  refine z_iload_n d_Mac_compute_4 rfl ?_
  refine z_iconst (v := 1) d_Mac_compute_5 (by decide) ?_
  refine z_callV1 d_Mac_compute_6 g_Mac_58 (c_Pro_word (w := 1) X hk (by decide) J G) (by omega) rfl rfl rfl ⟨by decide, by decide, by decide, by decide⟩ rfl (Nat.le_of_ble_eq_true rfl) ?_
  refine z_istore_n (lv' := [(0, _), (1, _), (2, _), (3, _)]) d_Mac_compute_9 (by decide) rfl ?_
  refine z_aload_n d_Mac_compute_10 rfl ?_
  refine z_get d_Mac_compute_11 f_Mac_21 (by omega) rfl rfl ?_
  refine z_iload_n d_Mac_compute_14 rfl ?_
  refine z_iconst (v := 2) d_Mac_compute_15 (by decide) ?_
  refine z_callV1 d_Mac_compute_16 g_Mac_58 (c_Pro_word (w := 2) X hk (by decide) J G) (by omega) rfl rfl rfl ⟨by decide, by decide, by decide, by decide⟩ rfl (Nat.le_of_ble_eq_true rfl) ?_
  refine z_istore (lv' := [(0, _), (1, _), (2, _), (3, _), (4, _)]) d_Mac_compute_19 (by decide) rfl ?_
  refine z_aload_n d_Mac_compute_21 rfl ?_
  refine z_get d_Mac_compute_22 f_Mac_21 (by omega) rfl rfl ?_
  refine z_iload_n d_Mac_compute_25 rfl ?_
  refine z_iconst (v := 3) d_Mac_compute_26 (by decide) ?_
  refine z_callV1 d_Mac_compute_27 g_Mac_58 (c_Pro_word (w := 3) X hk (by decide) J G) (by omega) rfl rfl rfl ⟨by decide, by decide, by decide, by decide⟩ rfl (Nat.le_of_ble_eq_true rfl) ?_
  refine z_istore (lv' := [(0, _), (1, _), (2, _), (3, _), (4, _), (5, _)]) d_Mac_compute_30 (by decide) rfl ?_
  refine z_iload_n d_Mac_compute_32 rfl ?_
  refine z_iconst (v := 1) d_Mac_compute_33 (by decide) ?_
  refine z_iadd d_Mac_compute_34 ?_
  refine z_istore (lv' := [(0, _), (1, _), (2, _), (3, _), (4, _), (5, _), (6, _)]) d_Mac_compute_35 (by decide) rfl ?_
  refine z_iload_n d_Mac_compute_37 rfl ?_
  refine z_tableIn (off := 219) d_Mac_compute_38 257 (by decide) (by decide) (by decide) (by decide) ?_
  refine z_aload_n d_Mac_compute_257 rfl ?_
  refine z_iload_n d_Mac_compute_258 rfl ?_
  refine z_iload_n d_Mac_compute_259 rfl ?_
  refine z_iload d_Mac_compute_260 rfl ?_
  refine z_callV1 d_Mac_compute_262 g_Mac_136 (hm) (by omega) rfl rfl rfl ⟨by decide, by decide, by decide, by decide⟩ rfl (Nat.le_of_ble_eq_true rfl) ?_
  refine z_if_eq d_Mac_compute_265 273 (by decide) (fun h265 => ?_) (fun h265 => ?_)
  · refine z_iload d_Mac_compute_273 rfl ?_
    exact z_iret d_Mac_compute_275 rfl (by decide) (by decide) (by first | (rw [zb0 h265]; rfl) | (rw [zb1' h265]; rfl)) rfl
  · refine z_iload d_Mac_compute_268 rfl ?_
    refine z_goto d_Mac_compute_270 275 (by decide) ?_
    exact z_iret d_Mac_compute_275 rfl (by decide) (by decide) (by first | (rw [zb0 h265]; rfl) | (rw [zb1' h265]; rfl)) rfl
set_option maxRecDepth 100000 in
set_option maxHeartbeats 4000000 in
theorem c_com_cmp12 (X : zX) {k : Nat} (hk : k < 60) (J : zJT) (G : zGT) (b : Bool) (hm : zK X 1 m_Mac_holds [.ref 1, .int (nI 12), .int (J 16 (4 * k + 1)), .int (J 16 (4 * k + 3))] J G (some (.int (zb b))) J G) : zK X 2 m_Mac_compute [.ref 1, .int (nI 12), .int (nI k)] J G (some (.int (if b then (J 16 (4 * k + 2)) else nI k + 1))) J G := by
  refine zC_of (by decide) (Nat.le_of_ble_eq_true rfl) ?_
  refine z_aload_n d_Mac_compute_0 rfl ?_
  refine z_get d_Mac_compute_1 f_Mac_21 (by omega) rfl rfl ?_
  refine z_iload_n d_Mac_compute_4 rfl ?_
  refine z_iconst (v := 1) d_Mac_compute_5 (by decide) ?_
  refine z_callV1 d_Mac_compute_6 g_Mac_58 (c_Pro_word (w := 1) X hk (by decide) J G) (by omega) rfl rfl rfl ⟨by decide, by decide, by decide, by decide⟩ rfl (Nat.le_of_ble_eq_true rfl) ?_
  refine z_istore_n (lv' := [(0, _), (1, _), (2, _), (3, _)]) d_Mac_compute_9 (by decide) rfl ?_
  refine z_aload_n d_Mac_compute_10 rfl ?_
  refine z_get d_Mac_compute_11 f_Mac_21 (by omega) rfl rfl ?_
  refine z_iload_n d_Mac_compute_14 rfl ?_
  refine z_iconst (v := 2) d_Mac_compute_15 (by decide) ?_
  refine z_callV1 d_Mac_compute_16 g_Mac_58 (c_Pro_word (w := 2) X hk (by decide) J G) (by omega) rfl rfl rfl ⟨by decide, by decide, by decide, by decide⟩ rfl (Nat.le_of_ble_eq_true rfl) ?_
  refine z_istore (lv' := [(0, _), (1, _), (2, _), (3, _), (4, _)]) d_Mac_compute_19 (by decide) rfl ?_
  refine z_aload_n d_Mac_compute_21 rfl ?_
  refine z_get d_Mac_compute_22 f_Mac_21 (by omega) rfl rfl ?_
  refine z_iload_n d_Mac_compute_25 rfl ?_
  refine z_iconst (v := 3) d_Mac_compute_26 (by decide) ?_
  refine z_callV1 d_Mac_compute_27 g_Mac_58 (c_Pro_word (w := 3) X hk (by decide) J G) (by omega) rfl rfl rfl ⟨by decide, by decide, by decide, by decide⟩ rfl (Nat.le_of_ble_eq_true rfl) ?_
  refine z_istore (lv' := [(0, _), (1, _), (2, _), (3, _), (4, _), (5, _)]) d_Mac_compute_30 (by decide) rfl ?_
  refine z_iload_n d_Mac_compute_32 rfl ?_
  refine z_iconst (v := 1) d_Mac_compute_33 (by decide) ?_
  refine z_iadd d_Mac_compute_34 ?_
  refine z_istore (lv' := [(0, _), (1, _), (2, _), (3, _), (4, _), (5, _), (6, _)]) d_Mac_compute_35 (by decide) rfl ?_
  refine z_iload_n d_Mac_compute_37 rfl ?_
  refine z_tableIn (off := 219) d_Mac_compute_38 257 (by decide) (by decide) (by decide) (by decide) ?_
  refine z_aload_n d_Mac_compute_257 rfl ?_
  refine z_iload_n d_Mac_compute_258 rfl ?_
  refine z_iload_n d_Mac_compute_259 rfl ?_
  refine z_iload d_Mac_compute_260 rfl ?_
  refine z_callV1 d_Mac_compute_262 g_Mac_136 (hm) (by omega) rfl rfl rfl ⟨by decide, by decide, by decide, by decide⟩ rfl (Nat.le_of_ble_eq_true rfl) ?_
  refine z_if_eq d_Mac_compute_265 273 (by decide) (fun h265 => ?_) (fun h265 => ?_)
  · refine z_iload d_Mac_compute_273 rfl ?_
    exact z_iret d_Mac_compute_275 rfl (by decide) (by decide) (by first | (rw [zb0 h265]; rfl) | (rw [zb1' h265]; rfl)) rfl
  · refine z_iload d_Mac_compute_268 rfl ?_
    refine z_goto d_Mac_compute_270 275 (by decide) ?_
    exact z_iret d_Mac_compute_275 rfl (by decide) (by decide) (by first | (rw [zb0 h265]; rfl) | (rw [zb1' h265]; rfl)) rfl
set_option maxRecDepth 100000 in
set_option maxHeartbeats 4000000 in
theorem c_com_cmp13 (X : zX) {k : Nat} (hk : k < 60) (J : zJT) (G : zGT) (b : Bool) (hm : zK X 1 m_Mac_holds [.ref 1, .int (nI 13), .int (J 16 (4 * k + 1)), .int (J 16 (4 * k + 3))] J G (some (.int (zb b))) J G) : zK X 2 m_Mac_compute [.ref 1, .int (nI 13), .int (nI k)] J G (some (.int (if b then (J 16 (4 * k + 2)) else nI k + 1))) J G := by
  refine zC_of (by decide) (Nat.le_of_ble_eq_true rfl) ?_
  refine z_aload_n d_Mac_compute_0 rfl ?_
  refine z_get d_Mac_compute_1 f_Mac_21 (by omega) rfl rfl ?_
  refine z_iload_n d_Mac_compute_4 rfl ?_
  refine z_iconst (v := 1) d_Mac_compute_5 (by decide) ?_
  refine z_callV1 d_Mac_compute_6 g_Mac_58 (c_Pro_word (w := 1) X hk (by decide) J G) (by omega) rfl rfl rfl ⟨by decide, by decide, by decide, by decide⟩ rfl (Nat.le_of_ble_eq_true rfl) ?_
  refine z_istore_n (lv' := [(0, _), (1, _), (2, _), (3, _)]) d_Mac_compute_9 (by decide) rfl ?_
  refine z_aload_n d_Mac_compute_10 rfl ?_
  refine z_get d_Mac_compute_11 f_Mac_21 (by omega) rfl rfl ?_
  refine z_iload_n d_Mac_compute_14 rfl ?_
  refine z_iconst (v := 2) d_Mac_compute_15 (by decide) ?_
  refine z_callV1 d_Mac_compute_16 g_Mac_58 (c_Pro_word (w := 2) X hk (by decide) J G) (by omega) rfl rfl rfl ⟨by decide, by decide, by decide, by decide⟩ rfl (Nat.le_of_ble_eq_true rfl) ?_
  refine z_istore (lv' := [(0, _), (1, _), (2, _), (3, _), (4, _)]) d_Mac_compute_19 (by decide) rfl ?_
  refine z_aload_n d_Mac_compute_21 rfl ?_
  refine z_get d_Mac_compute_22 f_Mac_21 (by omega) rfl rfl ?_
  refine z_iload_n d_Mac_compute_25 rfl ?_
  refine z_iconst (v := 3) d_Mac_compute_26 (by decide) ?_
  refine z_callV1 d_Mac_compute_27 g_Mac_58 (c_Pro_word (w := 3) X hk (by decide) J G) (by omega) rfl rfl rfl ⟨by decide, by decide, by decide, by decide⟩ rfl (Nat.le_of_ble_eq_true rfl) ?_
  refine z_istore (lv' := [(0, _), (1, _), (2, _), (3, _), (4, _), (5, _)]) d_Mac_compute_30 (by decide) rfl ?_
  refine z_iload_n d_Mac_compute_32 rfl ?_
  refine z_iconst (v := 1) d_Mac_compute_33 (by decide) ?_
  refine z_iadd d_Mac_compute_34 ?_
  refine z_istore (lv' := [(0, _), (1, _), (2, _), (3, _), (4, _), (5, _), (6, _)]) d_Mac_compute_35 (by decide) rfl ?_
  refine z_iload_n d_Mac_compute_37 rfl ?_
  refine z_tableIn (off := 219) d_Mac_compute_38 257 (by decide) (by decide) (by decide) (by decide) ?_
  refine z_aload_n d_Mac_compute_257 rfl ?_
  refine z_iload_n d_Mac_compute_258 rfl ?_
  refine z_iload_n d_Mac_compute_259 rfl ?_
  refine z_iload d_Mac_compute_260 rfl ?_
  refine z_callV1 d_Mac_compute_262 g_Mac_136 (hm) (by omega) rfl rfl rfl ⟨by decide, by decide, by decide, by decide⟩ rfl (Nat.le_of_ble_eq_true rfl) ?_
  refine z_if_eq d_Mac_compute_265 273 (by decide) (fun h265 => ?_) (fun h265 => ?_)
  · refine z_iload d_Mac_compute_273 rfl ?_
    exact z_iret d_Mac_compute_275 rfl (by decide) (by decide) (by first | (rw [zb0 h265]; rfl) | (rw [zb1' h265]; rfl)) rfl
  · refine z_iload d_Mac_compute_268 rfl ?_
    refine z_goto d_Mac_compute_270 275 (by decide) ?_
    exact z_iret d_Mac_compute_275 rfl (by decide) (by decide) (by first | (rw [zb0 h265]; rfl) | (rw [zb1' h265]; rfl)) rfl
set_option maxRecDepth 100000 in
set_option maxHeartbeats 4000000 in
theorem c_com_cmp14 (X : zX) {k : Nat} (hk : k < 60) (J : zJT) (G : zGT) (b : Bool) (hm : zK X 1 m_Mac_holds [.ref 1, .int (nI 14), .int (J 16 (4 * k + 1)), .int (J 16 (4 * k + 3))] J G (some (.int (zb b))) J G) : zK X 2 m_Mac_compute [.ref 1, .int (nI 14), .int (nI k)] J G (some (.int (if b then (J 16 (4 * k + 2)) else nI k + 1))) J G := by
  refine zC_of (by decide) (Nat.le_of_ble_eq_true rfl) ?_
  refine z_aload_n d_Mac_compute_0 rfl ?_
  refine z_get d_Mac_compute_1 f_Mac_21 (by omega) rfl rfl ?_
  refine z_iload_n d_Mac_compute_4 rfl ?_
  refine z_iconst (v := 1) d_Mac_compute_5 (by decide) ?_
  refine z_callV1 d_Mac_compute_6 g_Mac_58 (c_Pro_word (w := 1) X hk (by decide) J G) (by omega) rfl rfl rfl ⟨by decide, by decide, by decide, by decide⟩ rfl (Nat.le_of_ble_eq_true rfl) ?_
  refine z_istore_n (lv' := [(0, _), (1, _), (2, _), (3, _)]) d_Mac_compute_9 (by decide) rfl ?_
  refine z_aload_n d_Mac_compute_10 rfl ?_
  refine z_get d_Mac_compute_11 f_Mac_21 (by omega) rfl rfl ?_
  refine z_iload_n d_Mac_compute_14 rfl ?_
  refine z_iconst (v := 2) d_Mac_compute_15 (by decide) ?_
  refine z_callV1 d_Mac_compute_16 g_Mac_58 (c_Pro_word (w := 2) X hk (by decide) J G) (by omega) rfl rfl rfl ⟨by decide, by decide, by decide, by decide⟩ rfl (Nat.le_of_ble_eq_true rfl) ?_
  refine z_istore (lv' := [(0, _), (1, _), (2, _), (3, _), (4, _)]) d_Mac_compute_19 (by decide) rfl ?_
  refine z_aload_n d_Mac_compute_21 rfl ?_
  refine z_get d_Mac_compute_22 f_Mac_21 (by omega) rfl rfl ?_
  refine z_iload_n d_Mac_compute_25 rfl ?_
  refine z_iconst (v := 3) d_Mac_compute_26 (by decide) ?_
  refine z_callV1 d_Mac_compute_27 g_Mac_58 (c_Pro_word (w := 3) X hk (by decide) J G) (by omega) rfl rfl rfl ⟨by decide, by decide, by decide, by decide⟩ rfl (Nat.le_of_ble_eq_true rfl) ?_
  refine z_istore (lv' := [(0, _), (1, _), (2, _), (3, _), (4, _), (5, _)]) d_Mac_compute_30 (by decide) rfl ?_
  refine z_iload_n d_Mac_compute_32 rfl ?_
  refine z_iconst (v := 1) d_Mac_compute_33 (by decide) ?_
  refine z_iadd d_Mac_compute_34 ?_
  refine z_istore (lv' := [(0, _), (1, _), (2, _), (3, _), (4, _), (5, _), (6, _)]) d_Mac_compute_35 (by decide) rfl ?_
  refine z_iload_n d_Mac_compute_37 rfl ?_
  refine z_tableIn (off := 219) d_Mac_compute_38 257 (by decide) (by decide) (by decide) (by decide) ?_
  refine z_aload_n d_Mac_compute_257 rfl ?_
  refine z_iload_n d_Mac_compute_258 rfl ?_
  refine z_iload_n d_Mac_compute_259 rfl ?_
  refine z_iload d_Mac_compute_260 rfl ?_
  refine z_callV1 d_Mac_compute_262 g_Mac_136 (hm) (by omega) rfl rfl rfl ⟨by decide, by decide, by decide, by decide⟩ rfl (Nat.le_of_ble_eq_true rfl) ?_
  refine z_if_eq d_Mac_compute_265 273 (by decide) (fun h265 => ?_) (fun h265 => ?_)
  · refine z_iload d_Mac_compute_273 rfl ?_
    exact z_iret d_Mac_compute_275 rfl (by decide) (by decide) (by first | (rw [zb0 h265]; rfl) | (rw [zb1' h265]; rfl)) rfl
  · refine z_iload d_Mac_compute_268 rfl ?_
    refine z_goto d_Mac_compute_270 275 (by decide) ?_
    exact z_iret d_Mac_compute_275 rfl (by decide) (by decide) (by first | (rw [zb0 h265]; rfl) | (rw [zb1' h265]; rfl)) rfl
