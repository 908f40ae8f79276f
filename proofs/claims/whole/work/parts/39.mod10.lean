/-! the reference: a step -/
set_option maxRecDepth 100000 in
set_option maxHeartbeats 4000000 in
theorem c_Mod_stepH (X : zX) (J : zJT) (G : zGT) {m : Nat} (hm : J 40 18 = nI m) (hm6 : m < 60) (hJ : J 48 (4 * m) = 0) : zK X 3 m_Mod_step [.ref 40] J G (some (.int 0)) J G := by
  refine zC_of (by decide) (Nat.le_of_ble_eq_true rfl) ?_
  refine z_aload_n d_Mod_step_0 rfl ?_
  refine z_get d_Mod_step_1 f_Mod_33 (by omega) rfl rfl ?_
  refine z_iconst (v := 4) d_Mod_step_4 (by decide) ?_
  refine z_aload_n d_Mod_step_5 rfl ?_
  refine z_get d_Mod_step_6 f_Mod_149 (by omega) rfl rfl ?_
  refine z_imul d_Mod_step_9 ?_
  refine z_iald d_Mod_step_10 (by omega) rfl (show zin (4 * J 40 18) (4 * m) 240 by rw [hm]; have := rz4 (w := 0) hm6 (by decide); rwa [nI_0, Int32.add_zero] at this) ?_
  rw [hJ]
  refine z_istore_n (lv' := [(0, _), (1, _)]) d_Mod_step_11 (by decide) rfl ?_
  refine z_aload_n d_Mod_step_12 rfl ?_
  refine z_get d_Mod_step_13 f_Mod_33 (by omega) rfl rfl ?_
  refine z_iconst (v := 4) d_Mod_step_16 (by decide) ?_
  refine z_aload_n d_Mod_step_17 rfl ?_
  refine z_get d_Mod_step_18 f_Mod_149 (by omega) rfl rfl ?_
  refine z_imul d_Mod_step_21 ?_
  refine z_iconst (v := 1) d_Mod_step_22 (by decide) ?_
  refine z_iadd d_Mod_step_23 ?_
  refine z_iald d_Mod_step_24 (by omega) rfl (show zin (4 * J 40 18 + nI 1) (4 * m + 1) 240 by rw [hm]; exact rz4 hm6 (by decide)) ?_
  refine z_istore_n (lv' := [(0, _), (1, _), (2, _)]) d_Mod_step_25 (by decide) rfl ?_
  refine z_aload_n d_Mod_step_26 rfl ?_
  refine z_get d_Mod_step_27 f_Mod_33 (by omega) rfl rfl ?_
  refine z_iconst (v := 4) d_Mod_step_30 (by decide) ?_
  refine z_aload_n d_Mod_step_31 rfl ?_
  refine z_get d_Mod_step_32 f_Mod_149 (by omega) rfl rfl ?_
  refine z_imul d_Mod_step_35 ?_
  refine z_iconst (v := 2) d_Mod_step_36 (by decide) ?_
  refine z_iadd d_Mod_step_37 ?_
  refine z_iald d_Mod_step_38 (by omega) rfl (show zin (4 * J 40 18 + nI 2) (4 * m + 2) 240 by rw [hm]; exact rz4 hm6 (by decide)) ?_
  refine z_istore_n (lv' := [(0, _), (1, _), (2, _), (3, _)]) d_Mod_step_39 (by decide) rfl ?_
  refine z_aload_n d_Mod_step_40 rfl ?_
  refine z_get d_Mod_step_41 f_Mod_33 (by omega) rfl rfl ?_
  refine z_iconst (v := 4) d_Mod_step_44 (by decide) ?_
  refine z_aload_n d_Mod_step_45 rfl ?_
  refine z_get d_Mod_step_46 f_Mod_149 (by omega) rfl rfl ?_
  refine z_imul d_Mod_step_49 ?_
  refine z_iconst (v := 3) d_Mod_step_50 (by decide) ?_
  refine z_iadd d_Mod_step_51 ?_
  refine z_iald d_Mod_step_52 (by omega) rfl (show zin (4 * J 40 18 + nI 3) (4 * m + 3) 240 by rw [hm]; exact rz4 hm6 (by decide)) ?_
  refine z_istore (lv' := [(0, _), (1, _), (2, _), (3, _), (4, _)]) d_Mod_step_53 (by decide) rfl ?_
  refine z_iload_n d_Mod_step_55 rfl ?_
  refine z_if_ne d_Mod_step_56 61 (by decide) (fun h9 => absurd h9 (fun h9 => h9 rfl)) (fun _ => ?_)
  refine z_iconst (v := 0) d_Mod_step_59 (by decide) ?_
  exact z_zret d_Mod_step_60 rfl (by decide) (by decide) (by decide) rfl rfl
set_option maxRecDepth 100000 in
set_option maxHeartbeats 4000000 in
theorem c_Mod_stepO (X : zX) (J : zJT) (G : zGT) {m o : Nat} (hm : J 40 18 = nI m) (hm6 : m < 60) (ho : o < 22) (hJ : J 48 (4 * m) = nI o) (hn0 : 0 < o) (hy : rNeed.getD o 0 = 1) {c : Nat} (hc : J 48 (4 * m + 1) = nI c) (hc3 : c < 3) (h : J 51 c < 0) : zK X 3 m_Mod_step [.ref 40] J G (some (.int 0)) (va_up J 40 (va_up (J 40) 17 3)) G := by
  refine zC_of (by decide) (Nat.le_of_ble_eq_true rfl) ?_
  refine z_aload_n d_Mod_step_0 rfl ?_
  refine z_get d_Mod_step_1 f_Mod_33 (by omega) rfl rfl ?_
  refine z_iconst (v := 4) d_Mod_step_4 (by decide) ?_
  refine z_aload_n d_Mod_step_5 rfl ?_
  refine z_get d_Mod_step_6 f_Mod_149 (by omega) rfl rfl ?_
  refine z_imul d_Mod_step_9 ?_
  refine z_iald d_Mod_step_10 (by omega) rfl (show zin (4 * J 40 18) (4 * m) 240 by rw [hm]; have := rz4 (w := 0) hm6 (by decide); rwa [nI_0, Int32.add_zero] at this) ?_
  rw [hJ]
  refine z_istore_n (lv' := [(0, _), (1, _)]) d_Mod_step_11 (by decide) rfl ?_
  refine z_aload_n d_Mod_step_12 rfl ?_
  refine z_get d_Mod_step_13 f_Mod_33 (by omega) rfl rfl ?_
  refine z_iconst (v := 4) d_Mod_step_16 (by decide) ?_
  refine z_aload_n d_Mod_step_17 rfl ?_
  refine z_get d_Mod_step_18 f_Mod_149 (by omega) rfl rfl ?_
  refine z_imul d_Mod_step_21 ?_
  refine z_iconst (v := 1) d_Mod_step_22 (by decide) ?_
  refine z_iadd d_Mod_step_23 ?_
  refine z_iald d_Mod_step_24 (by omega) rfl (show zin (4 * J 40 18 + nI 1) (4 * m + 1) 240 by rw [hm]; exact rz4 hm6 (by decide)) ?_
  refine z_istore_n (lv' := [(0, _), (1, _), (2, _)]) d_Mod_step_25 (by decide) rfl ?_
  refine z_aload_n d_Mod_step_26 rfl ?_
  refine z_get d_Mod_step_27 f_Mod_33 (by omega) rfl rfl ?_
  refine z_iconst (v := 4) d_Mod_step_30 (by decide) ?_
  refine z_aload_n d_Mod_step_31 rfl ?_
  refine z_get d_Mod_step_32 f_Mod_149 (by omega) rfl rfl ?_
  refine z_imul d_Mod_step_35 ?_
  refine z_iconst (v := 2) d_Mod_step_36 (by decide) ?_
  refine z_iadd d_Mod_step_37 ?_
  refine z_iald d_Mod_step_38 (by omega) rfl (show zin (4 * J 40 18 + nI 2) (4 * m + 2) 240 by rw [hm]; exact rz4 hm6 (by decide)) ?_
  refine z_istore_n (lv' := [(0, _), (1, _), (2, _), (3, _)]) d_Mod_step_39 (by decide) rfl ?_
  refine z_aload_n d_Mod_step_40 rfl ?_
  refine z_get d_Mod_step_41 f_Mod_33 (by omega) rfl rfl ?_
  refine z_iconst (v := 4) d_Mod_step_44 (by decide) ?_
  refine z_aload_n d_Mod_step_45 rfl ?_
  refine z_get d_Mod_step_46 f_Mod_149 (by omega) rfl rfl ?_
  refine z_imul d_Mod_step_49 ?_
  refine z_iconst (v := 3) d_Mod_step_50 (by decide) ?_
  refine z_iadd d_Mod_step_51 ?_
  refine z_iald d_Mod_step_52 (by omega) rfl (show zin (4 * J 40 18 + nI 3) (4 * m + 3) 240 by rw [hm]; exact rz4 hm6 (by decide)) ?_
  refine z_istore (lv' := [(0, _), (1, _), (2, _), (3, _), (4, _)]) d_Mod_step_53 (by decide) rfl ?_
  refine z_iload_n d_Mod_step_55 rfl ?_
  refine z_if_ne d_Mod_step_56 61 (by decide) (fun _ => ?_) (fun h9 => absurd h9 (nI_ne0 hn0 (by omega)))
  refine z_iload_n d_Mod_step_61 rfl ?_
  refine z_callS1 d_Mod_step_62 g_Mod_152 (c_Mod_needsOpen X 0 ho _ _) rfl ⟨by decide, by decide, by decide, by decide⟩ rfl (Nat.le_of_ble_eq_true rfl) ?_
  refine z_if_eq d_Mod_step_65 84 (by decide) (fun h9 => absurd h9 (by rw [hy]; decide)) (fun _ => ?_)
  refine z_aload_n d_Mod_step_68 rfl ?_
  refine z_get d_Mod_step_69 f_Mod_42 (by omega) rfl rfl ?_
  refine z_iload_n d_Mod_step_72 rfl ?_
  refine z_iald d_Mod_step_73 (by omega) rfl (show zin (J 48 (4 * m + 1)) c 3 from ⟨hc, hc3, by decide⟩) ?_
  refine z_if_ge d_Mod_step_74 84 (by decide) (fun h9 => absurd h9 (Int32.not_le.mpr h)) (fun _ => ?_)
  refine z_aload_n d_Mod_step_77 rfl ?_
  refine z_iconst (v := 3) d_Mod_step_78 (by decide) ?_
  refine z_put d_Mod_step_79 f_Mod_155 p_9_17 (by omega) rfl (Nat.le_of_ble_eq_true rfl) rfl rfl (hp_pi 17 rfl) ?_
  refine z_iconst (v := 0) d_Mod_step_82 (by decide) ?_
  exact z_zret d_Mod_step_83 rfl (by decide) (by decide) (by decide) rfl rfl
set_option maxRecDepth 100000 in
set_option maxHeartbeats 4000000 in
theorem c_Mod_stepR (X : zX) (J : zJT) (G : zGT) {m : Nat} (hm : J 40 18 = nI m) (hm6 : m < 60) (hJ : J 48 (4 * m) = 18) (h : J 40 19 = 64) : zK X 3 m_Mod_step [.ref 40] J G (some (.int 0)) (va_up J 40 (va_up (J 40) 17 2)) G := by
  refine zC_of (by decide) (Nat.le_of_ble_eq_true rfl) ?_
  refine z_aload_n d_Mod_step_0 rfl ?_
  refine z_get d_Mod_step_1 f_Mod_33 (by omega) rfl rfl ?_
  refine z_iconst (v := 4) d_Mod_step_4 (by decide) ?_
  refine z_aload_n d_Mod_step_5 rfl ?_
  refine z_get d_Mod_step_6 f_Mod_149 (by omega) rfl rfl ?_
  refine z_imul d_Mod_step_9 ?_
  refine z_iald d_Mod_step_10 (by omega) rfl (show zin (4 * J 40 18) (4 * m) 240 by rw [hm]; have := rz4 (w := 0) hm6 (by decide); rwa [nI_0, Int32.add_zero] at this) ?_
  rw [hJ]
  refine z_istore_n (lv' := [(0, _), (1, _)]) d_Mod_step_11 (by decide) rfl ?_
  refine z_aload_n d_Mod_step_12 rfl ?_
  refine z_get d_Mod_step_13 f_Mod_33 (by omega) rfl rfl ?_
  refine z_iconst (v := 4) d_Mod_step_16 (by decide) ?_
  refine z_aload_n d_Mod_step_17 rfl ?_
  refine z_get d_Mod_step_18 f_Mod_149 (by omega) rfl rfl ?_
  refine z_imul d_Mod_step_21 ?_
  refine z_iconst (v := 1) d_Mod_step_22 (by decide) ?_
  refine z_iadd d_Mod_step_23 ?_
  refine z_iald d_Mod_step_24 (by omega) rfl (show zin (4 * J 40 18 + nI 1) (4 * m + 1) 240 by rw [hm]; exact rz4 hm6 (by decide)) ?_
  refine z_istore_n (lv' := [(0, _), (1, _), (2, _)]) d_Mod_step_25 (by decide) rfl ?_
  refine z_aload_n d_Mod_step_26 rfl ?_
  refine z_get d_Mod_step_27 f_Mod_33 (by omega) rfl rfl ?_
  refine z_iconst (v := 4) d_Mod_step_30 (by decide) ?_
  refine z_aload_n d_Mod_step_31 rfl ?_
  refine z_get d_Mod_step_32 f_Mod_149 (by omega) rfl rfl ?_
  refine z_imul d_Mod_step_35 ?_
  refine z_iconst (v := 2) d_Mod_step_36 (by decide) ?_
  refine z_iadd d_Mod_step_37 ?_
  refine z_iald d_Mod_step_38 (by omega) rfl (show zin (4 * J 40 18 + nI 2) (4 * m + 2) 240 by rw [hm]; exact rz4 hm6 (by decide)) ?_
  refine z_istore_n (lv' := [(0, _), (1, _), (2, _), (3, _)]) d_Mod_step_39 (by decide) rfl ?_
  refine z_aload_n d_Mod_step_40 rfl ?_
  refine z_get d_Mod_step_41 f_Mod_33 (by omega) rfl rfl ?_
  refine z_iconst (v := 4) d_Mod_step_44 (by decide) ?_
  refine z_aload_n d_Mod_step_45 rfl ?_
  refine z_get d_Mod_step_46 f_Mod_149 (by omega) rfl rfl ?_
  refine z_imul d_Mod_step_49 ?_
  refine z_iconst (v := 3) d_Mod_step_50 (by decide) ?_
  refine z_iadd d_Mod_step_51 ?_
  refine z_iald d_Mod_step_52 (by omega) rfl (show zin (4 * J 40 18 + nI 3) (4 * m + 3) 240 by rw [hm]; exact rz4 hm6 (by decide)) ?_
  refine z_istore (lv' := [(0, _), (1, _), (2, _), (3, _), (4, _)]) d_Mod_step_53 (by decide) rfl ?_
  refine z_iload_n d_Mod_step_55 rfl ?_
  refine z_if_ne d_Mod_step_56 61 (by decide) (fun _ => ?_) (fun h9 => absurd h9 (by decide))
  refine z_iload_n d_Mod_step_61 rfl ?_
  refine z_callS1 d_Mod_step_62 g_Mod_152 (c_Mod_needsOpen_18 X 0 _ _) rfl ⟨by decide, by decide, by decide, by decide⟩ rfl (Nat.le_of_ble_eq_true rfl) ?_
  refine z_if_eq d_Mod_step_65 84 (by decide) (fun _ => ?_) (fun h9 => absurd rfl h9)
  refine z_iload_n d_Mod_step_84 rfl ?_
  refine z_bipush (v := 18) d_Mod_step_85 (by decide) ?_
  refine z_icmp_ne d_Mod_step_87 106 (by decide) (fun h9 => absurd h9 (fun h9 => h9 rfl)) (fun _ => ?_)
  refine z_aload_n d_Mod_step_90 rfl ?_
  refine z_get d_Mod_step_91 f_Mod_142 (by omega) rfl rfl ?_
  refine z_bipush (v := 64) d_Mod_step_94 (by decide) ?_
  refine z_icmp_ne d_Mod_step_96 106 (by decide) (fun h9 => absurd h9 (fun h9 => h9 h)) (fun _ => ?_)
  refine z_aload_n d_Mod_step_99 rfl ?_
  refine z_iconst (v := 2) d_Mod_step_100 (by decide) ?_
  refine z_put d_Mod_step_101 f_Mod_155 p_9_17 (by omega) rfl (Nat.le_of_ble_eq_true rfl) rfl rfl (hp_pi 17 rfl) ?_
  refine z_iconst (v := 0) d_Mod_step_104 (by decide) ?_
  exact z_zret d_Mod_step_105 rfl (by decide) (by decide) (by decide) rfl rfl
set_option maxRecDepth 100000 in
set_option maxHeartbeats 4000000 in
theorem c_Mod_stepC0 (X : zX) (J : zJT) (G : zGT) {m o : Nat} (hm : J 40 18 = nI m) (hm6 : m < 60) (ho : o < 22) (hJ : J 48 (4 * m) = nI o) (hn0 : 0 < o) (hy : rNeed.getD o 0 = 1) {c : Nat} (hc : J 48 (4 * m + 1) = nI c) (hc3 : c < 3) (h : ¬ J 51 c < 0) (h18 : o = 18 → ¬ J 40 19 = 64) {J' : zJT} {G' : zGT} (hm2 : zK X 2 m_Mod_withCursor [.ref 40, .int (nI o), .int (J 48 (4 * m + 1)), .int (J 48 (4 * m + 2)), .int (J 48 (4 * m + 3))] J G (some (.int 0)) J' G') : zK X 3 m_Mod_step [.ref 40] J G (some (.int 1)) (va_up J' 40 (va_up (J' 40) 18 (J' 40 18 + 1))) G' := by
  refine zC_of (by decide) (Nat.le_of_ble_eq_true rfl) ?_
  refine z_aload_n d_Mod_step_0 rfl ?_
  refine z_get d_Mod_step_1 f_Mod_33 (by omega) rfl rfl ?_
  refine z_iconst (v := 4) d_Mod_step_4 (by decide) ?_
  refine z_aload_n d_Mod_step_5 rfl ?_
  refine z_get d_Mod_step_6 f_Mod_149 (by omega) rfl rfl ?_
  refine z_imul d_Mod_step_9 ?_
  refine z_iald d_Mod_step_10 (by omega) rfl (show zin (4 * J 40 18) (4 * m) 240 by rw [hm]; have := rz4 (w := 0) hm6 (by decide); rwa [nI_0, Int32.add_zero] at this) ?_
  rw [hJ]
  refine z_istore_n (lv' := [(0, _), (1, _)]) d_Mod_step_11 (by decide) rfl ?_
  refine z_aload_n d_Mod_step_12 rfl ?_
  refine z_get d_Mod_step_13 f_Mod_33 (by omega) rfl rfl ?_
  refine z_iconst (v := 4) d_Mod_step_16 (by decide) ?_
  refine z_aload_n d_Mod_step_17 rfl ?_
  refine z_get d_Mod_step_18 f_Mod_149 (by omega) rfl rfl ?_
  refine z_imul d_Mod_step_21 ?_
  refine z_iconst (v := 1) d_Mod_step_22 (by decide) ?_
  refine z_iadd d_Mod_step_23 ?_
  refine z_iald d_Mod_step_24 (by omega) rfl (show zin (4 * J 40 18 + nI 1) (4 * m + 1) 240 by rw [hm]; exact rz4 hm6 (by decide)) ?_
  refine z_istore_n (lv' := [(0, _), (1, _), (2, _)]) d_Mod_step_25 (by decide) rfl ?_
  refine z_aload_n d_Mod_step_26 rfl ?_
  refine z_get d_Mod_step_27 f_Mod_33 (by omega) rfl rfl ?_
  refine z_iconst (v := 4) d_Mod_step_30 (by decide) ?_
  refine z_aload_n d_Mod_step_31 rfl ?_
  refine z_get d_Mod_step_32 f_Mod_149 (by omega) rfl rfl ?_
  refine z_imul d_Mod_step_35 ?_
  refine z_iconst (v := 2) d_Mod_step_36 (by decide) ?_
  refine z_iadd d_Mod_step_37 ?_
  refine z_iald d_Mod_step_38 (by omega) rfl (show zin (4 * J 40 18 + nI 2) (4 * m + 2) 240 by rw [hm]; exact rz4 hm6 (by decide)) ?_
  refine z_istore_n (lv' := [(0, _), (1, _), (2, _), (3, _)]) d_Mod_step_39 (by decide) rfl ?_
  refine z_aload_n d_Mod_step_40 rfl ?_
  refine z_get d_Mod_step_41 f_Mod_33 (by omega) rfl rfl ?_
  refine z_iconst (v := 4) d_Mod_step_44 (by decide) ?_
  refine z_aload_n d_Mod_step_45 rfl ?_
  refine z_get d_Mod_step_46 f_Mod_149 (by omega) rfl rfl ?_
  refine z_imul d_Mod_step_49 ?_
  refine z_iconst (v := 3) d_Mod_step_50 (by decide) ?_
  refine z_iadd d_Mod_step_51 ?_
  refine z_iald d_Mod_step_52 (by omega) rfl (show zin (4 * J 40 18 + nI 3) (4 * m + 3) 240 by rw [hm]; exact rz4 hm6 (by decide)) ?_
  refine z_istore (lv' := [(0, _), (1, _), (2, _), (3, _), (4, _)]) d_Mod_step_53 (by decide) rfl ?_
  refine z_iload_n d_Mod_step_55 rfl ?_
  refine z_if_ne d_Mod_step_56 61 (by decide) (fun _ => ?_) (fun h9 => absurd h9 (nI_ne0 hn0 (by omega)))
  refine z_iload_n d_Mod_step_61 rfl ?_
  refine z_callS1 d_Mod_step_62 g_Mod_152 (c_Mod_needsOpen X 0 ho _ _) rfl ⟨by decide, by decide, by decide, by decide⟩ rfl (Nat.le_of_ble_eq_true rfl) ?_
  refine z_if_eq d_Mod_step_65 84 (by decide) (fun h9 => absurd h9 (by rw [hy]; decide)) (fun _ => ?_)
  refine z_aload_n d_Mod_step_68 rfl ?_
  refine z_get d_Mod_step_69 f_Mod_42 (by omega) rfl rfl ?_
  refine z_iload_n d_Mod_step_72 rfl ?_
  refine z_iald d_Mod_step_73 (by omega) rfl (show zin (J 48 (4 * m + 1)) c 3 from ⟨hc, hc3, by decide⟩) ?_
  refine z_if_ge d_Mod_step_74 84 (by decide) (fun _ => ?_) (fun h9 => absurd (Int32.not_lt.mp h) h9)
  refine z_iload_n d_Mod_step_84 rfl ?_
  refine z_bipush (v := 18) d_Mod_step_85 (by decide) ?_
  refine z_icmp_ne d_Mod_step_87 106 (by decide) (fun h87 => ?_) (fun h87 => ?_)
  · refine z_iload_n d_Mod_step_106 rfl ?_
    refine z_callS1 d_Mod_step_107 g_Mod_152 (c_Mod_needsOpen X 0 ho _ _) rfl ⟨by decide, by decide, by decide, by decide⟩ rfl (Nat.le_of_ble_eq_true rfl) ?_
    refine z_if_eq d_Mod_step_110 125 (by decide) (fun h9 => absurd h9 (by rw [hy]; decide)) (fun _ => ?_)
    refine z_aload_n d_Mod_step_113 rfl ?_
    refine z_iload_n d_Mod_step_114 rfl ?_
    refine z_iload_n d_Mod_step_115 rfl ?_
    refine z_iload_n d_Mod_step_116 rfl ?_
    refine z_iload d_Mod_step_117 rfl ?_
    refine z_callV1 d_Mod_step_119 g_Mod_158 (hm2) (by omega) rfl rfl rfl ⟨by decide, by decide, by decide, by decide⟩ rfl (Nat.le_of_ble_eq_true rfl) ?_
    refine z_goto d_Mod_step_122 134 (by decide) ?_
    refine z_istore (lv' := [(0, _), (1, _), (2, _), (3, _), (4, _), (5, _)]) d_Mod_step_134 (by decide) rfl ?_
    refine z_aload_n d_Mod_step_136 rfl ?_
    refine z_iload d_Mod_step_137 rfl ?_
    refine z_if_eq d_Mod_step_139 158 (by decide) (fun _ => ?_) (fun h9 => absurd rfl h9)
    refine z_aload_n d_Mod_step_158 rfl ?_
    refine z_get d_Mod_step_159 f_Mod_149 (by omega) rfl rfl ?_
    refine z_iconst (v := 1) d_Mod_step_162 (by decide) ?_
    refine z_iadd d_Mod_step_163 ?_
    refine z_put d_Mod_step_164 f_Mod_149 p_9_18 (by omega) rfl (Nat.le_of_ble_eq_true rfl) rfl rfl (hp_pi 18 rfl) ?_
    refine z_iconst (v := 1) d_Mod_step_167 (by decide) ?_
    exact z_zret d_Mod_step_168 rfl (by decide) (by decide) (by decide) rfl rfl
  · refine z_aload_n d_Mod_step_90 rfl ?_
    refine z_get d_Mod_step_91 f_Mod_142 (by omega) rfl rfl ?_
    refine z_bipush (v := 64) d_Mod_step_94 (by decide) ?_
    refine z_icmp_ne d_Mod_step_96 106 (by decide) (fun _ => ?_) (fun h9 => absurd h9 (h18 ((nI_eq (show o < 2 ^ 31 by omega) (show 18 < 2 ^ 31 by decide)).mp h87)))
    refine z_iload_n d_Mod_step_106 rfl ?_
    refine z_callS1 d_Mod_step_107 g_Mod_152 (c_Mod_needsOpen X 0 ho _ _) rfl ⟨by decide, by decide, by decide, by decide⟩ rfl (Nat.le_of_ble_eq_true rfl) ?_
    refine z_if_eq d_Mod_step_110 125 (by decide) (fun h9 => absurd h9 (by rw [hy]; decide)) (fun _ => ?_)
    refine z_aload_n d_Mod_step_113 rfl ?_
    refine z_iload_n d_Mod_step_114 rfl ?_
    refine z_iload_n d_Mod_step_115 rfl ?_
    refine z_iload_n d_Mod_step_116 rfl ?_
    refine z_iload d_Mod_step_117 rfl ?_
    refine z_callV1 d_Mod_step_119 g_Mod_158 (hm2) (by omega) rfl rfl rfl ⟨by decide, by decide, by decide, by decide⟩ rfl (Nat.le_of_ble_eq_true rfl) ?_
    refine z_goto d_Mod_step_122 134 (by decide) ?_
    refine z_istore (lv' := [(0, _), (1, _), (2, _), (3, _), (4, _), (5, _)]) d_Mod_step_134 (by decide) rfl ?_
    refine z_aload_n d_Mod_step_136 rfl ?_
    refine z_iload d_Mod_step_137 rfl ?_
    refine z_if_eq d_Mod_step_139 158 (by decide) (fun _ => ?_) (fun h9 => absurd rfl h9)
    refine z_aload_n d_Mod_step_158 rfl ?_
    refine z_get d_Mod_step_159 f_Mod_149 (by omega) rfl rfl ?_
    refine z_iconst (v := 1) d_Mod_step_162 (by decide) ?_
    refine z_iadd d_Mod_step_163 ?_
    refine z_put d_Mod_step_164 f_Mod_149 p_9_18 (by omega) rfl (Nat.le_of_ble_eq_true rfl) rfl rfl (hp_pi 18 rfl) ?_
    refine z_iconst (v := 1) d_Mod_step_167 (by decide) ?_
    exact z_zret d_Mod_step_168 rfl (by decide) (by decide) (by decide) rfl rfl
set_option maxRecDepth 100000 in
set_option maxHeartbeats 4000000 in
theorem c_Mod_stepC1 (X : zX) (J : zJT) (G : zGT) {m o : Nat} (hm : J 40 18 = nI m) (hm6 : m < 60) (ho : o < 22) (hJ : J 48 (4 * m) = nI o) (hn0 : 0 < o) (hy : rNeed.getD o 0 = 1) {c : Nat} (hc : J 48 (4 * m + 1) = nI c) (hc3 : c < 3) (h : ¬ J 51 c < 0) (h18 : o = 18 → ¬ J 40 19 = 64) {J' : zJT} {G' : zGT} (hm2 : zK X 2 m_Mod_withCursor [.ref 40, .int (nI o), .int (J 48 (4 * m + 1)), .int (J 48 (4 * m + 2)), .int (J 48 (4 * m + 3))] J G (some (.int 1)) J' G') : zK X 3 m_Mod_step [.ref 40] J G (some (.int 1)) (va_up J' 40 (va_up (J' 40) 18 (if rGoal.getD o 0 = 1 then J 48 (4 * m + 1) else J 48 (4 * m + 2)))) G' := by
  refine zC_of (by decide) (Nat.le_of_ble_eq_true rfl) ?_
  refine z_aload_n d_Mod_step_0 rfl ?_
  refine z_get d_Mod_step_1 f_Mod_33 (by omega) rfl rfl ?_
  refine z_iconst (v := 4) d_Mod_step_4 (by decide) ?_
  refine z_aload_n d_Mod_step_5 rfl ?_
  refine z_get d_Mod_step_6 f_Mod_149 (by omega) rfl rfl ?_
  refine z_imul d_Mod_step_9 ?_
  refine z_iald d_Mod_step_10 (by omega) rfl (show zin (4 * J 40 18) (4 * m) 240 by rw [hm]; have := rz4 (w := 0) hm6 (by decide); rwa [nI_0, Int32.add_zero] at this) ?_
  rw [hJ]
  refine z_istore_n (lv' := [(0, _), (1, _)]) d_Mod_step_11 (by decide) rfl ?_
  refine z_aload_n d_Mod_step_12 rfl ?_
  refine z_get d_Mod_step_13 f_Mod_33 (by omega) rfl rfl ?_
  refine z_iconst (v := 4) d_Mod_step_16 (by decide) ?_
  refine z_aload_n d_Mod_step_17 rfl ?_
  refine z_get d_Mod_step_18 f_Mod_149 (by omega) rfl rfl ?_
  refine z_imul d_Mod_step_21 ?_
  refine z_iconst (v := 1) d_Mod_step_22 (by decide) ?_
  refine z_iadd d_Mod_step_23 ?_
  refine z_iald d_Mod_step_24 (by omega) rfl (show zin (4 * J 40 18 + nI 1) (4 * m + 1) 240 by rw [hm]; exact rz4 hm6 (by decide)) ?_
  refine z_istore_n (lv' := [(0, _), (1, _), (2, _)]) d_Mod_step_25 (by decide) rfl ?_
  refine z_aload_n d_Mod_step_26 rfl ?_
  refine z_get d_Mod_step_27 f_Mod_33 (by omega) rfl rfl ?_
  refine z_iconst (v := 4) d_Mod_step_30 (by decide) ?_
  refine z_aload_n d_Mod_step_31 rfl ?_
  refine z_get d_Mod_step_32 f_Mod_149 (by omega) rfl rfl ?_
  refine z_imul d_Mod_step_35 ?_
  refine z_iconst (v := 2) d_Mod_step_36 (by decide) ?_
  refine z_iadd d_Mod_step_37 ?_
  refine z_iald d_Mod_step_38 (by omega) rfl (show zin (4 * J 40 18 + nI 2) (4 * m + 2) 240 by rw [hm]; exact rz4 hm6 (by decide)) ?_
  refine z_istore_n (lv' := [(0, _), (1, _), (2, _), (3, _)]) d_Mod_step_39 (by decide) rfl ?_
  refine z_aload_n d_Mod_step_40 rfl ?_
  refine z_get d_Mod_step_41 f_Mod_33 (by omega) rfl rfl ?_
  refine z_iconst (v := 4) d_Mod_step_44 (by decide) ?_
  refine z_aload_n d_Mod_step_45 rfl ?_
  refine z_get d_Mod_step_46 f_Mod_149 (by omega) rfl rfl ?_
  refine z_imul d_Mod_step_49 ?_
  refine z_iconst (v := 3) d_Mod_step_50 (by decide) ?_
  refine z_iadd d_Mod_step_51 ?_
  refine z_iald d_Mod_step_52 (by omega) rfl (show zin (4 * J 40 18 + nI 3) (4 * m + 3) 240 by rw [hm]; exact rz4 hm6 (by decide)) ?_
  refine z_istore (lv' := [(0, _), (1, _), (2, _), (3, _), (4, _)]) d_Mod_step_53 (by decide) rfl ?_
  refine z_iload_n d_Mod_step_55 rfl ?_
  refine z_if_ne d_Mod_step_56 61 (by decide) (fun _ => ?_) (fun h9 => absurd h9 (nI_ne0 hn0 (by omega)))
  refine z_iload_n d_Mod_step_61 rfl ?_
  refine z_callS1 d_Mod_step_62 g_Mod_152 (c_Mod_needsOpen X 0 ho _ _) rfl ⟨by decide, by decide, by decide, by decide⟩ rfl (Nat.le_of_ble_eq_true rfl) ?_
  refine z_if_eq d_Mod_step_65 84 (by decide) (fun h9 => absurd h9 (by rw [hy]; decide)) (fun _ => ?_)
  refine z_aload_n d_Mod_step_68 rfl ?_
  refine z_get d_Mod_step_69 f_Mod_42 (by omega) rfl rfl ?_
  refine z_iload_n d_Mod_step_72 rfl ?_
  refine z_iald d_Mod_step_73 (by omega) rfl (show zin (J 48 (4 * m + 1)) c 3 from ⟨hc, hc3, by decide⟩) ?_
  refine z_if_ge d_Mod_step_74 84 (by decide) (fun _ => ?_) (fun h9 => absurd (Int32.not_lt.mp h) h9)
  refine z_iload_n d_Mod_step_84 rfl ?_
  refine z_bipush (v := 18) d_Mod_step_85 (by decide) ?_
  refine z_icmp_ne d_Mod_step_87 106 (by decide) (fun h87 => ?_) (fun h87 => ?_)
  · refine z_iload_n d_Mod_step_106 rfl ?_
    refine z_callS1 d_Mod_step_107 g_Mod_152 (c_Mod_needsOpen X 0 ho _ _) rfl ⟨by decide, by decide, by decide, by decide⟩ rfl (Nat.le_of_ble_eq_true rfl) ?_
    refine z_if_eq d_Mod_step_110 125 (by decide) (fun h9 => absurd h9 (by rw [hy]; decide)) (fun _ => ?_)
    refine z_aload_n d_Mod_step_113 rfl ?_
    refine z_iload_n d_Mod_step_114 rfl ?_
    refine z_iload_n d_Mod_step_115 rfl ?_
    refine z_iload_n d_Mod_step_116 rfl ?_
    refine z_iload d_Mod_step_117 rfl ?_
    refine z_callV1 d_Mod_step_119 g_Mod_158 (hm2) (by omega) rfl rfl rfl ⟨by decide, by decide, by decide, by decide⟩ rfl (Nat.le_of_ble_eq_true rfl) ?_
    refine z_goto d_Mod_step_122 134 (by decide) ?_
    refine z_istore (lv' := [(0, _), (1, _), (2, _), (3, _), (4, _), (5, _)]) d_Mod_step_134 (by decide) rfl ?_
    refine z_aload_n d_Mod_step_136 rfl ?_
    refine z_iload d_Mod_step_137 rfl ?_
    refine z_if_eq d_Mod_step_139 158 (by decide) (fun h9 => absurd h9 (by decide)) (fun _ => ?_)
    refine z_iload_n d_Mod_step_142 rfl ?_
    refine z_callS1 d_Mod_step_143 g_Mod_125 (c_Mod_goal X 0 ho _ _) rfl ⟨by decide, by decide, by decide, by decide⟩ rfl (Nat.le_of_ble_eq_true rfl) ?_
    refine z_iconst (v := 1) d_Mod_step_146 (by decide) ?_
    refine z_icmp_ne d_Mod_step_147 154 (by decide) (fun h147 => ?_) (fun h147 => ?_)
    · refine z_iload_n d_Mod_step_154 rfl ?_
      refine z_goto d_Mod_step_155 164 (by decide) ?_
      refine z_put d_Mod_step_164 f_Mod_149 p_9_18 (by omega) rfl (Nat.le_of_ble_eq_true rfl) rfl rfl (hp_pi 18 rfl) ?_
      refine z_iconst (v := 1) d_Mod_step_167 (by decide) ?_
      exact z_zret d_Mod_step_168 rfl (by decide) (by decide) (by decide) rfl (by rw [if_neg h147])
    · refine z_iload_n d_Mod_step_150 rfl ?_
      refine z_goto d_Mod_step_151 164 (by decide) ?_
      refine z_put d_Mod_step_164 f_Mod_149 p_9_18 (by omega) rfl (Nat.le_of_ble_eq_true rfl) rfl rfl (hp_pi 18 rfl) ?_
      refine z_iconst (v := 1) d_Mod_step_167 (by decide) ?_
      exact z_zret d_Mod_step_168 rfl (by decide) (by decide) (by decide) rfl (by rw [if_pos h147])
  · refine z_aload_n d_Mod_step_90 rfl ?_
    refine z_get d_Mod_step_91 f_Mod_142 (by omega) rfl rfl ?_
    refine z_bipush (v := 64) d_Mod_step_94 (by decide) ?_
    refine z_icmp_ne d_Mod_step_96 106 (by decide) (fun _ => ?_) (fun h9 => absurd h9 (h18 ((nI_eq (show o < 2 ^ 31 by omega) (show 18 < 2 ^ 31 by decide)).mp h87)))
    refine z_iload_n d_Mod_step_106 rfl ?_
    refine z_callS1 d_Mod_step_107 g_Mod_152 (c_Mod_needsOpen X 0 ho _ _) rfl ⟨by decide, by decide, by decide, by decide⟩ rfl (Nat.le_of_ble_eq_true rfl) ?_
    refine z_if_eq d_Mod_step_110 125 (by decide) (fun h9 => absurd h9 (by rw [hy]; decide)) (fun _ => ?_)
    refine z_aload_n d_Mod_step_113 rfl ?_
    refine z_iload_n d_Mod_step_114 rfl ?_
    refine z_iload_n d_Mod_step_115 rfl ?_
    refine z_iload_n d_Mod_step_116 rfl ?_
    refine z_iload d_Mod_step_117 rfl ?_
    refine z_callV1 d_Mod_step_119 g_Mod_158 (hm2) (by omega) rfl rfl rfl ⟨by decide, by decide, by decide, by decide⟩ rfl (Nat.le_of_ble_eq_true rfl) ?_
    refine z_goto d_Mod_step_122 134 (by decide) ?_
    refine z_istore (lv' := [(0, _), (1, _), (2, _), (3, _), (4, _), (5, _)]) d_Mod_step_134 (by decide) rfl ?_
    refine z_aload_n d_Mod_step_136 rfl ?_
    refine z_iload d_Mod_step_137 rfl ?_
    refine z_if_eq d_Mod_step_139 158 (by decide) (fun h9 => absurd h9 (by decide)) (fun _ => ?_)
    refine z_iload_n d_Mod_step_142 rfl ?_
    refine z_callS1 d_Mod_step_143 g_Mod_125 (c_Mod_goal X 0 ho _ _) rfl ⟨by decide, by decide, by decide, by decide⟩ rfl (Nat.le_of_ble_eq_true rfl) ?_
    refine z_iconst (v := 1) d_Mod_step_146 (by decide) ?_
    refine z_icmp_ne d_Mod_step_147 154 (by decide) (fun h147 => ?_) (fun h147 => ?_)
    · refine z_iload_n d_Mod_step_154 rfl ?_
      refine z_goto d_Mod_step_155 164 (by decide) ?_
      refine z_put d_Mod_step_164 f_Mod_149 p_9_18 (by omega) rfl (Nat.le_of_ble_eq_true rfl) rfl rfl (hp_pi 18 rfl) ?_
      refine z_iconst (v := 1) d_Mod_step_167 (by decide) ?_
      exact z_zret d_Mod_step_168 rfl (by decide) (by decide) (by decide) rfl (by rw [if_neg h147])
    · refine z_iload_n d_Mod_step_150 rfl ?_
      refine z_goto d_Mod_step_151 164 (by decide) ?_
      refine z_put d_Mod_step_164 f_Mod_149 p_9_18 (by omega) rfl (Nat.le_of_ble_eq_true rfl) rfl rfl (hp_pi 18 rfl) ?_
      refine z_iconst (v := 1) d_Mod_step_167 (by decide) ?_
      exact z_zret d_Mod_step_168 rfl (by decide) (by decide) (by decide) rfl (by rw [if_pos h147])
set_option maxRecDepth 100000 in
set_option maxHeartbeats 4000000 in
theorem c_Mod_stepW0 (X : zX) (J : zJT) (G : zGT) {m o : Nat} (hm : J 40 18 = nI m) (hm6 : m < 60) (ho : o < 22) (hJ : J 48 (4 * m) = nI o) (hn0 : 0 < o) (hy : rNeed.getD o 0 = 0) (h18 : o = 18 → ¬ J 40 19 = 64) {J' : zJT} {G' : zGT} (hm2 : zK X 1 m_Mod_without [.ref 40, .int (nI o), .int (J 48 (4 * m + 1)), .int (J 48 (4 * m + 2)), .int (J 48 (4 * m + 3))] J G (some (.int 0)) J' G') : zK X 3 m_Mod_step [.ref 40] J G (some (.int 1)) (va_up J' 40 (va_up (J' 40) 18 (J' 40 18 + 1))) G' := by
  refine zC_of (by decide) (Nat.le_of_ble_eq_true rfl) ?_
  refine z_aload_n d_Mod_step_0 rfl ?_
  refine z_get d_Mod_step_1 f_Mod_33 (by omega) rfl rfl ?_
  refine z_iconst (v := 4) d_Mod_step_4 (by decide) ?_
  refine z_aload_n d_Mod_step_5 rfl ?_
  refine z_get d_Mod_step_6 f_Mod_149 (by omega) rfl rfl ?_
  refine z_imul d_Mod_step_9 ?_
  refine z_iald d_Mod_step_10 (by omega) rfl (show zin (4 * J 40 18) (4 * m) 240 by rw [hm]; have := rz4 (w := 0) hm6 (by decide); rwa [nI_0, Int32.add_zero] at this) ?_
  rw [hJ]
  refine z_istore_n (lv' := [(0, _), (1, _)]) d_Mod_step_11 (by decide) rfl ?_
  refine z_aload_n d_Mod_step_12 rfl ?_
  refine z_get d_Mod_step_13 f_Mod_33 (by omega) rfl rfl ?_
  refine z_iconst (v := 4) d_Mod_step_16 (by decide) ?_
  refine z_aload_n d_Mod_step_17 rfl ?_
  refine z_get d_Mod_step_18 f_Mod_149 (by omega) rfl rfl ?_
  refine z_imul d_Mod_step_21 ?_
  refine z_iconst (v := 1) d_Mod_step_22 (by decide) ?_
  refine z_iadd d_Mod_step_23 ?_
  refine z_iald d_Mod_step_24 (by omega) rfl (show zin (4 * J 40 18 + nI 1) (4 * m + 1) 240 by rw [hm]; exact rz4 hm6 (by decide)) ?_
  refine z_istore_n (lv' := [(0, _), (1, _), (2, _)]) d_Mod_step_25 (by decide) rfl ?_
  refine z_aload_n d_Mod_step_26 rfl ?_
  refine z_get d_Mod_step_27 f_Mod_33 (by omega) rfl rfl ?_
  refine z_iconst (v := 4) d_Mod_step_30 (by decide) ?_
  refine z_aload_n d_Mod_step_31 rfl ?_
  refine z_get d_Mod_step_32 f_Mod_149 (by omega) rfl rfl ?_
  refine z_imul d_Mod_step_35 ?_
  refine z_iconst (v := 2) d_Mod_step_36 (by decide) ?_
  refine z_iadd d_Mod_step_37 ?_
  refine z_iald d_Mod_step_38 (by omega) rfl (show zin (4 * J 40 18 + nI 2) (4 * m + 2) 240 by rw [hm]; exact rz4 hm6 (by decide)) ?_
  refine z_istore_n (lv' := [(0, _), (1, _), (2, _), (3, _)]) d_Mod_step_39 (by decide) rfl ?_
  refine z_aload_n d_Mod_step_40 rfl ?_
  refine z_get d_Mod_step_41 f_Mod_33 (by omega) rfl rfl ?_
  refine z_iconst (v := 4) d_Mod_step_44 (by decide) ?_
  refine z_aload_n d_Mod_step_45 rfl ?_
  refine z_get d_Mod_step_46 f_Mod_149 (by omega) rfl rfl ?_
  refine z_imul d_Mod_step_49 ?_
  refine z_iconst (v := 3) d_Mod_step_50 (by decide) ?_
  refine z_iadd d_Mod_step_51 ?_
  refine z_iald d_Mod_step_52 (by omega) rfl (show zin (4 * J 40 18 + nI 3) (4 * m + 3) 240 by rw [hm]; exact rz4 hm6 (by decide)) ?_
  refine z_istore (lv' := [(0, _), (1, _), (2, _), (3, _), (4, _)]) d_Mod_step_53 (by decide) rfl ?_
  refine z_iload_n d_Mod_step_55 rfl ?_
  refine z_if_ne d_Mod_step_56 61 (by decide) (fun _ => ?_) (fun h9 => absurd h9 (nI_ne0 hn0 (by omega)))
  refine z_iload_n d_Mod_step_61 rfl ?_
  refine z_callS1 d_Mod_step_62 g_Mod_152 (c_Mod_needsOpen X 0 ho _ _) rfl ⟨by decide, by decide, by decide, by decide⟩ rfl (Nat.le_of_ble_eq_true rfl) ?_
  refine z_if_eq d_Mod_step_65 84 (by decide) (fun _ => ?_) (fun h9 => absurd hy h9)
  refine z_iload_n d_Mod_step_84 rfl ?_
  refine z_bipush (v := 18) d_Mod_step_85 (by decide) ?_
  refine z_icmp_ne d_Mod_step_87 106 (by decide) (fun h87 => ?_) (fun h87 => ?_)
  · refine z_iload_n d_Mod_step_106 rfl ?_
    refine z_callS1 d_Mod_step_107 g_Mod_152 (c_Mod_needsOpen X 0 ho _ _) rfl ⟨by decide, by decide, by decide, by decide⟩ rfl (Nat.le_of_ble_eq_true rfl) ?_
    refine z_if_eq d_Mod_step_110 125 (by decide) (fun _ => ?_) (fun h9 => absurd hy h9)
    refine z_aload_n d_Mod_step_125 rfl ?_
    refine z_iload_n d_Mod_step_126 rfl ?_
    refine z_iload_n d_Mod_step_127 rfl ?_
    refine z_iload_n d_Mod_step_128 rfl ?_
    refine z_iload d_Mod_step_129 rfl ?_
    refine z_callV1 d_Mod_step_131 g_Mod_161 (hm2) (by omega) rfl rfl rfl ⟨by decide, by decide, by decide, by decide⟩ rfl (Nat.le_of_ble_eq_true rfl) ?_
    refine z_istore (lv' := [(0, _), (1, _), (2, _), (3, _), (4, _), (5, _)]) d_Mod_step_134 (by decide) rfl ?_
    refine z_aload_n d_Mod_step_136 rfl ?_
    refine z_iload d_Mod_step_137 rfl ?_
    refine z_if_eq d_Mod_step_139 158 (by decide) (fun _ => ?_) (fun h9 => absurd rfl h9)
    refine z_aload_n d_Mod_step_158 rfl ?_
    refine z_get d_Mod_step_159 f_Mod_149 (by omega) rfl rfl ?_
    refine z_iconst (v := 1) d_Mod_step_162 (by decide) ?_
    refine z_iadd d_Mod_step_163 ?_
    refine z_put d_Mod_step_164 f_Mod_149 p_9_18 (by omega) rfl (Nat.le_of_ble_eq_true rfl) rfl rfl (hp_pi 18 rfl) ?_
    refine z_iconst (v := 1) d_Mod_step_167 (by decide) ?_
    exact z_zret d_Mod_step_168 rfl (by decide) (by decide) (by decide) rfl rfl
  · refine z_aload_n d_Mod_step_90 rfl ?_
    refine z_get d_Mod_step_91 f_Mod_142 (by omega) rfl rfl ?_
    refine z_bipush (v := 64) d_Mod_step_94 (by decide) ?_
    refine z_icmp_ne d_Mod_step_96 106 (by decide) (fun _ => ?_) (fun h9 => absurd h9 (h18 ((nI_eq (show o < 2 ^ 31 by omega) (show 18 < 2 ^ 31 by decide)).mp h87)))
    refine z_iload_n d_Mod_step_106 rfl ?_
    refine z_callS1 d_Mod_step_107 g_Mod_152 (c_Mod_needsOpen X 0 ho _ _) rfl ⟨by decide, by decide, by decide, by decide⟩ rfl (Nat.le_of_ble_eq_true rfl) ?_
    refine z_if_eq d_Mod_step_110 125 (by decide) (fun _ => ?_) (fun h9 => absurd hy h9)
    refine z_aload_n d_Mod_step_125 rfl ?_
    refine z_iload_n d_Mod_step_126 rfl ?_
    refine z_iload_n d_Mod_step_127 rfl ?_
    refine z_iload_n d_Mod_step_128 rfl ?_
    refine z_iload d_Mod_step_129 rfl ?_
    refine z_callV1 d_Mod_step_131 g_Mod_161 (hm2) (by omega) rfl rfl rfl ⟨by decide, by decide, by decide, by decide⟩ rfl (Nat.le_of_ble_eq_true rfl) ?_
    refine z_istore (lv' := [(0, _), (1, _), (2, _), (3, _), (4, _), (5, _)]) d_Mod_step_134 (by decide) rfl ?_
    refine z_aload_n d_Mod_step_136 rfl ?_
    refine z_iload d_Mod_step_137 rfl ?_
    refine z_if_eq d_Mod_step_139 158 (by decide) (fun _ => ?_) (fun h9 => absurd rfl h9)
    refine z_aload_n d_Mod_step_158 rfl ?_
    refine z_get d_Mod_step_159 f_Mod_149 (by omega) rfl rfl ?_
    refine z_iconst (v := 1) d_Mod_step_162 (by decide) ?_
    refine z_iadd d_Mod_step_163 ?_
    refine z_put d_Mod_step_164 f_Mod_149 p_9_18 (by omega) rfl (Nat.le_of_ble_eq_true rfl) rfl rfl (hp_pi 18 rfl) ?_
    refine z_iconst (v := 1) d_Mod_step_167 (by decide) ?_
    exact z_zret d_Mod_step_168 rfl (by decide) (by decide) (by decide) rfl rfl
set_option maxRecDepth 100000 in
set_option maxHeartbeats 4000000 in
theorem c_Mod_stepW1 (X : zX) (J : zJT) (G : zGT) {m o : Nat} (hm : J 40 18 = nI m) (hm6 : m < 60) (ho : o < 22) (hJ : J 48 (4 * m) = nI o) (hn0 : 0 < o) (hy : rNeed.getD o 0 = 0) (h18 : o = 18 → ¬ J 40 19 = 64) {J' : zJT} {G' : zGT} (hm2 : zK X 1 m_Mod_without [.ref 40, .int (nI o), .int (J 48 (4 * m + 1)), .int (J 48 (4 * m + 2)), .int (J 48 (4 * m + 3))] J G (some (.int 1)) J' G') : zK X 3 m_Mod_step [.ref 40] J G (some (.int 1)) (va_up J' 40 (va_up (J' 40) 18 (if rGoal.getD o 0 = 1 then J 48 (4 * m + 1) else J 48 (4 * m + 2)))) G' := by
  refine zC_of (by decide) (Nat.le_of_ble_eq_true rfl) ?_
  refine z_aload_n d_Mod_step_0 rfl ?_
  refine z_get d_Mod_step_1 f_Mod_33 (by omega) rfl rfl ?_
  refine z_iconst (v := 4) d_Mod_step_4 (by decide) ?_
  refine z_aload_n d_Mod_step_5 rfl ?_
  refine z_get d_Mod_step_6 f_Mod_149 (by omega) rfl rfl ?_
  refine z_imul d_Mod_step_9 ?_
  refine z_iald d_Mod_step_10 (by omega) rfl (show zin (4 * J 40 18) (4 * m) 240 by rw [hm]; have := rz4 (w := 0) hm6 (by decide); rwa [nI_0, Int32.add_zero] at this) ?_
  rw [hJ]
  refine z_istore_n (lv' := [(0, _), (1, _)]) d_Mod_step_11 (by decide) rfl ?_
  refine z_aload_n d_Mod_step_12 rfl ?_
  refine z_get d_Mod_step_13 f_Mod_33 (by omega) rfl rfl ?_
  refine z_iconst (v := 4) d_Mod_step_16 (by decide) ?_
  refine z_aload_n d_Mod_step_17 rfl ?_
  refine z_get d_Mod_step_18 f_Mod_149 (by omega) rfl rfl ?_
  refine z_imul d_Mod_step_21 ?_
  refine z_iconst (v := 1) d_Mod_step_22 (by decide) ?_
  refine z_iadd d_Mod_step_23 ?_
  refine z_iald d_Mod_step_24 (by omega) rfl (show zin (4 * J 40 18 + nI 1) (4 * m + 1) 240 by rw [hm]; exact rz4 hm6 (by decide)) ?_
  refine z_istore_n (lv' := [(0, _), (1, _), (2, _)]) d_Mod_step_25 (by decide) rfl ?_
  refine z_aload_n d_Mod_step_26 rfl ?_
  refine z_get d_Mod_step_27 f_Mod_33 (by omega) rfl rfl ?_
  refine z_iconst (v := 4) d_Mod_step_30 (by decide) ?_
  refine z_aload_n d_Mod_step_31 rfl ?_
  refine z_get d_Mod_step_32 f_Mod_149 (by omega) rfl rfl ?_
  refine z_imul d_Mod_step_35 ?_
  refine z_iconst (v := 2) d_Mod_step_36 (by decide) ?_
  refine z_iadd d_Mod_step_37 ?_
  refine z_iald d_Mod_step_38 (by omega) rfl (show zin (4 * J 40 18 + nI 2) (4 * m + 2) 240 by rw [hm]; exact rz4 hm6 (by decide)) ?_
  refine z_istore_n (lv' := [(0, _), (1, _), (2, _), (3, _)]) d_Mod_step_39 (by decide) rfl ?_
  refine z_aload_n d_Mod_step_40 rfl ?_
  refine z_get d_Mod_step_41 f_Mod_33 (by omega) rfl rfl ?_
  refine z_iconst (v := 4) d_Mod_step_44 (by decide) ?_
  refine z_aload_n d_Mod_step_45 rfl ?_
  refine z_get d_Mod_step_46 f_Mod_149 (by omega) rfl rfl ?_
  refine z_imul d_Mod_step_49 ?_
  refine z_iconst (v := 3) d_Mod_step_50 (by decide) ?_
  refine z_iadd d_Mod_step_51 ?_
  refine z_iald d_Mod_step_52 (by omega) rfl (show zin (4 * J 40 18 + nI 3) (4 * m + 3) 240 by rw [hm]; exact rz4 hm6 (by decide)) ?_
  refine z_istore (lv' := [(0, _), (1, _), (2, _), (3, _), (4, _)]) d_Mod_step_53 (by decide) rfl ?_
  refine z_iload_n d_Mod_step_55 rfl ?_
  refine z_if_ne d_Mod_step_56 61 (by decide) (fun _ => ?_) (fun h9 => absurd h9 (nI_ne0 hn0 (by omega)))
  refine z_iload_n d_Mod_step_61 rfl ?_
  refine z_callS1 d_Mod_step_62 g_Mod_152 (c_Mod_needsOpen X 0 ho _ _) rfl ⟨by decide, by decide, by decide, by decide⟩ rfl (Nat.le_of_ble_eq_true rfl) ?_
  refine z_if_eq d_Mod_step_65 84 (by decide) (fun _ => ?_) (fun h9 => absurd hy h9)
  refine z_iload_n d_Mod_step_84 rfl ?_
  refine z_bipush (v := 18) d_Mod_step_85 (by decide) ?_
  refine z_icmp_ne d_Mod_step_87 106 (by decide) (fun h87 => ?_) (fun h87 => ?_)
  · refine z_iload_n d_Mod_step_106 rfl ?_
    refine z_callS1 d_Mod_step_107 g_Mod_152 (c_Mod_needsOpen X 0 ho _ _) rfl ⟨by decide, by decide, by decide, by decide⟩ rfl (Nat.le_of_ble_eq_true rfl) ?_
    refine z_if_eq d_Mod_step_110 125 (by decide) (fun _ => ?_) (fun h9 => absurd hy h9)
    refine z_aload_n d_Mod_step_125 rfl ?_
    refine z_iload_n d_Mod_step_126 rfl ?_
    refine z_iload_n d_Mod_step_127 rfl ?_
    refine z_iload_n d_Mod_step_128 rfl ?_
    refine z_iload d_Mod_step_129 rfl ?_
    refine z_callV1 d_Mod_step_131 g_Mod_161 (hm2) (by omega) rfl rfl rfl ⟨by decide, by decide, by decide, by decide⟩ rfl (Nat.le_of_ble_eq_true rfl) ?_
    refine z_istore (lv' := [(0, _), (1, _), (2, _), (3, _), (4, _), (5, _)]) d_Mod_step_134 (by decide) rfl ?_
    refine z_aload_n d_Mod_step_136 rfl ?_
    refine z_iload d_Mod_step_137 rfl ?_
    refine z_if_eq d_Mod_step_139 158 (by decide) (fun h9 => absurd h9 (by decide)) (fun _ => ?_)
    refine z_iload_n d_Mod_step_142 rfl ?_
    refine z_callS1 d_Mod_step_143 g_Mod_125 (c_Mod_goal X 0 ho _ _) rfl ⟨by decide, by decide, by decide, by decide⟩ rfl (Nat.le_of_ble_eq_true rfl) ?_
    refine z_iconst (v := 1) d_Mod_step_146 (by decide) ?_
    refine z_icmp_ne d_Mod_step_147 154 (by decide) (fun h147 => ?_) (fun h147 => ?_)
    · refine z_iload_n d_Mod_step_154 rfl ?_
      refine z_goto d_Mod_step_155 164 (by decide) ?_
      refine z_put d_Mod_step_164 f_Mod_149 p_9_18 (by omega) rfl (Nat.le_of_ble_eq_true rfl) rfl rfl (hp_pi 18 rfl) ?_
      refine z_iconst (v := 1) d_Mod_step_167 (by decide) ?_
      exact z_zret d_Mod_step_168 rfl (by decide) (by decide) (by decide) rfl (by rw [if_neg h147])
    · refine z_iload_n d_Mod_step_150 rfl ?_
      refine z_goto d_Mod_step_151 164 (by decide) ?_
      refine z_put d_Mod_step_164 f_Mod_149 p_9_18 (by omega) rfl (Nat.le_of_ble_eq_true rfl) rfl rfl (hp_pi 18 rfl) ?_
      refine z_iconst (v := 1) d_Mod_step_167 (by decide) ?_
      exact z_zret d_Mod_step_168 rfl (by decide) (by decide) (by decide) rfl (by rw [if_pos h147])
  · refine z_aload_n d_Mod_step_90 rfl ?_
    refine z_get d_Mod_step_91 f_Mod_142 (by omega) rfl rfl ?_
    refine z_bipush (v := 64) d_Mod_step_94 (by decide) ?_
    refine z_icmp_ne d_Mod_step_96 106 (by decide) (fun _ => ?_) (fun h9 => absurd h9 (h18 ((nI_eq (show o < 2 ^ 31 by omega) (show 18 < 2 ^ 31 by decide)).mp h87)))
    refine z_iload_n d_Mod_step_106 rfl ?_
    refine z_callS1 d_Mod_step_107 g_Mod_152 (c_Mod_needsOpen X 0 ho _ _) rfl ⟨by decide, by decide, by decide, by decide⟩ rfl (Nat.le_of_ble_eq_true rfl) ?_
    refine z_if_eq d_Mod_step_110 125 (by decide) (fun _ => ?_) (fun h9 => absurd hy h9)
    refine z_aload_n d_Mod_step_125 rfl ?_
    refine z_iload_n d_Mod_step_126 rfl ?_
    refine z_iload_n d_Mod_step_127 rfl ?_
    refine z_iload_n d_Mod_step_128 rfl ?_
    refine z_iload d_Mod_step_129 rfl ?_
    refine z_callV1 d_Mod_step_131 g_Mod_161 (hm2) (by omega) rfl rfl rfl ⟨by decide, by decide, by decide, by decide⟩ rfl (Nat.le_of_ble_eq_true rfl) ?_
    refine z_istore (lv' := [(0, _), (1, _), (2, _), (3, _), (4, _), (5, _)]) d_Mod_step_134 (by decide) rfl ?_
    refine z_aload_n d_Mod_step_136 rfl ?_
    refine z_iload d_Mod_step_137 rfl ?_
    refine z_if_eq d_Mod_step_139 158 (by decide) (fun h9 => absurd h9 (by decide)) (fun _ => ?_)
    refine z_iload_n d_Mod_step_142 rfl ?_
    refine z_callS1 d_Mod_step_143 g_Mod_125 (c_Mod_goal X 0 ho _ _) rfl ⟨by decide, by decide, by decide, by decide⟩ rfl (Nat.le_of_ble_eq_true rfl) ?_
    refine z_iconst (v := 1) d_Mod_step_146 (by decide) ?_
    refine z_icmp_ne d_Mod_step_147 154 (by decide) (fun h147 => ?_) (fun h147 => ?_)
    · refine z_iload_n d_Mod_step_154 rfl ?_
      refine z_goto d_Mod_step_155 164 (by decide) ?_
      refine z_put d_Mod_step_164 f_Mod_149 p_9_18 (by omega) rfl (Nat.le_of_ble_eq_true rfl) rfl rfl (hp_pi 18 rfl) ?_
      refine z_iconst (v := 1) d_Mod_step_167 (by decide) ?_
      exact z_zret d_Mod_step_168 rfl (by decide) (by decide) (by decide) rfl (by rw [if_neg h147])
    · refine z_iload_n d_Mod_step_150 rfl ?_
      refine z_goto d_Mod_step_151 164 (by decide) ?_
      refine z_put d_Mod_step_164 f_Mod_149 p_9_18 (by omega) rfl (Nat.le_of_ble_eq_true rfl) rfl rfl (hp_pi 18 rfl) ?_
      refine z_iconst (v := 1) d_Mod_step_167 (by decide) ?_
      exact z_zret d_Mod_step_168 rfl (by decide) (by decide) (by decide) rfl (by rw [if_pos h147])
set_option maxRecDepth 100000 in
set_option maxHeartbeats 4000000 in
theorem c_Mod_read0 (X : zX) (J : zJT) (G : zGT) {m : Nat} (hm : J 40 10 = nI m) (hm6 : m < 60) (c r : Int32) : zK X 2 m_Mod_read [.ref 40, .int c, .int (-1), .int r] J G none (rPut J m 5 c r 0) G := by
  refine zC_of (by decide) (Nat.le_of_ble_eq_true rfl) ?_
  refine z_iload_n d_Mod_read_0 rfl ?_
  refine z_iconst (v := (-1)) d_Mod_read_1 (by decide) ?_
  refine z_icmp_ne d_Mod_read_2 16 (by decide) (fun h9 => absurd h9 (fun h9 => h9 rfl)) (fun _ => ?_)
  refine z_aload_n d_Mod_read_5 rfl ?_
  refine z_iconst (v := 5) d_Mod_read_6 (by decide) ?_
  refine z_iload_n d_Mod_read_7 rfl ?_
  refine z_iload_n d_Mod_read_8 rfl ?_
  refine z_iconst (v := 0) d_Mod_read_9 (by decide) ?_
  refine z_callV0 d_Mod_read_10 g_Mod_121 (c_Mod_put (o := 5) X J G (by decide) hm hm6 c r 0) (by omega) rfl rfl rfl ⟨by decide, by decide, by decide, by decide⟩ rfl (Nat.le_of_ble_eq_true rfl) ?_
  refine z_goto d_Mod_read_13 24 (by decide) ?_
  exact z_vret d_Mod_read_24 rfl (by decide) (by decide) rfl
set_option maxRecDepth 100000 in
set_option maxHeartbeats 4000000 in
theorem c_Mod_read1 (X : zX) (J : zJT) (G : zGT) {m : Nat} (hm : J 40 10 = nI m) (hm6 : m < 60) (c k r : Int32) (hk : ¬ k = -1) : zK X 2 m_Mod_read [.ref 40, .int c, .int k, .int r] J G none (rPut J m 4 c k r) G := by
  refine zC_of (by decide) (Nat.le_of_ble_eq_true rfl) ?_
  refine z_iload_n d_Mod_read_0 rfl ?_
  refine z_iconst (v := (-1)) d_Mod_read_1 (by decide) ?_
  refine z_icmp_ne d_Mod_read_2 16 (by decide) (fun _ => ?_) (fun h9 => absurd h9 hk)
  refine z_aload_n d_Mod_read_16 rfl ?_
  refine z_iconst (v := 4) d_Mod_read_17 (by decide) ?_
  refine z_iload_n d_Mod_read_18 rfl ?_
  refine z_iload_n d_Mod_read_19 rfl ?_
  refine z_iload_n d_Mod_read_20 rfl ?_
  refine z_callV0 d_Mod_read_21 g_Mod_121 (c_Mod_put (o := 4) X J G (by decide) hm hm6 c k r) (by omega) rfl rfl rfl ⟨by decide, by decide, by decide, by decide⟩ rfl (Nat.le_of_ble_eq_true rfl) ?_
  exact z_vret d_Mod_read_24 rfl (by decide) (by decide) rfl
