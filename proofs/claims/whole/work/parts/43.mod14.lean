/-! the reference: a run, from its start -/
set_option maxRecDepth 100000 in
set_option maxHeartbeats 4000000 in
theorem l_Mod_runA (X : zX) (J : zJT) (G : zGT) {Q : zQT} (v : Int32) (kk : zJ X (zR 4 0 0) m_Mod_run Q false 0 0 (hp (rK J 16) (rKG G 16)) 60 57 [(0, .ref 40), (1, .int v), (2, .int (nI 16))] []) : ∀ rem k, 16 - k = rem → k ≤ 16 → zJ X (zR 4 0 0) m_Mod_run Q false 0 0 (hp (rK J k) (rKG G k)) 60 38 [(0, .ref 40), (1, .int v), (2, .int (nI k))] [] := by
  intro rem
  induction rem with
  | zero =>
    intro k hr hk
    obtain rfl : k = 16 := by omega
    refine z_iload_n d_Mod_run_38 rfl ?_
    refine z_bipush (v := 16) d_Mod_run_39 (by decide) ?_
    refine z_icmp_ge d_Mod_run_41 57 (by decide) (fun _ => ?_) (fun h9 => absurd (by decide) h9)
    exact kk
  | succ rem ih =>
    intro k hr hk
    refine z_iload_n d_Mod_run_38 rfl ?_
    refine z_bipush (v := 16) d_Mod_run_39 (by decide) ?_
    refine z_icmp_ge d_Mod_run_41 57 (by decide) (fun h9 => absurd h9 (nI_ge (show k < 16 by omega) (by decide))) (fun _ => ?_)
    refine z_aload_n d_Mod_run_44 rfl ?_
    refine z_iload_n d_Mod_run_45 rfl ?_
    refine z_iconst (v := 0) d_Mod_run_46 (by decide) ?_
    refine z_lconst (v := 0) d_Mod_run_47 (by decide) ?_
    refine z_callV0 d_Mod_run_48 g_Mod_138 (c_Mod_keep X (rK J k) (rKG G k) 0 (show k < 16 by omega) false 0) (by omega) rfl rfl rfl ⟨by decide, by decide, by decide, by decide⟩ rfl (Nat.le_of_ble_eq_true rfl) ?_
    refine z_iinc (lv' := [(0, _), (1, _), (2, _)]) d_Mod_run_51 (by decide) rfl (show _ + Int32.ofInt 1 = nI (k + 1) from nI_1 _) rfl ?_
    refine z_goto d_Mod_run_54 38 (by decide) ?_
    exact z_loc (lv' := [(0, .ref 40), (1, .int v), (2, .int (nI (k + 1)))]) (by simp) (ih (k + 1) (by omega) (by omega))
set_option maxRecDepth 100000 in
set_option maxHeartbeats 4000000 in
theorem l_Mod_runB (X : zX) (J : zJT) (G : zGT) {Q : zQT} (v : Int32) (kk : zJ X (zR 4 0 0) m_Mod_run Q false 0 0 (hp (rC J 3) G) 60 84 [(0, .ref 40), (1, .int v), (2, .int (nI 3))] []) : ∀ rem k, 3 - k = rem → k ≤ 3 → zJ X (zR 4 0 0) m_Mod_run Q false 0 0 (hp (rC J k) G) 60 59 [(0, .ref 40), (1, .int v), (2, .int (nI k))] [] := by
  intro rem
  induction rem with
  | zero =>
    intro k hr hk
    obtain rfl : k = 3 := by omega
    refine z_iload_n d_Mod_run_59 rfl ?_
    refine z_iconst (v := 3) d_Mod_run_60 (by decide) ?_
    refine z_icmp_ge d_Mod_run_61 84 (by decide) (fun _ => ?_) (fun h9 => absurd (by decide) h9)
    exact kk
  | succ rem ih =>
    intro k hr hk
    refine z_iload_n d_Mod_run_59 rfl ?_
    refine z_iconst (v := 3) d_Mod_run_60 (by decide) ?_
    refine z_icmp_ge d_Mod_run_61 84 (by decide) (fun h9 => absurd h9 (nI_ge (show k < 3 by omega) (by decide))) (fun _ => ?_)
    refine z_aload_n d_Mod_run_64 rfl ?_
    refine z_get d_Mod_run_65 f_Mod_42 (by omega) rfl rfl ?_
    refine z_iload_n d_Mod_run_68 rfl ?_
    refine z_iconst (v := (-1)) d_Mod_run_69 (by decide) ?_
    refine z_iast d_Mod_run_70 (by omega) rfl (show zin (nI k) k 3 from ⟨rfl, by omega, by decide⟩) (hp_ai rfl) ?_
    refine z_aload_n d_Mod_run_71 rfl ?_
    refine z_get d_Mod_run_72 f_Mod_45 (by omega) rfl rfl ?_
    refine z_iload_n d_Mod_run_75 rfl ?_
    refine z_iconst (v := 0) d_Mod_run_76 (by decide) ?_
    refine z_zast d_Mod_run_77 (by omega) rfl (show zin (nI k) k 3 from ⟨rfl, by omega, by decide⟩) (by decide) (hp_ai rfl) ?_
    refine z_iinc (lv' := [(0, _), (1, _), (2, _)]) d_Mod_run_78 (by decide) rfl (show _ + Int32.ofInt 1 = nI (k + 1) from nI_1 _) rfl ?_
    refine z_goto d_Mod_run_81 59 (by decide) ?_
    exact z_loc (lv' := [(0, .ref 40), (1, .int v), (2, .int (nI (k + 1)))]) (by simp) (ih (k + 1) (by omega) (by omega))
set_option maxRecDepth 100000 in
set_option maxHeartbeats 4000000 in
theorem c_Mod_run1 (X : zX) (J : zJT) (G : zGT) (v : Int32) (h : v < 0) : zK X 4 m_Mod_run [.ref 40, .int v] J G (some (.int 0)) (rTh J 1) G := by
  refine zC_of (by decide) (Nat.le_of_ble_eq_true rfl) ?_
  refine z_aload_n d_Mod_run_0 rfl ?_
  refine z_iload_n d_Mod_run_1 rfl ?_
  refine z_if_lt d_Mod_run_2 19 (by decide) (fun _ => ?_) (fun h9 => absurd h h9)
  refine z_iconst (v := 1) d_Mod_run_19 (by decide) ?_
  refine z_goto d_Mod_run_20 24 (by decide) ?_
  refine z_put d_Mod_run_24 f_Mod_73 p_9_0 (by omega) rfl (Nat.le_of_ble_eq_true rfl) rfl rfl (hp_pi 0 rfl) ?_
  refine z_aload_n d_Mod_run_27 rfl ?_
  refine z_get d_Mod_run_28 f_Mod_73 (by omega) rfl rfl ?_
  refine z_if_le d_Mod_run_31 36 (by decide) (fun h9 => absurd h9 (show ¬ (1 : Int32) ≤ 0 by decide)) (fun _ => ?_)
  refine z_iconst (v := 0) d_Mod_run_34 (by decide) ?_
  exact z_iret d_Mod_run_35 rfl (by decide) (by decide) rfl rfl
set_option maxRecDepth 100000 in
set_option maxHeartbeats 4000000 in
theorem c_Mod_run2 (X : zX) (J : zJT) (G : zGT) (v : Int32) (h0 : ¬ v < 0) (h : ¬ v ≤ 4000) : zK X 4 m_Mod_run [.ref 40, .int v] J G (some (.int 0)) (rTh J 1) G := by
  refine zC_of (by decide) (Nat.le_of_ble_eq_true rfl) ?_
  refine z_aload_n d_Mod_run_0 rfl ?_
  refine z_iload_n d_Mod_run_1 rfl ?_
  refine z_if_lt d_Mod_run_2 19 (by decide) (fun h9 => absurd h9 h0) (fun _ => ?_)
  refine z_iload_n d_Mod_run_5 rfl ?_
  refine z_sipush (v := 4000) d_Mod_run_6 (by decide) ?_
  refine z_icmp_gt d_Mod_run_9 19 (by decide) (fun _ => ?_) (fun h9 => absurd (Int32.not_le.mp h) h9)
  refine z_iconst (v := 1) d_Mod_run_19 (by decide) ?_
  refine z_goto d_Mod_run_20 24 (by decide) ?_
  refine z_put d_Mod_run_24 f_Mod_73 p_9_0 (by omega) rfl (Nat.le_of_ble_eq_true rfl) rfl rfl (hp_pi 0 rfl) ?_
  refine z_aload_n d_Mod_run_27 rfl ?_
  refine z_get d_Mod_run_28 f_Mod_73 (by omega) rfl rfl ?_
  refine z_if_le d_Mod_run_31 36 (by decide) (fun h9 => absurd h9 (show ¬ (1 : Int32) ≤ 0 by decide)) (fun _ => ?_)
  refine z_iconst (v := 0) d_Mod_run_34 (by decide) ?_
  exact z_iret d_Mod_run_35 rfl (by decide) (by decide) rfl rfl
set_option maxRecDepth 100000 in
set_option maxHeartbeats 4000000 in
theorem c_Mod_run3 (X : zX) (J : zJT) (G : zGT) (v : Int32) (h0 : ¬ v < 0) (h4 : v ≤ 4000) (hs : zK X 1 m_Mod_sound [.ref 40] J G (some (.int 0)) J G) : zK X 4 m_Mod_run [.ref 40, .int v] J G (some (.int 0)) (rTh J 1) G := by
  refine zC_of (by decide) (Nat.le_of_ble_eq_true rfl) ?_
  refine z_aload_n d_Mod_run_0 rfl ?_
  refine z_iload_n d_Mod_run_1 rfl ?_
  refine z_if_lt d_Mod_run_2 19 (by decide) (fun h9 => absurd h9 h0) (fun _ => ?_)
  refine z_iload_n d_Mod_run_5 rfl ?_
  refine z_sipush (v := 4000) d_Mod_run_6 (by decide) ?_
  refine z_icmp_gt d_Mod_run_9 19 (by decide) (fun h9 => absurd h9 (Int32.not_lt.mpr h4)) (fun _ => ?_)
  refine z_aload_n d_Mod_run_12 rfl ?_
  refine z_callV1 d_Mod_run_13 g_Mod_164 (hs) (by omega) rfl rfl rfl ⟨by decide, by decide, by decide, by decide⟩ rfl (Nat.le_of_ble_eq_true rfl) ?_
  refine z_if_ne d_Mod_run_16 23 (by decide) (fun h9 => absurd h9 (fun h9 => h9 rfl)) (fun _ => ?_)
  refine z_iconst (v := 1) d_Mod_run_19 (by decide) ?_
  refine z_goto d_Mod_run_20 24 (by decide) ?_
  refine z_put d_Mod_run_24 f_Mod_73 p_9_0 (by omega) rfl (Nat.le_of_ble_eq_true rfl) rfl rfl (hp_pi 0 rfl) ?_
  refine z_aload_n d_Mod_run_27 rfl ?_
  refine z_get d_Mod_run_28 f_Mod_73 (by omega) rfl rfl ?_
  refine z_if_le d_Mod_run_31 36 (by decide) (fun h9 => absurd h9 (show ¬ (1 : Int32) ≤ 0 by decide)) (fun _ => ?_)
  refine z_iconst (v := 0) d_Mod_run_34 (by decide) ?_
  exact z_iret d_Mod_run_35 rfl (by decide) (by decide) rfl rfl
set_option maxRecDepth 100000 in
set_option maxHeartbeats 4000000 in
theorem l_Mod_run84 (X : zX) (J : zJT) (G : zGT) {N F : Nat} (hN : N ≤ 60) (hF : F ≤ 4000) {J' : zJT} {G' : zGT} (hx : rEx X N F true (va_up J 40 (va_up (va_up (va_up (J 40) 19 0) 17 0) 18 0)) G J' G') : zJ X (zR 4 0 0) m_Mod_run (zRet X 0 0 false (some (.int (J' 40 17))) (hp J' G') 60) false 0 0 (hp J G) 60 84 [(0, .ref 40), (1, .int (nI F)), (2, .int (nI 3))] [] := by
  refine z_aload_n d_Mod_run_84 rfl ?_
  refine z_iconst (v := 0) d_Mod_run_85 (by decide) ?_
  refine z_put d_Mod_run_86 f_Mod_142 p_9_19 (by omega) rfl (Nat.le_of_ble_eq_true rfl) rfl rfl (hp_pi 19 rfl) ?_
  refine z_aload_n d_Mod_run_89 rfl ?_
  refine z_iconst (v := 0) d_Mod_run_90 (by decide) ?_
  refine z_put d_Mod_run_91 f_Mod_155 p_9_17 (by omega) rfl (Nat.le_of_ble_eq_true rfl) rfl rfl (hp_pi 17 rfl) ?_
  refine z_aload_n d_Mod_run_94 rfl ?_
  refine z_iconst (v := 0) d_Mod_run_95 (by decide) ?_
  refine z_put d_Mod_run_96 f_Mod_149 p_9_18 (by omega) rfl (Nat.le_of_ble_eq_true rfl) rfl rfl (hp_pi 18 rfl) ?_
  refine z_iconst (v := 0) d_Mod_run_99 (by decide) ?_
  refine z_istore_n (lv' := [(0, _), (1, _), (2, _)]) d_Mod_run_100 (by decide) rfl ?_
  refine z_iconst (v := 1) d_Mod_run_101 (by decide) ?_
  refine z_istore_n (lv' := [(0, _), (1, _), (2, _), (3, _)]) d_Mod_run_102 (by decide) rfl ?_
  exact z_loc (lv' := [(0, .ref 40), (1, .int (nI F)), (2, .int (nI 0)), (3, .int (zb true))]) (by simp [nI_0, zb]) (l_Mod_run X hN hF F 0 true _ _ (by omega) (by omega) (by simpa [bx_uu, zu_s] using hx))
set_option maxRecDepth 100000 in
set_option maxHeartbeats 4000000 in
theorem l_Mod_run57 (X : zX) (J : zJT) (G : zGT) {N F : Nat} (hN : N ≤ 60) (hF : F ≤ 4000) {J' : zJT} {G' : zGT} (hx : rEx X N F true (va_up (rC J 3) 40 (va_up (va_up (va_up ((rC J 3) 40) 19 0) 17 0) 18 0)) G J' G') : zJ X (zR 4 0 0) m_Mod_run (zRet X 0 0 false (some (.int (J' 40 17))) (hp J' G') 60) false 0 0 (hp J G) 60 57 [(0, .ref 40), (1, .int (nI F)), (2, .int (nI 16))] [] := by
  refine z_iconst (v := 0) d_Mod_run_57 (by decide) ?_
  refine z_istore_n (lv' := [(0, _), (1, _), (2, _)]) d_Mod_run_58 (by decide) rfl ?_
  exact z_loc (lv' := [(0, .ref 40), (1, .int (nI F)), (2, .int (nI 0))]) (by simp [nI_0]) (l_Mod_runB X J G (nI F) (l_Mod_run84 X (rC J 3) G hN hF hx) 3 0 (by omega) (by omega))
set_option maxRecDepth 100000 in
set_option maxHeartbeats 4000000 in
theorem c_Mod_run (X : zX) (J : zJT) (G : zGT) {N F : Nat} (hN : N ≤ 60) (hF : F ≤ 4000) {J' : zJT} {G' : zGT} (hs : zK X 1 m_Mod_sound [.ref 40] J G (some (.int 1)) J G) (hx : rEx X N F true (rRs J) (rKG G 16) J' G') : zK X 4 m_Mod_run [.ref 40, .int (nI F)] J G (some (.int (J' 40 17))) J' G' := by
  unfold rRs at hx
  refine zC_of (by decide) (Nat.le_of_ble_eq_true rfl) ?_
  refine z_aload_n d_Mod_run_0 rfl ?_
  refine z_iload_n d_Mod_run_1 rfl ?_
  refine z_if_lt d_Mod_run_2 19 (by decide) (fun h9 => absurd h9 (nI_pos (by omega))) (fun _ => ?_)
  refine z_iload_n d_Mod_run_5 rfl ?_
  refine z_sipush (v := 4000) d_Mod_run_6 (by decide) ?_
  refine z_icmp_gt d_Mod_run_9 19 (by decide) (fun h9 => absurd h9 (Int32.not_lt.mpr (show nI F ≤ nI 4000 from nI_le hF (by decide)))) (fun _ => ?_)
  refine z_aload_n d_Mod_run_12 rfl ?_
  refine z_callV1 d_Mod_run_13 g_Mod_164 (hs) (by omega) rfl rfl rfl ⟨by decide, by decide, by decide, by decide⟩ rfl (Nat.le_of_ble_eq_true rfl) ?_
  refine z_if_ne d_Mod_run_16 23 (by decide) (fun _ => ?_) (fun h9 => absurd h9 (by decide))
  refine z_iconst (v := 0) d_Mod_run_23 (by decide) ?_
  refine z_put d_Mod_run_24 f_Mod_73 p_9_0 (by omega) rfl (Nat.le_of_ble_eq_true rfl) rfl rfl (hp_pi 0 rfl) ?_
  refine z_aload_n d_Mod_run_27 rfl ?_
  refine z_get d_Mod_run_28 f_Mod_73 (by omega) rfl rfl ?_
  refine z_if_le d_Mod_run_31 36 (by decide) (fun _ => ?_) (fun h9 => absurd (show (0 : Int32) ≤ 0 by decide) h9)
  refine z_iconst (v := 0) d_Mod_run_36 (by decide) ?_
  refine z_istore_n (lv' := [(0, _), (1, _), (2, _)]) d_Mod_run_37 (by decide) rfl ?_
  exact z_loc (lv' := [(0, .ref 40), (1, .int (nI F)), (2, .int (nI 0))]) (by simp [nI_0]) (l_Mod_runA X (rTh J 0) G (nI F) (l_Mod_run57 X (rK (rTh J 0) 16) (rKG G 16) hN hF hx) 16 0 (by omega) (by omega))
