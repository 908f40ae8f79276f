/-! the reference: programs, second -/
def rPut (J : zJT) (m o : Nat) (p q s : Int32) : zJT := va_up (va_up J 48 (upd (upd (upd (upd (J 48) (4 * m) (nI o)) (4 * m + 1) (rKp o 0 p)) (4 * m + 2) (rKp o 1 q)) (4 * m + 3) (rKp o 2 s))) 40 (va_up (J 40) 10 (nI m + 1))
set_option maxRecDepth 100000 in
set_option maxHeartbeats 4000000 in
theorem c_Mod_add0 (X : zX) (J : zJT) (G : zGT) (i p q s : Int32) (hno : (decide (0 ≤ i) && decide (i < 22)) = false) : zK X 2 m_Mod_add [.ref 40, .int i, .int p, .int q, .int s] J G (some (.int 0)) (rTh J 1) G := by
  refine zC_of (by decide) (Nat.le_of_ble_eq_true rfl) ?_
  refine z_aload_n d_Mod_add_0 rfl ?_
  refine z_iload_n d_Mod_add_1 rfl ?_
  refine z_iload_n d_Mod_add_2 rfl ?_
  refine z_iload_n d_Mod_add_3 rfl ?_
  refine z_iload d_Mod_add_4 rfl ?_
  refine z_callS1 d_Mod_add_6 g_Mod_117 (c_Mod_fits0 X i p q s hno _ _) rfl ⟨by decide, by decide, by decide, by decide⟩ rfl (Nat.le_of_ble_eq_true rfl) ?_
  refine z_if_ne d_Mod_add_9 16 (by decide) (fun h9 => absurd h9 (fun h9 => h9 rfl)) (fun _ => ?_)
  refine z_iconst (v := 1) d_Mod_add_12 (by decide) ?_
  refine z_goto d_Mod_add_13 30 (by decide) ?_
  refine z_put d_Mod_add_30 f_Mod_73 p_9_0 (by omega) rfl (Nat.le_of_ble_eq_true rfl) rfl rfl (hp_pi 0 rfl) ?_
  refine z_aload_n d_Mod_add_33 rfl ?_
  refine z_get d_Mod_add_34 f_Mod_73 (by omega) rfl rfl ?_
  refine z_if_le d_Mod_add_37 42 (by decide) (fun h9 => absurd h9 (show ¬ (1 : Int32) ≤ 0 by decide)) (fun _ => ?_)
  refine z_iconst (v := 0) d_Mod_add_40 (by decide) ?_
  exact z_iret d_Mod_add_41 rfl (by decide) (by decide) rfl rfl
set_option maxRecDepth 100000 in
set_option maxHeartbeats 4000000 in
theorem c_Mod_add1 (X : zX) (J : zJT) (G : zGT) {o : Nat} (ho : o < 22) (p q s : Int32) (ha : rFits o p q s = false) : zK X 2 m_Mod_add [.ref 40, .int (nI o), .int p, .int q, .int s] J G (some (.int 0)) (rTh J 1) G := by
  refine zC_of (by decide) (Nat.le_of_ble_eq_true rfl) ?_
  refine z_aload_n d_Mod_add_0 rfl ?_
  refine z_iload_n d_Mod_add_1 rfl ?_
  refine z_iload_n d_Mod_add_2 rfl ?_
  refine z_iload_n d_Mod_add_3 rfl ?_
  refine z_iload d_Mod_add_4 rfl ?_
  refine z_callS1 d_Mod_add_6 g_Mod_117 (c_Mod_fits X ho p q s _ _) rfl ⟨by decide, by decide, by decide, by decide⟩ rfl (Nat.le_of_ble_eq_true rfl) ?_
  refine z_if_ne d_Mod_add_9 16 (by decide) (fun h9 => absurd h9 (fun h9 => h9 (by rw [ha]; rfl))) (fun _ => ?_)
  refine z_iconst (v := 1) d_Mod_add_12 (by decide) ?_
  refine z_goto d_Mod_add_13 30 (by decide) ?_
  refine z_put d_Mod_add_30 f_Mod_73 p_9_0 (by omega) rfl (Nat.le_of_ble_eq_true rfl) rfl rfl (hp_pi 0 rfl) ?_
  refine z_aload_n d_Mod_add_33 rfl ?_
  refine z_get d_Mod_add_34 f_Mod_73 (by omega) rfl rfl ?_
  refine z_if_le d_Mod_add_37 42 (by decide) (fun h9 => absurd h9 (show ¬ (1 : Int32) ≤ 0 by decide)) (fun _ => ?_)
  refine z_iconst (v := 0) d_Mod_add_40 (by decide) ?_
  exact z_iret d_Mod_add_41 rfl (by decide) (by decide) rfl rfl
set_option maxRecDepth 100000 in
set_option maxHeartbeats 4000000 in
theorem c_Mod_add2 (X : zX) (J : zJT) (G : zGT) {o : Nat} (ho : o < 22) (p q s : Int32) (ha : rFits o p q s = true) (hm : J 40 10 = 60) : zK X 2 m_Mod_add [.ref 40, .int (nI o), .int p, .int q, .int s] J G (some (.int 0)) (rTh J 2) G := by
  refine zC_of (by decide) (Nat.le_of_ble_eq_true rfl) ?_
  refine z_aload_n d_Mod_add_0 rfl ?_
  refine z_iload_n d_Mod_add_1 rfl ?_
  refine z_iload_n d_Mod_add_2 rfl ?_
  refine z_iload_n d_Mod_add_3 rfl ?_
  refine z_iload d_Mod_add_4 rfl ?_
  refine z_callS1 d_Mod_add_6 g_Mod_117 (c_Mod_fits X ho p q s _ _) rfl ⟨by decide, by decide, by decide, by decide⟩ rfl (Nat.le_of_ble_eq_true rfl) ?_
  refine z_if_ne d_Mod_add_9 16 (by decide) (fun _ => ?_) (fun h9 => absurd h9 (by rw [ha]; decide))
  refine z_aload_n d_Mod_add_16 rfl ?_
  refine z_get d_Mod_add_17 f_Mod_110 (by omega) rfl rfl ?_
  refine z_bipush (v := 60) d_Mod_add_20 (by decide) ?_
  refine z_icmp_ne d_Mod_add_22 29 (by decide) (fun h9 => absurd h9 (fun h9 => h9 hm)) (fun _ => ?_)
  refine z_iconst (v := 2) d_Mod_add_25 (by decide) ?_
  refine z_goto d_Mod_add_26 30 (by decide) ?_
  refine z_put d_Mod_add_30 f_Mod_73 p_9_0 (by omega) rfl (Nat.le_of_ble_eq_true rfl) rfl rfl (hp_pi 0 rfl) ?_
  refine z_aload_n d_Mod_add_33 rfl ?_
  refine z_get d_Mod_add_34 f_Mod_73 (by omega) rfl rfl ?_
  refine z_if_le d_Mod_add_37 42 (by decide) (fun h9 => absurd h9 (show ¬ (2 : Int32) ≤ 0 by decide)) (fun _ => ?_)
  refine z_iconst (v := 0) d_Mod_add_40 (by decide) ?_
  exact z_iret d_Mod_add_41 rfl (by decide) (by decide) rfl rfl
set_option maxRecDepth 100000 in
set_option maxHeartbeats 4000000 in
theorem c_Mod_add (X : zX) (J : zJT) (G : zGT) {o m : Nat} (ho : o < 22) (p q s : Int32) (ha : rFits o p q s = true) (hm : J 40 10 = nI m) (hm6 : m < 60) : zK X 2 m_Mod_add [.ref 40, .int (nI o), .int p, .int q, .int s] J G (some (.int (nI m))) (rPut (rTh J 0) m o p q s) G := by
  refine zC_of (by decide) (Nat.le_of_ble_eq_true rfl) ?_
  refine z_aload_n d_Mod_add_0 rfl ?_
  refine z_iload_n d_Mod_add_1 rfl ?_
  refine z_iload_n d_Mod_add_2 rfl ?_
  refine z_iload_n d_Mod_add_3 rfl ?_
  refine z_iload d_Mod_add_4 rfl ?_
  refine z_callS1 d_Mod_add_6 g_Mod_117 (c_Mod_fits X ho p q s _ _) rfl ⟨by decide, by decide, by decide, by decide⟩ rfl (Nat.le_of_ble_eq_true rfl) ?_
  refine z_if_ne d_Mod_add_9 16 (by decide) (fun _ => ?_) (fun h9 => absurd h9 (by rw [ha]; decide))
  refine z_aload_n d_Mod_add_16 rfl ?_
  refine z_get d_Mod_add_17 f_Mod_110 (by omega) rfl rfl ?_
  refine z_bipush (v := 60) d_Mod_add_20 (by decide) ?_
  refine z_icmp_ne d_Mod_add_22 29 (by decide) (fun _ => ?_) (fun h9 => absurd h9 (by rw [hm]; exact fun h9 => absurd ((nI_eq (by omega) (by decide)).mp (show nI m = nI 60 from h9)) (by omega)))
  refine z_iconst (v := 0) d_Mod_add_29 (by decide) ?_
  refine z_put d_Mod_add_30 f_Mod_73 p_9_0 (by omega) rfl (Nat.le_of_ble_eq_true rfl) rfl rfl (hp_pi 0 rfl) ?_
  refine z_aload_n d_Mod_add_33 rfl ?_
  refine z_get d_Mod_add_34 f_Mod_73 (by omega) rfl rfl ?_
  refine z_if_le d_Mod_add_37 42 (by decide) (fun _ => ?_) (fun h9 => absurd (show (0 : Int32) ≤ 0 by decide) h9)
  refine z_aload_n d_Mod_add_42 rfl ?_
  refine z_iload_n d_Mod_add_43 rfl ?_
  refine z_iload_n d_Mod_add_44 rfl ?_
  refine z_iload_n d_Mod_add_45 rfl ?_
  refine z_iload d_Mod_add_46 rfl ?_
  refine z_callV0 d_Mod_add_48 g_Mod_121 (c_Mod_put X (rTh J 0) G ho (show rTh J 0 40 10 = nI m from hm) hm6 p q s) (by omega) rfl rfl rfl ⟨by decide, by decide, by decide, by decide⟩ rfl (Nat.le_of_ble_eq_true rfl) ?_
  refine z_aload_n d_Mod_add_51 rfl ?_
  refine z_get d_Mod_add_52 f_Mod_110 (by omega) rfl rfl ?_
  refine z_iconst (v := 1) d_Mod_add_55 (by decide) ?_
  refine z_isub d_Mod_add_56 ?_
  exact z_iret d_Mod_add_57 rfl (by decide) (by decide) (by show nI m + 1 - 1 = nI m; rw [nI_1, nI_pred]) rfl
set_option maxRecDepth 100000 in
set_option maxHeartbeats 4000000 in
theorem c_Mod_wipe (X : zX) (J : zJT) (G : zGT) (d : Nat) : zK X d m_Mod_wipe [.ref 40] J G none (va_up (rTh J 0) 40 (va_up (rTh J 0 40) 10 0)) G := by
  refine zC_of (by decide) (Nat.le_of_ble_eq_true rfl) ?_
  refine z_aload_n d_Mod_wipe_0 rfl ?_
  refine z_iconst (v := 0) d_Mod_wipe_1 (by decide) ?_
  refine z_put d_Mod_wipe_2 f_Mod_73 p_9_0 (by omega) rfl (Nat.le_of_ble_eq_true rfl) rfl rfl (hp_pi 0 rfl) ?_
  refine z_aload_n d_Mod_wipe_5 rfl ?_
  refine z_iconst (v := 0) d_Mod_wipe_6 (by decide) ?_
  refine z_put d_Mod_wipe_7 f_Mod_110 p_9_10 (by omega) rfl (Nat.le_of_ble_eq_true rfl) rfl rfl (hp_pi 10 rfl) ?_
  exact z_vret d_Mod_wipe_10 rfl (by decide) (by decide) rfl
set_option maxRecDepth 100000 in
set_option maxHeartbeats 4000000 in
theorem c_Mod_code0 (X : zX) (J : zJT) (G : zGT) (d : Nat) (k w : Int32) (h : k < 0 ∨ ¬ k < J 40 10 ∨ w < 0 ∨ ¬ w ≤ 3) : zK X d m_Mod_code [.ref 40, .int k, .int w] J G (some (.int 0)) (rTh J 1) G := by
  refine zC_of (by decide) (Nat.le_of_ble_eq_true rfl) ?_
  refine z_aload_n d_Mod_code_0 rfl ?_
  refine z_iload_n d_Mod_code_1 rfl ?_
  refine z_if_lt d_Mod_code_2 22 (by decide) (fun h2 => ?_) (fun h2 => ?_)
  · refine z_iconst (v := 1) d_Mod_code_22 (by decide) ?_
    refine z_goto d_Mod_code_23 27 (by decide) ?_
    refine z_put d_Mod_code_27 f_Mod_73 p_9_0 (by omega) rfl (Nat.le_of_ble_eq_true rfl) rfl rfl (hp_pi 0 rfl) ?_
    refine z_aload_n d_Mod_code_30 rfl ?_
    refine z_get d_Mod_code_31 f_Mod_73 (by omega) rfl rfl ?_
    refine z_if_le d_Mod_code_34 41 (by decide) (fun h9 => absurd h9 (show ¬ (1 : Int32) ≤ 0 by decide)) (fun _ => ?_)
    refine z_iconst (v := 0) d_Mod_code_37 (by decide) ?_
    refine z_goto d_Mod_code_38 51 (by decide) ?_
    exact z_iret d_Mod_code_51 rfl (by decide) (by decide) rfl rfl
  · refine z_iload_n d_Mod_code_5 rfl ?_
    refine z_aload_n d_Mod_code_6 rfl ?_
    refine z_get d_Mod_code_7 f_Mod_110 (by omega) rfl rfl ?_
    refine z_icmp_ge d_Mod_code_10 22 (by decide) (fun h10 => ?_) (fun h10 => ?_)
    · refine z_iconst (v := 1) d_Mod_code_22 (by decide) ?_
      refine z_goto d_Mod_code_23 27 (by decide) ?_
      refine z_put d_Mod_code_27 f_Mod_73 p_9_0 (by omega) rfl (Nat.le_of_ble_eq_true rfl) rfl rfl (hp_pi 0 rfl) ?_
      refine z_aload_n d_Mod_code_30 rfl ?_
      refine z_get d_Mod_code_31 f_Mod_73 (by omega) rfl rfl ?_
      refine z_if_le d_Mod_code_34 41 (by decide) (fun h9 => absurd h9 (show ¬ (1 : Int32) ≤ 0 by decide)) (fun _ => ?_)
      refine z_iconst (v := 0) d_Mod_code_37 (by decide) ?_
      refine z_goto d_Mod_code_38 51 (by decide) ?_
      exact z_iret d_Mod_code_51 rfl (by decide) (by decide) rfl rfl
    · refine z_iload_n d_Mod_code_13 rfl ?_
      refine z_if_lt d_Mod_code_14 22 (by decide) (fun h14 => ?_) (fun h14 => ?_)
      · refine z_iconst (v := 1) d_Mod_code_22 (by decide) ?_
        refine z_goto d_Mod_code_23 27 (by decide) ?_
        refine z_put d_Mod_code_27 f_Mod_73 p_9_0 (by omega) rfl (Nat.le_of_ble_eq_true rfl) rfl rfl (hp_pi 0 rfl) ?_
        refine z_aload_n d_Mod_code_30 rfl ?_
        refine z_get d_Mod_code_31 f_Mod_73 (by omega) rfl rfl ?_
        refine z_if_le d_Mod_code_34 41 (by decide) (fun h9 => absurd h9 (show ¬ (1 : Int32) ≤ 0 by decide)) (fun _ => ?_)
        refine z_iconst (v := 0) d_Mod_code_37 (by decide) ?_
        refine z_goto d_Mod_code_38 51 (by decide) ?_
        exact z_iret d_Mod_code_51 rfl (by decide) (by decide) rfl rfl
      · refine z_iload_n d_Mod_code_17 rfl ?_
        refine z_iconst (v := 3) d_Mod_code_18 (by decide) ?_
        refine z_icmp_le d_Mod_code_19 26 (by decide) (fun h9 => absurd h9 (by rcases h with h | h | h | h; exact absurd h h2; exact absurd (Int32.not_le.mp h10) h; exact absurd h h14; exact h)) (fun _ => ?_)
        refine z_iconst (v := 1) d_Mod_code_22 (by decide) ?_
        refine z_goto d_Mod_code_23 27 (by decide) ?_
        refine z_put d_Mod_code_27 f_Mod_73 p_9_0 (by omega) rfl (Nat.le_of_ble_eq_true rfl) rfl rfl (hp_pi 0 rfl) ?_
        refine z_aload_n d_Mod_code_30 rfl ?_
        refine z_get d_Mod_code_31 f_Mod_73 (by omega) rfl rfl ?_
        refine z_if_le d_Mod_code_34 41 (by decide) (fun h9 => absurd h9 (show ¬ (1 : Int32) ≤ 0 by decide)) (fun _ => ?_)
        refine z_iconst (v := 0) d_Mod_code_37 (by decide) ?_
        refine z_goto d_Mod_code_38 51 (by decide) ?_
        exact z_iret d_Mod_code_51 rfl (by decide) (by decide) rfl rfl
set_option maxRecDepth 100000 in
set_option maxHeartbeats 4000000 in
theorem c_Mod_code (X : zX) (J : zJT) (G : zGT) (d : Nat) {m k w : Nat} (hm : J 40 10 = nI m) (hm6 : m ≤ 60) (hk : k < m) (hw : w < 4) : zK X d m_Mod_code [.ref 40, .int (nI k), .int (nI w)] J G (some (.int (J 48 (4 * k + w)))) (rTh J 0) G := by
  refine zC_of (by decide) (Nat.le_of_ble_eq_true rfl) ?_
  refine z_aload_n d_Mod_code_0 rfl ?_
  refine z_iload_n d_Mod_code_1 rfl ?_
  refine z_if_lt d_Mod_code_2 22 (by decide) (fun h9 => absurd h9 (nI_pos (by omega))) (fun _ => ?_)
  refine z_iload_n d_Mod_code_5 rfl ?_
  refine z_aload_n d_Mod_code_6 rfl ?_
  refine z_get d_Mod_code_7 f_Mod_110 (by omega) rfl rfl ?_
  refine z_icmp_ge d_Mod_code_10 22 (by decide) (fun h9 => absurd h9 (by rw [hm]; exact nI_ge hk (by omega))) (fun _ => ?_)
  refine z_iload_n d_Mod_code_13 rfl ?_
  refine z_if_lt d_Mod_code_14 22 (by decide) (fun h9 => absurd h9 (nI_pos (by omega))) (fun _ => ?_)
  refine z_iload_n d_Mod_code_17 rfl ?_
  refine z_iconst (v := 3) d_Mod_code_18 (by decide) ?_
  refine z_icmp_le d_Mod_code_19 26 (by decide) (fun _ => ?_) (fun h9 => absurd (show nI w ≤ nI 3 from nI_le (by omega) (by decide)) h9)
  refine z_iconst (v := 0) d_Mod_code_26 (by decide) ?_
  refine z_put d_Mod_code_27 f_Mod_73 p_9_0 (by omega) rfl (Nat.le_of_ble_eq_true rfl) rfl rfl (hp_pi 0 rfl) ?_
  refine z_aload_n d_Mod_code_30 rfl ?_
  refine z_get d_Mod_code_31 f_Mod_73 (by omega) rfl rfl ?_
  refine z_if_le d_Mod_code_34 41 (by decide) (fun _ => ?_) (fun h9 => absurd (show (0 : Int32) ≤ 0 by decide) h9)
  refine z_aload_n d_Mod_code_41 rfl ?_
  refine z_get d_Mod_code_42 f_Mod_33 (by omega) rfl rfl ?_
  refine z_iconst (v := 4) d_Mod_code_45 (by decide) ?_
  refine z_iload_n d_Mod_code_46 rfl ?_
  refine z_imul d_Mod_code_47 ?_
  refine z_iload_n d_Mod_code_48 rfl ?_
  refine z_iadd d_Mod_code_49 ?_
  refine z_iald d_Mod_code_50 (by omega) rfl (rz4 (show k < 60 by omega) hw) ?_
  exact z_iret d_Mod_code_51 rfl (by decide) (by decide) rfl rfl
set_option maxRecDepth 100000 in
set_option maxHeartbeats 4000000 in
theorem c_Mod_point0 (X : zX) (J : zJT) (G : zGT) (d : Nat) {c : Nat} (hc : c < 3) : zK X d m_Mod_point [.ref 40, .int (nI c), .int (-1)] J G none (va_up J 52 (upd (J 52) c 0)) (va_up G 53 (vp_updL (G 53) c 0)) := by
  refine zC_of (by decide) (Nat.le_of_ble_eq_true rfl) ?_
  refine z_aload_n d_Mod_point_0 rfl ?_
  refine z_get d_Mod_point_1 f_Mod_45 (by omega) rfl rfl ?_
  refine z_iload_n d_Mod_point_4 rfl ?_
  refine z_iload_n d_Mod_point_5 rfl ?_
  refine z_if_lt d_Mod_point_6 13 (by decide) (fun _ => ?_) (fun h9 => absurd (by decide) h9)
  refine z_iconst (v := 0) d_Mod_point_13 (by decide) ?_
  refine z_zast d_Mod_point_14 (by omega) rfl (show zin (nI c) c 3 from ⟨rfl, hc, by decide⟩) (by decide) (hp_ai rfl) ?_
  refine z_aload_n d_Mod_point_15 rfl ?_
  refine z_get d_Mod_point_16 f_Mod_48 (by omega) rfl rfl ?_
  refine z_iload_n d_Mod_point_19 rfl ?_
  refine z_iload_n d_Mod_point_20 rfl ?_
  refine z_if_ge d_Mod_point_21 28 (by decide) (fun h9 => absurd h9 (by decide)) (fun _ => ?_)
  refine z_lconst (v := 0) d_Mod_point_24 (by decide) ?_
  refine z_goto d_Mod_point_25 34 (by decide) ?_
  refine z_last d_Mod_point_34 (by omega) rfl (show zin (nI c) c 3 from ⟨rfl, hc, by decide⟩) (hp_al rfl) ?_
  exact z_vret d_Mod_point_35 rfl (by decide) (by decide) rfl
set_option maxRecDepth 100000 in
set_option maxHeartbeats 4000000 in
theorem c_Mod_point1 (X : zX) (J : zJT) (G : zGT) (d : Nat) {c r : Nat} (hc : c < 3) (hr : r < 90) : zK X d m_Mod_point [.ref 40, .int (nI c), .int (nI r)] J G none (va_up J 52 (upd (J 52) c 1)) (va_up G 53 (vp_updL (G 53) c (G 43 r))) := by
  refine zC_of (by decide) (Nat.le_of_ble_eq_true rfl) ?_
  refine z_aload_n d_Mod_point_0 rfl ?_
  refine z_get d_Mod_point_1 f_Mod_45 (by omega) rfl rfl ?_
  refine z_iload_n d_Mod_point_4 rfl ?_
  refine z_iload_n d_Mod_point_5 rfl ?_
  refine z_if_lt d_Mod_point_6 13 (by decide) (fun h9 => absurd h9 (nI_pos (by omega))) (fun _ => ?_)
  refine z_iconst (v := 1) d_Mod_point_9 (by decide) ?_
  refine z_goto d_Mod_point_10 14 (by decide) ?_
  refine z_zast d_Mod_point_14 (by omega) rfl (show zin (nI c) c 3 from ⟨rfl, hc, by decide⟩) (by decide) (hp_ai rfl) ?_
  refine z_aload_n d_Mod_point_15 rfl ?_
  refine z_get d_Mod_point_16 f_Mod_48 (by omega) rfl rfl ?_
  refine z_iload_n d_Mod_point_19 rfl ?_
  refine z_iload_n d_Mod_point_20 rfl ?_
  refine z_if_ge d_Mod_point_21 28 (by decide) (fun _ => ?_) (fun h9 => absurd (nI_pos' (by omega)) h9)
  refine z_aload_n d_Mod_point_28 rfl ?_
  refine z_get d_Mod_point_29 f_Mod_16 (by omega) rfl rfl ?_
  refine z_iload_n d_Mod_point_32 rfl ?_
  refine z_lald d_Mod_point_33 (by omega) rfl (show zin (nI r) r 90 from ⟨rfl, hr, by decide⟩) ?_
  refine z_last d_Mod_point_34 (by omega) rfl (show zin (nI c) c 3 from ⟨rfl, hc, by decide⟩) (hp_al rfl) ?_
  exact z_vret d_Mod_point_35 rfl (by decide) (by decide) rfl
set_option maxRecDepth 100000 in
set_option maxHeartbeats 4000000 in
theorem c_Mod_rowAt0 (X : zX) (J : zJT) (G : zGT) {c : Nat} (hc : c < 3) (h : J 52 c = 0) : zK X 1 m_Mod_rowAt [.ref 40, .int (nI c)] J G (some (.int (-1))) J G := by
  refine zC_of (by decide) (Nat.le_of_ble_eq_true rfl) ?_
  refine z_aload_n d_Mod_rowAt_0 rfl ?_
  refine z_get d_Mod_rowAt_1 f_Mod_45 (by omega) rfl rfl ?_
  refine z_iload_n d_Mod_rowAt_4 rfl ?_
  refine z_zald d_Mod_rowAt_5 (by omega) rfl (show zin (nI c) c 3 from ⟨rfl, hc, by decide⟩) ?_
  refine z_if_eq d_Mod_rowAt_6 28 (by decide) (fun _ => ?_) (fun h9 => absurd h h9)
  refine z_iconst (v := (-1)) d_Mod_rowAt_28 (by decide) ?_
  exact z_iret d_Mod_rowAt_29 rfl (by decide) (by decide) rfl rfl
set_option maxRecDepth 100000 in
set_option maxHeartbeats 4000000 in
theorem c_Mod_rowAt1 (X : zX) (J : zJT) (G : zGT) {c : Nat} (hc : c < 3) (h : ¬ J 52 c = 0) {n : Nat} (hn : J 40 3 = nI n) (hn9 : n ≤ 90) : zK X 1 m_Mod_rowAt [.ref 40, .int (nI c)] J G (some (.int (rOf J G (J 51 c) (G 53 c) n))) J G := by
  refine zC_of (by decide) (Nat.le_of_ble_eq_true rfl) ?_
  refine z_aload_n d_Mod_rowAt_0 rfl ?_
  refine z_get d_Mod_rowAt_1 f_Mod_45 (by omega) rfl rfl ?_
  refine z_iload_n d_Mod_rowAt_4 rfl ?_
  refine z_zald d_Mod_rowAt_5 (by omega) rfl (show zin (nI c) c 3 from ⟨rfl, hc, by decide⟩) ?_
  refine z_if_eq d_Mod_rowAt_6 28 (by decide) (fun h9 => absurd h9 h) (fun _ => ?_)
  refine z_aload_n d_Mod_rowAt_9 rfl ?_
  refine z_aload_n d_Mod_rowAt_10 rfl ?_
  refine z_get d_Mod_rowAt_11 f_Mod_42 (by omega) rfl rfl ?_
  refine z_iload_n d_Mod_rowAt_14 rfl ?_
  refine z_iald d_Mod_rowAt_15 (by omega) rfl (show zin (nI c) c 3 from ⟨rfl, hc, by decide⟩) ?_
  refine z_aload_n d_Mod_rowAt_16 rfl ?_
  refine z_get d_Mod_rowAt_17 f_Mod_48 (by omega) rfl rfl ?_
  refine z_iload_n d_Mod_rowAt_20 rfl ?_
  refine z_lald d_Mod_rowAt_21 (by omega) rfl (show zin (nI c) c 3 from ⟨rfl, hc, by decide⟩) ?_
  refine z_callV1 d_Mod_rowAt_22 g_Mod_86 (c_Mod_rowOf X J G 0 hn hn9 (J 51 c) (G 53 c)) (by omega) rfl rfl rfl ⟨by decide, by decide, by decide, by decide⟩ rfl (Nat.le_of_ble_eq_true rfl) ?_
  refine z_goto d_Mod_rowAt_25 29 (by decide) ?_
  exact z_iret d_Mod_rowAt_29 rfl (by decide) (by decide) rfl rfl
def rCmp (o : Nat) (a b : Int64) : Bool := match o with
  | 9 => decide (a = b)
  | 10 => !decide (a = b)
  | 11 => decide (a < b)
  | 12 => decide (a ≤ b)
  | 13 => decide (b < a)
  | _ => decide (b ≤ a)
set_option maxRecDepth 100000 in
set_option maxHeartbeats 4000000 in
theorem c_Mod_compares_9 (X : zX) (J : zJT) (G : zGT) (d : Nat) (a b : Int64) : zK X d m_Mod_compares [.ref 40, .int 9, .long a, .long b] J G (some (.int (zb (rCmp 9 a b)))) J G := by
  refine zC_of (by decide) (Nat.le_of_ble_eq_true rfl) ?_
  refine z_iload_n d_Mod_compares_0 rfl ?_
  refine z_bipush (v := 9) d_Mod_compares_1 (by decide) ?_
  refine z_isub d_Mod_compares_3 ?_
  refine z_istore (lv' := [(0, _), (1, _), (2, _), (4, _), (6, _)]) d_Mod_compares_4 (by decide) rfl ?_
  refine z_iload d_Mod_compares_6 rfl ?_
  refine z_if_ne d_Mod_compares_8 26 (by decide) (fun h9 => absurd h9 (by decide)) (fun _ => ?_)
  refine z_lload_n d_Mod_compares_11 rfl ?_
  refine z_lload d_Mod_compares_12 rfl ?_
  refine z_lcmp d_Mod_compares_14 ?_
  refine z_if_ne d_Mod_compares_15 22 (by decide) (fun h15 => ?_) (fun h15 => ?_)
  · refine z_iconst (v := 0) d_Mod_compares_22 (by decide) ?_
    refine z_goto d_Mod_compares_23 122 (by decide) ?_
    exact z_zret d_Mod_compares_122 rfl (by decide) (by decide) (by decide) (by show _ = zb (decide (a = b)); exact (by rw [decide_eq_false (fun h9 => h15 ((lg_cmp_eq _ _).mpr h9))]; rfl)) rfl
  · refine z_iconst (v := 1) d_Mod_compares_18 (by decide) ?_
    refine z_goto d_Mod_compares_19 122 (by decide) ?_
    exact z_zret d_Mod_compares_122 rfl (by decide) (by decide) (by decide) (by show _ = zb (decide (a = b)); exact (by rw [decide_eq_true ((lg_cmp_eq _ _).mp h15)]; rfl)) rfl
set_option maxRecDepth 100000 in
set_option maxHeartbeats 4000000 in
theorem c_Mod_compares_10 (X : zX) (J : zJT) (G : zGT) (d : Nat) (a b : Int64) : zK X d m_Mod_compares [.ref 40, .int 10, .long a, .long b] J G (some (.int (zb (rCmp 10 a b)))) J G := by
  refine zC_of (by decide) (Nat.le_of_ble_eq_true rfl) ?_
  refine z_iload_n d_Mod_compares_0 rfl ?_
  refine z_bipush (v := 9) d_Mod_compares_1 (by decide) ?_
  refine z_isub d_Mod_compares_3 ?_
  refine z_istore (lv' := [(0, _), (1, _), (2, _), (4, _), (6, _)]) d_Mod_compares_4 (by decide) rfl ?_
  refine z_iload d_Mod_compares_6 rfl ?_
  refine z_if_ne d_Mod_compares_8 26 (by decide) (fun _ => ?_) (fun h9 => absurd h9 (by decide))
  refine z_iload d_Mod_compares_26 rfl ?_
  refine z_iconst (v := 1) d_Mod_compares_28 (by decide) ?_
  refine z_icmp_ne d_Mod_compares_29 47 (by decide) (fun h9 => absurd h9 (by decide)) (fun _ => ?_)
  refine z_lload_n d_Mod_compares_32 rfl ?_
  refine z_lload d_Mod_compares_33 rfl ?_
  refine z_lcmp d_Mod_compares_35 ?_
  refine z_if_eq d_Mod_compares_36 43 (by decide) (fun h36 => ?_) (fun h36 => ?_)
  · refine z_iconst (v := 0) d_Mod_compares_43 (by decide) ?_
    refine z_goto d_Mod_compares_44 122 (by decide) ?_
    exact z_zret d_Mod_compares_122 rfl (by decide) (by decide) (by decide) (by show _ = zb (!decide (a = b)); exact (by rw [decide_eq_true ((lg_cmp_eq _ _).mp h36)]; rfl)) rfl
  · refine z_iconst (v := 1) d_Mod_compares_39 (by decide) ?_
    refine z_goto d_Mod_compares_40 122 (by decide) ?_
    exact z_zret d_Mod_compares_122 rfl (by decide) (by decide) (by decide) (by show _ = zb (!decide (a = b)); exact (by rw [decide_eq_false (fun h9 => h36 ((lg_cmp_eq _ _).mpr h9))]; rfl)) rfl
set_option maxRecDepth 100000 in
set_option maxHeartbeats 4000000 in
theorem c_Mod_compares_11 (X : zX) (J : zJT) (G : zGT) (d : Nat) (a b : Int64) : zK X d m_Mod_compares [.ref 40, .int 11, .long a, .long b] J G (some (.int (zb (rCmp 11 a b)))) J G := by
  refine zC_of (by decide) (Nat.le_of_ble_eq_true rfl) ?_
  refine z_iload_n d_Mod_compares_0 rfl ?_
  refine z_bipush (v := 9) d_Mod_compares_1 (by decide) ?_
  refine z_isub d_Mod_compares_3 ?_
  refine z_istore (lv' := [(0, _), (1, _), (2, _), (4, _), (6, _)]) d_Mod_compares_4 (by decide) rfl ?_
  refine z_iload d_Mod_compares_6 rfl ?_
  refine z_if_ne d_Mod_compares_8 26 (by decide) (fun _ => ?_) (fun h9 => absurd h9 (by decide))
  refine z_iload d_Mod_compares_26 rfl ?_
  refine z_iconst (v := 1) d_Mod_compares_28 (by decide) ?_
  refine z_icmp_ne d_Mod_compares_29 47 (by decide) (fun _ => ?_) (fun h9 => absurd h9 (by decide))
  refine z_iload d_Mod_compares_47 rfl ?_
  refine z_iconst (v := 2) d_Mod_compares_49 (by decide) ?_
  refine z_icmp_ne d_Mod_compares_50 68 (by decide) (fun h9 => absurd h9 (by decide)) (fun _ => ?_)
  refine z_lload_n d_Mod_compares_53 rfl ?_
  refine z_lload d_Mod_compares_54 rfl ?_
  refine z_lcmp d_Mod_compares_56 ?_
  refine z_if_ge d_Mod_compares_57 64 (by decide) (fun h57 => ?_) (fun h57 => ?_)
  · refine z_iconst (v := 0) d_Mod_compares_64 (by decide) ?_
    refine z_goto d_Mod_compares_65 122 (by decide) ?_
    exact z_zret d_Mod_compares_122 rfl (by decide) (by decide) (by decide) (by show _ = zb (decide (a < b)); exact (by rw [decide_eq_false (Int64.not_lt.mpr ((lg_cmp_ge _ _).mp h57))]; rfl)) rfl
  · refine z_iconst (v := 1) d_Mod_compares_60 (by decide) ?_
    refine z_goto d_Mod_compares_61 122 (by decide) ?_
    exact z_zret d_Mod_compares_122 rfl (by decide) (by decide) (by decide) (by show _ = zb (decide (a < b)); exact (by rw [decide_eq_true (Int64.not_le.mp (fun h9 => h57 ((lg_cmp_ge _ _).mpr h9)))]; rfl)) rfl
set_option maxRecDepth 100000 in
set_option maxHeartbeats 4000000 in
theorem c_Mod_compares_12 (X : zX) (J : zJT) (G : zGT) (d : Nat) (a b : Int64) : zK X d m_Mod_compares [.ref 40, .int 12, .long a, .long b] J G (some (.int (zb (rCmp 12 a b)))) J G := by
  refine zC_of (by decide) (Nat.le_of_ble_eq_true rfl) ?_
  refine z_iload_n d_Mod_compares_0 rfl ?_
  refine z_bipush (v := 9) d_Mod_compares_1 (by decide) ?_
  refine z_isub d_Mod_compares_3 ?_
  refine z_istore (lv' := [(0, _), (1, _), (2, _), (4, _), (6, _)]) d_Mod_compares_4 (by decide) rfl ?_
  refine z_iload d_Mod_compares_6 rfl ?_
  refine z_if_ne d_Mod_compares_8 26 (by decide) (fun _ => ?_) (fun h9 => absurd h9 (by decide))
  refine z_iload d_Mod_compares_26 rfl ?_
  refine z_iconst (v := 1) d_Mod_compares_28 (by decide) ?_
  refine z_icmp_ne d_Mod_compares_29 47 (by decide) (fun _ => ?_) (fun h9 => absurd h9 (by decide))
  refine z_iload d_Mod_compares_47 rfl ?_
  refine z_iconst (v := 2) d_Mod_compares_49 (by decide) ?_
  refine z_icmp_ne d_Mod_compares_50 68 (by decide) (fun _ => ?_) (fun h9 => absurd h9 (by decide))
  refine z_iload d_Mod_compares_68 rfl ?_
  refine z_iconst (v := 3) d_Mod_compares_70 (by decide) ?_
  refine z_icmp_ne d_Mod_compares_71 89 (by decide) (fun h9 => absurd h9 (by decide)) (fun _ => ?_)
  refine z_lload_n d_Mod_compares_74 rfl ?_
  refine z_lload d_Mod_compares_75 rfl ?_
  refine z_lcmp d_Mod_compares_77 ?_
  refine z_if_gt d_Mod_compares_78 85 (by decide) (fun h78 => ?_) (fun h78 => ?_)
  · refine z_iconst (v := 0) d_Mod_compares_85 (by decide) ?_
    refine z_goto d_Mod_compares_86 122 (by decide) ?_
    exact z_zret d_Mod_compares_122 rfl (by decide) (by decide) (by decide) (by show _ = zb (decide (a ≤ b)); exact (by rw [decide_eq_false (Int64.not_le.mpr ((lg_cmp_gt _ _).mp h78))]; rfl)) rfl
  · refine z_iconst (v := 1) d_Mod_compares_81 (by decide) ?_
    refine z_goto d_Mod_compares_82 122 (by decide) ?_
    exact z_zret d_Mod_compares_122 rfl (by decide) (by decide) (by decide) (by show _ = zb (decide (a ≤ b)); exact (by rw [decide_eq_true (Int64.not_lt.mp (fun h9 => h78 ((lg_cmp_gt _ _).mpr h9)))]; rfl)) rfl
set_option maxRecDepth 100000 in
set_option maxHeartbeats 4000000 in
theorem c_Mod_compares_13 (X : zX) (J : zJT) (G : zGT) (d : Nat) (a b : Int64) : zK X d m_Mod_compares [.ref 40, .int 13, .long a, .long b] J G (some (.int (zb (rCmp 13 a b)))) J G := by
  refine zC_of (by decide) (Nat.le_of_ble_eq_true rfl) ?_
  refine z_iload_n d_Mod_compares_0 rfl ?_
  refine z_bipush (v := 9) d_Mod_compares_1 (by decide) ?_
  refine z_isub d_Mod_compares_3 ?_
  refine z_istore (lv' := [(0, _), (1, _), (2, _), (4, _), (6, _)]) d_Mod_compares_4 (by decide) rfl ?_
  refine z_iload d_Mod_compares_6 rfl ?_
  refine z_if_ne d_Mod_compares_8 26 (by decide) (fun _ => ?_) (fun h9 => absurd h9 (by decide))
  refine z_iload d_Mod_compares_26 rfl ?_
  refine z_iconst (v := 1) d_Mod_compares_28 (by decide) ?_
  refine z_icmp_ne d_Mod_compares_29 47 (by decide) (fun _ => ?_) (fun h9 => absurd h9 (by decide))
  refine z_iload d_Mod_compares_47 rfl ?_
  refine z_iconst (v := 2) d_Mod_compares_49 (by decide) ?_
  refine z_icmp_ne d_Mod_compares_50 68 (by decide) (fun _ => ?_) (fun h9 => absurd h9 (by decide))
  refine z_iload d_Mod_compares_68 rfl ?_
  refine z_iconst (v := 3) d_Mod_compares_70 (by decide) ?_
  refine z_icmp_ne d_Mod_compares_71 89 (by decide) (fun _ => ?_) (fun h9 => absurd h9 (by decide))
  refine z_iload d_Mod_compares_89 rfl ?_
  refine z_iconst (v := 4) d_Mod_compares_91 (by decide) ?_
  refine z_icmp_ne d_Mod_compares_92 110 (by decide) (fun h9 => absurd h9 (by decide)) (fun _ => ?_)
  refine z_lload_n d_Mod_compares_95 rfl ?_
  refine z_lload d_Mod_compares_96 rfl ?_
  refine z_lcmp d_Mod_compares_98 ?_
  refine z_if_le d_Mod_compares_99 106 (by decide) (fun h99 => ?_) (fun h99 => ?_)
  · refine z_iconst (v := 0) d_Mod_compares_106 (by decide) ?_
    refine z_goto d_Mod_compares_107 122 (by decide) ?_
    exact z_zret d_Mod_compares_122 rfl (by decide) (by decide) (by decide) (by show _ = zb (decide (b < a)); exact (by rw [decide_eq_false (Int64.not_lt.mpr ((lg_cmp_le _ _).mp h99))]; rfl)) rfl
  · refine z_iconst (v := 1) d_Mod_compares_102 (by decide) ?_
    refine z_goto d_Mod_compares_103 122 (by decide) ?_
    exact z_zret d_Mod_compares_122 rfl (by decide) (by decide) (by decide) (by show _ = zb (decide (b < a)); exact (by rw [decide_eq_true (Int64.not_le.mp (fun h9 => h99 ((lg_cmp_le _ _).mpr h9)))]; rfl)) rfl
set_option maxRecDepth 100000 in
set_option maxHeartbeats 4000000 in
theorem c_Mod_compares_14 (X : zX) (J : zJT) (G : zGT) (d : Nat) (a b : Int64) : zK X d m_Mod_compares [.ref 40, .int 14, .long a, .long b] J G (some (.int (zb (rCmp 14 a b)))) J G := by
  refine zC_of (by decide) (Nat.le_of_ble_eq_true rfl) ?_
  refine z_iload_n d_Mod_compares_0 rfl ?_
  refine z_bipush (v := 9) d_Mod_compares_1 (by decide) ?_
  refine z_isub d_Mod_compares_3 ?_
  refine z_istore (lv' := [(0, _), (1, _), (2, _), (4, _), (6, _)]) d_Mod_compares_4 (by decide) rfl ?_
  refine z_iload d_Mod_compares_6 rfl ?_
  refine z_if_ne d_Mod_compares_8 26 (by decide) (fun _ => ?_) (fun h9 => absurd h9 (by decide))
  refine z_iload d_Mod_compares_26 rfl ?_
  refine z_iconst (v := 1) d_Mod_compares_28 (by decide) ?_
  refine z_icmp_ne d_Mod_compares_29 47 (by decide) (fun _ => ?_) (fun h9 => absurd h9 (by decide))
  refine z_iload d_Mod_compares_47 rfl ?_
  refine z_iconst (v := 2) d_Mod_compares_49 (by decide) ?_
  refine z_icmp_ne d_Mod_compares_50 68 (by decide) (fun _ => ?_) (fun h9 => absurd h9 (by decide))
  refine z_iload d_Mod_compares_68 rfl ?_
  refine z_iconst (v := 3) d_Mod_compares_70 (by decide) ?_
  refine z_icmp_ne d_Mod_compares_71 89 (by decide) (fun _ => ?_) (fun h9 => absurd h9 (by decide))
  refine z_iload d_Mod_compares_89 rfl ?_
  refine z_iconst (v := 4) d_Mod_compares_91 (by decide) ?_
  refine z_icmp_ne d_Mod_compares_92 110 (by decide) (fun _ => ?_) (fun h9 => absurd h9 (by decide))
  refine z_lload_n d_Mod_compares_110 rfl ?_
  refine z_lload d_Mod_compares_111 rfl ?_
  refine z_lcmp d_Mod_compares_113 ?_
  refine z_if_lt d_Mod_compares_114 121 (by decide) (fun h114 => ?_) (fun h114 => ?_)
  · refine z_iconst (v := 0) d_Mod_compares_121 (by decide) ?_
    exact z_zret d_Mod_compares_122 rfl (by decide) (by decide) (by decide) (by show _ = zb (decide (b ≤ a)); exact (by rw [decide_eq_false (Int64.not_le.mpr ((lg_cmp_lt _ _).mp h114))]; rfl)) rfl
  · refine z_iconst (v := 1) d_Mod_compares_117 (by decide) ?_
    refine z_goto d_Mod_compares_118 122 (by decide) ?_
    exact z_zret d_Mod_compares_122 rfl (by decide) (by decide) (by decide) (by show _ = zb (decide (b ≤ a)); exact (by rw [decide_eq_true (Int64.not_lt.mp (fun h9 => h114 ((lg_cmp_lt _ _).mpr h9)))]; rfl)) rfl
