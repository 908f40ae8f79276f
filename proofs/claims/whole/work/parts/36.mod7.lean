/-! the reference: results and questions -/
theorem rTh_rTh (J : zJT) (a b : Int32) : rTh (rTh J a) b = rTh J b := by
  unfold rTh
  simp [bx_uu, zu_s]
def rTab (J : zJT) (c : Int32) : Int32 := if c = 0 then J 40 23 else if c = 1 then J 40 24 else -1
theorem rz256 {i k : Nat} (hi : i < 64) (hk : k < 4) : zin (4 * nI i + nI k) (4 * i + k) 256 := by
  refine ⟨?_, by omega, by decide⟩
  rw [show (4 : Int32) = nI 4 from rfl, pk_mul, nI_add]
set_option maxRecDepth 100000 in
set_option maxHeartbeats 4000000 in
theorem c_Mod_resultN (X : zX) (J : zJT) (G : zGT) (d : Nat) (k : Int32) : zK X d m_Mod_result [.ref 40, .int (-1), .int k] J G (some (.long (J 40 19).toInt64)) (rTh J 0) G := by
  refine zC_of (by decide) (Nat.le_of_ble_eq_true rfl) ?_
  refine z_aload_n d_Mod_result_0 rfl ?_
  refine z_iconst (v := 0) d_Mod_result_1 (by decide) ?_
  refine z_put d_Mod_result_2 f_Mod_73 p_9_0 (by omega) rfl (Nat.le_of_ble_eq_true rfl) rfl rfl (hp_pi 0 rfl) ?_
  refine z_iload_n d_Mod_result_5 rfl ?_
  refine z_iconst (v := (-1)) d_Mod_result_6 (by decide) ?_
  refine z_icmp_ne d_Mod_result_7 16 (by decide) (fun h9 => absurd h9 (fun h9 => h9 rfl)) (fun _ => ?_)
  refine z_aload_n d_Mod_result_10 rfl ?_
  refine z_get d_Mod_result_11 f_Mod_142 (by omega) rfl rfl ?_
  refine z_i2l d_Mod_result_14 ?_
  exact z_lret d_Mod_result_15 rfl (by decide) (by decide) rfl rfl
set_option maxRecDepth 100000 in
set_option maxHeartbeats 4000000 in
theorem c_Mod_result0 (X : zX) (J : zJT) (G : zGT) (d : Nat) (i k : Int32) (hi : ¬ i = -1) (h : i < 0 ∨ ¬ i < J 40 19) : zK X d m_Mod_result [.ref 40, .int i, .int k] J G (some (.long 0)) (rTh (rTh J 0) 1) G := by
  refine zC_of (by decide) (Nat.le_of_ble_eq_true rfl) ?_
  refine z_aload_n d_Mod_result_0 rfl ?_
  refine z_iconst (v := 0) d_Mod_result_1 (by decide) ?_
  refine z_put d_Mod_result_2 f_Mod_73 p_9_0 (by omega) rfl (Nat.le_of_ble_eq_true rfl) rfl rfl (hp_pi 0 rfl) ?_
  refine z_iload_n d_Mod_result_5 rfl ?_
  refine z_iconst (v := (-1)) d_Mod_result_6 (by decide) ?_
  refine z_icmp_ne d_Mod_result_7 16 (by decide) (fun _ => ?_) (fun h9 => absurd h9 hi)
  refine z_aload_n d_Mod_result_16 rfl ?_
  refine z_iload_n d_Mod_result_17 rfl ?_
  refine z_if_lt d_Mod_result_18 29 (by decide) (fun h18 => ?_) (fun h18 => ?_)
  · refine z_iconst (v := 1) d_Mod_result_29 (by decide) ?_
    refine z_goto d_Mod_result_30 34 (by decide) ?_
    refine z_put d_Mod_result_34 f_Mod_73 p_9_0 (by omega) rfl (Nat.le_of_ble_eq_true rfl) rfl rfl (hp_pi 0 rfl) ?_
    refine z_aload_n d_Mod_result_37 rfl ?_
    refine z_get d_Mod_result_38 f_Mod_73 (by omega) rfl rfl ?_
    refine z_if_le d_Mod_result_41 46 (by decide) (fun h9 => absurd h9 (show ¬ (1 : Int32) ≤ 0 by decide)) (fun _ => ?_)
    refine z_lconst (v := 0) d_Mod_result_44 (by decide) ?_
    exact z_lret d_Mod_result_45 rfl (by decide) (by decide) rfl rfl
  · refine z_iload_n d_Mod_result_21 rfl ?_
    refine z_aload_n d_Mod_result_22 rfl ?_
    refine z_get d_Mod_result_23 f_Mod_142 (by omega) rfl rfl ?_
    refine z_icmp_lt d_Mod_result_26 33 (by decide) (fun h9 => absurd h9 (h.resolve_left h18)) (fun _ => ?_)
    refine z_iconst (v := 1) d_Mod_result_29 (by decide) ?_
    refine z_goto d_Mod_result_30 34 (by decide) ?_
    refine z_put d_Mod_result_34 f_Mod_73 p_9_0 (by omega) rfl (Nat.le_of_ble_eq_true rfl) rfl rfl (hp_pi 0 rfl) ?_
    refine z_aload_n d_Mod_result_37 rfl ?_
    refine z_get d_Mod_result_38 f_Mod_73 (by omega) rfl rfl ?_
    refine z_if_le d_Mod_result_41 46 (by decide) (fun h9 => absurd h9 (show ¬ (1 : Int32) ≤ 0 by decide)) (fun _ => ?_)
    refine z_lconst (v := 0) d_Mod_result_44 (by decide) ?_
    exact z_lret d_Mod_result_45 rfl (by decide) (by decide) rfl rfl
set_option maxRecDepth 100000 in
set_option maxHeartbeats 4000000 in
theorem c_Mod_result1 (X : zX) (J : zJT) (G : zGT) (d : Nat) {m i : Nat} (hm : J 40 19 = nI m) (hm6 : m ≤ 64) (hi : i < m) (k : Int32) (h : k < -1 ∨ ¬ k < J 54 i) : zK X d m_Mod_result [.ref 40, .int (nI i), .int k] J G (some (.long 0)) (rTh (rTh (rTh J 0) 0) 1) G := by
  refine zC_of (by decide) (Nat.le_of_ble_eq_true rfl) ?_
  refine z_aload_n d_Mod_result_0 rfl ?_
  refine z_iconst (v := 0) d_Mod_result_1 (by decide) ?_
  refine z_put d_Mod_result_2 f_Mod_73 p_9_0 (by omega) rfl (Nat.le_of_ble_eq_true rfl) rfl rfl (hp_pi 0 rfl) ?_
  refine z_iload_n d_Mod_result_5 rfl ?_
  refine z_iconst (v := (-1)) d_Mod_result_6 (by decide) ?_
  refine z_icmp_ne d_Mod_result_7 16 (by decide) (fun _ => ?_) (fun h9 => absurd h9 (nI_m1 (by omega)))
  refine z_aload_n d_Mod_result_16 rfl ?_
  refine z_iload_n d_Mod_result_17 rfl ?_
  refine z_if_lt d_Mod_result_18 29 (by decide) (fun h9 => absurd h9 (nI_pos (by omega))) (fun _ => ?_)
  refine z_iload_n d_Mod_result_21 rfl ?_
  refine z_aload_n d_Mod_result_22 rfl ?_
  refine z_get d_Mod_result_23 f_Mod_142 (by omega) rfl rfl ?_
  refine z_icmp_lt d_Mod_result_26 33 (by decide) (fun _ => ?_) (fun h9 => absurd (show nI i < J 40 19 by rw [hm]; exact nI_lt hi (by omega)) h9)
  refine z_iconst (v := 0) d_Mod_result_33 (by decide) ?_
  refine z_put d_Mod_result_34 f_Mod_73 p_9_0 (by omega) rfl (Nat.le_of_ble_eq_true rfl) rfl rfl (hp_pi 0 rfl) ?_
  refine z_aload_n d_Mod_result_37 rfl ?_
  refine z_get d_Mod_result_38 f_Mod_73 (by omega) rfl rfl ?_
  refine z_if_le d_Mod_result_41 46 (by decide) (fun _ => ?_) (fun h9 => absurd (show (0 : Int32) ≤ 0 by decide) h9)
  refine z_aload_n d_Mod_result_46 rfl ?_
  refine z_iload_n d_Mod_result_47 rfl ?_
  refine z_iconst (v := (-1)) d_Mod_result_48 (by decide) ?_
  refine z_icmp_lt d_Mod_result_49 62 (by decide) (fun h49 => ?_) (fun h49 => ?_)
  · refine z_iconst (v := 1) d_Mod_result_62 (by decide) ?_
    refine z_goto d_Mod_result_63 67 (by decide) ?_
    refine z_put d_Mod_result_67 f_Mod_73 p_9_0 (by omega) rfl (Nat.le_of_ble_eq_true rfl) rfl rfl (hp_pi 0 rfl) ?_
    refine z_aload_n d_Mod_result_70 rfl ?_
    refine z_get d_Mod_result_71 f_Mod_73 (by omega) rfl rfl ?_
    refine z_if_le d_Mod_result_74 81 (by decide) (fun h9 => absurd h9 (show ¬ (1 : Int32) ≤ 0 by decide)) (fun _ => ?_)
    refine z_lconst (v := 0) d_Mod_result_77 (by decide) ?_
    refine z_goto d_Mod_result_78 106 (by decide) ?_
    exact z_lret d_Mod_result_106 rfl (by decide) (by decide) rfl rfl
  · refine z_iload_n d_Mod_result_52 rfl ?_
    refine z_aload_n d_Mod_result_53 rfl ?_
    refine z_get d_Mod_result_54 f_Mod_51 (by omega) rfl rfl ?_
    refine z_iload_n d_Mod_result_57 rfl ?_
    refine z_iald d_Mod_result_58 (by omega) rfl (show zin (nI i) i 64 from ⟨rfl, by omega, by decide⟩) ?_
    refine z_icmp_lt d_Mod_result_59 66 (by decide) (fun h9 => absurd h9 (h.resolve_left h49)) (fun _ => ?_)
    refine z_iconst (v := 1) d_Mod_result_62 (by decide) ?_
    refine z_goto d_Mod_result_63 67 (by decide) ?_
    refine z_put d_Mod_result_67 f_Mod_73 p_9_0 (by omega) rfl (Nat.le_of_ble_eq_true rfl) rfl rfl (hp_pi 0 rfl) ?_
    refine z_aload_n d_Mod_result_70 rfl ?_
    refine z_get d_Mod_result_71 f_Mod_73 (by omega) rfl rfl ?_
    refine z_if_le d_Mod_result_74 81 (by decide) (fun h9 => absurd h9 (show ¬ (1 : Int32) ≤ 0 by decide)) (fun _ => ?_)
    refine z_lconst (v := 0) d_Mod_result_77 (by decide) ?_
    refine z_goto d_Mod_result_78 106 (by decide) ?_
    exact z_lret d_Mod_result_106 rfl (by decide) (by decide) rfl rfl
set_option maxRecDepth 100000 in
set_option maxHeartbeats 4000000 in
theorem c_Mod_resultW (X : zX) (J : zJT) (G : zGT) (d : Nat) {m i : Nat} (hm : J 40 19 = nI m) (hm6 : m ≤ 64) (hi : i < m) {w : Nat} (hw : J 54 i = nI w) (hw4 : w ≤ 4) : zK X d m_Mod_result [.ref 40, .int (nI i), .int (-1)] J G (some (.long (J 54 i).toInt64)) (rTh (rTh (rTh J 0) 0) 0) G := by
  refine zC_of (by decide) (Nat.le_of_ble_eq_true rfl) ?_
  refine z_aload_n d_Mod_result_0 rfl ?_
  refine z_iconst (v := 0) d_Mod_result_1 (by decide) ?_
  refine z_put d_Mod_result_2 f_Mod_73 p_9_0 (by omega) rfl (Nat.le_of_ble_eq_true rfl) rfl rfl (hp_pi 0 rfl) ?_
  refine z_iload_n d_Mod_result_5 rfl ?_
  refine z_iconst (v := (-1)) d_Mod_result_6 (by decide) ?_
  refine z_icmp_ne d_Mod_result_7 16 (by decide) (fun _ => ?_) (fun h9 => absurd h9 (nI_m1 (by omega)))
  refine z_aload_n d_Mod_result_16 rfl ?_
  refine z_iload_n d_Mod_result_17 rfl ?_
  refine z_if_lt d_Mod_result_18 29 (by decide) (fun h9 => absurd h9 (nI_pos (by omega))) (fun _ => ?_)
  refine z_iload_n d_Mod_result_21 rfl ?_
  refine z_aload_n d_Mod_result_22 rfl ?_
  refine z_get d_Mod_result_23 f_Mod_142 (by omega) rfl rfl ?_
  refine z_icmp_lt d_Mod_result_26 33 (by decide) (fun _ => ?_) (fun h9 => absurd (show nI i < J 40 19 by rw [hm]; exact nI_lt hi (by omega)) h9)
  refine z_iconst (v := 0) d_Mod_result_33 (by decide) ?_
  refine z_put d_Mod_result_34 f_Mod_73 p_9_0 (by omega) rfl (Nat.le_of_ble_eq_true rfl) rfl rfl (hp_pi 0 rfl) ?_
  refine z_aload_n d_Mod_result_37 rfl ?_
  refine z_get d_Mod_result_38 f_Mod_73 (by omega) rfl rfl ?_
  refine z_if_le d_Mod_result_41 46 (by decide) (fun _ => ?_) (fun h9 => absurd (show (0 : Int32) ≤ 0 by decide) h9)
  refine z_aload_n d_Mod_result_46 rfl ?_
  refine z_iload_n d_Mod_result_47 rfl ?_
  refine z_iconst (v := (-1)) d_Mod_result_48 (by decide) ?_
  refine z_icmp_lt d_Mod_result_49 62 (by decide) (fun h9 => absurd h9 (by decide)) (fun _ => ?_)
  refine z_iload_n d_Mod_result_52 rfl ?_
  refine z_aload_n d_Mod_result_53 rfl ?_
  refine z_get d_Mod_result_54 f_Mod_51 (by omega) rfl rfl ?_
  refine z_iload_n d_Mod_result_57 rfl ?_
  refine z_iald d_Mod_result_58 (by omega) rfl (show zin (nI i) i 64 from ⟨rfl, by omega, by decide⟩) ?_
  refine z_icmp_lt d_Mod_result_59 66 (by decide) (fun _ => ?_) (fun h9 => absurd (show (-1 : Int32) < J 54 i by rw [hw]; exact Int32.lt_of_lt_of_le (by decide) (nI_pos' (by omega))) h9)
  refine z_iconst (v := 0) d_Mod_result_66 (by decide) ?_
  refine z_put d_Mod_result_67 f_Mod_73 p_9_0 (by omega) rfl (Nat.le_of_ble_eq_true rfl) rfl rfl (hp_pi 0 rfl) ?_
  refine z_aload_n d_Mod_result_70 rfl ?_
  refine z_get d_Mod_result_71 f_Mod_73 (by omega) rfl rfl ?_
  refine z_if_le d_Mod_result_74 81 (by decide) (fun _ => ?_) (fun h9 => absurd (show (0 : Int32) ≤ 0 by decide) h9)
  refine z_iload_n d_Mod_result_81 rfl ?_
  refine z_iconst (v := (-1)) d_Mod_result_82 (by decide) ?_
  refine z_icmp_ne d_Mod_result_83 96 (by decide) (fun h9 => absurd h9 (fun h9 => h9 rfl)) (fun _ => ?_)
  refine z_aload_n d_Mod_result_86 rfl ?_
  refine z_get d_Mod_result_87 f_Mod_51 (by omega) rfl rfl ?_
  refine z_iload_n d_Mod_result_90 rfl ?_
  refine z_iald d_Mod_result_91 (by omega) rfl (show zin (nI i) i 64 from ⟨rfl, by omega, by decide⟩) ?_
  refine z_i2l d_Mod_result_92 ?_
  refine z_goto d_Mod_result_93 106 (by decide) ?_
  exact z_lret d_Mod_result_106 rfl (by decide) (by decide) rfl rfl
set_option maxRecDepth 100000 in
set_option maxHeartbeats 4000000 in
theorem c_Mod_resultV (X : zX) (J : zJT) (G : zGT) (d : Nat) {m i : Nat} (hm : J 40 19 = nI m) (hm6 : m ≤ 64) (hi : i < m) {k w : Nat} (hw : J 54 i = nI w) (hw4 : w ≤ 4) (hk : k < w) : zK X d m_Mod_result [.ref 40, .int (nI i), .int (nI k)] J G (some (.long (G 55 (4 * i + k)))) (rTh (rTh (rTh J 0) 0) 0) G := by
  refine zC_of (by decide) (Nat.le_of_ble_eq_true rfl) ?_
  refine z_aload_n d_Mod_result_0 rfl ?_
  refine z_iconst (v := 0) d_Mod_result_1 (by decide) ?_
  refine z_put d_Mod_result_2 f_Mod_73 p_9_0 (by omega) rfl (Nat.le_of_ble_eq_true rfl) rfl rfl (hp_pi 0 rfl) ?_
  refine z_iload_n d_Mod_result_5 rfl ?_
  refine z_iconst (v := (-1)) d_Mod_result_6 (by decide) ?_
  refine z_icmp_ne d_Mod_result_7 16 (by decide) (fun _ => ?_) (fun h9 => absurd h9 (nI_m1 (by omega)))
  refine z_aload_n d_Mod_result_16 rfl ?_
  refine z_iload_n d_Mod_result_17 rfl ?_
  refine z_if_lt d_Mod_result_18 29 (by decide) (fun h9 => absurd h9 (nI_pos (by omega))) (fun _ => ?_)
  refine z_iload_n d_Mod_result_21 rfl ?_
  refine z_aload_n d_Mod_result_22 rfl ?_
  refine z_get d_Mod_result_23 f_Mod_142 (by omega) rfl rfl ?_
  refine z_icmp_lt d_Mod_result_26 33 (by decide) (fun _ => ?_) (fun h9 => absurd (show nI i < J 40 19 by rw [hm]; exact nI_lt hi (by omega)) h9)
  refine z_iconst (v := 0) d_Mod_result_33 (by decide) ?_
  refine z_put d_Mod_result_34 f_Mod_73 p_9_0 (by omega) rfl (Nat.le_of_ble_eq_true rfl) rfl rfl (hp_pi 0 rfl) ?_
  refine z_aload_n d_Mod_result_37 rfl ?_
  refine z_get d_Mod_result_38 f_Mod_73 (by omega) rfl rfl ?_
  refine z_if_le d_Mod_result_41 46 (by decide) (fun _ => ?_) (fun h9 => absurd (show (0 : Int32) ≤ 0 by decide) h9)
  refine z_aload_n d_Mod_result_46 rfl ?_
  refine z_iload_n d_Mod_result_47 rfl ?_
  refine z_iconst (v := (-1)) d_Mod_result_48 (by decide) ?_
  refine z_icmp_lt d_Mod_result_49 62 (by decide) (fun h9 => absurd h9 (fun h9 => absurd (Int32.lt_of_le_of_lt (nI_pos' (by omega)) h9) (by decide))) (fun _ => ?_)
  refine z_iload_n d_Mod_result_52 rfl ?_
  refine z_aload_n d_Mod_result_53 rfl ?_
  refine z_get d_Mod_result_54 f_Mod_51 (by omega) rfl rfl ?_
  refine z_iload_n d_Mod_result_57 rfl ?_
  refine z_iald d_Mod_result_58 (by omega) rfl (show zin (nI i) i 64 from ⟨rfl, by omega, by decide⟩) ?_
  refine z_icmp_lt d_Mod_result_59 66 (by decide) (fun _ => ?_) (fun h9 => absurd (show nI k < J 54 i by rw [hw]; exact nI_lt hk (by omega)) h9)
  refine z_iconst (v := 0) d_Mod_result_66 (by decide) ?_
  refine z_put d_Mod_result_67 f_Mod_73 p_9_0 (by omega) rfl (Nat.le_of_ble_eq_true rfl) rfl rfl (hp_pi 0 rfl) ?_
  refine z_aload_n d_Mod_result_70 rfl ?_
  refine z_get d_Mod_result_71 f_Mod_73 (by omega) rfl rfl ?_
  refine z_if_le d_Mod_result_74 81 (by decide) (fun _ => ?_) (fun h9 => absurd (show (0 : Int32) ≤ 0 by decide) h9)
  refine z_iload_n d_Mod_result_81 rfl ?_
  refine z_iconst (v := (-1)) d_Mod_result_82 (by decide) ?_
  refine z_icmp_ne d_Mod_result_83 96 (by decide) (fun _ => ?_) (fun h9 => absurd h9 (nI_m1 (by omega)))
  refine z_aload_n d_Mod_result_96 rfl ?_
  refine z_get d_Mod_result_97 f_Mod_54 (by omega) rfl rfl ?_
  refine z_iconst (v := 4) d_Mod_result_100 (by decide) ?_
  refine z_iload_n d_Mod_result_101 rfl ?_
  refine z_imul d_Mod_result_102 ?_
  refine z_iload_n d_Mod_result_103 rfl ?_
  refine z_iadd d_Mod_result_104 ?_
  refine z_lald d_Mod_result_105 (by omega) rfl (rz256 (show i < 64 by omega) (show k < 4 by omega)) ?_
  exact z_lret d_Mod_result_106 rfl (by decide) (by decide) rfl rfl
set_option maxRecDepth 100000 in
set_option maxHeartbeats 4000000 in
theorem c_Mod_wasNull0 (X : zX) (J : zJT) (G : zGT) (d : Nat) (i k : Int32) (h : i < 0 ∨ ¬ i < J 40 19) : zK X d m_Mod_wasNull [.ref 40, .int i, .int k] J G (some (.int 0)) (rTh J 1) G := by
  refine zC_of (by decide) (Nat.le_of_ble_eq_true rfl) ?_
  refine z_aload_n d_Mod_wasNull_0 rfl ?_
  refine z_iload_n d_Mod_wasNull_1 rfl ?_
  refine z_if_lt d_Mod_wasNull_2 13 (by decide) (fun h2 => ?_) (fun h2 => ?_)
  · refine z_iconst (v := 1) d_Mod_wasNull_13 (by decide) ?_
    refine z_goto d_Mod_wasNull_14 18 (by decide) ?_
    refine z_put d_Mod_wasNull_18 f_Mod_73 p_9_0 (by omega) rfl (Nat.le_of_ble_eq_true rfl) rfl rfl (hp_pi 0 rfl) ?_
    refine z_aload_n d_Mod_wasNull_21 rfl ?_
    refine z_get d_Mod_wasNull_22 f_Mod_73 (by omega) rfl rfl ?_
    refine z_if_le d_Mod_wasNull_25 30 (by decide) (fun h9 => absurd h9 (show ¬ (1 : Int32) ≤ 0 by decide)) (fun _ => ?_)
    refine z_iconst (v := 0) d_Mod_wasNull_28 (by decide) ?_
    exact z_zret d_Mod_wasNull_29 rfl (by decide) (by decide) (by decide) rfl rfl
  · refine z_iload_n d_Mod_wasNull_5 rfl ?_
    refine z_aload_n d_Mod_wasNull_6 rfl ?_
    refine z_get d_Mod_wasNull_7 f_Mod_142 (by omega) rfl rfl ?_
    refine z_icmp_lt d_Mod_wasNull_10 17 (by decide) (fun h9 => absurd h9 (h.resolve_left h2)) (fun _ => ?_)
    refine z_iconst (v := 1) d_Mod_wasNull_13 (by decide) ?_
    refine z_goto d_Mod_wasNull_14 18 (by decide) ?_
    refine z_put d_Mod_wasNull_18 f_Mod_73 p_9_0 (by omega) rfl (Nat.le_of_ble_eq_true rfl) rfl rfl (hp_pi 0 rfl) ?_
    refine z_aload_n d_Mod_wasNull_21 rfl ?_
    refine z_get d_Mod_wasNull_22 f_Mod_73 (by omega) rfl rfl ?_
    refine z_if_le d_Mod_wasNull_25 30 (by decide) (fun h9 => absurd h9 (show ¬ (1 : Int32) ≤ 0 by decide)) (fun _ => ?_)
    refine z_iconst (v := 0) d_Mod_wasNull_28 (by decide) ?_
    exact z_zret d_Mod_wasNull_29 rfl (by decide) (by decide) (by decide) rfl rfl
set_option maxRecDepth 100000 in
set_option maxHeartbeats 4000000 in
theorem c_Mod_wasNull1 (X : zX) (J : zJT) (G : zGT) (d : Nat) {m i : Nat} (hm : J 40 19 = nI m) (hm6 : m ≤ 64) (hi : i < m) (k : Int32) (h : k < 0 ∨ ¬ k < J 54 i) : zK X d m_Mod_wasNull [.ref 40, .int (nI i), .int k] J G (some (.int 0)) (rTh (rTh J 0) 1) G := by
  refine zC_of (by decide) (Nat.le_of_ble_eq_true rfl) ?_
  refine z_aload_n d_Mod_wasNull_0 rfl ?_
  refine z_iload_n d_Mod_wasNull_1 rfl ?_
  refine z_if_lt d_Mod_wasNull_2 13 (by decide) (fun h9 => absurd h9 (nI_pos (by omega))) (fun _ => ?_)
  refine z_iload_n d_Mod_wasNull_5 rfl ?_
  refine z_aload_n d_Mod_wasNull_6 rfl ?_
  refine z_get d_Mod_wasNull_7 f_Mod_142 (by omega) rfl rfl ?_
  refine z_icmp_lt d_Mod_wasNull_10 17 (by decide) (fun _ => ?_) (fun h9 => absurd (show nI i < J 40 19 by rw [hm]; exact nI_lt hi (by omega)) h9)
  refine z_iconst (v := 0) d_Mod_wasNull_17 (by decide) ?_
  refine z_put d_Mod_wasNull_18 f_Mod_73 p_9_0 (by omega) rfl (Nat.le_of_ble_eq_true rfl) rfl rfl (hp_pi 0 rfl) ?_
  refine z_aload_n d_Mod_wasNull_21 rfl ?_
  refine z_get d_Mod_wasNull_22 f_Mod_73 (by omega) rfl rfl ?_
  refine z_if_le d_Mod_wasNull_25 30 (by decide) (fun _ => ?_) (fun h9 => absurd (show (0 : Int32) ≤ 0 by decide) h9)
  refine z_aload_n d_Mod_wasNull_30 rfl ?_
  refine z_iload_n d_Mod_wasNull_31 rfl ?_
  refine z_if_lt d_Mod_wasNull_32 45 (by decide) (fun h32 => ?_) (fun h32 => ?_)
  · refine z_iconst (v := 1) d_Mod_wasNull_45 (by decide) ?_
    refine z_goto d_Mod_wasNull_46 50 (by decide) ?_
    refine z_put d_Mod_wasNull_50 f_Mod_73 p_9_0 (by omega) rfl (Nat.le_of_ble_eq_true rfl) rfl rfl (hp_pi 0 rfl) ?_
    refine z_aload_n d_Mod_wasNull_53 rfl ?_
    refine z_get d_Mod_wasNull_54 f_Mod_73 (by omega) rfl rfl ?_
    refine z_if_ne d_Mod_wasNull_57 77 (by decide) (fun _ => ?_) (fun h9 => absurd h9 (show ¬ (1 : Int32) = 0 by decide))
    refine z_iconst (v := 0) d_Mod_wasNull_77 (by decide) ?_
    exact z_zret d_Mod_wasNull_78 rfl (by decide) (by decide) (by decide) rfl rfl
  · refine z_iload_n d_Mod_wasNull_35 rfl ?_
    refine z_aload_n d_Mod_wasNull_36 rfl ?_
    refine z_get d_Mod_wasNull_37 f_Mod_51 (by omega) rfl rfl ?_
    refine z_iload_n d_Mod_wasNull_40 rfl ?_
    refine z_iald d_Mod_wasNull_41 (by omega) rfl (show zin (nI i) i 64 from ⟨rfl, by omega, by decide⟩) ?_
    refine z_icmp_lt d_Mod_wasNull_42 49 (by decide) (fun h9 => absurd h9 (h.resolve_left h32)) (fun _ => ?_)
    refine z_iconst (v := 1) d_Mod_wasNull_45 (by decide) ?_
    refine z_goto d_Mod_wasNull_46 50 (by decide) ?_
    refine z_put d_Mod_wasNull_50 f_Mod_73 p_9_0 (by omega) rfl (Nat.le_of_ble_eq_true rfl) rfl rfl (hp_pi 0 rfl) ?_
    refine z_aload_n d_Mod_wasNull_53 rfl ?_
    refine z_get d_Mod_wasNull_54 f_Mod_73 (by omega) rfl rfl ?_
    refine z_if_ne d_Mod_wasNull_57 77 (by decide) (fun _ => ?_) (fun h9 => absurd h9 (show ¬ (1 : Int32) = 0 by decide))
    refine z_iconst (v := 0) d_Mod_wasNull_77 (by decide) ?_
    exact z_zret d_Mod_wasNull_78 rfl (by decide) (by decide) (by decide) rfl rfl
set_option maxRecDepth 100000 in
set_option maxHeartbeats 4000000 in
theorem c_Mod_wasNull2 (X : zX) (J : zJT) (G : zGT) (d : Nat) {m i : Nat} (hm : J 40 19 = nI m) (hm6 : m ≤ 64) (hi : i < m) {k w : Nat} (hw : J 54 i = nI w) (hw4 : w ≤ 4) (hk : k < w) (b : Bool) (hb : J 56 (4 * i + k) = zb b) : zK X d m_Mod_wasNull [.ref 40, .int (nI i), .int (nI k)] J G (some (.int (zb (!b)))) (rTh (rTh J 0) 0) G := by
  refine zC_of (by decide) (Nat.le_of_ble_eq_true rfl) ?_
  refine z_aload_n d_Mod_wasNull_0 rfl ?_
  refine z_iload_n d_Mod_wasNull_1 rfl ?_
  refine z_if_lt d_Mod_wasNull_2 13 (by decide) (fun h9 => absurd h9 (nI_pos (by omega))) (fun _ => ?_)
  refine z_iload_n d_Mod_wasNull_5 rfl ?_
  refine z_aload_n d_Mod_wasNull_6 rfl ?_
  refine z_get d_Mod_wasNull_7 f_Mod_142 (by omega) rfl rfl ?_
  refine z_icmp_lt d_Mod_wasNull_10 17 (by decide) (fun _ => ?_) (fun h9 => absurd (show nI i < J 40 19 by rw [hm]; exact nI_lt hi (by omega)) h9)
  refine z_iconst (v := 0) d_Mod_wasNull_17 (by decide) ?_
  refine z_put d_Mod_wasNull_18 f_Mod_73 p_9_0 (by omega) rfl (Nat.le_of_ble_eq_true rfl) rfl rfl (hp_pi 0 rfl) ?_
  refine z_aload_n d_Mod_wasNull_21 rfl ?_
  refine z_get d_Mod_wasNull_22 f_Mod_73 (by omega) rfl rfl ?_
  refine z_if_le d_Mod_wasNull_25 30 (by decide) (fun _ => ?_) (fun h9 => absurd (show (0 : Int32) ≤ 0 by decide) h9)
  refine z_aload_n d_Mod_wasNull_30 rfl ?_
  refine z_iload_n d_Mod_wasNull_31 rfl ?_
  refine z_if_lt d_Mod_wasNull_32 45 (by decide) (fun h9 => absurd h9 (nI_pos (by omega))) (fun _ => ?_)
  refine z_iload_n d_Mod_wasNull_35 rfl ?_
  refine z_aload_n d_Mod_wasNull_36 rfl ?_
  refine z_get d_Mod_wasNull_37 f_Mod_51 (by omega) rfl rfl ?_
  refine z_iload_n d_Mod_wasNull_40 rfl ?_
  refine z_iald d_Mod_wasNull_41 (by omega) rfl (show zin (nI i) i 64 from ⟨rfl, by omega, by decide⟩) ?_
  refine z_icmp_lt d_Mod_wasNull_42 49 (by decide) (fun _ => ?_) (fun h9 => absurd (show nI k < J 54 i by rw [hw]; exact nI_lt hk (by omega)) h9)
  refine z_iconst (v := 0) d_Mod_wasNull_49 (by decide) ?_
  refine z_put d_Mod_wasNull_50 f_Mod_73 p_9_0 (by omega) rfl (Nat.le_of_ble_eq_true rfl) rfl rfl (hp_pi 0 rfl) ?_
  refine z_aload_n d_Mod_wasNull_53 rfl ?_
  refine z_get d_Mod_wasNull_54 f_Mod_73 (by omega) rfl rfl ?_
  refine z_if_ne d_Mod_wasNull_57 77 (by decide) (fun h9 => absurd h9 (fun h9 => h9 rfl)) (fun _ => ?_)
  refine z_aload_n d_Mod_wasNull_60 rfl ?_
  refine z_get d_Mod_wasNull_61 f_Mod_57 (by omega) rfl rfl ?_
  refine z_iconst (v := 4) d_Mod_wasNull_64 (by decide) ?_
  refine z_iload_n d_Mod_wasNull_65 rfl ?_
  refine z_imul d_Mod_wasNull_66 ?_
  refine z_iload_n d_Mod_wasNull_67 rfl ?_
  refine z_iadd d_Mod_wasNull_68 ?_
  refine z_zald d_Mod_wasNull_69 (by omega) rfl (rz256 (show i < 64 by omega) (show k < 4 by omega)) ?_
  rw [show (va_up (va_up J 40 (va_up (J 40) 0 0)) 40 (va_up (va_up J 40 (va_up (J 40) 0 0) 40) 0 0)) 56 (4 * i + k) = zb b from hb]
  refine z_if_ne d_Mod_wasNull_70 77 (by decide) (fun h70 => ?_) (fun h70 => ?_)
  · refine z_iconst (v := 0) d_Mod_wasNull_77 (by decide) ?_
    exact z_zret d_Mod_wasNull_78 rfl (by decide) (by decide) (by decide) (by first | (rw [zb0 h70]; rfl) | (rw [zb1' h70]; rfl)) rfl
  · refine z_iconst (v := 1) d_Mod_wasNull_73 (by decide) ?_
    refine z_goto d_Mod_wasNull_74 78 (by decide) ?_
    exact z_zret d_Mod_wasNull_78 rfl (by decide) (by decide) (by decide) (by first | (rw [zb0 h70]; rfl) | (rw [zb1' h70]; rfl)) rfl
set_option maxRecDepth 100000 in
set_option maxHeartbeats 4000000 in
theorem c_Mod_ask0 (X : zX) (J : zJT) (G : zGT) (t u : Int32) (hno : (decide (0 ≤ t) && decide (t < J 40 1)) = false ∨ (¬ u = -1 ∧ (decide (0 ≤ u) && decide (u < J 40 1)) = false)) : zK X 1 m_Mod_ask [.ref 40, .int t, .int u] J G (some (.int 0)) (rTh J 0) G := by
  refine zC_of (by decide) (Nat.le_of_ble_eq_true rfl) ?_
  refine z_aload_n d_Mod_ask_0 rfl ?_
  refine z_iconst (v := 0) d_Mod_ask_1 (by decide) ?_
  refine z_put d_Mod_ask_2 f_Mod_73 p_9_0 (by omega) rfl (Nat.le_of_ble_eq_true rfl) rfl rfl (hp_pi 0 rfl) ?_
  refine z_aload_n d_Mod_ask_5 rfl ?_
  refine z_iload_n d_Mod_ask_6 rfl ?_
  refine z_callV1 d_Mod_ask_7 g_Mod_82 (c_Mod_isTable X (rTh J 0) G 0 t) (by omega) rfl rfl rfl ⟨by decide, by decide, by decide, by decide⟩ rfl (Nat.le_of_ble_eq_true rfl) ?_
  refine z_if_eq d_Mod_ask_10 26 (by decide) (fun h10 => ?_) (fun h10 => ?_)
  · refine z_iconst (v := 0) d_Mod_ask_26 (by decide) ?_
    exact z_zret d_Mod_ask_27 rfl (by decide) (by decide) (by decide) rfl rfl
  · refine z_iload_n d_Mod_ask_13 rfl ?_
    refine z_iconst (v := (-1)) d_Mod_ask_14 (by decide) ?_
    refine z_icmp_eq d_Mod_ask_15 28 (by decide) (fun h9 => absurd h9 (fun h9 => (hno.resolve_left (fun h8 => by rw [show (decide (0 ≤ t) && decide (t < J 40 1)) = true from zb1' h10] at h8; cases h8)).1 h9)) (fun _ => ?_)
    refine z_aload_n d_Mod_ask_18 rfl ?_
    refine z_iload_n d_Mod_ask_19 rfl ?_
    refine z_callV1 d_Mod_ask_20 g_Mod_82 (c_Mod_isTable X (rTh J 0) G 0 u) (by omega) rfl rfl rfl ⟨by decide, by decide, by decide, by decide⟩ rfl (Nat.le_of_ble_eq_true rfl) ?_
    refine z_if_ne d_Mod_ask_23 28 (by decide) (fun h9 => absurd h9 (fun h9 => h9 (by rw [show (decide (0 ≤ u) && decide (u < rTh J 0 40 1)) = false from (hno.resolve_left (fun h8 => by rw [show (decide (0 ≤ t) && decide (t < J 40 1)) = true from zb1' h10] at h8; cases h8)).2]; rfl))) (fun _ => ?_)
    refine z_iconst (v := 0) d_Mod_ask_26 (by decide) ?_
    exact z_zret d_Mod_ask_27 rfl (by decide) (by decide) (by decide) rfl rfl
set_option maxRecDepth 100000 in
set_option maxHeartbeats 4000000 in
theorem c_Mod_ask1 (X : zX) (J : zJT) (G : zGT) (t u : Int32) (hyt : (decide (0 ≤ t) && decide (t < J 40 1)) = true) (hu : u = -1) : zK X 1 m_Mod_ask [.ref 40, .int t, .int u] J G (some (.int 1)) (va_up (rTh J 0) 40 (va_up (va_up (va_up (va_up (va_up (rTh J 0 40) 23 t) 24 u) 25 0) 27 0) 29 0)) G := by
  refine zC_of (by decide) (Nat.le_of_ble_eq_true rfl) ?_
  refine z_aload_n d_Mod_ask_0 rfl ?_
  refine z_iconst (v := 0) d_Mod_ask_1 (by decide) ?_
  refine z_put d_Mod_ask_2 f_Mod_73 p_9_0 (by omega) rfl (Nat.le_of_ble_eq_true rfl) rfl rfl (hp_pi 0 rfl) ?_
  refine z_aload_n d_Mod_ask_5 rfl ?_
  refine z_iload_n d_Mod_ask_6 rfl ?_
  refine z_callV1 d_Mod_ask_7 g_Mod_82 (c_Mod_isTable X (rTh J 0) G 0 t) (by omega) rfl rfl rfl ⟨by decide, by decide, by decide, by decide⟩ rfl (Nat.le_of_ble_eq_true rfl) ?_
  refine z_if_eq d_Mod_ask_10 26 (by decide) (fun h9 => absurd h9 (by rw [show (decide (0 ≤ t) && decide (t < rTh J 0 40 1)) = true from hyt]; decide)) (fun _ => ?_)
  refine z_iload_n d_Mod_ask_13 rfl ?_
  refine z_iconst (v := (-1)) d_Mod_ask_14 (by decide) ?_
  refine z_icmp_eq d_Mod_ask_15 28 (by decide) (fun _ => ?_) (fun h9 => absurd hu h9)
  refine z_aload_n d_Mod_ask_28 rfl ?_
  refine z_iload_n d_Mod_ask_29 rfl ?_
  refine z_put d_Mod_ask_30 f_Mod_60 p_9_23 (by omega) rfl (Nat.le_of_ble_eq_true rfl) rfl rfl (hp_pi 23 rfl) ?_
  refine z_aload_n d_Mod_ask_33 rfl ?_
  refine z_iload_n d_Mod_ask_34 rfl ?_
  refine z_put d_Mod_ask_35 f_Mod_64 p_9_24 (by omega) rfl (Nat.le_of_ble_eq_true rfl) rfl rfl (hp_pi 24 rfl) ?_
  refine z_aload_n d_Mod_ask_38 rfl ?_
  refine z_iconst (v := 0) d_Mod_ask_39 (by decide) ?_
  refine z_put d_Mod_ask_40 f_Mod_171 p_9_25 (by omega) rfl (Nat.le_of_ble_eq_true rfl) rfl rfl (hp_pi 25 rfl) ?_
  refine z_aload_n d_Mod_ask_43 rfl ?_
  refine z_iconst (v := 0) d_Mod_ask_44 (by decide) ?_
  refine z_put d_Mod_ask_45 f_Mod_174 p_9_27 (by omega) rfl (Nat.le_of_ble_eq_true rfl) rfl rfl (hp_pi 27 rfl) ?_
  refine z_aload_n d_Mod_ask_48 rfl ?_
  refine z_iconst (v := 0) d_Mod_ask_49 (by decide) ?_
  refine z_put d_Mod_ask_50 f_Mod_177 p_9_29 (by omega) rfl (Nat.le_of_ble_eq_true rfl) (zb_n false) (zb_f false) (hp_pi 29 rfl) ?_
  refine z_iconst (v := 1) d_Mod_ask_53 (by decide) ?_
  exact z_zret d_Mod_ask_54 rfl (by decide) (by decide) (by decide) rfl (by unfold rTh; simp [bx_uu, zu_s])
set_option maxRecDepth 100000 in
set_option maxHeartbeats 4000000 in
theorem c_Mod_ask2 (X : zX) (J : zJT) (G : zGT) (t u : Int32) (hyt : (decide (0 ≤ t) && decide (t < J 40 1)) = true) (hu : ¬ u = -1) (hyu : (decide (0 ≤ u) && decide (u < J 40 1)) = true) : zK X 1 m_Mod_ask [.ref 40, .int t, .int u] J G (some (.int 1)) (va_up (rTh J 0) 40 (va_up (va_up (va_up (va_up (va_up (rTh J 0 40) 23 t) 24 u) 25 0) 27 0) 29 0)) G := by
  refine zC_of (by decide) (Nat.le_of_ble_eq_true rfl) ?_
  refine z_aload_n d_Mod_ask_0 rfl ?_
  refine z_iconst (v := 0) d_Mod_ask_1 (by decide) ?_
  refine z_put d_Mod_ask_2 f_Mod_73 p_9_0 (by omega) rfl (Nat.le_of_ble_eq_true rfl) rfl rfl (hp_pi 0 rfl) ?_
  refine z_aload_n d_Mod_ask_5 rfl ?_
  refine z_iload_n d_Mod_ask_6 rfl ?_
  refine z_callV1 d_Mod_ask_7 g_Mod_82 (c_Mod_isTable X (rTh J 0) G 0 t) (by omega) rfl rfl rfl ⟨by decide, by decide, by decide, by decide⟩ rfl (Nat.le_of_ble_eq_true rfl) ?_
  refine z_if_eq d_Mod_ask_10 26 (by decide) (fun h9 => absurd h9 (by rw [show (decide (0 ≤ t) && decide (t < rTh J 0 40 1)) = true from hyt]; decide)) (fun _ => ?_)
  refine z_iload_n d_Mod_ask_13 rfl ?_
  refine z_iconst (v := (-1)) d_Mod_ask_14 (by decide) ?_
  refine z_icmp_eq d_Mod_ask_15 28 (by decide) (fun h9 => absurd h9 hu) (fun _ => ?_)
  refine z_aload_n d_Mod_ask_18 rfl ?_
  refine z_iload_n d_Mod_ask_19 rfl ?_
  refine z_callV1 d_Mod_ask_20 g_Mod_82 (c_Mod_isTable X (rTh J 0) G 0 u) (by omega) rfl rfl rfl ⟨by decide, by decide, by decide, by decide⟩ rfl (Nat.le_of_ble_eq_true rfl) ?_
  refine z_if_ne d_Mod_ask_23 28 (by decide) (fun _ => ?_) (fun h9 => absurd h9 (by rw [show (decide (0 ≤ u) && decide (u < rTh J 0 40 1)) = true from hyu]; decide))
  refine z_aload_n d_Mod_ask_28 rfl ?_
  refine z_iload_n d_Mod_ask_29 rfl ?_
  refine z_put d_Mod_ask_30 f_Mod_60 p_9_23 (by omega) rfl (Nat.le_of_ble_eq_true rfl) rfl rfl (hp_pi 23 rfl) ?_
  refine z_aload_n d_Mod_ask_33 rfl ?_
  refine z_iload_n d_Mod_ask_34 rfl ?_
  refine z_put d_Mod_ask_35 f_Mod_64 p_9_24 (by omega) rfl (Nat.le_of_ble_eq_true rfl) rfl rfl (hp_pi 24 rfl) ?_
  refine z_aload_n d_Mod_ask_38 rfl ?_
  refine z_iconst (v := 0) d_Mod_ask_39 (by decide) ?_
  refine z_put d_Mod_ask_40 f_Mod_171 p_9_25 (by omega) rfl (Nat.le_of_ble_eq_true rfl) rfl rfl (hp_pi 25 rfl) ?_
  refine z_aload_n d_Mod_ask_43 rfl ?_
  refine z_iconst (v := 0) d_Mod_ask_44 (by decide) ?_
  refine z_put d_Mod_ask_45 f_Mod_174 p_9_27 (by omega) rfl (Nat.le_of_ble_eq_true rfl) rfl rfl (hp_pi 27 rfl) ?_
  refine z_aload_n d_Mod_ask_48 rfl ?_
  refine z_iconst (v := 0) d_Mod_ask_49 (by decide) ?_
  refine z_put d_Mod_ask_50 f_Mod_177 p_9_29 (by omega) rfl (Nat.le_of_ble_eq_true rfl) (zb_n false) (zb_f false) (hp_pi 29 rfl) ?_
  refine z_iconst (v := 1) d_Mod_ask_53 (by decide) ?_
  exact z_zret d_Mod_ask_54 rfl (by decide) (by decide) (by decide) rfl (by unfold rTh; simp [bx_uu, zu_s])
set_option maxRecDepth 100000 in
set_option maxHeartbeats 4000000 in
theorem c_Mod_tableOf (X : zX) (J : zJT) (G : zGT) (d : Nat) (c : Int32) : zK X d m_Mod_tableOf [.ref 40, .int c] J G (some (.int (rTab J c))) J G := by
  refine zC_of (by decide) (Nat.le_of_ble_eq_true rfl) ?_
  refine z_iload_n d_Mod_tableOf_0 rfl ?_
  refine z_if_ne d_Mod_tableOf_1 11 (by decide) (fun h1 => ?_) (fun h1 => ?_)
  · refine z_iload_n d_Mod_tableOf_11 rfl ?_
    refine z_iconst (v := 1) d_Mod_tableOf_12 (by decide) ?_
    refine z_icmp_ne d_Mod_tableOf_13 23 (by decide) (fun h13 => ?_) (fun h13 => ?_)
    · refine z_iconst (v := (-1)) d_Mod_tableOf_23 (by decide) ?_
      exact z_iret d_Mod_tableOf_24 rfl (by decide) (by decide) (by unfold rTab; rw [if_neg h1, if_neg h13]) rfl
    · refine z_aload_n d_Mod_tableOf_16 rfl ?_
      refine z_get d_Mod_tableOf_17 f_Mod_64 (by omega) rfl rfl ?_
      refine z_goto d_Mod_tableOf_20 24 (by decide) ?_
      exact z_iret d_Mod_tableOf_24 rfl (by decide) (by decide) (by unfold rTab; rw [if_neg h1, if_pos h13]) rfl
  · refine z_aload_n d_Mod_tableOf_4 rfl ?_
    refine z_get d_Mod_tableOf_5 f_Mod_60 (by omega) rfl rfl ?_
    refine z_goto d_Mod_tableOf_8 24 (by decide) ?_
    exact z_iret d_Mod_tableOf_24 rfl (by decide) (by decide) (by unfold rTab; rw [if_pos h1]) rfl
set_option maxRecDepth 100000 in
set_option maxHeartbeats 4000000 in
theorem c_Mod_isColumn0 (X : zX) (J : zJT) (G : zGT) (c k : Int32) (h : rTab J c < 0) : zK X 1 m_Mod_isColumn [.ref 40, .int c, .int k] J G (some (.int 0)) J G := by
  refine zC_of (by decide) (Nat.le_of_ble_eq_true rfl) ?_
  refine z_aload_n d_Mod_isColumn_0 rfl ?_
  refine z_iload_n d_Mod_isColumn_1 rfl ?_
  refine z_callV1 d_Mod_isColumn_2 g_Mod_181 (c_Mod_tableOf X J G 0 c) (by omega) rfl rfl rfl ⟨by decide, by decide, by decide, by decide⟩ rfl (Nat.le_of_ble_eq_true rfl) ?_
  refine z_istore_n (lv' := [(0, _), (1, _), (2, _), (3, _)]) d_Mod_isColumn_5 (by decide) rfl ?_
  refine z_iload_n d_Mod_isColumn_6 rfl ?_
  refine z_if_lt d_Mod_isColumn_7 37 (by decide) (fun _ => ?_) (fun h9 => absurd h h9)
  refine z_iconst (v := 0) d_Mod_isColumn_37 (by decide) ?_
  exact z_zret d_Mod_isColumn_38 rfl (by decide) (by decide) (by decide) rfl rfl
set_option maxRecDepth 100000 in
set_option maxHeartbeats 4000000 in
theorem c_Mod_isColumn (X : zX) (J : zJT) (G : zGT) (c k : Int32) {t : Nat} (ht : t < 3) (h : rTab J c = nI t) : zK X 1 m_Mod_isColumn [.ref 40, .int c, .int k] J G (some (.int (zb (decide (-1 ≤ k) && decide (k < J 41 t))))) J G := by
  refine zC_of (by decide) (Nat.le_of_ble_eq_true rfl) ?_
  refine z_aload_n d_Mod_isColumn_0 rfl ?_
  refine z_iload_n d_Mod_isColumn_1 rfl ?_
  refine z_callV1 d_Mod_isColumn_2 g_Mod_181 (c_Mod_tableOf X J G 0 c) (by omega) rfl rfl rfl ⟨by decide, by decide, by decide, by decide⟩ rfl (Nat.le_of_ble_eq_true rfl) ?_
  rw [h]
  refine z_istore_n (lv' := [(0, _), (1, _), (2, _), (3, _)]) d_Mod_isColumn_5 (by decide) rfl ?_
  refine z_iload_n d_Mod_isColumn_6 rfl ?_
  refine z_if_lt d_Mod_isColumn_7 37 (by decide) (fun h9 => absurd h9 (nI_pos (by omega))) (fun _ => ?_)
  refine z_iload_n d_Mod_isColumn_10 rfl ?_
  refine z_iconst (v := (-1)) d_Mod_isColumn_11 (by decide) ?_
  refine z_icmp_lt d_Mod_isColumn_12 37 (by decide) (fun h12 => ?_) (fun h12 => ?_)
  · refine z_iconst (v := 0) d_Mod_isColumn_37 (by decide) ?_
    exact z_zret d_Mod_isColumn_38 rfl (by decide) (by decide) (by decide) (by rw [decide_eq_false (Int32.not_le.mpr h12)]; rfl) rfl
  · refine z_iload_n d_Mod_isColumn_15 rfl ?_
    refine z_aload_n d_Mod_isColumn_16 rfl ?_
    refine z_get d_Mod_isColumn_17 f_Mod_7 (by omega) rfl rfl ?_
    refine z_iload_n d_Mod_isColumn_20 rfl ?_
    refine z_if_ge d_Mod_isColumn_21 28 (by decide) (fun _ => ?_) (fun h9 => absurd (nI_pos' (by omega)) h9)
    refine z_iload_n d_Mod_isColumn_28 rfl ?_
    refine z_iald d_Mod_isColumn_29 (by omega) rfl (show zin (nI t) t 3 from ⟨rfl, ht, by decide⟩) ?_
    refine z_icmp_ge d_Mod_isColumn_30 37 (by decide) (fun h30 => ?_) (fun h30 => ?_)
    · refine z_iconst (v := 0) d_Mod_isColumn_37 (by decide) ?_
      exact z_zret d_Mod_isColumn_38 rfl (by decide) (by decide) (by decide) (by rw [decide_eq_false (Int32.not_lt.mpr h30), Bool.and_false]; rfl) rfl
    · refine z_iconst (v := 1) d_Mod_isColumn_33 (by decide) ?_
      refine z_goto d_Mod_isColumn_34 38 (by decide) ?_
      exact z_zret d_Mod_isColumn_38 rfl (by decide) (by decide) (by decide) (by rw [decide_eq_true (Int32.not_lt.mp h12), decide_eq_true (Int32.not_le.mp h30)]; rfl) rfl
set_option maxRecDepth 100000 in
set_option maxHeartbeats 4000000 in
theorem c_Mod_outputF (X : zX) (J : zJT) (G : zGT) (c k : Int32) (hf : J 40 25 = 4) : zK X 2 m_Mod_output [.ref 40, .int c, .int k] J G (some (.int 0)) (rTh J 0) G := by
  refine zC_of (by decide) (Nat.le_of_ble_eq_true rfl) ?_
  refine z_aload_n d_Mod_output_0 rfl ?_
  refine z_iconst (v := 0) d_Mod_output_1 (by decide) ?_
  refine z_put d_Mod_output_2 f_Mod_73 p_9_0 (by omega) rfl (Nat.le_of_ble_eq_true rfl) rfl rfl (hp_pi 0 rfl) ?_
  refine z_aload_n d_Mod_output_5 rfl ?_
  refine z_get d_Mod_output_6 f_Mod_171 (by omega) rfl rfl ?_
  refine z_iconst (v := 4) d_Mod_output_9 (by decide) ?_
  refine z_icmp_eq d_Mod_output_10 22 (by decide) (fun _ => ?_) (fun h9 => absurd hf h9)
  refine z_iconst (v := 0) d_Mod_output_22 (by decide) ?_
  exact z_zret d_Mod_output_23 rfl (by decide) (by decide) (by decide) rfl rfl
set_option maxRecDepth 100000 in
set_option maxHeartbeats 4000000 in
theorem c_Mod_output0 (X : zX) (J : zJT) (G : zGT) (c k : Int32) (hf : ¬ J 40 25 = 4) (hm : zK X 1 m_Mod_isColumn [.ref 40, .int c, .int k] (rTh J 0) G (some (.int 0)) (rTh J 0) G) : zK X 2 m_Mod_output [.ref 40, .int c, .int k] J G (some (.int 0)) (rTh J 0) G := by
  refine zC_of (by decide) (Nat.le_of_ble_eq_true rfl) ?_
  refine z_aload_n d_Mod_output_0 rfl ?_
  refine z_iconst (v := 0) d_Mod_output_1 (by decide) ?_
  refine z_put d_Mod_output_2 f_Mod_73 p_9_0 (by omega) rfl (Nat.le_of_ble_eq_true rfl) rfl rfl (hp_pi 0 rfl) ?_
  refine z_aload_n d_Mod_output_5 rfl ?_
  refine z_get d_Mod_output_6 f_Mod_171 (by omega) rfl rfl ?_
  refine z_iconst (v := 4) d_Mod_output_9 (by decide) ?_
  refine z_icmp_eq d_Mod_output_10 22 (by decide) (fun h9 => absurd h9 hf) (fun _ => ?_)
  refine z_aload_n d_Mod_output_13 rfl ?_
  refine z_iload_n d_Mod_output_14 rfl ?_
  refine z_iload_n d_Mod_output_15 rfl ?_
  refine z_callV1 d_Mod_output_16 g_Mod_184 (hm) (by omega) rfl rfl rfl ⟨by decide, by decide, by decide, by decide⟩ rfl (Nat.le_of_ble_eq_true rfl) ?_
  refine z_if_ne d_Mod_output_19 24 (by decide) (fun h9 => absurd h9 (fun h9 => h9 rfl)) (fun _ => ?_)
  refine z_iconst (v := 0) d_Mod_output_22 (by decide) ?_
  exact z_zret d_Mod_output_23 rfl (by decide) (by decide) (by decide) rfl rfl
theorem rz2 {n w : Nat} (hn : n < 4) (hw : w < 2) : zin (2 * nI n + nI w) (2 * n + w) 8 := by
  refine ⟨?_, by omega, by decide⟩
  rw [show (2 : Int32) = nI 2 from rfl, pk_mul, nI_add]
theorem rz16 {n w : Nat} (hn : n < 4) (hw : w < 4) : zin (4 * nI n + nI w) (4 * n + w) 16 := by
  refine ⟨?_, by omega, by decide⟩
  rw [show (4 : Int32) = nI 4 from rfl, pk_mul, nI_add]
set_option maxRecDepth 100000 in
set_option maxHeartbeats 4000000 in
theorem c_Mod_output1 (X : zX) (J : zJT) (G : zGT) (c k : Int32) {n : Nat} (hn : J 40 25 = nI n) (hn4 : n < 4) (hm : zK X 1 m_Mod_isColumn [.ref 40, .int c, .int k] (rTh J 0) G (some (.int 1)) (rTh J 0) G) : zK X 2 m_Mod_output [.ref 40, .int c, .int k] J G (some (.int 1)) (va_up (va_up (rTh J 0) 57 (upd (upd (J 57) (2 * n) c) (2 * n + 1) k)) 40 (va_up (rTh J 0 40) 25 (nI n + 1))) G := by
  refine zC_of (by decide) (Nat.le_of_ble_eq_true rfl) ?_
  refine z_aload_n d_Mod_output_0 rfl ?_
  refine z_iconst (v := 0) d_Mod_output_1 (by decide) ?_
  refine z_put d_Mod_output_2 f_Mod_73 p_9_0 (by omega) rfl (Nat.le_of_ble_eq_true rfl) rfl rfl (hp_pi 0 rfl) ?_
  refine z_aload_n d_Mod_output_5 rfl ?_
  refine z_get d_Mod_output_6 f_Mod_171 (by omega) rfl rfl ?_
  refine z_iconst (v := 4) d_Mod_output_9 (by decide) ?_
  refine z_icmp_eq d_Mod_output_10 22 (by decide) (fun h9 => absurd h9 (show ¬ J 40 25 = 4 by rw [hn]; exact fun h9 => absurd ((nI_eq (by omega) (by decide)).mp (show nI n = nI 4 from h9)) (by omega))) (fun _ => ?_)
  refine z_aload_n d_Mod_output_13 rfl ?_
  refine z_iload_n d_Mod_output_14 rfl ?_
  refine z_iload_n d_Mod_output_15 rfl ?_
  refine z_callV1 d_Mod_output_16 g_Mod_184 (hm) (by omega) rfl rfl rfl ⟨by decide, by decide, by decide, by decide⟩ rfl (Nat.le_of_ble_eq_true rfl) ?_
  refine z_if_ne d_Mod_output_19 24 (by decide) (fun _ => ?_) (fun h9 => absurd h9 (by decide))
  refine z_aload_n d_Mod_output_24 rfl ?_
  refine z_get d_Mod_output_25 f_Mod_67 (by omega) rfl rfl ?_
  refine z_iconst (v := 2) d_Mod_output_28 (by decide) ?_
  refine z_aload_n d_Mod_output_29 rfl ?_
  refine z_get d_Mod_output_30 f_Mod_171 (by omega) rfl rfl ?_
  refine z_imul d_Mod_output_33 ?_
  refine z_iload_n d_Mod_output_34 rfl ?_
  refine z_iast d_Mod_output_35 (by omega) rfl (show zin (2 * J 40 25) (2 * n) 8 by rw [hn]; have := rz2 (w := 0) hn4 (by decide); rwa [nI_0, Int32.add_zero] at this) (hp_ai rfl) ?_
  refine z_aload_n d_Mod_output_36 rfl ?_
  refine z_get d_Mod_output_37 f_Mod_67 (by omega) rfl rfl ?_
  refine z_iconst (v := 2) d_Mod_output_40 (by decide) ?_
  refine z_aload_n d_Mod_output_41 rfl ?_
  refine z_get d_Mod_output_42 f_Mod_171 (by omega) rfl rfl ?_
  refine z_imul d_Mod_output_45 ?_
  refine z_iconst (v := 1) d_Mod_output_46 (by decide) ?_
  refine z_iadd d_Mod_output_47 ?_
  refine z_iload_n d_Mod_output_48 rfl ?_
  refine z_iast d_Mod_output_49 (by omega) rfl (show zin (2 * J 40 25 + nI 1) (2 * n + 1) 8 by rw [hn]; exact rz2 hn4 (by decide)) (hp_ai rfl) ?_
  refine z_aload_n d_Mod_output_50 rfl ?_
  refine z_dup d_Mod_output_51 rfl ?_
  refine z_get d_Mod_output_52 f_Mod_171 (by omega) rfl rfl ?_
  refine z_iconst (v := 1) d_Mod_output_55 (by decide) ?_
  refine z_iadd d_Mod_output_56 ?_
  refine z_put d_Mod_output_57 f_Mod_171 p_9_25 (by omega) rfl (Nat.le_of_ble_eq_true rfl) rfl rfl (hp_pi 25 rfl) ?_
  refine z_iconst (v := 1) d_Mod_output_60 (by decide) ?_
  exact z_zret d_Mod_output_61 rfl (by decide) (by decide) (by decide) rfl (by unfold rTh; simp [bx_uu, zu_s, zu_n, hn])
set_option maxRecDepth 100000 in
set_option maxHeartbeats 4000000 in
theorem c_Mod_condF (X : zX) (J : zJT) (G : zGT) (c k o v : Int32) (hf : J 40 27 = 4) : zK X 2 m_Mod_condition [.ref 40, .int c, .int k, .int o, .int v] J G (some (.int 0)) (rTh J 0) G := by
  refine zC_of (by decide) (Nat.le_of_ble_eq_true rfl) ?_
  refine z_aload_n d_Mod_condition_0 rfl ?_
  refine z_iconst (v := 0) d_Mod_condition_1 (by decide) ?_
  refine z_put d_Mod_condition_2 f_Mod_73 p_9_0 (by omega) rfl (Nat.le_of_ble_eq_true rfl) rfl rfl (hp_pi 0 rfl) ?_
  refine z_aload_n d_Mod_condition_5 rfl ?_
  refine z_get d_Mod_condition_6 f_Mod_174 (by omega) rfl rfl ?_
  refine z_iconst (v := 4) d_Mod_condition_9 (by decide) ?_
  refine z_icmp_eq d_Mod_condition_10 32 (by decide) (fun _ => ?_) (fun h9 => absurd hf h9)
  refine z_iconst (v := 0) d_Mod_condition_32 (by decide) ?_
  exact z_zret d_Mod_condition_33 rfl (by decide) (by decide) (by decide) rfl rfl
set_option maxRecDepth 100000 in
set_option maxHeartbeats 4000000 in
theorem c_Mod_cond0 (X : zX) (J : zJT) (G : zGT) (c k o v : Int32) (hf : ¬ J 40 27 = 4) (hm : zK X 1 m_Mod_isColumn [.ref 40, .int c, .int k] (rTh J 0) G (some (.int 0)) (rTh J 0) G) : zK X 2 m_Mod_condition [.ref 40, .int c, .int k, .int o, .int v] J G (some (.int 0)) (rTh J 0) G := by
  refine zC_of (by decide) (Nat.le_of_ble_eq_true rfl) ?_
  refine z_aload_n d_Mod_condition_0 rfl ?_
  refine z_iconst (v := 0) d_Mod_condition_1 (by decide) ?_
  refine z_put d_Mod_condition_2 f_Mod_73 p_9_0 (by omega) rfl (Nat.le_of_ble_eq_true rfl) rfl rfl (hp_pi 0 rfl) ?_
  refine z_aload_n d_Mod_condition_5 rfl ?_
  refine z_get d_Mod_condition_6 f_Mod_174 (by omega) rfl rfl ?_
  refine z_iconst (v := 4) d_Mod_condition_9 (by decide) ?_
  refine z_icmp_eq d_Mod_condition_10 32 (by decide) (fun h9 => absurd h9 hf) (fun _ => ?_)
  refine z_aload_n d_Mod_condition_13 rfl ?_
  refine z_iload_n d_Mod_condition_14 rfl ?_
  refine z_iload_n d_Mod_condition_15 rfl ?_
  refine z_callV1 d_Mod_condition_16 g_Mod_184 (hm) (by omega) rfl rfl rfl ⟨by decide, by decide, by decide, by decide⟩ rfl (Nat.le_of_ble_eq_true rfl) ?_
  refine z_if_eq d_Mod_condition_19 32 (by decide) (fun _ => ?_) (fun h9 => absurd rfl h9)
  refine z_iconst (v := 0) d_Mod_condition_32 (by decide) ?_
  exact z_zret d_Mod_condition_33 rfl (by decide) (by decide) (by decide) rfl rfl
set_option maxRecDepth 100000 in
set_option maxHeartbeats 4000000 in
theorem c_Mod_condO (X : zX) (J : zJT) (G : zGT) (c k o v : Int32) (hf : ¬ J 40 27 = 4) (hm : zK X 1 m_Mod_isColumn [.ref 40, .int c, .int k] (rTh J 0) G (some (.int 1)) (rTh J 0) G) (ho : o < 0 ∨ ¬ o ≤ 7) : zK X 2 m_Mod_condition [.ref 40, .int c, .int k, .int o, .int v] J G (some (.int 0)) (rTh J 0) G := by
  refine zC_of (by decide) (Nat.le_of_ble_eq_true rfl) ?_
  refine z_aload_n d_Mod_condition_0 rfl ?_
  refine z_iconst (v := 0) d_Mod_condition_1 (by decide) ?_
  refine z_put d_Mod_condition_2 f_Mod_73 p_9_0 (by omega) rfl (Nat.le_of_ble_eq_true rfl) rfl rfl (hp_pi 0 rfl) ?_
  refine z_aload_n d_Mod_condition_5 rfl ?_
  refine z_get d_Mod_condition_6 f_Mod_174 (by omega) rfl rfl ?_
  refine z_iconst (v := 4) d_Mod_condition_9 (by decide) ?_
  refine z_icmp_eq d_Mod_condition_10 32 (by decide) (fun h9 => absurd h9 hf) (fun _ => ?_)
  refine z_aload_n d_Mod_condition_13 rfl ?_
  refine z_iload_n d_Mod_condition_14 rfl ?_
  refine z_iload_n d_Mod_condition_15 rfl ?_
  refine z_callV1 d_Mod_condition_16 g_Mod_184 (hm) (by omega) rfl rfl rfl ⟨by decide, by decide, by decide, by decide⟩ rfl (Nat.le_of_ble_eq_true rfl) ?_
  refine z_if_eq d_Mod_condition_19 32 (by decide) (fun h9 => absurd h9 (by decide)) (fun _ => ?_)
  refine z_iload_n d_Mod_condition_22 rfl ?_
  refine z_if_lt d_Mod_condition_23 32 (by decide) (fun h23 => ?_) (fun h23 => ?_)
  · refine z_iconst (v := 0) d_Mod_condition_32 (by decide) ?_
    exact z_zret d_Mod_condition_33 rfl (by decide) (by decide) (by decide) rfl rfl
  · refine z_iload_n d_Mod_condition_26 rfl ?_
    refine z_bipush (v := 7) d_Mod_condition_27 (by decide) ?_
    refine z_icmp_le d_Mod_condition_29 34 (by decide) (fun h9 => absurd h9 (ho.resolve_left h23)) (fun _ => ?_)
    refine z_iconst (v := 0) d_Mod_condition_32 (by decide) ?_
    exact z_zret d_Mod_condition_33 rfl (by decide) (by decide) (by decide) rfl rfl
set_option maxRecDepth 100000 in
set_option maxHeartbeats 4000000 in
theorem c_Mod_cond1 (X : zX) (J : zJT) (G : zGT) (c k o v : Int32) {n : Nat} (hn : J 40 27 = nI n) (hn4 : n < 4) (hm : zK X 1 m_Mod_isColumn [.ref 40, .int c, .int k] (rTh J 0) G (some (.int 1)) (rTh J 0) G) (h0 : ¬ o < 0) (h7 : o ≤ 7) : zK X 2 m_Mod_condition [.ref 40, .int c, .int k, .int o, .int v] J G (some (.int 1)) (va_up (va_up (rTh J 0) 58 (upd (upd (upd (upd (J 58) (4 * n) c) (4 * n + 1) k) (4 * n + 2) o) (4 * n + 3) v)) 40 (va_up (rTh J 0 40) 27 (nI n + 1))) G := by
  refine zC_of (by decide) (Nat.le_of_ble_eq_true rfl) ?_
  refine z_aload_n d_Mod_condition_0 rfl ?_
  refine z_iconst (v := 0) d_Mod_condition_1 (by decide) ?_
  refine z_put d_Mod_condition_2 f_Mod_73 p_9_0 (by omega) rfl (Nat.le_of_ble_eq_true rfl) rfl rfl (hp_pi 0 rfl) ?_
  refine z_aload_n d_Mod_condition_5 rfl ?_
  refine z_get d_Mod_condition_6 f_Mod_174 (by omega) rfl rfl ?_
  refine z_iconst (v := 4) d_Mod_condition_9 (by decide) ?_
  refine z_icmp_eq d_Mod_condition_10 32 (by decide) (fun h9 => absurd h9 (show ¬ J 40 27 = 4 by rw [hn]; exact fun h9 => absurd ((nI_eq (by omega) (by decide)).mp (show nI n = nI 4 from h9)) (by omega))) (fun _ => ?_)
  refine z_aload_n d_Mod_condition_13 rfl ?_
  refine z_iload_n d_Mod_condition_14 rfl ?_
  refine z_iload_n d_Mod_condition_15 rfl ?_
  refine z_callV1 d_Mod_condition_16 g_Mod_184 (hm) (by omega) rfl rfl rfl ⟨by decide, by decide, by decide, by decide⟩ rfl (Nat.le_of_ble_eq_true rfl) ?_
  refine z_if_eq d_Mod_condition_19 32 (by decide) (fun h9 => absurd h9 (by decide)) (fun _ => ?_)
  refine z_iload_n d_Mod_condition_22 rfl ?_
  refine z_if_lt d_Mod_condition_23 32 (by decide) (fun h9 => absurd h9 h0) (fun _ => ?_)
  refine z_iload_n d_Mod_condition_26 rfl ?_
  refine z_bipush (v := 7) d_Mod_condition_27 (by decide) ?_
  refine z_icmp_le d_Mod_condition_29 34 (by decide) (fun _ => ?_) (fun h9 => absurd h7 h9)
  refine z_iconst (v := 4) d_Mod_condition_34 (by decide) ?_
  refine z_aload_n d_Mod_condition_35 rfl ?_
  refine z_get d_Mod_condition_36 f_Mod_174 (by omega) rfl rfl ?_
  refine z_imul d_Mod_condition_39 ?_
  refine z_istore (lv' := [(0, _), (1, _), (2, _), (3, _), (4, _), (5, _)]) d_Mod_condition_40 (by decide) rfl ?_
  refine z_aload_n d_Mod_condition_42 rfl ?_
  refine z_get d_Mod_condition_43 f_Mod_70 (by omega) rfl rfl ?_
  refine z_iload d_Mod_condition_46 rfl ?_
  refine z_iload_n d_Mod_condition_48 rfl ?_
  refine z_iast d_Mod_condition_49 (by omega) rfl (show zin (4 * J 40 27) (4 * n) 16 by rw [hn]; have := rz16 (w := 0) hn4 (by decide); rwa [nI_0, Int32.add_zero] at this) (hp_ai rfl) ?_
  refine z_aload_n d_Mod_condition_50 rfl ?_
  refine z_get d_Mod_condition_51 f_Mod_70 (by omega) rfl rfl ?_
  refine z_iload d_Mod_condition_54 rfl ?_
  refine z_iconst (v := 1) d_Mod_condition_56 (by decide) ?_
  refine z_iadd d_Mod_condition_57 ?_
  refine z_iload_n d_Mod_condition_58 rfl ?_
  refine z_iast d_Mod_condition_59 (by omega) rfl (show zin (4 * J 40 27 + nI 1) (4 * n + 1) 16 by rw [hn]; exact rz16 hn4 (by decide)) (hp_ai rfl) ?_
  refine z_aload_n d_Mod_condition_60 rfl ?_
  refine z_get d_Mod_condition_61 f_Mod_70 (by omega) rfl rfl ?_
  refine z_iload d_Mod_condition_64 rfl ?_
  refine z_iconst (v := 2) d_Mod_condition_66 (by decide) ?_
  refine z_iadd d_Mod_condition_67 ?_
  refine z_iload_n d_Mod_condition_68 rfl ?_
  refine z_iast d_Mod_condition_69 (by omega) rfl (show zin (4 * J 40 27 + nI 2) (4 * n + 2) 16 by rw [hn]; exact rz16 hn4 (by decide)) (hp_ai rfl) ?_
  refine z_aload_n d_Mod_condition_70 rfl ?_
  refine z_get d_Mod_condition_71 f_Mod_70 (by omega) rfl rfl ?_
  refine z_iload d_Mod_condition_74 rfl ?_
  refine z_iconst (v := 3) d_Mod_condition_76 (by decide) ?_
  refine z_iadd d_Mod_condition_77 ?_
  refine z_iload d_Mod_condition_78 rfl ?_
  refine z_iast d_Mod_condition_80 (by omega) rfl (show zin (4 * J 40 27 + nI 3) (4 * n + 3) 16 by rw [hn]; exact rz16 hn4 (by decide)) (hp_ai rfl) ?_
  refine z_aload_n d_Mod_condition_81 rfl ?_
  refine z_dup d_Mod_condition_82 rfl ?_
  refine z_get d_Mod_condition_83 f_Mod_174 (by omega) rfl rfl ?_
  refine z_iconst (v := 1) d_Mod_condition_86 (by decide) ?_
  refine z_iadd d_Mod_condition_87 ?_
  refine z_put d_Mod_condition_88 f_Mod_174 p_9_27 (by omega) rfl (Nat.le_of_ble_eq_true rfl) rfl rfl (hp_pi 27 rfl) ?_
  refine z_iconst (v := 1) d_Mod_condition_91 (by decide) ?_
  exact z_zret d_Mod_condition_92 rfl (by decide) (by decide) (by decide) rfl (by unfold rTh; simp [bx_uu, zu_s, zu_n, hn])
set_option maxRecDepth 100000 in
set_option maxHeartbeats 4000000 in
theorem c_Mod_join0 (X : zX) (J : zJT) (G : zGT) (k l : Int32) (h : J 40 24 < 0) : zK X 2 m_Mod_join [.ref 40, .int k, .int l] J G (some (.int 0)) (rTh J 0) G := by
  refine zC_of (by decide) (Nat.le_of_ble_eq_true rfl) ?_
  refine z_aload_n d_Mod_join_0 rfl ?_
  refine z_iconst (v := 0) d_Mod_join_1 (by decide) ?_
  refine z_put d_Mod_join_2 f_Mod_73 p_9_0 (by omega) rfl (Nat.le_of_ble_eq_true rfl) rfl rfl (hp_pi 0 rfl) ?_
  refine z_aload_n d_Mod_join_5 rfl ?_
  refine z_get d_Mod_join_6 f_Mod_64 (by omega) rfl rfl ?_
  refine z_if_lt d_Mod_join_9 30 (by decide) (fun _ => ?_) (fun h9 => absurd h h9)
  refine z_iconst (v := 0) d_Mod_join_30 (by decide) ?_
  exact z_zret d_Mod_join_31 rfl (by decide) (by decide) (by decide) rfl rfl
set_option maxRecDepth 100000 in
set_option maxHeartbeats 4000000 in
theorem c_Mod_joinA (X : zX) (J : zJT) (G : zGT) (k l : Int32) (h : ¬ J 40 24 < 0) (hm : zK X 1 m_Mod_isColumn [.ref 40, .int 0, .int k] (rTh J 0) G (some (.int 0)) (rTh J 0) G) : zK X 2 m_Mod_join [.ref 40, .int k, .int l] J G (some (.int 0)) (rTh J 0) G := by
  refine zC_of (by decide) (Nat.le_of_ble_eq_true rfl) ?_
  refine z_aload_n d_Mod_join_0 rfl ?_
  refine z_iconst (v := 0) d_Mod_join_1 (by decide) ?_
  refine z_put d_Mod_join_2 f_Mod_73 p_9_0 (by omega) rfl (Nat.le_of_ble_eq_true rfl) rfl rfl (hp_pi 0 rfl) ?_
  refine z_aload_n d_Mod_join_5 rfl ?_
  refine z_get d_Mod_join_6 f_Mod_64 (by omega) rfl rfl ?_
  refine z_if_lt d_Mod_join_9 30 (by decide) (fun h9 => absurd h9 h) (fun _ => ?_)
  refine z_aload_n d_Mod_join_12 rfl ?_
  refine z_iconst (v := 0) d_Mod_join_13 (by decide) ?_
  refine z_iload_n d_Mod_join_14 rfl ?_
  refine z_callV1 d_Mod_join_15 g_Mod_184 (hm) (by omega) rfl rfl rfl ⟨by decide, by decide, by decide, by decide⟩ rfl (Nat.le_of_ble_eq_true rfl) ?_
  refine z_if_eq d_Mod_join_18 30 (by decide) (fun _ => ?_) (fun h9 => absurd rfl h9)
  refine z_iconst (v := 0) d_Mod_join_30 (by decide) ?_
  exact z_zret d_Mod_join_31 rfl (by decide) (by decide) (by decide) rfl rfl
set_option maxRecDepth 100000 in
set_option maxHeartbeats 4000000 in
theorem c_Mod_joinB (X : zX) (J : zJT) (G : zGT) (k l : Int32) (h : ¬ J 40 24 < 0) (hm : zK X 1 m_Mod_isColumn [.ref 40, .int 0, .int k] (rTh J 0) G (some (.int 1)) (rTh J 0) G) (hm2 : zK X 1 m_Mod_isColumn [.ref 40, .int 1, .int l] (rTh J 0) G (some (.int 0)) (rTh J 0) G) : zK X 2 m_Mod_join [.ref 40, .int k, .int l] J G (some (.int 0)) (rTh J 0) G := by
  refine zC_of (by decide) (Nat.le_of_ble_eq_true rfl) ?_
  refine z_aload_n d_Mod_join_0 rfl ?_
  refine z_iconst (v := 0) d_Mod_join_1 (by decide) ?_
  refine z_put d_Mod_join_2 f_Mod_73 p_9_0 (by omega) rfl (Nat.le_of_ble_eq_true rfl) rfl rfl (hp_pi 0 rfl) ?_
  refine z_aload_n d_Mod_join_5 rfl ?_
  refine z_get d_Mod_join_6 f_Mod_64 (by omega) rfl rfl ?_
  refine z_if_lt d_Mod_join_9 30 (by decide) (fun h9 => absurd h9 h) (fun _ => ?_)
  refine z_aload_n d_Mod_join_12 rfl ?_
  refine z_iconst (v := 0) d_Mod_join_13 (by decide) ?_
  refine z_iload_n d_Mod_join_14 rfl ?_
  refine z_callV1 d_Mod_join_15 g_Mod_184 (hm) (by omega) rfl rfl rfl ⟨by decide, by decide, by decide, by decide⟩ rfl (Nat.le_of_ble_eq_true rfl) ?_
  refine z_if_eq d_Mod_join_18 30 (by decide) (fun h9 => absurd h9 (by decide)) (fun _ => ?_)
  refine z_aload_n d_Mod_join_21 rfl ?_
  refine z_iconst (v := 1) d_Mod_join_22 (by decide) ?_
  refine z_iload_n d_Mod_join_23 rfl ?_
  refine z_callV1 d_Mod_join_24 g_Mod_184 (hm2) (by omega) rfl rfl rfl ⟨by decide, by decide, by decide, by decide⟩ rfl (Nat.le_of_ble_eq_true rfl) ?_
  refine z_if_ne d_Mod_join_27 32 (by decide) (fun h9 => absurd h9 (fun h9 => h9 rfl)) (fun _ => ?_)
  refine z_iconst (v := 0) d_Mod_join_30 (by decide) ?_
  exact z_zret d_Mod_join_31 rfl (by decide) (by decide) (by decide) rfl rfl
set_option maxRecDepth 100000 in
set_option maxHeartbeats 4000000 in
theorem c_Mod_join1 (X : zX) (J : zJT) (G : zGT) (k l : Int32) (h : ¬ J 40 24 < 0) (hm : zK X 1 m_Mod_isColumn [.ref 40, .int 0, .int k] (rTh J 0) G (some (.int 1)) (rTh J 0) G) (hm2 : zK X 1 m_Mod_isColumn [.ref 40, .int 1, .int l] (rTh J 0) G (some (.int 1)) (rTh J 0) G) : zK X 2 m_Mod_join [.ref 40, .int k, .int l] J G (some (.int 1)) (va_up (rTh J 0) 40 (va_up (va_up (va_up (rTh J 0 40) 29 1) 30 k) 31 l)) G := by
  refine zC_of (by decide) (Nat.le_of_ble_eq_true rfl) ?_
  refine z_aload_n d_Mod_join_0 rfl ?_
  refine z_iconst (v := 0) d_Mod_join_1 (by decide) ?_
  refine z_put d_Mod_join_2 f_Mod_73 p_9_0 (by omega) rfl (Nat.le_of_ble_eq_true rfl) rfl rfl (hp_pi 0 rfl) ?_
  refine z_aload_n d_Mod_join_5 rfl ?_
  refine z_get d_Mod_join_6 f_Mod_64 (by omega) rfl rfl ?_
  refine z_if_lt d_Mod_join_9 30 (by decide) (fun h9 => absurd h9 h) (fun _ => ?_)
  refine z_aload_n d_Mod_join_12 rfl ?_
  refine z_iconst (v := 0) d_Mod_join_13 (by decide) ?_
  refine z_iload_n d_Mod_join_14 rfl ?_
  refine z_callV1 d_Mod_join_15 g_Mod_184 (hm) (by omega) rfl rfl rfl ⟨by decide, by decide, by decide, by decide⟩ rfl (Nat.le_of_ble_eq_true rfl) ?_
  refine z_if_eq d_Mod_join_18 30 (by decide) (fun h9 => absurd h9 (by decide)) (fun _ => ?_)
  refine z_aload_n d_Mod_join_21 rfl ?_
  refine z_iconst (v := 1) d_Mod_join_22 (by decide) ?_
  refine z_iload_n d_Mod_join_23 rfl ?_
  refine z_callV1 d_Mod_join_24 g_Mod_184 (hm2) (by omega) rfl rfl rfl ⟨by decide, by decide, by decide, by decide⟩ rfl (Nat.le_of_ble_eq_true rfl) ?_
  refine z_if_ne d_Mod_join_27 32 (by decide) (fun _ => ?_) (fun h9 => absurd h9 (by decide))
  refine z_aload_n d_Mod_join_32 rfl ?_
  refine z_iconst (v := 1) d_Mod_join_33 (by decide) ?_
  refine z_put d_Mod_join_34 f_Mod_177 p_9_29 (by omega) rfl (Nat.le_of_ble_eq_true rfl) (zb_n true) (zb_f true) (hp_pi 29 rfl) ?_
  refine z_aload_n d_Mod_join_37 rfl ?_
  refine z_iload_n d_Mod_join_38 rfl ?_
  refine z_put d_Mod_join_39 f_Mod_187 p_9_30 (by omega) rfl (Nat.le_of_ble_eq_true rfl) rfl rfl (hp_pi 30 rfl) ?_
  refine z_aload_n d_Mod_join_42 rfl ?_
  refine z_iload_n d_Mod_join_43 rfl ?_
  refine z_put d_Mod_join_44 f_Mod_190 p_9_31 (by omega) rfl (Nat.le_of_ble_eq_true rfl) rfl rfl (hp_pi 31 rfl) ?_
  refine z_iconst (v := 1) d_Mod_join_47 (by decide) ?_
  exact z_zret d_Mod_join_48 rfl (by decide) (by decide) (by decide) rfl (by unfold rTh; simp [bx_uu, zu_s])
