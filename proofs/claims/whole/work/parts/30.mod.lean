/-! the reference: its leaves -/
set_option maxRecDepth 100000 in
set_option maxHeartbeats 4000000 in
theorem c_Mod_thrown (X : zX) (J : zJT) (G : zGT) (d : Nat) : zK X d m_Mod_thrown [.ref 40] J G (some (.int (J 40 0))) J G := by
  refine zC_of (by decide) (Nat.le_of_ble_eq_true rfl) ?_
  refine z_aload_n d_Mod_thrown_0 rfl ?_
  refine z_get d_Mod_thrown_1 f_Mod_73 (by omega) rfl rfl ?_
  exact z_iret d_Mod_thrown_4 rfl (by decide) (by decide) (by first | rfl | (simp_all; done) | grind) rfl
set_option maxRecDepth 100000 in
set_option maxHeartbeats 4000000 in
theorem c_Mod_isTable (X : zX) (J : zJT) (G : zGT) (d : Nat) (v : Int32) : zK X d m_Mod_isTable [.ref 40, .int v] J G (some (.int (zb (decide (0 ≤ v) && decide (v < J 40 1))))) J G := by
  refine zC_of (by decide) (Nat.le_of_ble_eq_true rfl) ?_
  refine z_iload_n d_Mod_isTable_0 rfl ?_
  refine z_if_lt d_Mod_isTable_1 16 (by decide) (fun h1 => ?_) (fun h1 => ?_)
  · refine z_iconst (v := 0) d_Mod_isTable_16 (by decide) ?_
    exact z_zret d_Mod_isTable_17 rfl (by decide) (by decide) (by decide) (by first | (simp_all [zb]; done) | grind [zb]) rfl
  · refine z_iload_n d_Mod_isTable_4 rfl ?_
    refine z_aload_n d_Mod_isTable_5 rfl ?_
    refine z_get d_Mod_isTable_6 f_Mod_76 (by omega) rfl rfl ?_
    refine z_icmp_ge d_Mod_isTable_9 16 (by decide) (fun h9 => ?_) (fun h9 => ?_)
    · refine z_iconst (v := 0) d_Mod_isTable_16 (by decide) ?_
      exact z_zret d_Mod_isTable_17 rfl (by decide) (by decide) (by decide) (by first | (simp_all [zb]; done) | grind [zb]) rfl
    · refine z_iconst (v := 1) d_Mod_isTable_12 (by decide) ?_
      refine z_goto d_Mod_isTable_13 17 (by decide) ?_
      exact z_zret d_Mod_isTable_17 rfl (by decide) (by decide) (by decide) (by first | (simp_all [zb]; done) | grind [zb]) rfl
set_option maxRecDepth 100000 in
set_option maxHeartbeats 4000000 in
theorem c_Mod_in (X : zX) (d : Nat) (v m : Int32) (h : zH) (N : Nat) : zC X d m_Mod_in 0 0 false [.int v, .int m] h N (some (.int (zb (decide (0 ≤ v) && decide (v ≤ m))))) h N := by
  refine zC_of (by decide) (Nat.le_of_ble_eq_true rfl) ?_
  refine z_iload_n d_Mod_in_0 rfl ?_
  refine z_if_lt d_Mod_in_1 13 (by decide) (fun h1 => ?_) (fun h1 => ?_)
  · refine z_iconst (v := 0) d_Mod_in_13 (by decide) ?_
    exact z_zret d_Mod_in_14 rfl (by decide) (by decide) (by decide) (by first | (simp_all [zb]; done) | grind [zb]) rfl
  · refine z_iload_n d_Mod_in_4 rfl ?_
    refine z_iload_n d_Mod_in_5 rfl ?_
    refine z_icmp_gt d_Mod_in_6 13 (by decide) (fun h6 => ?_) (fun h6 => ?_)
    · refine z_iconst (v := 0) d_Mod_in_13 (by decide) ?_
      exact z_zret d_Mod_in_14 rfl (by decide) (by decide) (by decide) (by first | (simp_all [zb]; done) | grind [zb]) rfl
    · refine z_iconst (v := 1) d_Mod_in_9 (by decide) ?_
      refine z_goto d_Mod_in_10 14 (by decide) ?_
      exact z_zret d_Mod_in_14 rfl (by decide) (by decide) (by decide) (by first | (simp_all [zb]; done) | grind [zb]) rfl
def rMany : List Int32 := [0, 2, 2, 2, 3, 2, 2, 1, 3, 3, 3, 3, 3, 3, 3, 2, 2, 3, 2, 1, 3, 1]
def rGoal : List Int32 := [0, 0, 2, 2, 0, 0, 0, 0, 2, 2, 2, 2, 2, 2, 2, 2, 2, 0, 0, 1, 2, 0]
def rNeed : List Int32 := [0, 0, 1, 1, 1, 1, 0, 0, 1, 0, 0, 0, 0, 0, 0, 0, 0, 0, 0, 0, 1, 1]
set_option maxRecDepth 100000 in
set_option maxHeartbeats 4000000 in
theorem c_Mod_many_0 (X : zX) (d : Nat) (h : zH) (N : Nat) : zC X d m_Mod_many 0 0 false [.int 0] h N (some (.int 0)) h N := by
  refine zC_of (by decide) (Nat.le_of_ble_eq_true rfl) ?_
  refine z_iload_n d_Mod_many_0 rfl ?_
  refine z_if_ne d_Mod_many_1 6 (by decide) (fun h9 => absurd h9 (by decide)) (fun _ => ?_)
  refine z_iconst (v := 0) d_Mod_many_4 (by decide) ?_
  exact z_iret d_Mod_many_5 rfl (by decide) (by decide) rfl rfl
set_option maxRecDepth 100000 in
set_option maxHeartbeats 4000000 in
theorem c_Mod_many_1 (X : zX) (d : Nat) (h : zH) (N : Nat) : zC X d m_Mod_many 0 0 false [.int 1] h N (some (.int 2)) h N := by
  refine zC_of (by decide) (Nat.le_of_ble_eq_true rfl) ?_
  refine z_iload_n d_Mod_many_0 rfl ?_
  refine z_if_ne d_Mod_many_1 6 (by decide) (fun _ => ?_) (fun h9 => absurd h9 (by decide))
  refine z_iload_n d_Mod_many_6 rfl ?_
  refine z_bipush (v := 7) d_Mod_many_7 (by decide) ?_
  refine z_icmp_eq d_Mod_many_9 24 (by decide) (fun h9 => absurd h9 (by decide)) (fun _ => ?_)
  refine z_iload_n d_Mod_many_12 rfl ?_
  refine z_bipush (v := 19) d_Mod_many_13 (by decide) ?_
  refine z_icmp_eq d_Mod_many_15 24 (by decide) (fun h9 => absurd h9 (by decide)) (fun _ => ?_)
  refine z_iload_n d_Mod_many_18 rfl ?_
  refine z_bipush (v := 21) d_Mod_many_19 (by decide) ?_
  refine z_icmp_ne d_Mod_many_21 26 (by decide) (fun _ => ?_) (fun h9 => absurd h9 (by decide))
  refine z_iload_n d_Mod_many_26 rfl ?_
  refine z_iconst (v := 1) d_Mod_many_27 (by decide) ?_
  refine z_icmp_eq d_Mod_many_28 70 (by decide) (fun _ => ?_) (fun h9 => absurd (by decide) h9)
  refine z_iconst (v := 2) d_Mod_many_70 (by decide) ?_
  refine z_goto d_Mod_many_71 75 (by decide) ?_
  exact z_iret d_Mod_many_75 rfl (by decide) (by decide) rfl rfl
set_option maxRecDepth 100000 in
set_option maxHeartbeats 4000000 in
theorem c_Mod_many_2 (X : zX) (d : Nat) (h : zH) (N : Nat) : zC X d m_Mod_many 0 0 false [.int 2] h N (some (.int 2)) h N := by
  refine zC_of (by decide) (Nat.le_of_ble_eq_true rfl) ?_
  refine z_iload_n d_Mod_many_0 rfl ?_
  refine z_if_ne d_Mod_many_1 6 (by decide) (fun _ => ?_) (fun h9 => absurd h9 (by decide))
  refine z_iload_n d_Mod_many_6 rfl ?_
  refine z_bipush (v := 7) d_Mod_many_7 (by decide) ?_
  refine z_icmp_eq d_Mod_many_9 24 (by decide) (fun h9 => absurd h9 (by decide)) (fun _ => ?_)
  refine z_iload_n d_Mod_many_12 rfl ?_
  refine z_bipush (v := 19) d_Mod_many_13 (by decide) ?_
  refine z_icmp_eq d_Mod_many_15 24 (by decide) (fun h9 => absurd h9 (by decide)) (fun _ => ?_)
  refine z_iload_n d_Mod_many_18 rfl ?_
  refine z_bipush (v := 21) d_Mod_many_19 (by decide) ?_
  refine z_icmp_ne d_Mod_many_21 26 (by decide) (fun _ => ?_) (fun h9 => absurd h9 (by decide))
  refine z_iload_n d_Mod_many_26 rfl ?_
  refine z_iconst (v := 1) d_Mod_many_27 (by decide) ?_
  refine z_icmp_eq d_Mod_many_28 70 (by decide) (fun h9 => absurd h9 (by decide)) (fun _ => ?_)
  refine z_iload_n d_Mod_many_31 rfl ?_
  refine z_iconst (v := 2) d_Mod_many_32 (by decide) ?_
  refine z_icmp_eq d_Mod_many_33 70 (by decide) (fun _ => ?_) (fun h9 => absurd (by decide) h9)
  refine z_iconst (v := 2) d_Mod_many_70 (by decide) ?_
  refine z_goto d_Mod_many_71 75 (by decide) ?_
  exact z_iret d_Mod_many_75 rfl (by decide) (by decide) rfl rfl
set_option maxRecDepth 100000 in
set_option maxHeartbeats 4000000 in
theorem c_Mod_many_3 (X : zX) (d : Nat) (h : zH) (N : Nat) : zC X d m_Mod_many 0 0 false [.int 3] h N (some (.int 2)) h N := by
  refine zC_of (by decide) (Nat.le_of_ble_eq_true rfl) ?_
  refine z_iload_n d_Mod_many_0 rfl ?_
  refine z_if_ne d_Mod_many_1 6 (by decide) (fun _ => ?_) (fun h9 => absurd h9 (by decide))
  refine z_iload_n d_Mod_many_6 rfl ?_
  refine z_bipush (v := 7) d_Mod_many_7 (by decide) ?_
  refine z_icmp_eq d_Mod_many_9 24 (by decide) (fun h9 => absurd h9 (by decide)) (fun _ => ?_)
  refine z_iload_n d_Mod_many_12 rfl ?_
  refine z_bipush (v := 19) d_Mod_many_13 (by decide) ?_
  refine z_icmp_eq d_Mod_many_15 24 (by decide) (fun h9 => absurd h9 (by decide)) (fun _ => ?_)
  refine z_iload_n d_Mod_many_18 rfl ?_
  refine z_bipush (v := 21) d_Mod_many_19 (by decide) ?_
  refine z_icmp_ne d_Mod_many_21 26 (by decide) (fun _ => ?_) (fun h9 => absurd h9 (by decide))
  refine z_iload_n d_Mod_many_26 rfl ?_
  refine z_iconst (v := 1) d_Mod_many_27 (by decide) ?_
  refine z_icmp_eq d_Mod_many_28 70 (by decide) (fun h9 => absurd h9 (by decide)) (fun _ => ?_)
  refine z_iload_n d_Mod_many_31 rfl ?_
  refine z_iconst (v := 2) d_Mod_many_32 (by decide) ?_
  refine z_icmp_eq d_Mod_many_33 70 (by decide) (fun h9 => absurd h9 (by decide)) (fun _ => ?_)
  refine z_iload_n d_Mod_many_36 rfl ?_
  refine z_iconst (v := 3) d_Mod_many_37 (by decide) ?_
  refine z_icmp_eq d_Mod_many_38 70 (by decide) (fun _ => ?_) (fun h9 => absurd (by decide) h9)
  refine z_iconst (v := 2) d_Mod_many_70 (by decide) ?_
  refine z_goto d_Mod_many_71 75 (by decide) ?_
  exact z_iret d_Mod_many_75 rfl (by decide) (by decide) rfl rfl
set_option maxRecDepth 100000 in
set_option maxHeartbeats 4000000 in
theorem c_Mod_many_4 (X : zX) (d : Nat) (h : zH) (N : Nat) : zC X d m_Mod_many 0 0 false [.int 4] h N (some (.int 3)) h N := by
  refine zC_of (by decide) (Nat.le_of_ble_eq_true rfl) ?_
  refine z_iload_n d_Mod_many_0 rfl ?_
  refine z_if_ne d_Mod_many_1 6 (by decide) (fun _ => ?_) (fun h9 => absurd h9 (by decide))
  refine z_iload_n d_Mod_many_6 rfl ?_
  refine z_bipush (v := 7) d_Mod_many_7 (by decide) ?_
  refine z_icmp_eq d_Mod_many_9 24 (by decide) (fun h9 => absurd h9 (by decide)) (fun _ => ?_)
  refine z_iload_n d_Mod_many_12 rfl ?_
  refine z_bipush (v := 19) d_Mod_many_13 (by decide) ?_
  refine z_icmp_eq d_Mod_many_15 24 (by decide) (fun h9 => absurd h9 (by decide)) (fun _ => ?_)
  refine z_iload_n d_Mod_many_18 rfl ?_
  refine z_bipush (v := 21) d_Mod_many_19 (by decide) ?_
  refine z_icmp_ne d_Mod_many_21 26 (by decide) (fun _ => ?_) (fun h9 => absurd h9 (by decide))
  refine z_iload_n d_Mod_many_26 rfl ?_
  refine z_iconst (v := 1) d_Mod_many_27 (by decide) ?_
  refine z_icmp_eq d_Mod_many_28 70 (by decide) (fun h9 => absurd h9 (by decide)) (fun _ => ?_)
  refine z_iload_n d_Mod_many_31 rfl ?_
  refine z_iconst (v := 2) d_Mod_many_32 (by decide) ?_
  refine z_icmp_eq d_Mod_many_33 70 (by decide) (fun h9 => absurd h9 (by decide)) (fun _ => ?_)
  refine z_iload_n d_Mod_many_36 rfl ?_
  refine z_iconst (v := 3) d_Mod_many_37 (by decide) ?_
  refine z_icmp_eq d_Mod_many_38 70 (by decide) (fun h9 => absurd h9 (by decide)) (fun _ => ?_)
  refine z_iload_n d_Mod_many_41 rfl ?_
  refine z_iconst (v := 5) d_Mod_many_42 (by decide) ?_
  refine z_icmp_eq d_Mod_many_43 70 (by decide) (fun h9 => absurd h9 (by decide)) (fun _ => ?_)
  refine z_iload_n d_Mod_many_46 rfl ?_
  refine z_bipush (v := 6) d_Mod_many_47 (by decide) ?_
  refine z_icmp_eq d_Mod_many_49 70 (by decide) (fun h9 => absurd h9 (by decide)) (fun _ => ?_)
  refine z_iload_n d_Mod_many_52 rfl ?_
  refine z_bipush (v := 15) d_Mod_many_53 (by decide) ?_
  refine z_icmp_eq d_Mod_many_55 70 (by decide) (fun h9 => absurd h9 (by decide)) (fun _ => ?_)
  refine z_iload_n d_Mod_many_58 rfl ?_
  refine z_bipush (v := 16) d_Mod_many_59 (by decide) ?_
  refine z_icmp_eq d_Mod_many_61 70 (by decide) (fun h9 => absurd h9 (by decide)) (fun _ => ?_)
  refine z_iload_n d_Mod_many_64 rfl ?_
  refine z_bipush (v := 18) d_Mod_many_65 (by decide) ?_
  refine z_icmp_ne d_Mod_many_67 74 (by decide) (fun _ => ?_) (fun h9 => absurd h9 (by decide))
  refine z_iconst (v := 3) d_Mod_many_74 (by decide) ?_
  exact z_iret d_Mod_many_75 rfl (by decide) (by decide) rfl rfl
set_option maxRecDepth 100000 in
set_option maxHeartbeats 4000000 in
theorem c_Mod_many_5 (X : zX) (d : Nat) (h : zH) (N : Nat) : zC X d m_Mod_many 0 0 false [.int 5] h N (some (.int 2)) h N := by
  refine zC_of (by decide) (Nat.le_of_ble_eq_true rfl) ?_
  refine z_iload_n d_Mod_many_0 rfl ?_
  refine z_if_ne d_Mod_many_1 6 (by decide) (fun _ => ?_) (fun h9 => absurd h9 (by decide))
  refine z_iload_n d_Mod_many_6 rfl ?_
  refine z_bipush (v := 7) d_Mod_many_7 (by decide) ?_
  refine z_icmp_eq d_Mod_many_9 24 (by decide) (fun h9 => absurd h9 (by decide)) (fun _ => ?_)
  refine z_iload_n d_Mod_many_12 rfl ?_
  refine z_bipush (v := 19) d_Mod_many_13 (by decide) ?_
  refine z_icmp_eq d_Mod_many_15 24 (by decide) (fun h9 => absurd h9 (by decide)) (fun _ => ?_)
  refine z_iload_n d_Mod_many_18 rfl ?_
  refine z_bipush (v := 21) d_Mod_many_19 (by decide) ?_
  refine z_icmp_ne d_Mod_many_21 26 (by decide) (fun _ => ?_) (fun h9 => absurd h9 (by decide))
  refine z_iload_n d_Mod_many_26 rfl ?_
  refine z_iconst (v := 1) d_Mod_many_27 (by decide) ?_
  refine z_icmp_eq d_Mod_many_28 70 (by decide) (fun h9 => absurd h9 (by decide)) (fun _ => ?_)
  refine z_iload_n d_Mod_many_31 rfl ?_
  refine z_iconst (v := 2) d_Mod_many_32 (by decide) ?_
  refine z_icmp_eq d_Mod_many_33 70 (by decide) (fun h9 => absurd h9 (by decide)) (fun _ => ?_)
  refine z_iload_n d_Mod_many_36 rfl ?_
  refine z_iconst (v := 3) d_Mod_many_37 (by decide) ?_
  refine z_icmp_eq d_Mod_many_38 70 (by decide) (fun h9 => absurd h9 (by decide)) (fun _ => ?_)
  refine z_iload_n d_Mod_many_41 rfl ?_
  refine z_iconst (v := 5) d_Mod_many_42 (by decide) ?_
  refine z_icmp_eq d_Mod_many_43 70 (by decide) (fun _ => ?_) (fun h9 => absurd (by decide) h9)
  refine z_iconst (v := 2) d_Mod_many_70 (by decide) ?_
  refine z_goto d_Mod_many_71 75 (by decide) ?_
  exact z_iret d_Mod_many_75 rfl (by decide) (by decide) rfl rfl
set_option maxRecDepth 100000 in
set_option maxHeartbeats 4000000 in
theorem c_Mod_many_6 (X : zX) (d : Nat) (h : zH) (N : Nat) : zC X d m_Mod_many 0 0 false [.int 6] h N (some (.int 2)) h N := by
  refine zC_of (by decide) (Nat.le_of_ble_eq_true rfl) ?_
  refine z_iload_n d_Mod_many_0 rfl ?_
  refine z_if_ne d_Mod_many_1 6 (by decide) (fun _ => ?_) (fun h9 => absurd h9 (by decide))
  refine z_iload_n d_Mod_many_6 rfl ?_
  refine z_bipush (v := 7) d_Mod_many_7 (by decide) ?_
  refine z_icmp_eq d_Mod_many_9 24 (by decide) (fun h9 => absurd h9 (by decide)) (fun _ => ?_)
  refine z_iload_n d_Mod_many_12 rfl ?_
  refine z_bipush (v := 19) d_Mod_many_13 (by decide) ?_
  refine z_icmp_eq d_Mod_many_15 24 (by decide) (fun h9 => absurd h9 (by decide)) (fun _ => ?_)
  refine z_iload_n d_Mod_many_18 rfl ?_
  refine z_bipush (v := 21) d_Mod_many_19 (by decide) ?_
  refine z_icmp_ne d_Mod_many_21 26 (by decide) (fun _ => ?_) (fun h9 => absurd h9 (by decide))
  refine z_iload_n d_Mod_many_26 rfl ?_
  refine z_iconst (v := 1) d_Mod_many_27 (by decide) ?_
  refine z_icmp_eq d_Mod_many_28 70 (by decide) (fun h9 => absurd h9 (by decide)) (fun _ => ?_)
  refine z_iload_n d_Mod_many_31 rfl ?_
  refine z_iconst (v := 2) d_Mod_many_32 (by decide) ?_
  refine z_icmp_eq d_Mod_many_33 70 (by decide) (fun h9 => absurd h9 (by decide)) (fun _ => ?_)
  refine z_iload_n d_Mod_many_36 rfl ?_
  refine z_iconst (v := 3) d_Mod_many_37 (by decide) ?_
  refine z_icmp_eq d_Mod_many_38 70 (by decide) (fun h9 => absurd h9 (by decide)) (fun _ => ?_)
  refine z_iload_n d_Mod_many_41 rfl ?_
  refine z_iconst (v := 5) d_Mod_many_42 (by decide) ?_
  refine z_icmp_eq d_Mod_many_43 70 (by decide) (fun h9 => absurd h9 (by decide)) (fun _ => ?_)
  refine z_iload_n d_Mod_many_46 rfl ?_
  refine z_bipush (v := 6) d_Mod_many_47 (by decide) ?_
  refine z_icmp_eq d_Mod_many_49 70 (by decide) (fun _ => ?_) (fun h9 => absurd (by decide) h9)
  refine z_iconst (v := 2) d_Mod_many_70 (by decide) ?_
  refine z_goto d_Mod_many_71 75 (by decide) ?_
  exact z_iret d_Mod_many_75 rfl (by decide) (by decide) rfl rfl
set_option maxRecDepth 100000 in
set_option maxHeartbeats 4000000 in
theorem c_Mod_many_7 (X : zX) (d : Nat) (h : zH) (N : Nat) : zC X d m_Mod_many 0 0 false [.int 7] h N (some (.int 1)) h N := by
  refine zC_of (by decide) (Nat.le_of_ble_eq_true rfl) ?_
  refine z_iload_n d_Mod_many_0 rfl ?_
  refine z_if_ne d_Mod_many_1 6 (by decide) (fun _ => ?_) (fun h9 => absurd h9 (by decide))
  refine z_iload_n d_Mod_many_6 rfl ?_
  refine z_bipush (v := 7) d_Mod_many_7 (by decide) ?_
  refine z_icmp_eq d_Mod_many_9 24 (by decide) (fun _ => ?_) (fun h9 => absurd (by decide) h9)
  refine z_iconst (v := 1) d_Mod_many_24 (by decide) ?_
  exact z_iret d_Mod_many_25 rfl (by decide) (by decide) rfl rfl
set_option maxRecDepth 100000 in
set_option maxHeartbeats 4000000 in
theorem c_Mod_many_8 (X : zX) (d : Nat) (h : zH) (N : Nat) : zC X d m_Mod_many 0 0 false [.int 8] h N (some (.int 3)) h N := by
  refine zC_of (by decide) (Nat.le_of_ble_eq_true rfl) ?_
  refine z_iload_n d_Mod_many_0 rfl ?_
  refine z_if_ne d_Mod_many_1 6 (by decide) (fun _ => ?_) (fun h9 => absurd h9 (by decide))
  refine z_iload_n d_Mod_many_6 rfl ?_
  refine z_bipush (v := 7) d_Mod_many_7 (by decide) ?_
  refine z_icmp_eq d_Mod_many_9 24 (by decide) (fun h9 => absurd h9 (by decide)) (fun _ => ?_)
  refine z_iload_n d_Mod_many_12 rfl ?_
  refine z_bipush (v := 19) d_Mod_many_13 (by decide) ?_
  refine z_icmp_eq d_Mod_many_15 24 (by decide) (fun h9 => absurd h9 (by decide)) (fun _ => ?_)
  refine z_iload_n d_Mod_many_18 rfl ?_
  refine z_bipush (v := 21) d_Mod_many_19 (by decide) ?_
  refine z_icmp_ne d_Mod_many_21 26 (by decide) (fun _ => ?_) (fun h9 => absurd h9 (by decide))
  refine z_iload_n d_Mod_many_26 rfl ?_
  refine z_iconst (v := 1) d_Mod_many_27 (by decide) ?_
  refine z_icmp_eq d_Mod_many_28 70 (by decide) (fun h9 => absurd h9 (by decide)) (fun _ => ?_)
  refine z_iload_n d_Mod_many_31 rfl ?_
  refine z_iconst (v := 2) d_Mod_many_32 (by decide) ?_
  refine z_icmp_eq d_Mod_many_33 70 (by decide) (fun h9 => absurd h9 (by decide)) (fun _ => ?_)
  refine z_iload_n d_Mod_many_36 rfl ?_
  refine z_iconst (v := 3) d_Mod_many_37 (by decide) ?_
  refine z_icmp_eq d_Mod_many_38 70 (by decide) (fun h9 => absurd h9 (by decide)) (fun _ => ?_)
  refine z_iload_n d_Mod_many_41 rfl ?_
  refine z_iconst (v := 5) d_Mod_many_42 (by decide) ?_
  refine z_icmp_eq d_Mod_many_43 70 (by decide) (fun h9 => absurd h9 (by decide)) (fun _ => ?_)
  refine z_iload_n d_Mod_many_46 rfl ?_
  refine z_bipush (v := 6) d_Mod_many_47 (by decide) ?_
  refine z_icmp_eq d_Mod_many_49 70 (by decide) (fun h9 => absurd h9 (by decide)) (fun _ => ?_)
  refine z_iload_n d_Mod_many_52 rfl ?_
  refine z_bipush (v := 15) d_Mod_many_53 (by decide) ?_
  refine z_icmp_eq d_Mod_many_55 70 (by decide) (fun h9 => absurd h9 (by decide)) (fun _ => ?_)
  refine z_iload_n d_Mod_many_58 rfl ?_
  refine z_bipush (v := 16) d_Mod_many_59 (by decide) ?_
  refine z_icmp_eq d_Mod_many_61 70 (by decide) (fun h9 => absurd h9 (by decide)) (fun _ => ?_)
  refine z_iload_n d_Mod_many_64 rfl ?_
  refine z_bipush (v := 18) d_Mod_many_65 (by decide) ?_
  refine z_icmp_ne d_Mod_many_67 74 (by decide) (fun _ => ?_) (fun h9 => absurd h9 (by decide))
  refine z_iconst (v := 3) d_Mod_many_74 (by decide) ?_
  exact z_iret d_Mod_many_75 rfl (by decide) (by decide) rfl rfl
set_option maxRecDepth 100000 in
set_option maxHeartbeats 4000000 in
theorem c_Mod_many_9 (X : zX) (d : Nat) (h : zH) (N : Nat) : zC X d m_Mod_many 0 0 false [.int 9] h N (some (.int 3)) h N := by
  refine zC_of (by decide) (Nat.le_of_ble_eq_true rfl) ?_
  refine z_iload_n d_Mod_many_0 rfl ?_
  refine z_if_ne d_Mod_many_1 6 (by decide) (fun _ => ?_) (fun h9 => absurd h9 (by decide))
  refine z_iload_n d_Mod_many_6 rfl ?_
  refine z_bipush (v := 7) d_Mod_many_7 (by decide) ?_
  refine z_icmp_eq d_Mod_many_9 24 (by decide) (fun h9 => absurd h9 (by decide)) (fun _ => ?_)
  refine z_iload_n d_Mod_many_12 rfl ?_
  refine z_bipush (v := 19) d_Mod_many_13 (by decide) ?_
  refine z_icmp_eq d_Mod_many_15 24 (by decide) (fun h9 => absurd h9 (by decide)) (fun _ => ?_)
  refine z_iload_n d_Mod_many_18 rfl ?_
  refine z_bipush (v := 21) d_Mod_many_19 (by decide) ?_
  refine z_icmp_ne d_Mod_many_21 26 (by decide) (fun _ => ?_) (fun h9 => absurd h9 (by decide))
  refine z_iload_n d_Mod_many_26 rfl ?_
  refine z_iconst (v := 1) d_Mod_many_27 (by decide) ?_
  refine z_icmp_eq d_Mod_many_28 70 (by decide) (fun h9 => absurd h9 (by decide)) (fun _ => ?_)
  refine z_iload_n d_Mod_many_31 rfl ?_
  refine z_iconst (v := 2) d_Mod_many_32 (by decide) ?_
  refine z_icmp_eq d_Mod_many_33 70 (by decide) (fun h9 => absurd h9 (by decide)) (fun _ => ?_)
  refine z_iload_n d_Mod_many_36 rfl ?_
  refine z_iconst (v := 3) d_Mod_many_37 (by decide) ?_
  refine z_icmp_eq d_Mod_many_38 70 (by decide) (fun h9 => absurd h9 (by decide)) (fun _ => ?_)
  refine z_iload_n d_Mod_many_41 rfl ?_
  refine z_iconst (v := 5) d_Mod_many_42 (by decide) ?_
  refine z_icmp_eq d_Mod_many_43 70 (by decide) (fun h9 => absurd h9 (by decide)) (fun _ => ?_)
  refine z_iload_n d_Mod_many_46 rfl ?_
  refine z_bipush (v := 6) d_Mod_many_47 (by decide) ?_
  refine z_icmp_eq d_Mod_many_49 70 (by decide) (fun h9 => absurd h9 (by decide)) (fun _ => ?_)
  refine z_iload_n d_Mod_many_52 rfl ?_
  refine z_bipush (v := 15) d_Mod_many_53 (by decide) ?_
  refine z_icmp_eq d_Mod_many_55 70 (by decide) (fun h9 => absurd h9 (by decide)) (fun _ => ?_)
  refine z_iload_n d_Mod_many_58 rfl ?_
  refine z_bipush (v := 16) d_Mod_many_59 (by decide) ?_
  refine z_icmp_eq d_Mod_many_61 70 (by decide) (fun h9 => absurd h9 (by decide)) (fun _ => ?_)
  refine z_iload_n d_Mod_many_64 rfl ?_
  refine z_bipush (v := 18) d_Mod_many_65 (by decide) ?_
  refine z_icmp_ne d_Mod_many_67 74 (by decide) (fun _ => ?_) (fun h9 => absurd h9 (by decide))
  refine z_iconst (v := 3) d_Mod_many_74 (by decide) ?_
  exact z_iret d_Mod_many_75 rfl (by decide) (by decide) rfl rfl
set_option maxRecDepth 100000 in
set_option maxHeartbeats 4000000 in
theorem c_Mod_many_10 (X : zX) (d : Nat) (h : zH) (N : Nat) : zC X d m_Mod_many 0 0 false [.int 10] h N (some (.int 3)) h N := by
  refine zC_of (by decide) (Nat.le_of_ble_eq_true rfl) ?_
  refine z_iload_n d_Mod_many_0 rfl ?_
  refine z_if_ne d_Mod_many_1 6 (by decide) (fun _ => ?_) (fun h9 => absurd h9 (by decide))
  refine z_iload_n d_Mod_many_6 rfl ?_
  refine z_bipush (v := 7) d_Mod_many_7 (by decide) ?_
  refine z_icmp_eq d_Mod_many_9 24 (by decide) (fun h9 => absurd h9 (by decide)) (fun _ => ?_)
  refine z_iload_n d_Mod_many_12 rfl ?_
  refine z_bipush (v := 19) d_Mod_many_13 (by decide) ?_
  refine z_icmp_eq d_Mod_many_15 24 (by decide) (fun h9 => absurd h9 (by decide)) (fun _ => ?_)
  refine z_iload_n d_Mod_many_18 rfl ?_
  refine z_bipush (v := 21) d_Mod_many_19 (by decide) ?_
  refine z_icmp_ne d_Mod_many_21 26 (by decide) (fun _ => ?_) (fun h9 => absurd h9 (by decide))
  refine z_iload_n d_Mod_many_26 rfl ?_
  refine z_iconst (v := 1) d_Mod_many_27 (by decide) ?_
  refine z_icmp_eq d_Mod_many_28 70 (by decide) (fun h9 => absurd h9 (by decide)) (fun _ => ?_)
  refine z_iload_n d_Mod_many_31 rfl ?_
  refine z_iconst (v := 2) d_Mod_many_32 (by decide) ?_
  refine z_icmp_eq d_Mod_many_33 70 (by decide) (fun h9 => absurd h9 (by decide)) (fun _ => ?_)
  refine z_iload_n d_Mod_many_36 rfl ?_
  refine z_iconst (v := 3) d_Mod_many_37 (by decide) ?_
  refine z_icmp_eq d_Mod_many_38 70 (by decide) (fun h9 => absurd h9 (by decide)) (fun _ => ?_)
  refine z_iload_n d_Mod_many_41 rfl ?_
  refine z_iconst (v := 5) d_Mod_many_42 (by decide) ?_
  refine z_icmp_eq d_Mod_many_43 70 (by decide) (fun h9 => absurd h9 (by decide)) (fun _ => ?_)
  refine z_iload_n d_Mod_many_46 rfl ?_
  refine z_bipush (v := 6) d_Mod_many_47 (by decide) ?_
  refine z_icmp_eq d_Mod_many_49 70 (by decide) (fun h9 => absurd h9 (by decide)) (fun _ => ?_)
  refine z_iload_n d_Mod_many_52 rfl ?_
  refine z_bipush (v := 15) d_Mod_many_53 (by decide) ?_
  refine z_icmp_eq d_Mod_many_55 70 (by decide) (fun h9 => absurd h9 (by decide)) (fun _ => ?_)
  refine z_iload_n d_Mod_many_58 rfl ?_
  refine z_bipush (v := 16) d_Mod_many_59 (by decide) ?_
  refine z_icmp_eq d_Mod_many_61 70 (by decide) (fun h9 => absurd h9 (by decide)) (fun _ => ?_)
  refine z_iload_n d_Mod_many_64 rfl ?_
  refine z_bipush (v := 18) d_Mod_many_65 (by decide) ?_
  refine z_icmp_ne d_Mod_many_67 74 (by decide) (fun _ => ?_) (fun h9 => absurd h9 (by decide))
  refine z_iconst (v := 3) d_Mod_many_74 (by decide) ?_
  exact z_iret d_Mod_many_75 rfl (by decide) (by decide) rfl rfl
set_option maxRecDepth 100000 in
set_option maxHeartbeats 4000000 in
theorem c_Mod_many_11 (X : zX) (d : Nat) (h : zH) (N : Nat) : zC X d m_Mod_many 0 0 false [.int 11] h N (some (.int 3)) h N := by
  refine zC_of (by decide) (Nat.le_of_ble_eq_true rfl) ?_
  refine z_iload_n d_Mod_many_0 rfl ?_
  refine z_if_ne d_Mod_many_1 6 (by decide) (fun _ => ?_) (fun h9 => absurd h9 (by decide))
  refine z_iload_n d_Mod_many_6 rfl ?_
  refine z_bipush (v := 7) d_Mod_many_7 (by decide) ?_
  refine z_icmp_eq d_Mod_many_9 24 (by decide) (fun h9 => absurd h9 (by decide)) (fun _ => ?_)
  refine z_iload_n d_Mod_many_12 rfl ?_
  refine z_bipush (v := 19) d_Mod_many_13 (by decide) ?_
  refine z_icmp_eq d_Mod_many_15 24 (by decide) (fun h9 => absurd h9 (by decide)) (fun _ => ?_)
  refine z_iload_n d_Mod_many_18 rfl ?_
  refine z_bipush (v := 21) d_Mod_many_19 (by decide) ?_
  refine z_icmp_ne d_Mod_many_21 26 (by decide) (fun _ => ?_) (fun h9 => absurd h9 (by decide))
  refine z_iload_n d_Mod_many_26 rfl ?_
  refine z_iconst (v := 1) d_Mod_many_27 (by decide) ?_
  refine z_icmp_eq d_Mod_many_28 70 (by decide) (fun h9 => absurd h9 (by decide)) (fun _ => ?_)
  refine z_iload_n d_Mod_many_31 rfl ?_
  refine z_iconst (v := 2) d_Mod_many_32 (by decide) ?_
  refine z_icmp_eq d_Mod_many_33 70 (by decide) (fun h9 => absurd h9 (by decide)) (fun _ => ?_)
  refine z_iload_n d_Mod_many_36 rfl ?_
  refine z_iconst (v := 3) d_Mod_many_37 (by decide) ?_
  refine z_icmp_eq d_Mod_many_38 70 (by decide) (fun h9 => absurd h9 (by decide)) (fun _ => ?_)
  refine z_iload_n d_Mod_many_41 rfl ?_
  refine z_iconst (v := 5) d_Mod_many_42 (by decide) ?_
  refine z_icmp_eq d_Mod_many_43 70 (by decide) (fun h9 => absurd h9 (by decide)) (fun _ => ?_)
  refine z_iload_n d_Mod_many_46 rfl ?_
  refine z_bipush (v := 6) d_Mod_many_47 (by decide) ?_
  refine z_icmp_eq d_Mod_many_49 70 (by decide) (fun h9 => absurd h9 (by decide)) (fun _ => ?_)
  refine z_iload_n d_Mod_many_52 rfl ?_
  refine z_bipush (v := 15) d_Mod_many_53 (by decide) ?_
  refine z_icmp_eq d_Mod_many_55 70 (by decide) (fun h9 => absurd h9 (by decide)) (fun _ => ?_)
  refine z_iload_n d_Mod_many_58 rfl ?_
  refine z_bipush (v := 16) d_Mod_many_59 (by decide) ?_
  refine z_icmp_eq d_Mod_many_61 70 (by decide) (fun h9 => absurd h9 (by decide)) (fun _ => ?_)
  refine z_iload_n d_Mod_many_64 rfl ?_
  refine z_bipush (v := 18) d_Mod_many_65 (by decide) ?_
  refine z_icmp_ne d_Mod_many_67 74 (by decide) (fun _ => ?_) (fun h9 => absurd h9 (by decide))
  refine z_iconst (v := 3) d_Mod_many_74 (by decide) ?_
  exact z_iret d_Mod_many_75 rfl (by decide) (by decide) rfl rfl
set_option maxRecDepth 100000 in
set_option maxHeartbeats 4000000 in
theorem c_Mod_many_12 (X : zX) (d : Nat) (h : zH) (N : Nat) : zC X d m_Mod_many 0 0 false [.int 12] h N (some (.int 3)) h N := by
  refine zC_of (by decide) (Nat.le_of_ble_eq_true rfl) ?_
  refine z_iload_n d_Mod_many_0 rfl ?_
  refine z_if_ne d_Mod_many_1 6 (by decide) (fun _ => ?_) (fun h9 => absurd h9 (by decide))
  refine z_iload_n d_Mod_many_6 rfl ?_
  refine z_bipush (v := 7) d_Mod_many_7 (by decide) ?_
  refine z_icmp_eq d_Mod_many_9 24 (by decide) (fun h9 => absurd h9 (by decide)) (fun _ => ?_)
  refine z_iload_n d_Mod_many_12 rfl ?_
  refine z_bipush (v := 19) d_Mod_many_13 (by decide) ?_
  refine z_icmp_eq d_Mod_many_15 24 (by decide) (fun h9 => absurd h9 (by decide)) (fun _ => ?_)
  refine z_iload_n d_Mod_many_18 rfl ?_
  refine z_bipush (v := 21) d_Mod_many_19 (by decide) ?_
  refine z_icmp_ne d_Mod_many_21 26 (by decide) (fun _ => ?_) (fun h9 => absurd h9 (by decide))
  refine z_iload_n d_Mod_many_26 rfl ?_
  refine z_iconst (v := 1) d_Mod_many_27 (by decide) ?_
  refine z_icmp_eq d_Mod_many_28 70 (by decide) (fun h9 => absurd h9 (by decide)) (fun _ => ?_)
  refine z_iload_n d_Mod_many_31 rfl ?_
  refine z_iconst (v := 2) d_Mod_many_32 (by decide) ?_
  refine z_icmp_eq d_Mod_many_33 70 (by decide) (fun h9 => absurd h9 (by decide)) (fun _ => ?_)
  refine z_iload_n d_Mod_many_36 rfl ?_
  refine z_iconst (v := 3) d_Mod_many_37 (by decide) ?_
  refine z_icmp_eq d_Mod_many_38 70 (by decide) (fun h9 => absurd h9 (by decide)) (fun _ => ?_)
  refine z_iload_n d_Mod_many_41 rfl ?_
  refine z_iconst (v := 5) d_Mod_many_42 (by decide) ?_
  refine z_icmp_eq d_Mod_many_43 70 (by decide) (fun h9 => absurd h9 (by decide)) (fun _ => ?_)
  refine z_iload_n d_Mod_many_46 rfl ?_
  refine z_bipush (v := 6) d_Mod_many_47 (by decide) ?_
  refine z_icmp_eq d_Mod_many_49 70 (by decide) (fun h9 => absurd h9 (by decide)) (fun _ => ?_)
  refine z_iload_n d_Mod_many_52 rfl ?_
  refine z_bipush (v := 15) d_Mod_many_53 (by decide) ?_
  refine z_icmp_eq d_Mod_many_55 70 (by decide) (fun h9 => absurd h9 (by decide)) (fun _ => ?_)
  refine z_iload_n d_Mod_many_58 rfl ?_
  refine z_bipush (v := 16) d_Mod_many_59 (by decide) ?_
  refine z_icmp_eq d_Mod_many_61 70 (by decide) (fun h9 => absurd h9 (by decide)) (fun _ => ?_)
  refine z_iload_n d_Mod_many_64 rfl ?_
  refine z_bipush (v := 18) d_Mod_many_65 (by decide) ?_
  refine z_icmp_ne d_Mod_many_67 74 (by decide) (fun _ => ?_) (fun h9 => absurd h9 (by decide))
  refine z_iconst (v := 3) d_Mod_many_74 (by decide) ?_
  exact z_iret d_Mod_many_75 rfl (by decide) (by decide) rfl rfl
set_option maxRecDepth 100000 in
set_option maxHeartbeats 4000000 in
theorem c_Mod_many_13 (X : zX) (d : Nat) (h : zH) (N : Nat) : zC X d m_Mod_many 0 0 false [.int 13] h N (some (.int 3)) h N := by
  refine zC_of (by decide) (Nat.le_of_ble_eq_true rfl) ?_
  refine z_iload_n d_Mod_many_0 rfl ?_
  refine z_if_ne d_Mod_many_1 6 (by decide) (fun _ => ?_) (fun h9 => absurd h9 (by decide))
  refine z_iload_n d_Mod_many_6 rfl ?_
  refine z_bipush (v := 7) d_Mod_many_7 (by decide) ?_
  refine z_icmp_eq d_Mod_many_9 24 (by decide) (fun h9 => absurd h9 (by decide)) (fun _ => ?_)
  refine z_iload_n d_Mod_many_12 rfl ?_
  refine z_bipush (v := 19) d_Mod_many_13 (by decide) ?_
  refine z_icmp_eq d_Mod_many_15 24 (by decide) (fun h9 => absurd h9 (by decide)) (fun _ => ?_)
  refine z_iload_n d_Mod_many_18 rfl ?_
  refine z_bipush (v := 21) d_Mod_many_19 (by decide) ?_
  refine z_icmp_ne d_Mod_many_21 26 (by decide) (fun _ => ?_) (fun h9 => absurd h9 (by decide))
  refine z_iload_n d_Mod_many_26 rfl ?_
  refine z_iconst (v := 1) d_Mod_many_27 (by decide) ?_
  refine z_icmp_eq d_Mod_many_28 70 (by decide) (fun h9 => absurd h9 (by decide)) (fun _ => ?_)
  refine z_iload_n d_Mod_many_31 rfl ?_
  refine z_iconst (v := 2) d_Mod_many_32 (by decide) ?_
  refine z_icmp_eq d_Mod_many_33 70 (by decide) (fun h9 => absurd h9 (by decide)) (fun _ => ?_)
  refine z_iload_n d_Mod_many_36 rfl ?_
  refine z_iconst (v := 3) d_Mod_many_37 (by decide) ?_
  refine z_icmp_eq d_Mod_many_38 70 (by decide) (fun h9 => absurd h9 (by decide)) (fun _ => ?_)
  refine z_iload_n d_Mod_many_41 rfl ?_
  refine z_iconst (v := 5) d_Mod_many_42 (by decide) ?_
  refine z_icmp_eq d_Mod_many_43 70 (by decide) (fun h9 => absurd h9 (by decide)) (fun _ => ?_)
  refine z_iload_n d_Mod_many_46 rfl ?_
  refine z_bipush (v := 6) d_Mod_many_47 (by decide) ?_
  refine z_icmp_eq d_Mod_many_49 70 (by decide) (fun h9 => absurd h9 (by decide)) (fun _ => ?_)
  refine z_iload_n d_Mod_many_52 rfl ?_
  refine z_bipush (v := 15) d_Mod_many_53 (by decide) ?_
  refine z_icmp_eq d_Mod_many_55 70 (by decide) (fun h9 => absurd h9 (by decide)) (fun _ => ?_)
  refine z_iload_n d_Mod_many_58 rfl ?_
  refine z_bipush (v := 16) d_Mod_many_59 (by decide) ?_
  refine z_icmp_eq d_Mod_many_61 70 (by decide) (fun h9 => absurd h9 (by decide)) (fun _ => ?_)
  refine z_iload_n d_Mod_many_64 rfl ?_
  refine z_bipush (v := 18) d_Mod_many_65 (by decide) ?_
  refine z_icmp_ne d_Mod_many_67 74 (by decide) (fun _ => ?_) (fun h9 => absurd h9 (by decide))
  refine z_iconst (v := 3) d_Mod_many_74 (by decide) ?_
  exact z_iret d_Mod_many_75 rfl (by decide) (by decide) rfl rfl
set_option maxRecDepth 100000 in
set_option maxHeartbeats 4000000 in
theorem c_Mod_many_14 (X : zX) (d : Nat) (h : zH) (N : Nat) : zC X d m_Mod_many 0 0 false [.int 14] h N (some (.int 3)) h N := by
  refine zC_of (by decide) (Nat.le_of_ble_eq_true rfl) ?_
  refine z_iload_n d_Mod_many_0 rfl ?_
  refine z_if_ne d_Mod_many_1 6 (by decide) (fun _ => ?_) (fun h9 => absurd h9 (by decide))
  refine z_iload_n d_Mod_many_6 rfl ?_
  refine z_bipush (v := 7) d_Mod_many_7 (by decide) ?_
  refine z_icmp_eq d_Mod_many_9 24 (by decide) (fun h9 => absurd h9 (by decide)) (fun _ => ?_)
  refine z_iload_n d_Mod_many_12 rfl ?_
  refine z_bipush (v := 19) d_Mod_many_13 (by decide) ?_
  refine z_icmp_eq d_Mod_many_15 24 (by decide) (fun h9 => absurd h9 (by decide)) (fun _ => ?_)
  refine z_iload_n d_Mod_many_18 rfl ?_
  refine z_bipush (v := 21) d_Mod_many_19 (by decide) ?_
  refine z_icmp_ne d_Mod_many_21 26 (by decide) (fun _ => ?_) (fun h9 => absurd h9 (by decide))
  refine z_iload_n d_Mod_many_26 rfl ?_
  refine z_iconst (v := 1) d_Mod_many_27 (by decide) ?_
  refine z_icmp_eq d_Mod_many_28 70 (by decide) (fun h9 => absurd h9 (by decide)) (fun _ => ?_)
  refine z_iload_n d_Mod_many_31 rfl ?_
  refine z_iconst (v := 2) d_Mod_many_32 (by decide) ?_
  refine z_icmp_eq d_Mod_many_33 70 (by decide) (fun h9 => absurd h9 (by decide)) (fun _ => ?_)
  refine z_iload_n d_Mod_many_36 rfl ?_
  refine z_iconst (v := 3) d_Mod_many_37 (by decide) ?_
  refine z_icmp_eq d_Mod_many_38 70 (by decide) (fun h9 => absurd h9 (by decide)) (fun _ => ?_)
  refine z_iload_n d_Mod_many_41 rfl ?_
  refine z_iconst (v := 5) d_Mod_many_42 (by decide) ?_
  refine z_icmp_eq d_Mod_many_43 70 (by decide) (fun h9 => absurd h9 (by decide)) (fun _ => ?_)
  refine z_iload_n d_Mod_many_46 rfl ?_
  refine z_bipush (v := 6) d_Mod_many_47 (by decide) ?_
  refine z_icmp_eq d_Mod_many_49 70 (by decide) (fun h9 => absurd h9 (by decide)) (fun _ => ?_)
  refine z_iload_n d_Mod_many_52 rfl ?_
  refine z_bipush (v := 15) d_Mod_many_53 (by decide) ?_
  refine z_icmp_eq d_Mod_many_55 70 (by decide) (fun h9 => absurd h9 (by decide)) (fun _ => ?_)
  refine z_iload_n d_Mod_many_58 rfl ?_
  refine z_bipush (v := 16) d_Mod_many_59 (by decide) ?_
  refine z_icmp_eq d_Mod_many_61 70 (by decide) (fun h9 => absurd h9 (by decide)) (fun _ => ?_)
  refine z_iload_n d_Mod_many_64 rfl ?_
  refine z_bipush (v := 18) d_Mod_many_65 (by decide) ?_
  refine z_icmp_ne d_Mod_many_67 74 (by decide) (fun _ => ?_) (fun h9 => absurd h9 (by decide))
  refine z_iconst (v := 3) d_Mod_many_74 (by decide) ?_
  exact z_iret d_Mod_many_75 rfl (by decide) (by decide) rfl rfl
set_option maxRecDepth 100000 in
set_option maxHeartbeats 4000000 in
theorem c_Mod_many_15 (X : zX) (d : Nat) (h : zH) (N : Nat) : zC X d m_Mod_many 0 0 false [.int 15] h N (some (.int 2)) h N := by
  refine zC_of (by decide) (Nat.le_of_ble_eq_true rfl) ?_
  refine z_iload_n d_Mod_many_0 rfl ?_
  refine z_if_ne d_Mod_many_1 6 (by decide) (fun _ => ?_) (fun h9 => absurd h9 (by decide))
  refine z_iload_n d_Mod_many_6 rfl ?_
  refine z_bipush (v := 7) d_Mod_many_7 (by decide) ?_
  refine z_icmp_eq d_Mod_many_9 24 (by decide) (fun h9 => absurd h9 (by decide)) (fun _ => ?_)
  refine z_iload_n d_Mod_many_12 rfl ?_
  refine z_bipush (v := 19) d_Mod_many_13 (by decide) ?_
  refine z_icmp_eq d_Mod_many_15 24 (by decide) (fun h9 => absurd h9 (by decide)) (fun _ => ?_)
  refine z_iload_n d_Mod_many_18 rfl ?_
  refine z_bipush (v := 21) d_Mod_many_19 (by decide) ?_
  refine z_icmp_ne d_Mod_many_21 26 (by decide) (fun _ => ?_) (fun h9 => absurd h9 (by decide))
  refine z_iload_n d_Mod_many_26 rfl ?_
  refine z_iconst (v := 1) d_Mod_many_27 (by decide) ?_
  refine z_icmp_eq d_Mod_many_28 70 (by decide) (fun h9 => absurd h9 (by decide)) (fun _ => ?_)
  refine z_iload_n d_Mod_many_31 rfl ?_
  refine z_iconst (v := 2) d_Mod_many_32 (by decide) ?_
  refine z_icmp_eq d_Mod_many_33 70 (by decide) (fun h9 => absurd h9 (by decide)) (fun _ => ?_)
  refine z_iload_n d_Mod_many_36 rfl ?_
  refine z_iconst (v := 3) d_Mod_many_37 (by decide) ?_
  refine z_icmp_eq d_Mod_many_38 70 (by decide) (fun h9 => absurd h9 (by decide)) (fun _ => ?_)
  refine z_iload_n d_Mod_many_41 rfl ?_
  refine z_iconst (v := 5) d_Mod_many_42 (by decide) ?_
  refine z_icmp_eq d_Mod_many_43 70 (by decide) (fun h9 => absurd h9 (by decide)) (fun _ => ?_)
  refine z_iload_n d_Mod_many_46 rfl ?_
  refine z_bipush (v := 6) d_Mod_many_47 (by decide) ?_
  refine z_icmp_eq d_Mod_many_49 70 (by decide) (fun h9 => absurd h9 (by decide)) (fun _ => ?_)
  refine z_iload_n d_Mod_many_52 rfl ?_
  refine z_bipush (v := 15) d_Mod_many_53 (by decide) ?_
  refine z_icmp_eq d_Mod_many_55 70 (by decide) (fun _ => ?_) (fun h9 => absurd (by decide) h9)
  refine z_iconst (v := 2) d_Mod_many_70 (by decide) ?_
  refine z_goto d_Mod_many_71 75 (by decide) ?_
  exact z_iret d_Mod_many_75 rfl (by decide) (by decide) rfl rfl
set_option maxRecDepth 100000 in
set_option maxHeartbeats 4000000 in
theorem c_Mod_many_16 (X : zX) (d : Nat) (h : zH) (N : Nat) : zC X d m_Mod_many 0 0 false [.int 16] h N (some (.int 2)) h N := by
  refine zC_of (by decide) (Nat.le_of_ble_eq_true rfl) ?_
  refine z_iload_n d_Mod_many_0 rfl ?_
  refine z_if_ne d_Mod_many_1 6 (by decide) (fun _ => ?_) (fun h9 => absurd h9 (by decide))
  refine z_iload_n d_Mod_many_6 rfl ?_
  refine z_bipush (v := 7) d_Mod_many_7 (by decide) ?_
  refine z_icmp_eq d_Mod_many_9 24 (by decide) (fun h9 => absurd h9 (by decide)) (fun _ => ?_)
  refine z_iload_n d_Mod_many_12 rfl ?_
  refine z_bipush (v := 19) d_Mod_many_13 (by decide) ?_
  refine z_icmp_eq d_Mod_many_15 24 (by decide) (fun h9 => absurd h9 (by decide)) (fun _ => ?_)
  refine z_iload_n d_Mod_many_18 rfl ?_
  refine z_bipush (v := 21) d_Mod_many_19 (by decide) ?_
  refine z_icmp_ne d_Mod_many_21 26 (by decide) (fun _ => ?_) (fun h9 => absurd h9 (by decide))
  refine z_iload_n d_Mod_many_26 rfl ?_
  refine z_iconst (v := 1) d_Mod_many_27 (by decide) ?_
  refine z_icmp_eq d_Mod_many_28 70 (by decide) (fun h9 => absurd h9 (by decide)) (fun _ => ?_)
  refine z_iload_n d_Mod_many_31 rfl ?_
  refine z_iconst (v := 2) d_Mod_many_32 (by decide) ?_
  refine z_icmp_eq d_Mod_many_33 70 (by decide) (fun h9 => absurd h9 (by decide)) (fun _ => ?_)
  refine z_iload_n d_Mod_many_36 rfl ?_
  refine z_iconst (v := 3) d_Mod_many_37 (by decide) ?_
  refine z_icmp_eq d_Mod_many_38 70 (by decide) (fun h9 => absurd h9 (by decide)) (fun _ => ?_)
  refine z_iload_n d_Mod_many_41 rfl ?_
  refine z_iconst (v := 5) d_Mod_many_42 (by decide) ?_
  refine z_icmp_eq d_Mod_many_43 70 (by decide) (fun h9 => absurd h9 (by decide)) (fun _ => ?_)
  refine z_iload_n d_Mod_many_46 rfl ?_
  refine z_bipush (v := 6) d_Mod_many_47 (by decide) ?_
  refine z_icmp_eq d_Mod_many_49 70 (by decide) (fun h9 => absurd h9 (by decide)) (fun _ => ?_)
  refine z_iload_n d_Mod_many_52 rfl ?_
  refine z_bipush (v := 15) d_Mod_many_53 (by decide) ?_
  refine z_icmp_eq d_Mod_many_55 70 (by decide) (fun h9 => absurd h9 (by decide)) (fun _ => ?_)
  refine z_iload_n d_Mod_many_58 rfl ?_
  refine z_bipush (v := 16) d_Mod_many_59 (by decide) ?_
  refine z_icmp_eq d_Mod_many_61 70 (by decide) (fun _ => ?_) (fun h9 => absurd (by decide) h9)
  refine z_iconst (v := 2) d_Mod_many_70 (by decide) ?_
  refine z_goto d_Mod_many_71 75 (by decide) ?_
  exact z_iret d_Mod_many_75 rfl (by decide) (by decide) rfl rfl
set_option maxRecDepth 100000 in
set_option maxHeartbeats 4000000 in
theorem c_Mod_many_17 (X : zX) (d : Nat) (h : zH) (N : Nat) : zC X d m_Mod_many 0 0 false [.int 17] h N (some (.int 3)) h N := by
  refine zC_of (by decide) (Nat.le_of_ble_eq_true rfl) ?_
  refine z_iload_n d_Mod_many_0 rfl ?_
  refine z_if_ne d_Mod_many_1 6 (by decide) (fun _ => ?_) (fun h9 => absurd h9 (by decide))
  refine z_iload_n d_Mod_many_6 rfl ?_
  refine z_bipush (v := 7) d_Mod_many_7 (by decide) ?_
  refine z_icmp_eq d_Mod_many_9 24 (by decide) (fun h9 => absurd h9 (by decide)) (fun _ => ?_)
  refine z_iload_n d_Mod_many_12 rfl ?_
  refine z_bipush (v := 19) d_Mod_many_13 (by decide) ?_
  refine z_icmp_eq d_Mod_many_15 24 (by decide) (fun h9 => absurd h9 (by decide)) (fun _ => ?_)
  refine z_iload_n d_Mod_many_18 rfl ?_
  refine z_bipush (v := 21) d_Mod_many_19 (by decide) ?_
  refine z_icmp_ne d_Mod_many_21 26 (by decide) (fun _ => ?_) (fun h9 => absurd h9 (by decide))
  refine z_iload_n d_Mod_many_26 rfl ?_
  refine z_iconst (v := 1) d_Mod_many_27 (by decide) ?_
  refine z_icmp_eq d_Mod_many_28 70 (by decide) (fun h9 => absurd h9 (by decide)) (fun _ => ?_)
  refine z_iload_n d_Mod_many_31 rfl ?_
  refine z_iconst (v := 2) d_Mod_many_32 (by decide) ?_
  refine z_icmp_eq d_Mod_many_33 70 (by decide) (fun h9 => absurd h9 (by decide)) (fun _ => ?_)
  refine z_iload_n d_Mod_many_36 rfl ?_
  refine z_iconst (v := 3) d_Mod_many_37 (by decide) ?_
  refine z_icmp_eq d_Mod_many_38 70 (by decide) (fun h9 => absurd h9 (by decide)) (fun _ => ?_)
  refine z_iload_n d_Mod_many_41 rfl ?_
  refine z_iconst (v := 5) d_Mod_many_42 (by decide) ?_
  refine z_icmp_eq d_Mod_many_43 70 (by decide) (fun h9 => absurd h9 (by decide)) (fun _ => ?_)
  refine z_iload_n d_Mod_many_46 rfl ?_
  refine z_bipush (v := 6) d_Mod_many_47 (by decide) ?_
  refine z_icmp_eq d_Mod_many_49 70 (by decide) (fun h9 => absurd h9 (by decide)) (fun _ => ?_)
  refine z_iload_n d_Mod_many_52 rfl ?_
  refine z_bipush (v := 15) d_Mod_many_53 (by decide) ?_
  refine z_icmp_eq d_Mod_many_55 70 (by decide) (fun h9 => absurd h9 (by decide)) (fun _ => ?_)
  refine z_iload_n d_Mod_many_58 rfl ?_
  refine z_bipush (v := 16) d_Mod_many_59 (by decide) ?_
  refine z_icmp_eq d_Mod_many_61 70 (by decide) (fun h9 => absurd h9 (by decide)) (fun _ => ?_)
  refine z_iload_n d_Mod_many_64 rfl ?_
  refine z_bipush (v := 18) d_Mod_many_65 (by decide) ?_
  refine z_icmp_ne d_Mod_many_67 74 (by decide) (fun _ => ?_) (fun h9 => absurd h9 (by decide))
  refine z_iconst (v := 3) d_Mod_many_74 (by decide) ?_
  exact z_iret d_Mod_many_75 rfl (by decide) (by decide) rfl rfl
set_option maxRecDepth 100000 in
set_option maxHeartbeats 4000000 in
theorem c_Mod_many_18 (X : zX) (d : Nat) (h : zH) (N : Nat) : zC X d m_Mod_many 0 0 false [.int 18] h N (some (.int 2)) h N := by
  refine zC_of (by decide) (Nat.le_of_ble_eq_true rfl) ?_
  refine z_iload_n d_Mod_many_0 rfl ?_
  refine z_if_ne d_Mod_many_1 6 (by decide) (fun _ => ?_) (fun h9 => absurd h9 (by decide))
  refine z_iload_n d_Mod_many_6 rfl ?_
  refine z_bipush (v := 7) d_Mod_many_7 (by decide) ?_
  refine z_icmp_eq d_Mod_many_9 24 (by decide) (fun h9 => absurd h9 (by decide)) (fun _ => ?_)
  refine z_iload_n d_Mod_many_12 rfl ?_
  refine z_bipush (v := 19) d_Mod_many_13 (by decide) ?_
  refine z_icmp_eq d_Mod_many_15 24 (by decide) (fun h9 => absurd h9 (by decide)) (fun _ => ?_)
  refine z_iload_n d_Mod_many_18 rfl ?_
  refine z_bipush (v := 21) d_Mod_many_19 (by decide) ?_
  refine z_icmp_ne d_Mod_many_21 26 (by decide) (fun _ => ?_) (fun h9 => absurd h9 (by decide))
  refine z_iload_n d_Mod_many_26 rfl ?_
  refine z_iconst (v := 1) d_Mod_many_27 (by decide) ?_
  refine z_icmp_eq d_Mod_many_28 70 (by decide) (fun h9 => absurd h9 (by decide)) (fun _ => ?_)
  refine z_iload_n d_Mod_many_31 rfl ?_
  refine z_iconst (v := 2) d_Mod_many_32 (by decide) ?_
  refine z_icmp_eq d_Mod_many_33 70 (by decide) (fun h9 => absurd h9 (by decide)) (fun _ => ?_)
  refine z_iload_n d_Mod_many_36 rfl ?_
  refine z_iconst (v := 3) d_Mod_many_37 (by decide) ?_
  refine z_icmp_eq d_Mod_many_38 70 (by decide) (fun h9 => absurd h9 (by decide)) (fun _ => ?_)
  refine z_iload_n d_Mod_many_41 rfl ?_
  refine z_iconst (v := 5) d_Mod_many_42 (by decide) ?_
  refine z_icmp_eq d_Mod_many_43 70 (by decide) (fun h9 => absurd h9 (by decide)) (fun _ => ?_)
  refine z_iload_n d_Mod_many_46 rfl ?_
  refine z_bipush (v := 6) d_Mod_many_47 (by decide) ?_
  refine z_icmp_eq d_Mod_many_49 70 (by decide) (fun h9 => absurd h9 (by decide)) (fun _ => ?_)
  refine z_iload_n d_Mod_many_52 rfl ?_
  refine z_bipush (v := 15) d_Mod_many_53 (by decide) ?_
  refine z_icmp_eq d_Mod_many_55 70 (by decide) (fun h9 => absurd h9 (by decide)) (fun _ => ?_)
  refine z_iload_n d_Mod_many_58 rfl ?_
  refine z_bipush (v := 16) d_Mod_many_59 (by decide) ?_
  refine z_icmp_eq d_Mod_many_61 70 (by decide) (fun h9 => absurd h9 (by decide)) (fun _ => ?_)
  refine z_iload_n d_Mod_many_64 rfl ?_
  refine z_bipush (v := 18) d_Mod_many_65 (by decide) ?_
  refine z_icmp_ne d_Mod_many_67 74 (by decide) (fun h9 => absurd h9 (by decide)) (fun _ => ?_)
  refine z_iconst (v := 2) d_Mod_many_70 (by decide) ?_
  refine z_goto d_Mod_many_71 75 (by decide) ?_
  exact z_iret d_Mod_many_75 rfl (by decide) (by decide) rfl rfl
set_option maxRecDepth 100000 in
set_option maxHeartbeats 4000000 in
theorem c_Mod_many_19 (X : zX) (d : Nat) (h : zH) (N : Nat) : zC X d m_Mod_many 0 0 false [.int 19] h N (some (.int 1)) h N := by
  refine zC_of (by decide) (Nat.le_of_ble_eq_true rfl) ?_
  refine z_iload_n d_Mod_many_0 rfl ?_
  refine z_if_ne d_Mod_many_1 6 (by decide) (fun _ => ?_) (fun h9 => absurd h9 (by decide))
  refine z_iload_n d_Mod_many_6 rfl ?_
  refine z_bipush (v := 7) d_Mod_many_7 (by decide) ?_
  refine z_icmp_eq d_Mod_many_9 24 (by decide) (fun h9 => absurd h9 (by decide)) (fun _ => ?_)
  refine z_iload_n d_Mod_many_12 rfl ?_
  refine z_bipush (v := 19) d_Mod_many_13 (by decide) ?_
  refine z_icmp_eq d_Mod_many_15 24 (by decide) (fun _ => ?_) (fun h9 => absurd (by decide) h9)
  refine z_iconst (v := 1) d_Mod_many_24 (by decide) ?_
  exact z_iret d_Mod_many_25 rfl (by decide) (by decide) rfl rfl
set_option maxRecDepth 100000 in
set_option maxHeartbeats 4000000 in
theorem c_Mod_many_20 (X : zX) (d : Nat) (h : zH) (N : Nat) : zC X d m_Mod_many 0 0 false [.int 20] h N (some (.int 3)) h N := by
  refine zC_of (by decide) (Nat.le_of_ble_eq_true rfl) ?_
  refine z_iload_n d_Mod_many_0 rfl ?_
  refine z_if_ne d_Mod_many_1 6 (by decide) (fun _ => ?_) (fun h9 => absurd h9 (by decide))
  refine z_iload_n d_Mod_many_6 rfl ?_
  refine z_bipush (v := 7) d_Mod_many_7 (by decide) ?_
  refine z_icmp_eq d_Mod_many_9 24 (by decide) (fun h9 => absurd h9 (by decide)) (fun _ => ?_)
  refine z_iload_n d_Mod_many_12 rfl ?_
  refine z_bipush (v := 19) d_Mod_many_13 (by decide) ?_
  refine z_icmp_eq d_Mod_many_15 24 (by decide) (fun h9 => absurd h9 (by decide)) (fun _ => ?_)
  refine z_iload_n d_Mod_many_18 rfl ?_
  refine z_bipush (v := 21) d_Mod_many_19 (by decide) ?_
  refine z_icmp_ne d_Mod_many_21 26 (by decide) (fun _ => ?_) (fun h9 => absurd h9 (by decide))
  refine z_iload_n d_Mod_many_26 rfl ?_
  refine z_iconst (v := 1) d_Mod_many_27 (by decide) ?_
  refine z_icmp_eq d_Mod_many_28 70 (by decide) (fun h9 => absurd h9 (by decide)) (fun _ => ?_)
  refine z_iload_n d_Mod_many_31 rfl ?_
  refine z_iconst (v := 2) d_Mod_many_32 (by decide) ?_
  refine z_icmp_eq d_Mod_many_33 70 (by decide) (fun h9 => absurd h9 (by decide)) (fun _ => ?_)
  refine z_iload_n d_Mod_many_36 rfl ?_
  refine z_iconst (v := 3) d_Mod_many_37 (by decide) ?_
  refine z_icmp_eq d_Mod_many_38 70 (by decide) (fun h9 => absurd h9 (by decide)) (fun _ => ?_)
  refine z_iload_n d_Mod_many_41 rfl ?_
  refine z_iconst (v := 5) d_Mod_many_42 (by decide) ?_
  refine z_icmp_eq d_Mod_many_43 70 (by decide) (fun h9 => absurd h9 (by decide)) (fun _ => ?_)
  refine z_iload_n d_Mod_many_46 rfl ?_
  refine z_bipush (v := 6) d_Mod_many_47 (by decide) ?_
  refine z_icmp_eq d_Mod_many_49 70 (by decide) (fun h9 => absurd h9 (by decide)) (fun _ => ?_)
  refine z_iload_n d_Mod_many_52 rfl ?_
  refine z_bipush (v := 15) d_Mod_many_53 (by decide) ?_
  refine z_icmp_eq d_Mod_many_55 70 (by decide) (fun h9 => absurd h9 (by decide)) (fun _ => ?_)
  refine z_iload_n d_Mod_many_58 rfl ?_
  refine z_bipush (v := 16) d_Mod_many_59 (by decide) ?_
  refine z_icmp_eq d_Mod_many_61 70 (by decide) (fun h9 => absurd h9 (by decide)) (fun _ => ?_)
  refine z_iload_n d_Mod_many_64 rfl ?_
  refine z_bipush (v := 18) d_Mod_many_65 (by decide) ?_
  refine z_icmp_ne d_Mod_many_67 74 (by decide) (fun _ => ?_) (fun h9 => absurd h9 (by decide))
  refine z_iconst (v := 3) d_Mod_many_74 (by decide) ?_
  exact z_iret d_Mod_many_75 rfl (by decide) (by decide) rfl rfl
set_option maxRecDepth 100000 in
set_option maxHeartbeats 4000000 in
theorem c_Mod_many_21 (X : zX) (d : Nat) (h : zH) (N : Nat) : zC X d m_Mod_many 0 0 false [.int 21] h N (some (.int 1)) h N := by
  refine zC_of (by decide) (Nat.le_of_ble_eq_true rfl) ?_
  refine z_iload_n d_Mod_many_0 rfl ?_
  refine z_if_ne d_Mod_many_1 6 (by decide) (fun _ => ?_) (fun h9 => absurd h9 (by decide))
  refine z_iload_n d_Mod_many_6 rfl ?_
  refine z_bipush (v := 7) d_Mod_many_7 (by decide) ?_
  refine z_icmp_eq d_Mod_many_9 24 (by decide) (fun h9 => absurd h9 (by decide)) (fun _ => ?_)
  refine z_iload_n d_Mod_many_12 rfl ?_
  refine z_bipush (v := 19) d_Mod_many_13 (by decide) ?_
  refine z_icmp_eq d_Mod_many_15 24 (by decide) (fun h9 => absurd h9 (by decide)) (fun _ => ?_)
  refine z_iload_n d_Mod_many_18 rfl ?_
  refine z_bipush (v := 21) d_Mod_many_19 (by decide) ?_
  refine z_icmp_ne d_Mod_many_21 26 (by decide) (fun h9 => absurd h9 (by decide)) (fun _ => ?_)
  refine z_iconst (v := 1) d_Mod_many_24 (by decide) ?_
  exact z_iret d_Mod_many_25 rfl (by decide) (by decide) rfl rfl
theorem c_Mod_many (X : zX) (d : Nat) {o : Nat} (ho : o < 22) (h : zH) (N : Nat) : zC X d m_Mod_many 0 0 false [.int (nI o)] h N (some (.int (rMany.getD o 0))) h N := by
  match o, ho with
  | 0, _ => exact c_Mod_many_0 X d h N
  | 1, _ => exact c_Mod_many_1 X d h N
  | 2, _ => exact c_Mod_many_2 X d h N
  | 3, _ => exact c_Mod_many_3 X d h N
  | 4, _ => exact c_Mod_many_4 X d h N
  | 5, _ => exact c_Mod_many_5 X d h N
  | 6, _ => exact c_Mod_many_6 X d h N
  | 7, _ => exact c_Mod_many_7 X d h N
  | 8, _ => exact c_Mod_many_8 X d h N
  | 9, _ => exact c_Mod_many_9 X d h N
  | 10, _ => exact c_Mod_many_10 X d h N
  | 11, _ => exact c_Mod_many_11 X d h N
  | 12, _ => exact c_Mod_many_12 X d h N
  | 13, _ => exact c_Mod_many_13 X d h N
  | 14, _ => exact c_Mod_many_14 X d h N
  | 15, _ => exact c_Mod_many_15 X d h N
  | 16, _ => exact c_Mod_many_16 X d h N
  | 17, _ => exact c_Mod_many_17 X d h N
  | 18, _ => exact c_Mod_many_18 X d h N
  | 19, _ => exact c_Mod_many_19 X d h N
  | 20, _ => exact c_Mod_many_20 X d h N
  | 21, _ => exact c_Mod_many_21 X d h N
  | _ + 22, h9 => exact absurd h9 (by omega)
set_option maxRecDepth 100000 in
set_option maxHeartbeats 4000000 in
theorem c_Mod_goal_0 (X : zX) (d : Nat) (h : zH) (N : Nat) : zC X d m_Mod_goal 0 0 false [.int 0] h N (some (.int 0)) h N := by
  refine zC_of (by decide) (Nat.le_of_ble_eq_true rfl) ?_
  refine z_iload_n d_Mod_goal_0 rfl ?_
  refine z_bipush (v := 19) d_Mod_goal_1 (by decide) ?_
  refine z_icmp_ne d_Mod_goal_3 8 (by decide) (fun _ => ?_) (fun h9 => absurd h9 (by decide))
  refine z_iload_n d_Mod_goal_8 rfl ?_
  refine z_iconst (v := 2) d_Mod_goal_9 (by decide) ?_
  refine z_icmp_eq d_Mod_goal_10 42 (by decide) (fun h9 => absurd h9 (by decide)) (fun _ => ?_)
  refine z_iload_n d_Mod_goal_13 rfl ?_
  refine z_iconst (v := 3) d_Mod_goal_14 (by decide) ?_
  refine z_icmp_eq d_Mod_goal_15 42 (by decide) (fun h9 => absurd h9 (by decide)) (fun _ => ?_)
  refine z_iload_n d_Mod_goal_18 rfl ?_
  refine z_bipush (v := 8) d_Mod_goal_19 (by decide) ?_
  refine z_icmp_eq d_Mod_goal_21 42 (by decide) (fun h9 => absurd h9 (by decide)) (fun _ => ?_)
  refine z_iload_n d_Mod_goal_24 rfl ?_
  refine z_bipush (v := 9) d_Mod_goal_25 (by decide) ?_
  refine z_icmp_lt d_Mod_goal_27 36 (by decide) (fun _ => ?_) (fun h9 => absurd (by decide) h9)
  refine z_iload_n d_Mod_goal_36 rfl ?_
  refine z_bipush (v := 20) d_Mod_goal_37 (by decide) ?_
  refine z_icmp_ne d_Mod_goal_39 46 (by decide) (fun _ => ?_) (fun h9 => absurd h9 (by decide))
  refine z_iconst (v := 0) d_Mod_goal_46 (by decide) ?_
  refine z_istore_n (lv' := [(0, _), (1, _)]) d_Mod_goal_47 (by decide) rfl ?_
  refine z_iload_n d_Mod_goal_48 rfl ?_
  refine z_if_eq d_Mod_goal_49 56 (by decide) (fun _ => ?_) (fun h9 => absurd (by decide) h9)
  refine z_iconst (v := 0) d_Mod_goal_56 (by decide) ?_
  exact z_iret d_Mod_goal_57 rfl (by decide) (by decide) rfl rfl
set_option maxRecDepth 100000 in
set_option maxHeartbeats 4000000 in
theorem c_Mod_goal_1 (X : zX) (d : Nat) (h : zH) (N : Nat) : zC X d m_Mod_goal 0 0 false [.int 1] h N (some (.int 0)) h N := by
  refine zC_of (by decide) (Nat.le_of_ble_eq_true rfl) ?_
  refine z_iload_n d_Mod_goal_0 rfl ?_
  refine z_bipush (v := 19) d_Mod_goal_1 (by decide) ?_
  refine z_icmp_ne d_Mod_goal_3 8 (by decide) (fun _ => ?_) (fun h9 => absurd h9 (by decide))
  refine z_iload_n d_Mod_goal_8 rfl ?_
  refine z_iconst (v := 2) d_Mod_goal_9 (by decide) ?_
  refine z_icmp_eq d_Mod_goal_10 42 (by decide) (fun h9 => absurd h9 (by decide)) (fun _ => ?_)
  refine z_iload_n d_Mod_goal_13 rfl ?_
  refine z_iconst (v := 3) d_Mod_goal_14 (by decide) ?_
  refine z_icmp_eq d_Mod_goal_15 42 (by decide) (fun h9 => absurd h9 (by decide)) (fun _ => ?_)
  refine z_iload_n d_Mod_goal_18 rfl ?_
  refine z_bipush (v := 8) d_Mod_goal_19 (by decide) ?_
  refine z_icmp_eq d_Mod_goal_21 42 (by decide) (fun h9 => absurd h9 (by decide)) (fun _ => ?_)
  refine z_iload_n d_Mod_goal_24 rfl ?_
  refine z_bipush (v := 9) d_Mod_goal_25 (by decide) ?_
  refine z_icmp_lt d_Mod_goal_27 36 (by decide) (fun _ => ?_) (fun h9 => absurd (by decide) h9)
  refine z_iload_n d_Mod_goal_36 rfl ?_
  refine z_bipush (v := 20) d_Mod_goal_37 (by decide) ?_
  refine z_icmp_ne d_Mod_goal_39 46 (by decide) (fun _ => ?_) (fun h9 => absurd h9 (by decide))
  refine z_iconst (v := 0) d_Mod_goal_46 (by decide) ?_
  refine z_istore_n (lv' := [(0, _), (1, _)]) d_Mod_goal_47 (by decide) rfl ?_
  refine z_iload_n d_Mod_goal_48 rfl ?_
  refine z_if_eq d_Mod_goal_49 56 (by decide) (fun _ => ?_) (fun h9 => absurd (by decide) h9)
  refine z_iconst (v := 0) d_Mod_goal_56 (by decide) ?_
  exact z_iret d_Mod_goal_57 rfl (by decide) (by decide) rfl rfl
set_option maxRecDepth 100000 in
set_option maxHeartbeats 4000000 in
theorem c_Mod_goal_2 (X : zX) (d : Nat) (h : zH) (N : Nat) : zC X d m_Mod_goal 0 0 false [.int 2] h N (some (.int 2)) h N := by
  refine zC_of (by decide) (Nat.le_of_ble_eq_true rfl) ?_
  refine z_iload_n d_Mod_goal_0 rfl ?_
  refine z_bipush (v := 19) d_Mod_goal_1 (by decide) ?_
  refine z_icmp_ne d_Mod_goal_3 8 (by decide) (fun _ => ?_) (fun h9 => absurd h9 (by decide))
  refine z_iload_n d_Mod_goal_8 rfl ?_
  refine z_iconst (v := 2) d_Mod_goal_9 (by decide) ?_
  refine z_icmp_eq d_Mod_goal_10 42 (by decide) (fun _ => ?_) (fun h9 => absurd (by decide) h9)
  refine z_iconst (v := 1) d_Mod_goal_42 (by decide) ?_
  refine z_goto d_Mod_goal_43 47 (by decide) ?_
  refine z_istore_n (lv' := [(0, _), (1, _)]) d_Mod_goal_47 (by decide) rfl ?_
  refine z_iload_n d_Mod_goal_48 rfl ?_
  refine z_if_eq d_Mod_goal_49 56 (by decide) (fun h9 => absurd h9 (by decide)) (fun _ => ?_)
  refine z_iconst (v := 2) d_Mod_goal_52 (by decide) ?_
  refine z_goto d_Mod_goal_53 57 (by decide) ?_
  exact z_iret d_Mod_goal_57 rfl (by decide) (by decide) rfl rfl
set_option maxRecDepth 100000 in
set_option maxHeartbeats 4000000 in
theorem c_Mod_goal_3 (X : zX) (d : Nat) (h : zH) (N : Nat) : zC X d m_Mod_goal 0 0 false [.int 3] h N (some (.int 2)) h N := by
  refine zC_of (by decide) (Nat.le_of_ble_eq_true rfl) ?_
  refine z_iload_n d_Mod_goal_0 rfl ?_
  refine z_bipush (v := 19) d_Mod_goal_1 (by decide) ?_
  refine z_icmp_ne d_Mod_goal_3 8 (by decide) (fun _ => ?_) (fun h9 => absurd h9 (by decide))
  refine z_iload_n d_Mod_goal_8 rfl ?_
  refine z_iconst (v := 2) d_Mod_goal_9 (by decide) ?_
  refine z_icmp_eq d_Mod_goal_10 42 (by decide) (fun h9 => absurd h9 (by decide)) (fun _ => ?_)
  refine z_iload_n d_Mod_goal_13 rfl ?_
  refine z_iconst (v := 3) d_Mod_goal_14 (by decide) ?_
  refine z_icmp_eq d_Mod_goal_15 42 (by decide) (fun _ => ?_) (fun h9 => absurd (by decide) h9)
  refine z_iconst (v := 1) d_Mod_goal_42 (by decide) ?_
  refine z_goto d_Mod_goal_43 47 (by decide) ?_
  refine z_istore_n (lv' := [(0, _), (1, _)]) d_Mod_goal_47 (by decide) rfl ?_
  refine z_iload_n d_Mod_goal_48 rfl ?_
  refine z_if_eq d_Mod_goal_49 56 (by decide) (fun h9 => absurd h9 (by decide)) (fun _ => ?_)
  refine z_iconst (v := 2) d_Mod_goal_52 (by decide) ?_
  refine z_goto d_Mod_goal_53 57 (by decide) ?_
  exact z_iret d_Mod_goal_57 rfl (by decide) (by decide) rfl rfl
set_option maxRecDepth 100000 in
set_option maxHeartbeats 4000000 in
theorem c_Mod_goal_4 (X : zX) (d : Nat) (h : zH) (N : Nat) : zC X d m_Mod_goal 0 0 false [.int 4] h N (some (.int 0)) h N := by
  refine zC_of (by decide) (Nat.le_of_ble_eq_true rfl) ?_
  refine z_iload_n d_Mod_goal_0 rfl ?_
  refine z_bipush (v := 19) d_Mod_goal_1 (by decide) ?_
  refine z_icmp_ne d_Mod_goal_3 8 (by decide) (fun _ => ?_) (fun h9 => absurd h9 (by decide))
  refine z_iload_n d_Mod_goal_8 rfl ?_
  refine z_iconst (v := 2) d_Mod_goal_9 (by decide) ?_
  refine z_icmp_eq d_Mod_goal_10 42 (by decide) (fun h9 => absurd h9 (by decide)) (fun _ => ?_)
  refine z_iload_n d_Mod_goal_13 rfl ?_
  refine z_iconst (v := 3) d_Mod_goal_14 (by decide) ?_
  refine z_icmp_eq d_Mod_goal_15 42 (by decide) (fun h9 => absurd h9 (by decide)) (fun _ => ?_)
  refine z_iload_n d_Mod_goal_18 rfl ?_
  refine z_bipush (v := 8) d_Mod_goal_19 (by decide) ?_
  refine z_icmp_eq d_Mod_goal_21 42 (by decide) (fun h9 => absurd h9 (by decide)) (fun _ => ?_)
  refine z_iload_n d_Mod_goal_24 rfl ?_
  refine z_bipush (v := 9) d_Mod_goal_25 (by decide) ?_
  refine z_icmp_lt d_Mod_goal_27 36 (by decide) (fun _ => ?_) (fun h9 => absurd (by decide) h9)
  refine z_iload_n d_Mod_goal_36 rfl ?_
  refine z_bipush (v := 20) d_Mod_goal_37 (by decide) ?_
  refine z_icmp_ne d_Mod_goal_39 46 (by decide) (fun _ => ?_) (fun h9 => absurd h9 (by decide))
  refine z_iconst (v := 0) d_Mod_goal_46 (by decide) ?_
  refine z_istore_n (lv' := [(0, _), (1, _)]) d_Mod_goal_47 (by decide) rfl ?_
  refine z_iload_n d_Mod_goal_48 rfl ?_
  refine z_if_eq d_Mod_goal_49 56 (by decide) (fun _ => ?_) (fun h9 => absurd (by decide) h9)
  refine z_iconst (v := 0) d_Mod_goal_56 (by decide) ?_
  exact z_iret d_Mod_goal_57 rfl (by decide) (by decide) rfl rfl
set_option maxRecDepth 100000 in
set_option maxHeartbeats 4000000 in
theorem c_Mod_goal_5 (X : zX) (d : Nat) (h : zH) (N : Nat) : zC X d m_Mod_goal 0 0 false [.int 5] h N (some (.int 0)) h N := by
  refine zC_of (by decide) (Nat.le_of_ble_eq_true rfl) ?_
  refine z_iload_n d_Mod_goal_0 rfl ?_
  refine z_bipush (v := 19) d_Mod_goal_1 (by decide) ?_
  refine z_icmp_ne d_Mod_goal_3 8 (by decide) (fun _ => ?_) (fun h9 => absurd h9 (by decide))
  refine z_iload_n d_Mod_goal_8 rfl ?_
  refine z_iconst (v := 2) d_Mod_goal_9 (by decide) ?_
  refine z_icmp_eq d_Mod_goal_10 42 (by decide) (fun h9 => absurd h9 (by decide)) (fun _ => ?_)
  refine z_iload_n d_Mod_goal_13 rfl ?_
  refine z_iconst (v := 3) d_Mod_goal_14 (by decide) ?_
  refine z_icmp_eq d_Mod_goal_15 42 (by decide) (fun h9 => absurd h9 (by decide)) (fun _ => ?_)
  refine z_iload_n d_Mod_goal_18 rfl ?_
  refine z_bipush (v := 8) d_Mod_goal_19 (by decide) ?_
  refine z_icmp_eq d_Mod_goal_21 42 (by decide) (fun h9 => absurd h9 (by decide)) (fun _ => ?_)
  refine z_iload_n d_Mod_goal_24 rfl ?_
  refine z_bipush (v := 9) d_Mod_goal_25 (by decide) ?_
  refine z_icmp_lt d_Mod_goal_27 36 (by decide) (fun _ => ?_) (fun h9 => absurd (by decide) h9)
  refine z_iload_n d_Mod_goal_36 rfl ?_
  refine z_bipush (v := 20) d_Mod_goal_37 (by decide) ?_
  refine z_icmp_ne d_Mod_goal_39 46 (by decide) (fun _ => ?_) (fun h9 => absurd h9 (by decide))
  refine z_iconst (v := 0) d_Mod_goal_46 (by decide) ?_
  refine z_istore_n (lv' := [(0, _), (1, _)]) d_Mod_goal_47 (by decide) rfl ?_
  refine z_iload_n d_Mod_goal_48 rfl ?_
  refine z_if_eq d_Mod_goal_49 56 (by decide) (fun _ => ?_) (fun h9 => absurd (by decide) h9)
  refine z_iconst (v := 0) d_Mod_goal_56 (by decide) ?_
  exact z_iret d_Mod_goal_57 rfl (by decide) (by decide) rfl rfl
set_option maxRecDepth 100000 in
set_option maxHeartbeats 4000000 in
theorem c_Mod_goal_6 (X : zX) (d : Nat) (h : zH) (N : Nat) : zC X d m_Mod_goal 0 0 false [.int 6] h N (some (.int 0)) h N := by
  refine zC_of (by decide) (Nat.le_of_ble_eq_true rfl) ?_
  refine z_iload_n d_Mod_goal_0 rfl ?_
  refine z_bipush (v := 19) d_Mod_goal_1 (by decide) ?_
  refine z_icmp_ne d_Mod_goal_3 8 (by decide) (fun _ => ?_) (fun h9 => absurd h9 (by decide))
  refine z_iload_n d_Mod_goal_8 rfl ?_
  refine z_iconst (v := 2) d_Mod_goal_9 (by decide) ?_
  refine z_icmp_eq d_Mod_goal_10 42 (by decide) (fun h9 => absurd h9 (by decide)) (fun _ => ?_)
  refine z_iload_n d_Mod_goal_13 rfl ?_
  refine z_iconst (v := 3) d_Mod_goal_14 (by decide) ?_
  refine z_icmp_eq d_Mod_goal_15 42 (by decide) (fun h9 => absurd h9 (by decide)) (fun _ => ?_)
  refine z_iload_n d_Mod_goal_18 rfl ?_
  refine z_bipush (v := 8) d_Mod_goal_19 (by decide) ?_
  refine z_icmp_eq d_Mod_goal_21 42 (by decide) (fun h9 => absurd h9 (by decide)) (fun _ => ?_)
  refine z_iload_n d_Mod_goal_24 rfl ?_
  refine z_bipush (v := 9) d_Mod_goal_25 (by decide) ?_
  refine z_icmp_lt d_Mod_goal_27 36 (by decide) (fun _ => ?_) (fun h9 => absurd (by decide) h9)
  refine z_iload_n d_Mod_goal_36 rfl ?_
  refine z_bipush (v := 20) d_Mod_goal_37 (by decide) ?_
  refine z_icmp_ne d_Mod_goal_39 46 (by decide) (fun _ => ?_) (fun h9 => absurd h9 (by decide))
  refine z_iconst (v := 0) d_Mod_goal_46 (by decide) ?_
  refine z_istore_n (lv' := [(0, _), (1, _)]) d_Mod_goal_47 (by decide) rfl ?_
  refine z_iload_n d_Mod_goal_48 rfl ?_
  refine z_if_eq d_Mod_goal_49 56 (by decide) (fun _ => ?_) (fun h9 => absurd (by decide) h9)
  refine z_iconst (v := 0) d_Mod_goal_56 (by decide) ?_
  exact z_iret d_Mod_goal_57 rfl (by decide) (by decide) rfl rfl
set_option maxRecDepth 100000 in
set_option maxHeartbeats 4000000 in
theorem c_Mod_goal_7 (X : zX) (d : Nat) (h : zH) (N : Nat) : zC X d m_Mod_goal 0 0 false [.int 7] h N (some (.int 0)) h N := by
  refine zC_of (by decide) (Nat.le_of_ble_eq_true rfl) ?_
  refine z_iload_n d_Mod_goal_0 rfl ?_
  refine z_bipush (v := 19) d_Mod_goal_1 (by decide) ?_
  refine z_icmp_ne d_Mod_goal_3 8 (by decide) (fun _ => ?_) (fun h9 => absurd h9 (by decide))
  refine z_iload_n d_Mod_goal_8 rfl ?_
  refine z_iconst (v := 2) d_Mod_goal_9 (by decide) ?_
  refine z_icmp_eq d_Mod_goal_10 42 (by decide) (fun h9 => absurd h9 (by decide)) (fun _ => ?_)
  refine z_iload_n d_Mod_goal_13 rfl ?_
  refine z_iconst (v := 3) d_Mod_goal_14 (by decide) ?_
  refine z_icmp_eq d_Mod_goal_15 42 (by decide) (fun h9 => absurd h9 (by decide)) (fun _ => ?_)
  refine z_iload_n d_Mod_goal_18 rfl ?_
  refine z_bipush (v := 8) d_Mod_goal_19 (by decide) ?_
  refine z_icmp_eq d_Mod_goal_21 42 (by decide) (fun h9 => absurd h9 (by decide)) (fun _ => ?_)
  refine z_iload_n d_Mod_goal_24 rfl ?_
  refine z_bipush (v := 9) d_Mod_goal_25 (by decide) ?_
  refine z_icmp_lt d_Mod_goal_27 36 (by decide) (fun _ => ?_) (fun h9 => absurd (by decide) h9)
  refine z_iload_n d_Mod_goal_36 rfl ?_
  refine z_bipush (v := 20) d_Mod_goal_37 (by decide) ?_
  refine z_icmp_ne d_Mod_goal_39 46 (by decide) (fun _ => ?_) (fun h9 => absurd h9 (by decide))
  refine z_iconst (v := 0) d_Mod_goal_46 (by decide) ?_
  refine z_istore_n (lv' := [(0, _), (1, _)]) d_Mod_goal_47 (by decide) rfl ?_
  refine z_iload_n d_Mod_goal_48 rfl ?_
  refine z_if_eq d_Mod_goal_49 56 (by decide) (fun _ => ?_) (fun h9 => absurd (by decide) h9)
  refine z_iconst (v := 0) d_Mod_goal_56 (by decide) ?_
  exact z_iret d_Mod_goal_57 rfl (by decide) (by decide) rfl rfl
set_option maxRecDepth 100000 in
set_option maxHeartbeats 4000000 in
theorem c_Mod_goal_8 (X : zX) (d : Nat) (h : zH) (N : Nat) : zC X d m_Mod_goal 0 0 false [.int 8] h N (some (.int 2)) h N := by
  refine zC_of (by decide) (Nat.le_of_ble_eq_true rfl) ?_
  refine z_iload_n d_Mod_goal_0 rfl ?_
  refine z_bipush (v := 19) d_Mod_goal_1 (by decide) ?_
  refine z_icmp_ne d_Mod_goal_3 8 (by decide) (fun _ => ?_) (fun h9 => absurd h9 (by decide))
  refine z_iload_n d_Mod_goal_8 rfl ?_
  refine z_iconst (v := 2) d_Mod_goal_9 (by decide) ?_
  refine z_icmp_eq d_Mod_goal_10 42 (by decide) (fun h9 => absurd h9 (by decide)) (fun _ => ?_)
  refine z_iload_n d_Mod_goal_13 rfl ?_
  refine z_iconst (v := 3) d_Mod_goal_14 (by decide) ?_
  refine z_icmp_eq d_Mod_goal_15 42 (by decide) (fun h9 => absurd h9 (by decide)) (fun _ => ?_)
  refine z_iload_n d_Mod_goal_18 rfl ?_
  refine z_bipush (v := 8) d_Mod_goal_19 (by decide) ?_
  refine z_icmp_eq d_Mod_goal_21 42 (by decide) (fun _ => ?_) (fun h9 => absurd (by decide) h9)
  refine z_iconst (v := 1) d_Mod_goal_42 (by decide) ?_
  refine z_goto d_Mod_goal_43 47 (by decide) ?_
  refine z_istore_n (lv' := [(0, _), (1, _)]) d_Mod_goal_47 (by decide) rfl ?_
  refine z_iload_n d_Mod_goal_48 rfl ?_
  refine z_if_eq d_Mod_goal_49 56 (by decide) (fun h9 => absurd h9 (by decide)) (fun _ => ?_)
  refine z_iconst (v := 2) d_Mod_goal_52 (by decide) ?_
  refine z_goto d_Mod_goal_53 57 (by decide) ?_
  exact z_iret d_Mod_goal_57 rfl (by decide) (by decide) rfl rfl
set_option maxRecDepth 100000 in
set_option maxHeartbeats 4000000 in
theorem c_Mod_goal_9 (X : zX) (d : Nat) (h : zH) (N : Nat) : zC X d m_Mod_goal 0 0 false [.int 9] h N (some (.int 2)) h N := by
  refine zC_of (by decide) (Nat.le_of_ble_eq_true rfl) ?_
  refine z_iload_n d_Mod_goal_0 rfl ?_
  refine z_bipush (v := 19) d_Mod_goal_1 (by decide) ?_
  refine z_icmp_ne d_Mod_goal_3 8 (by decide) (fun _ => ?_) (fun h9 => absurd h9 (by decide))
  refine z_iload_n d_Mod_goal_8 rfl ?_
  refine z_iconst (v := 2) d_Mod_goal_9 (by decide) ?_
  refine z_icmp_eq d_Mod_goal_10 42 (by decide) (fun h9 => absurd h9 (by decide)) (fun _ => ?_)
  refine z_iload_n d_Mod_goal_13 rfl ?_
  refine z_iconst (v := 3) d_Mod_goal_14 (by decide) ?_
  refine z_icmp_eq d_Mod_goal_15 42 (by decide) (fun h9 => absurd h9 (by decide)) (fun _ => ?_)
  refine z_iload_n d_Mod_goal_18 rfl ?_
  refine z_bipush (v := 8) d_Mod_goal_19 (by decide) ?_
  refine z_icmp_eq d_Mod_goal_21 42 (by decide) (fun h9 => absurd h9 (by decide)) (fun _ => ?_)
  refine z_iload_n d_Mod_goal_24 rfl ?_
  refine z_bipush (v := 9) d_Mod_goal_25 (by decide) ?_
  refine z_icmp_lt d_Mod_goal_27 36 (by decide) (fun h9 => absurd h9 (by decide)) (fun _ => ?_)
  refine z_iload_n d_Mod_goal_30 rfl ?_
  refine z_bipush (v := 16) d_Mod_goal_31 (by decide) ?_
  refine z_icmp_le d_Mod_goal_33 42 (by decide) (fun _ => ?_) (fun h9 => absurd (by decide) h9)
  refine z_iconst (v := 1) d_Mod_goal_42 (by decide) ?_
  refine z_goto d_Mod_goal_43 47 (by decide) ?_
  refine z_istore_n (lv' := [(0, _), (1, _)]) d_Mod_goal_47 (by decide) rfl ?_
  refine z_iload_n d_Mod_goal_48 rfl ?_
  refine z_if_eq d_Mod_goal_49 56 (by decide) (fun h9 => absurd h9 (by decide)) (fun _ => ?_)
  refine z_iconst (v := 2) d_Mod_goal_52 (by decide) ?_
  refine z_goto d_Mod_goal_53 57 (by decide) ?_
  exact z_iret d_Mod_goal_57 rfl (by decide) (by decide) rfl rfl
set_option maxRecDepth 100000 in
set_option maxHeartbeats 4000000 in
theorem c_Mod_goal_10 (X : zX) (d : Nat) (h : zH) (N : Nat) : zC X d m_Mod_goal 0 0 false [.int 10] h N (some (.int 2)) h N := by
  refine zC_of (by decide) (Nat.le_of_ble_eq_true rfl) ?_
  refine z_iload_n d_Mod_goal_0 rfl ?_
  refine z_bipush (v := 19) d_Mod_goal_1 (by decide) ?_
  refine z_icmp_ne d_Mod_goal_3 8 (by decide) (fun _ => ?_) (fun h9 => absurd h9 (by decide))
  refine z_iload_n d_Mod_goal_8 rfl ?_
  refine z_iconst (v := 2) d_Mod_goal_9 (by decide) ?_
  refine z_icmp_eq d_Mod_goal_10 42 (by decide) (fun h9 => absurd h9 (by decide)) (fun _ => ?_)
  refine z_iload_n d_Mod_goal_13 rfl ?_
  refine z_iconst (v := 3) d_Mod_goal_14 (by decide) ?_
  refine z_icmp_eq d_Mod_goal_15 42 (by decide) (fun h9 => absurd h9 (by decide)) (fun _ => ?_)
  refine z_iload_n d_Mod_goal_18 rfl ?_
  refine z_bipush (v := 8) d_Mod_goal_19 (by decide) ?_
  refine z_icmp_eq d_Mod_goal_21 42 (by decide) (fun h9 => absurd h9 (by decide)) (fun _ => ?_)
  refine z_iload_n d_Mod_goal_24 rfl ?_
  refine z_bipush (v := 9) d_Mod_goal_25 (by decide) ?_
  refine z_icmp_lt d_Mod_goal_27 36 (by decide) (fun h9 => absurd h9 (by decide)) (fun _ => ?_)
  refine z_iload_n d_Mod_goal_30 rfl ?_
  refine z_bipush (v := 16) d_Mod_goal_31 (by decide) ?_
  refine z_icmp_le d_Mod_goal_33 42 (by decide) (fun _ => ?_) (fun h9 => absurd (by decide) h9)
  refine z_iconst (v := 1) d_Mod_goal_42 (by decide) ?_
  refine z_goto d_Mod_goal_43 47 (by decide) ?_
  refine z_istore_n (lv' := [(0, _), (1, _)]) d_Mod_goal_47 (by decide) rfl ?_
  refine z_iload_n d_Mod_goal_48 rfl ?_
  refine z_if_eq d_Mod_goal_49 56 (by decide) (fun h9 => absurd h9 (by decide)) (fun _ => ?_)
  refine z_iconst (v := 2) d_Mod_goal_52 (by decide) ?_
  refine z_goto d_Mod_goal_53 57 (by decide) ?_
  exact z_iret d_Mod_goal_57 rfl (by decide) (by decide) rfl rfl
set_option maxRecDepth 100000 in
set_option maxHeartbeats 4000000 in
theorem c_Mod_goal_11 (X : zX) (d : Nat) (h : zH) (N : Nat) : zC X d m_Mod_goal 0 0 false [.int 11] h N (some (.int 2)) h N := by
  refine zC_of (by decide) (Nat.le_of_ble_eq_true rfl) ?_
  refine z_iload_n d_Mod_goal_0 rfl ?_
  refine z_bipush (v := 19) d_Mod_goal_1 (by decide) ?_
  refine z_icmp_ne d_Mod_goal_3 8 (by decide) (fun _ => ?_) (fun h9 => absurd h9 (by decide))
  refine z_iload_n d_Mod_goal_8 rfl ?_
  refine z_iconst (v := 2) d_Mod_goal_9 (by decide) ?_
  refine z_icmp_eq d_Mod_goal_10 42 (by decide) (fun h9 => absurd h9 (by decide)) (fun _ => ?_)
  refine z_iload_n d_Mod_goal_13 rfl ?_
  refine z_iconst (v := 3) d_Mod_goal_14 (by decide) ?_
  refine z_icmp_eq d_Mod_goal_15 42 (by decide) (fun h9 => absurd h9 (by decide)) (fun _ => ?_)
  refine z_iload_n d_Mod_goal_18 rfl ?_
  refine z_bipush (v := 8) d_Mod_goal_19 (by decide) ?_
  refine z_icmp_eq d_Mod_goal_21 42 (by decide) (fun h9 => absurd h9 (by decide)) (fun _ => ?_)
  refine z_iload_n d_Mod_goal_24 rfl ?_
  refine z_bipush (v := 9) d_Mod_goal_25 (by decide) ?_
  refine z_icmp_lt d_Mod_goal_27 36 (by decide) (fun h9 => absurd h9 (by decide)) (fun _ => ?_)
  refine z_iload_n d_Mod_goal_30 rfl ?_
  refine z_bipush (v := 16) d_Mod_goal_31 (by decide) ?_
  refine z_icmp_le d_Mod_goal_33 42 (by decide) (fun _ => ?_) (fun h9 => absurd (by decide) h9)
  refine z_iconst (v := 1) d_Mod_goal_42 (by decide) ?_
  refine z_goto d_Mod_goal_43 47 (by decide) ?_
  refine z_istore_n (lv' := [(0, _), (1, _)]) d_Mod_goal_47 (by decide) rfl ?_
  refine z_iload_n d_Mod_goal_48 rfl ?_
  refine z_if_eq d_Mod_goal_49 56 (by decide) (fun h9 => absurd h9 (by decide)) (fun _ => ?_)
  refine z_iconst (v := 2) d_Mod_goal_52 (by decide) ?_
  refine z_goto d_Mod_goal_53 57 (by decide) ?_
  exact z_iret d_Mod_goal_57 rfl (by decide) (by decide) rfl rfl
set_option maxRecDepth 100000 in
set_option maxHeartbeats 4000000 in
theorem c_Mod_goal_12 (X : zX) (d : Nat) (h : zH) (N : Nat) : zC X d m_Mod_goal 0 0 false [.int 12] h N (some (.int 2)) h N := by
  refine zC_of (by decide) (Nat.le_of_ble_eq_true rfl) ?_
  refine z_iload_n d_Mod_goal_0 rfl ?_
  refine z_bipush (v := 19) d_Mod_goal_1 (by decide) ?_
  refine z_icmp_ne d_Mod_goal_3 8 (by decide) (fun _ => ?_) (fun h9 => absurd h9 (by decide))
  refine z_iload_n d_Mod_goal_8 rfl ?_
  refine z_iconst (v := 2) d_Mod_goal_9 (by decide) ?_
  refine z_icmp_eq d_Mod_goal_10 42 (by decide) (fun h9 => absurd h9 (by decide)) (fun _ => ?_)
  refine z_iload_n d_Mod_goal_13 rfl ?_
  refine z_iconst (v := 3) d_Mod_goal_14 (by decide) ?_
  refine z_icmp_eq d_Mod_goal_15 42 (by decide) (fun h9 => absurd h9 (by decide)) (fun _ => ?_)
  refine z_iload_n d_Mod_goal_18 rfl ?_
  refine z_bipush (v := 8) d_Mod_goal_19 (by decide) ?_
  refine z_icmp_eq d_Mod_goal_21 42 (by decide) (fun h9 => absurd h9 (by decide)) (fun _ => ?_)
  refine z_iload_n d_Mod_goal_24 rfl ?_
  refine z_bipush (v := 9) d_Mod_goal_25 (by decide) ?_
  refine z_icmp_lt d_Mod_goal_27 36 (by decide) (fun h9 => absurd h9 (by decide)) (fun _ => ?_)
  refine z_iload_n d_Mod_goal_30 rfl ?_
  refine z_bipush (v := 16) d_Mod_goal_31 (by decide) ?_
  refine z_icmp_le d_Mod_goal_33 42 (by decide) (fun _ => ?_) (fun h9 => absurd (by decide) h9)
  refine z_iconst (v := 1) d_Mod_goal_42 (by decide) ?_
  refine z_goto d_Mod_goal_43 47 (by decide) ?_
  refine z_istore_n (lv' := [(0, _), (1, _)]) d_Mod_goal_47 (by decide) rfl ?_
  refine z_iload_n d_Mod_goal_48 rfl ?_
  refine z_if_eq d_Mod_goal_49 56 (by decide) (fun h9 => absurd h9 (by decide)) (fun _ => ?_)
  refine z_iconst (v := 2) d_Mod_goal_52 (by decide) ?_
  refine z_goto d_Mod_goal_53 57 (by decide) ?_
  exact z_iret d_Mod_goal_57 rfl (by decide) (by decide) rfl rfl
set_option maxRecDepth 100000 in
set_option maxHeartbeats 4000000 in
theorem c_Mod_goal_13 (X : zX) (d : Nat) (h : zH) (N : Nat) : zC X d m_Mod_goal 0 0 false [.int 13] h N (some (.int 2)) h N := by
  refine zC_of (by decide) (Nat.le_of_ble_eq_true rfl) ?_
  refine z_iload_n d_Mod_goal_0 rfl ?_
  refine z_bipush (v := 19) d_Mod_goal_1 (by decide) ?_
  refine z_icmp_ne d_Mod_goal_3 8 (by decide) (fun _ => ?_) (fun h9 => absurd h9 (by decide))
  refine z_iload_n d_Mod_goal_8 rfl ?_
  refine z_iconst (v := 2) d_Mod_goal_9 (by decide) ?_
  refine z_icmp_eq d_Mod_goal_10 42 (by decide) (fun h9 => absurd h9 (by decide)) (fun _ => ?_)
  refine z_iload_n d_Mod_goal_13 rfl ?_
  refine z_iconst (v := 3) d_Mod_goal_14 (by decide) ?_
  refine z_icmp_eq d_Mod_goal_15 42 (by decide) (fun h9 => absurd h9 (by decide)) (fun _ => ?_)
  refine z_iload_n d_Mod_goal_18 rfl ?_
  refine z_bipush (v := 8) d_Mod_goal_19 (by decide) ?_
  refine z_icmp_eq d_Mod_goal_21 42 (by decide) (fun h9 => absurd h9 (by decide)) (fun _ => ?_)
  refine z_iload_n d_Mod_goal_24 rfl ?_
  refine z_bipush (v := 9) d_Mod_goal_25 (by decide) ?_
  refine z_icmp_lt d_Mod_goal_27 36 (by decide) (fun h9 => absurd h9 (by decide)) (fun _ => ?_)
  refine z_iload_n d_Mod_goal_30 rfl ?_
  refine z_bipush (v := 16) d_Mod_goal_31 (by decide) ?_
  refine z_icmp_le d_Mod_goal_33 42 (by decide) (fun _ => ?_) (fun h9 => absurd (by decide) h9)
  refine z_iconst (v := 1) d_Mod_goal_42 (by decide) ?_
  refine z_goto d_Mod_goal_43 47 (by decide) ?_
  refine z_istore_n (lv' := [(0, _), (1, _)]) d_Mod_goal_47 (by decide) rfl ?_
  refine z_iload_n d_Mod_goal_48 rfl ?_
  refine z_if_eq d_Mod_goal_49 56 (by decide) (fun h9 => absurd h9 (by decide)) (fun _ => ?_)
  refine z_iconst (v := 2) d_Mod_goal_52 (by decide) ?_
  refine z_goto d_Mod_goal_53 57 (by decide) ?_
  exact z_iret d_Mod_goal_57 rfl (by decide) (by decide) rfl rfl
set_option maxRecDepth 100000 in
set_option maxHeartbeats 4000000 in
theorem c_Mod_goal_14 (X : zX) (d : Nat) (h : zH) (N : Nat) : zC X d m_Mod_goal 0 0 false [.int 14] h N (some (.int 2)) h N := by
  refine zC_of (by decide) (Nat.le_of_ble_eq_true rfl) ?_
  refine z_iload_n d_Mod_goal_0 rfl ?_
  refine z_bipush (v := 19) d_Mod_goal_1 (by decide) ?_
  refine z_icmp_ne d_Mod_goal_3 8 (by decide) (fun _ => ?_) (fun h9 => absurd h9 (by decide))
  refine z_iload_n d_Mod_goal_8 rfl ?_
  refine z_iconst (v := 2) d_Mod_goal_9 (by decide) ?_
  refine z_icmp_eq d_Mod_goal_10 42 (by decide) (fun h9 => absurd h9 (by decide)) (fun _ => ?_)
  refine z_iload_n d_Mod_goal_13 rfl ?_
  refine z_iconst (v := 3) d_Mod_goal_14 (by decide) ?_
  refine z_icmp_eq d_Mod_goal_15 42 (by decide) (fun h9 => absurd h9 (by decide)) (fun _ => ?_)
  refine z_iload_n d_Mod_goal_18 rfl ?_
  refine z_bipush (v := 8) d_Mod_goal_19 (by decide) ?_
  refine z_icmp_eq d_Mod_goal_21 42 (by decide) (fun h9 => absurd h9 (by decide)) (fun _ => ?_)
  refine z_iload_n d_Mod_goal_24 rfl ?_
  refine z_bipush (v := 9) d_Mod_goal_25 (by decide) ?_
  refine z_icmp_lt d_Mod_goal_27 36 (by decide) (fun h9 => absurd h9 (by decide)) (fun _ => ?_)
  refine z_iload_n d_Mod_goal_30 rfl ?_
  refine z_bipush (v := 16) d_Mod_goal_31 (by decide) ?_
  refine z_icmp_le d_Mod_goal_33 42 (by decide) (fun _ => ?_) (fun h9 => absurd (by decide) h9)
  refine z_iconst (v := 1) d_Mod_goal_42 (by decide) ?_
  refine z_goto d_Mod_goal_43 47 (by decide) ?_
  refine z_istore_n (lv' := [(0, _), (1, _)]) d_Mod_goal_47 (by decide) rfl ?_
  refine z_iload_n d_Mod_goal_48 rfl ?_
  refine z_if_eq d_Mod_goal_49 56 (by decide) (fun h9 => absurd h9 (by decide)) (fun _ => ?_)
  refine z_iconst (v := 2) d_Mod_goal_52 (by decide) ?_
  refine z_goto d_Mod_goal_53 57 (by decide) ?_
  exact z_iret d_Mod_goal_57 rfl (by decide) (by decide) rfl rfl
set_option maxRecDepth 100000 in
set_option maxHeartbeats 4000000 in
theorem c_Mod_goal_15 (X : zX) (d : Nat) (h : zH) (N : Nat) : zC X d m_Mod_goal 0 0 false [.int 15] h N (some (.int 2)) h N := by
  refine zC_of (by decide) (Nat.le_of_ble_eq_true rfl) ?_
  refine z_iload_n d_Mod_goal_0 rfl ?_
  refine z_bipush (v := 19) d_Mod_goal_1 (by decide) ?_
  refine z_icmp_ne d_Mod_goal_3 8 (by decide) (fun _ => ?_) (fun h9 => absurd h9 (by decide))
  refine z_iload_n d_Mod_goal_8 rfl ?_
  refine z_iconst (v := 2) d_Mod_goal_9 (by decide) ?_
  refine z_icmp_eq d_Mod_goal_10 42 (by decide) (fun h9 => absurd h9 (by decide)) (fun _ => ?_)
  refine z_iload_n d_Mod_goal_13 rfl ?_
  refine z_iconst (v := 3) d_Mod_goal_14 (by decide) ?_
  refine z_icmp_eq d_Mod_goal_15 42 (by decide) (fun h9 => absurd h9 (by decide)) (fun _ => ?_)
  refine z_iload_n d_Mod_goal_18 rfl ?_
  refine z_bipush (v := 8) d_Mod_goal_19 (by decide) ?_
  refine z_icmp_eq d_Mod_goal_21 42 (by decide) (fun h9 => absurd h9 (by decide)) (fun _ => ?_)
  refine z_iload_n d_Mod_goal_24 rfl ?_
  refine z_bipush (v := 9) d_Mod_goal_25 (by decide) ?_
  refine z_icmp_lt d_Mod_goal_27 36 (by decide) (fun h9 => absurd h9 (by decide)) (fun _ => ?_)
  refine z_iload_n d_Mod_goal_30 rfl ?_
  refine z_bipush (v := 16) d_Mod_goal_31 (by decide) ?_
  refine z_icmp_le d_Mod_goal_33 42 (by decide) (fun _ => ?_) (fun h9 => absurd (by decide) h9)
  refine z_iconst (v := 1) d_Mod_goal_42 (by decide) ?_
  refine z_goto d_Mod_goal_43 47 (by decide) ?_
  refine z_istore_n (lv' := [(0, _), (1, _)]) d_Mod_goal_47 (by decide) rfl ?_
  refine z_iload_n d_Mod_goal_48 rfl ?_
  refine z_if_eq d_Mod_goal_49 56 (by decide) (fun h9 => absurd h9 (by decide)) (fun _ => ?_)
  refine z_iconst (v := 2) d_Mod_goal_52 (by decide) ?_
  refine z_goto d_Mod_goal_53 57 (by decide) ?_
  exact z_iret d_Mod_goal_57 rfl (by decide) (by decide) rfl rfl
set_option maxRecDepth 100000 in
set_option maxHeartbeats 4000000 in
theorem c_Mod_goal_16 (X : zX) (d : Nat) (h : zH) (N : Nat) : zC X d m_Mod_goal 0 0 false [.int 16] h N (some (.int 2)) h N := by
  refine zC_of (by decide) (Nat.le_of_ble_eq_true rfl) ?_
  refine z_iload_n d_Mod_goal_0 rfl ?_
  refine z_bipush (v := 19) d_Mod_goal_1 (by decide) ?_
  refine z_icmp_ne d_Mod_goal_3 8 (by decide) (fun _ => ?_) (fun h9 => absurd h9 (by decide))
  refine z_iload_n d_Mod_goal_8 rfl ?_
  refine z_iconst (v := 2) d_Mod_goal_9 (by decide) ?_
  refine z_icmp_eq d_Mod_goal_10 42 (by decide) (fun h9 => absurd h9 (by decide)) (fun _ => ?_)
  refine z_iload_n d_Mod_goal_13 rfl ?_
  refine z_iconst (v := 3) d_Mod_goal_14 (by decide) ?_
  refine z_icmp_eq d_Mod_goal_15 42 (by decide) (fun h9 => absurd h9 (by decide)) (fun _ => ?_)
  refine z_iload_n d_Mod_goal_18 rfl ?_
  refine z_bipush (v := 8) d_Mod_goal_19 (by decide) ?_
  refine z_icmp_eq d_Mod_goal_21 42 (by decide) (fun h9 => absurd h9 (by decide)) (fun _ => ?_)
  refine z_iload_n d_Mod_goal_24 rfl ?_
  refine z_bipush (v := 9) d_Mod_goal_25 (by decide) ?_
  refine z_icmp_lt d_Mod_goal_27 36 (by decide) (fun h9 => absurd h9 (by decide)) (fun _ => ?_)
  refine z_iload_n d_Mod_goal_30 rfl ?_
  refine z_bipush (v := 16) d_Mod_goal_31 (by decide) ?_
  refine z_icmp_le d_Mod_goal_33 42 (by decide) (fun _ => ?_) (fun h9 => absurd (by decide) h9)
  refine z_iconst (v := 1) d_Mod_goal_42 (by decide) ?_
  refine z_goto d_Mod_goal_43 47 (by decide) ?_
  refine z_istore_n (lv' := [(0, _), (1, _)]) d_Mod_goal_47 (by decide) rfl ?_
  refine z_iload_n d_Mod_goal_48 rfl ?_
  refine z_if_eq d_Mod_goal_49 56 (by decide) (fun h9 => absurd h9 (by decide)) (fun _ => ?_)
  refine z_iconst (v := 2) d_Mod_goal_52 (by decide) ?_
  refine z_goto d_Mod_goal_53 57 (by decide) ?_
  exact z_iret d_Mod_goal_57 rfl (by decide) (by decide) rfl rfl
set_option maxRecDepth 100000 in
set_option maxHeartbeats 4000000 in
theorem c_Mod_goal_17 (X : zX) (d : Nat) (h : zH) (N : Nat) : zC X d m_Mod_goal 0 0 false [.int 17] h N (some (.int 0)) h N := by
  refine zC_of (by decide) (Nat.le_of_ble_eq_true rfl) ?_
  refine z_iload_n d_Mod_goal_0 rfl ?_
  refine z_bipush (v := 19) d_Mod_goal_1 (by decide) ?_
  refine z_icmp_ne d_Mod_goal_3 8 (by decide) (fun _ => ?_) (fun h9 => absurd h9 (by decide))
  refine z_iload_n d_Mod_goal_8 rfl ?_
  refine z_iconst (v := 2) d_Mod_goal_9 (by decide) ?_
  refine z_icmp_eq d_Mod_goal_10 42 (by decide) (fun h9 => absurd h9 (by decide)) (fun _ => ?_)
  refine z_iload_n d_Mod_goal_13 rfl ?_
  refine z_iconst (v := 3) d_Mod_goal_14 (by decide) ?_
  refine z_icmp_eq d_Mod_goal_15 42 (by decide) (fun h9 => absurd h9 (by decide)) (fun _ => ?_)
  refine z_iload_n d_Mod_goal_18 rfl ?_
  refine z_bipush (v := 8) d_Mod_goal_19 (by decide) ?_
  refine z_icmp_eq d_Mod_goal_21 42 (by decide) (fun h9 => absurd h9 (by decide)) (fun _ => ?_)
  refine z_iload_n d_Mod_goal_24 rfl ?_
  refine z_bipush (v := 9) d_Mod_goal_25 (by decide) ?_
  refine z_icmp_lt d_Mod_goal_27 36 (by decide) (fun h9 => absurd h9 (by decide)) (fun _ => ?_)
  refine z_iload_n d_Mod_goal_30 rfl ?_
  refine z_bipush (v := 16) d_Mod_goal_31 (by decide) ?_
  refine z_icmp_le d_Mod_goal_33 42 (by decide) (fun h9 => absurd h9 (by decide)) (fun _ => ?_)
  refine z_iload_n d_Mod_goal_36 rfl ?_
  refine z_bipush (v := 20) d_Mod_goal_37 (by decide) ?_
  refine z_icmp_ne d_Mod_goal_39 46 (by decide) (fun _ => ?_) (fun h9 => absurd h9 (by decide))
  refine z_iconst (v := 0) d_Mod_goal_46 (by decide) ?_
  refine z_istore_n (lv' := [(0, _), (1, _)]) d_Mod_goal_47 (by decide) rfl ?_
  refine z_iload_n d_Mod_goal_48 rfl ?_
  refine z_if_eq d_Mod_goal_49 56 (by decide) (fun _ => ?_) (fun h9 => absurd (by decide) h9)
  refine z_iconst (v := 0) d_Mod_goal_56 (by decide) ?_
  exact z_iret d_Mod_goal_57 rfl (by decide) (by decide) rfl rfl
set_option maxRecDepth 100000 in
set_option maxHeartbeats 4000000 in
theorem c_Mod_goal_18 (X : zX) (d : Nat) (h : zH) (N : Nat) : zC X d m_Mod_goal 0 0 false [.int 18] h N (some (.int 0)) h N := by
  refine zC_of (by decide) (Nat.le_of_ble_eq_true rfl) ?_
  refine z_iload_n d_Mod_goal_0 rfl ?_
  refine z_bipush (v := 19) d_Mod_goal_1 (by decide) ?_
  refine z_icmp_ne d_Mod_goal_3 8 (by decide) (fun _ => ?_) (fun h9 => absurd h9 (by decide))
  refine z_iload_n d_Mod_goal_8 rfl ?_
  refine z_iconst (v := 2) d_Mod_goal_9 (by decide) ?_
  refine z_icmp_eq d_Mod_goal_10 42 (by decide) (fun h9 => absurd h9 (by decide)) (fun _ => ?_)
  refine z_iload_n d_Mod_goal_13 rfl ?_
  refine z_iconst (v := 3) d_Mod_goal_14 (by decide) ?_
  refine z_icmp_eq d_Mod_goal_15 42 (by decide) (fun h9 => absurd h9 (by decide)) (fun _ => ?_)
  refine z_iload_n d_Mod_goal_18 rfl ?_
  refine z_bipush (v := 8) d_Mod_goal_19 (by decide) ?_
  refine z_icmp_eq d_Mod_goal_21 42 (by decide) (fun h9 => absurd h9 (by decide)) (fun _ => ?_)
  refine z_iload_n d_Mod_goal_24 rfl ?_
  refine z_bipush (v := 9) d_Mod_goal_25 (by decide) ?_
  refine z_icmp_lt d_Mod_goal_27 36 (by decide) (fun h9 => absurd h9 (by decide)) (fun _ => ?_)
  refine z_iload_n d_Mod_goal_30 rfl ?_
  refine z_bipush (v := 16) d_Mod_goal_31 (by decide) ?_
  refine z_icmp_le d_Mod_goal_33 42 (by decide) (fun h9 => absurd h9 (by decide)) (fun _ => ?_)
  refine z_iload_n d_Mod_goal_36 rfl ?_
  refine z_bipush (v := 20) d_Mod_goal_37 (by decide) ?_
  refine z_icmp_ne d_Mod_goal_39 46 (by decide) (fun _ => ?_) (fun h9 => absurd h9 (by decide))
  refine z_iconst (v := 0) d_Mod_goal_46 (by decide) ?_
  refine z_istore_n (lv' := [(0, _), (1, _)]) d_Mod_goal_47 (by decide) rfl ?_
  refine z_iload_n d_Mod_goal_48 rfl ?_
  refine z_if_eq d_Mod_goal_49 56 (by decide) (fun _ => ?_) (fun h9 => absurd (by decide) h9)
  refine z_iconst (v := 0) d_Mod_goal_56 (by decide) ?_
  exact z_iret d_Mod_goal_57 rfl (by decide) (by decide) rfl rfl
set_option maxRecDepth 100000 in
set_option maxHeartbeats 4000000 in
theorem c_Mod_goal_19 (X : zX) (d : Nat) (h : zH) (N : Nat) : zC X d m_Mod_goal 0 0 false [.int 19] h N (some (.int 1)) h N := by
  refine zC_of (by decide) (Nat.le_of_ble_eq_true rfl) ?_
  refine z_iload_n d_Mod_goal_0 rfl ?_
  refine z_bipush (v := 19) d_Mod_goal_1 (by decide) ?_
  refine z_icmp_ne d_Mod_goal_3 8 (by decide) (fun h9 => absurd h9 (by decide)) (fun _ => ?_)
  refine z_iconst (v := 1) d_Mod_goal_6 (by decide) ?_
  exact z_iret d_Mod_goal_7 rfl (by decide) (by decide) rfl rfl
set_option maxRecDepth 100000 in
set_option maxHeartbeats 4000000 in
theorem c_Mod_goal_20 (X : zX) (d : Nat) (h : zH) (N : Nat) : zC X d m_Mod_goal 0 0 false [.int 20] h N (some (.int 2)) h N := by
  refine zC_of (by decide) (Nat.le_of_ble_eq_true rfl) ?_
  refine z_iload_n d_Mod_goal_0 rfl ?_
  refine z_bipush (v := 19) d_Mod_goal_1 (by decide) ?_
  refine z_icmp_ne d_Mod_goal_3 8 (by decide) (fun _ => ?_) (fun h9 => absurd h9 (by decide))
  refine z_iload_n d_Mod_goal_8 rfl ?_
  refine z_iconst (v := 2) d_Mod_goal_9 (by decide) ?_
  refine z_icmp_eq d_Mod_goal_10 42 (by decide) (fun h9 => absurd h9 (by decide)) (fun _ => ?_)
  refine z_iload_n d_Mod_goal_13 rfl ?_
  refine z_iconst (v := 3) d_Mod_goal_14 (by decide) ?_
  refine z_icmp_eq d_Mod_goal_15 42 (by decide) (fun h9 => absurd h9 (by decide)) (fun _ => ?_)
  refine z_iload_n d_Mod_goal_18 rfl ?_
  refine z_bipush (v := 8) d_Mod_goal_19 (by decide) ?_
  refine z_icmp_eq d_Mod_goal_21 42 (by decide) (fun h9 => absurd h9 (by decide)) (fun _ => ?_)
  refine z_iload_n d_Mod_goal_24 rfl ?_
  refine z_bipush (v := 9) d_Mod_goal_25 (by decide) ?_
  refine z_icmp_lt d_Mod_goal_27 36 (by decide) (fun h9 => absurd h9 (by decide)) (fun _ => ?_)
  refine z_iload_n d_Mod_goal_30 rfl ?_
  refine z_bipush (v := 16) d_Mod_goal_31 (by decide) ?_
  refine z_icmp_le d_Mod_goal_33 42 (by decide) (fun h9 => absurd h9 (by decide)) (fun _ => ?_)
  refine z_iload_n d_Mod_goal_36 rfl ?_
  refine z_bipush (v := 20) d_Mod_goal_37 (by decide) ?_
  refine z_icmp_ne d_Mod_goal_39 46 (by decide) (fun h9 => absurd h9 (by decide)) (fun _ => ?_)
  refine z_iconst (v := 1) d_Mod_goal_42 (by decide) ?_
  refine z_goto d_Mod_goal_43 47 (by decide) ?_
  refine z_istore_n (lv' := [(0, _), (1, _)]) d_Mod_goal_47 (by decide) rfl ?_
  refine z_iload_n d_Mod_goal_48 rfl ?_
  refine z_if_eq d_Mod_goal_49 56 (by decide) (fun h9 => absurd h9 (by decide)) (fun _ => ?_)
  refine z_iconst (v := 2) d_Mod_goal_52 (by decide) ?_
  refine z_goto d_Mod_goal_53 57 (by decide) ?_
  exact z_iret d_Mod_goal_57 rfl (by decide) (by decide) rfl rfl
set_option maxRecDepth 100000 in
set_option maxHeartbeats 4000000 in
theorem c_Mod_goal_21 (X : zX) (d : Nat) (h : zH) (N : Nat) : zC X d m_Mod_goal 0 0 false [.int 21] h N (some (.int 0)) h N := by
  refine zC_of (by decide) (Nat.le_of_ble_eq_true rfl) ?_
  refine z_iload_n d_Mod_goal_0 rfl ?_
  refine z_bipush (v := 19) d_Mod_goal_1 (by decide) ?_
  refine z_icmp_ne d_Mod_goal_3 8 (by decide) (fun _ => ?_) (fun h9 => absurd h9 (by decide))
  refine z_iload_n d_Mod_goal_8 rfl ?_
  refine z_iconst (v := 2) d_Mod_goal_9 (by decide) ?_
  refine z_icmp_eq d_Mod_goal_10 42 (by decide) (fun h9 => absurd h9 (by decide)) (fun _ => ?_)
  refine z_iload_n d_Mod_goal_13 rfl ?_
  refine z_iconst (v := 3) d_Mod_goal_14 (by decide) ?_
  refine z_icmp_eq d_Mod_goal_15 42 (by decide) (fun h9 => absurd h9 (by decide)) (fun _ => ?_)
  refine z_iload_n d_Mod_goal_18 rfl ?_
  refine z_bipush (v := 8) d_Mod_goal_19 (by decide) ?_
  refine z_icmp_eq d_Mod_goal_21 42 (by decide) (fun h9 => absurd h9 (by decide)) (fun _ => ?_)
  refine z_iload_n d_Mod_goal_24 rfl ?_
  refine z_bipush (v := 9) d_Mod_goal_25 (by decide) ?_
  refine z_icmp_lt d_Mod_goal_27 36 (by decide) (fun h9 => absurd h9 (by decide)) (fun _ => ?_)
  refine z_iload_n d_Mod_goal_30 rfl ?_
  refine z_bipush (v := 16) d_Mod_goal_31 (by decide) ?_
  refine z_icmp_le d_Mod_goal_33 42 (by decide) (fun h9 => absurd h9 (by decide)) (fun _ => ?_)
  refine z_iload_n d_Mod_goal_36 rfl ?_
  refine z_bipush (v := 20) d_Mod_goal_37 (by decide) ?_
  refine z_icmp_ne d_Mod_goal_39 46 (by decide) (fun _ => ?_) (fun h9 => absurd h9 (by decide))
  refine z_iconst (v := 0) d_Mod_goal_46 (by decide) ?_
  refine z_istore_n (lv' := [(0, _), (1, _)]) d_Mod_goal_47 (by decide) rfl ?_
  refine z_iload_n d_Mod_goal_48 rfl ?_
  refine z_if_eq d_Mod_goal_49 56 (by decide) (fun _ => ?_) (fun h9 => absurd (by decide) h9)
  refine z_iconst (v := 0) d_Mod_goal_56 (by decide) ?_
  exact z_iret d_Mod_goal_57 rfl (by decide) (by decide) rfl rfl
theorem c_Mod_goal (X : zX) (d : Nat) {o : Nat} (ho : o < 22) (h : zH) (N : Nat) : zC X d m_Mod_goal 0 0 false [.int (nI o)] h N (some (.int (rGoal.getD o 0))) h N := by
  match o, ho with
  | 0, _ => exact c_Mod_goal_0 X d h N
  | 1, _ => exact c_Mod_goal_1 X d h N
  | 2, _ => exact c_Mod_goal_2 X d h N
  | 3, _ => exact c_Mod_goal_3 X d h N
  | 4, _ => exact c_Mod_goal_4 X d h N
  | 5, _ => exact c_Mod_goal_5 X d h N
  | 6, _ => exact c_Mod_goal_6 X d h N
  | 7, _ => exact c_Mod_goal_7 X d h N
  | 8, _ => exact c_Mod_goal_8 X d h N
  | 9, _ => exact c_Mod_goal_9 X d h N
  | 10, _ => exact c_Mod_goal_10 X d h N
  | 11, _ => exact c_Mod_goal_11 X d h N
  | 12, _ => exact c_Mod_goal_12 X d h N
  | 13, _ => exact c_Mod_goal_13 X d h N
  | 14, _ => exact c_Mod_goal_14 X d h N
  | 15, _ => exact c_Mod_goal_15 X d h N
  | 16, _ => exact c_Mod_goal_16 X d h N
  | 17, _ => exact c_Mod_goal_17 X d h N
  | 18, _ => exact c_Mod_goal_18 X d h N
  | 19, _ => exact c_Mod_goal_19 X d h N
  | 20, _ => exact c_Mod_goal_20 X d h N
  | 21, _ => exact c_Mod_goal_21 X d h N
  | _ + 22, h9 => exact absurd h9 (by omega)
set_option maxRecDepth 100000 in
set_option maxHeartbeats 4000000 in
theorem c_Mod_needsOpen_0 (X : zX) (d : Nat) (h : zH) (N : Nat) : zC X d m_Mod_needsOpen 0 0 false [.int 0] h N (some (.int 0)) h N := by
  refine zC_of (by decide) (Nat.le_of_ble_eq_true rfl) ?_
  refine z_iload_n d_Mod_needsOpen_0 rfl ?_
  refine z_iconst (v := 2) d_Mod_needsOpen_1 (by decide) ?_
  refine z_icmp_eq d_Mod_needsOpen_2 38 (by decide) (fun h9 => absurd h9 (by decide)) (fun _ => ?_)
  refine z_iload_n d_Mod_needsOpen_5 rfl ?_
  refine z_iconst (v := 3) d_Mod_needsOpen_6 (by decide) ?_
  refine z_icmp_eq d_Mod_needsOpen_7 38 (by decide) (fun h9 => absurd h9 (by decide)) (fun _ => ?_)
  refine z_iload_n d_Mod_needsOpen_10 rfl ?_
  refine z_iconst (v := 4) d_Mod_needsOpen_11 (by decide) ?_
  refine z_icmp_eq d_Mod_needsOpen_12 38 (by decide) (fun h9 => absurd h9 (by decide)) (fun _ => ?_)
  refine z_iload_n d_Mod_needsOpen_15 rfl ?_
  refine z_iconst (v := 5) d_Mod_needsOpen_16 (by decide) ?_
  refine z_icmp_eq d_Mod_needsOpen_17 38 (by decide) (fun h9 => absurd h9 (by decide)) (fun _ => ?_)
  refine z_iload_n d_Mod_needsOpen_20 rfl ?_
  refine z_bipush (v := 8) d_Mod_needsOpen_21 (by decide) ?_
  refine z_icmp_eq d_Mod_needsOpen_23 38 (by decide) (fun h9 => absurd h9 (by decide)) (fun _ => ?_)
  refine z_iload_n d_Mod_needsOpen_26 rfl ?_
  refine z_bipush (v := 20) d_Mod_needsOpen_27 (by decide) ?_
  refine z_icmp_eq d_Mod_needsOpen_29 38 (by decide) (fun h9 => absurd h9 (by decide)) (fun _ => ?_)
  refine z_iload_n d_Mod_needsOpen_32 rfl ?_
  refine z_bipush (v := 21) d_Mod_needsOpen_33 (by decide) ?_
  refine z_icmp_ne d_Mod_needsOpen_35 42 (by decide) (fun _ => ?_) (fun h9 => absurd h9 (by decide))
  refine z_iconst (v := 0) d_Mod_needsOpen_42 (by decide) ?_
  exact z_zret d_Mod_needsOpen_43 rfl (by decide) (by decide) (by decide) rfl rfl
set_option maxRecDepth 100000 in
set_option maxHeartbeats 4000000 in
theorem c_Mod_needsOpen_1 (X : zX) (d : Nat) (h : zH) (N : Nat) : zC X d m_Mod_needsOpen 0 0 false [.int 1] h N (some (.int 0)) h N := by
  refine zC_of (by decide) (Nat.le_of_ble_eq_true rfl) ?_
  refine z_iload_n d_Mod_needsOpen_0 rfl ?_
  refine z_iconst (v := 2) d_Mod_needsOpen_1 (by decide) ?_
  refine z_icmp_eq d_Mod_needsOpen_2 38 (by decide) (fun h9 => absurd h9 (by decide)) (fun _ => ?_)
  refine z_iload_n d_Mod_needsOpen_5 rfl ?_
  refine z_iconst (v := 3) d_Mod_needsOpen_6 (by decide) ?_
  refine z_icmp_eq d_Mod_needsOpen_7 38 (by decide) (fun h9 => absurd h9 (by decide)) (fun _ => ?_)
  refine z_iload_n d_Mod_needsOpen_10 rfl ?_
  refine z_iconst (v := 4) d_Mod_needsOpen_11 (by decide) ?_
  refine z_icmp_eq d_Mod_needsOpen_12 38 (by decide) (fun h9 => absurd h9 (by decide)) (fun _ => ?_)
  refine z_iload_n d_Mod_needsOpen_15 rfl ?_
  refine z_iconst (v := 5) d_Mod_needsOpen_16 (by decide) ?_
  refine z_icmp_eq d_Mod_needsOpen_17 38 (by decide) (fun h9 => absurd h9 (by decide)) (fun _ => ?_)
  refine z_iload_n d_Mod_needsOpen_20 rfl ?_
  refine z_bipush (v := 8) d_Mod_needsOpen_21 (by decide) ?_
  refine z_icmp_eq d_Mod_needsOpen_23 38 (by decide) (fun h9 => absurd h9 (by decide)) (fun _ => ?_)
  refine z_iload_n d_Mod_needsOpen_26 rfl ?_
  refine z_bipush (v := 20) d_Mod_needsOpen_27 (by decide) ?_
  refine z_icmp_eq d_Mod_needsOpen_29 38 (by decide) (fun h9 => absurd h9 (by decide)) (fun _ => ?_)
  refine z_iload_n d_Mod_needsOpen_32 rfl ?_
  refine z_bipush (v := 21) d_Mod_needsOpen_33 (by decide) ?_
  refine z_icmp_ne d_Mod_needsOpen_35 42 (by decide) (fun _ => ?_) (fun h9 => absurd h9 (by decide))
  refine z_iconst (v := 0) d_Mod_needsOpen_42 (by decide) ?_
  exact z_zret d_Mod_needsOpen_43 rfl (by decide) (by decide) (by decide) rfl rfl
set_option maxRecDepth 100000 in
set_option maxHeartbeats 4000000 in
theorem c_Mod_needsOpen_2 (X : zX) (d : Nat) (h : zH) (N : Nat) : zC X d m_Mod_needsOpen 0 0 false [.int 2] h N (some (.int 1)) h N := by
  refine zC_of (by decide) (Nat.le_of_ble_eq_true rfl) ?_
  refine z_iload_n d_Mod_needsOpen_0 rfl ?_
  refine z_iconst (v := 2) d_Mod_needsOpen_1 (by decide) ?_
  refine z_icmp_eq d_Mod_needsOpen_2 38 (by decide) (fun _ => ?_) (fun h9 => absurd (by decide) h9)
  refine z_iconst (v := 1) d_Mod_needsOpen_38 (by decide) ?_
  refine z_goto d_Mod_needsOpen_39 43 (by decide) ?_
  exact z_zret d_Mod_needsOpen_43 rfl (by decide) (by decide) (by decide) rfl rfl
set_option maxRecDepth 100000 in
set_option maxHeartbeats 4000000 in
theorem c_Mod_needsOpen_3 (X : zX) (d : Nat) (h : zH) (N : Nat) : zC X d m_Mod_needsOpen 0 0 false [.int 3] h N (some (.int 1)) h N := by
  refine zC_of (by decide) (Nat.le_of_ble_eq_true rfl) ?_
  refine z_iload_n d_Mod_needsOpen_0 rfl ?_
  refine z_iconst (v := 2) d_Mod_needsOpen_1 (by decide) ?_
  refine z_icmp_eq d_Mod_needsOpen_2 38 (by decide) (fun h9 => absurd h9 (by decide)) (fun _ => ?_)
  refine z_iload_n d_Mod_needsOpen_5 rfl ?_
  refine z_iconst (v := 3) d_Mod_needsOpen_6 (by decide) ?_
  refine z_icmp_eq d_Mod_needsOpen_7 38 (by decide) (fun _ => ?_) (fun h9 => absurd (by decide) h9)
  refine z_iconst (v := 1) d_Mod_needsOpen_38 (by decide) ?_
  refine z_goto d_Mod_needsOpen_39 43 (by decide) ?_
  exact z_zret d_Mod_needsOpen_43 rfl (by decide) (by decide) (by decide) rfl rfl
set_option maxRecDepth 100000 in
set_option maxHeartbeats 4000000 in
theorem c_Mod_needsOpen_4 (X : zX) (d : Nat) (h : zH) (N : Nat) : zC X d m_Mod_needsOpen 0 0 false [.int 4] h N (some (.int 1)) h N := by
  refine zC_of (by decide) (Nat.le_of_ble_eq_true rfl) ?_
  refine z_iload_n d_Mod_needsOpen_0 rfl ?_
  refine z_iconst (v := 2) d_Mod_needsOpen_1 (by decide) ?_
  refine z_icmp_eq d_Mod_needsOpen_2 38 (by decide) (fun h9 => absurd h9 (by decide)) (fun _ => ?_)
  refine z_iload_n d_Mod_needsOpen_5 rfl ?_
  refine z_iconst (v := 3) d_Mod_needsOpen_6 (by decide) ?_
  refine z_icmp_eq d_Mod_needsOpen_7 38 (by decide) (fun h9 => absurd h9 (by decide)) (fun _ => ?_)
  refine z_iload_n d_Mod_needsOpen_10 rfl ?_
  refine z_iconst (v := 4) d_Mod_needsOpen_11 (by decide) ?_
  refine z_icmp_eq d_Mod_needsOpen_12 38 (by decide) (fun _ => ?_) (fun h9 => absurd (by decide) h9)
  refine z_iconst (v := 1) d_Mod_needsOpen_38 (by decide) ?_
  refine z_goto d_Mod_needsOpen_39 43 (by decide) ?_
  exact z_zret d_Mod_needsOpen_43 rfl (by decide) (by decide) (by decide) rfl rfl
set_option maxRecDepth 100000 in
set_option maxHeartbeats 4000000 in
theorem c_Mod_needsOpen_5 (X : zX) (d : Nat) (h : zH) (N : Nat) : zC X d m_Mod_needsOpen 0 0 false [.int 5] h N (some (.int 1)) h N := by
  refine zC_of (by decide) (Nat.le_of_ble_eq_true rfl) ?_
  refine z_iload_n d_Mod_needsOpen_0 rfl ?_
  refine z_iconst (v := 2) d_Mod_needsOpen_1 (by decide) ?_
  refine z_icmp_eq d_Mod_needsOpen_2 38 (by decide) (fun h9 => absurd h9 (by decide)) (fun _ => ?_)
  refine z_iload_n d_Mod_needsOpen_5 rfl ?_
  refine z_iconst (v := 3) d_Mod_needsOpen_6 (by decide) ?_
  refine z_icmp_eq d_Mod_needsOpen_7 38 (by decide) (fun h9 => absurd h9 (by decide)) (fun _ => ?_)
  refine z_iload_n d_Mod_needsOpen_10 rfl ?_
  refine z_iconst (v := 4) d_Mod_needsOpen_11 (by decide) ?_
  refine z_icmp_eq d_Mod_needsOpen_12 38 (by decide) (fun h9 => absurd h9 (by decide)) (fun _ => ?_)
  refine z_iload_n d_Mod_needsOpen_15 rfl ?_
  refine z_iconst (v := 5) d_Mod_needsOpen_16 (by decide) ?_
  refine z_icmp_eq d_Mod_needsOpen_17 38 (by decide) (fun _ => ?_) (fun h9 => absurd (by decide) h9)
  refine z_iconst (v := 1) d_Mod_needsOpen_38 (by decide) ?_
  refine z_goto d_Mod_needsOpen_39 43 (by decide) ?_
  exact z_zret d_Mod_needsOpen_43 rfl (by decide) (by decide) (by decide) rfl rfl
set_option maxRecDepth 100000 in
set_option maxHeartbeats 4000000 in
theorem c_Mod_needsOpen_6 (X : zX) (d : Nat) (h : zH) (N : Nat) : zC X d m_Mod_needsOpen 0 0 false [.int 6] h N (some (.int 0)) h N := by
  refine zC_of (by decide) (Nat.le_of_ble_eq_true rfl) ?_
  refine z_iload_n d_Mod_needsOpen_0 rfl ?_
  refine z_iconst (v := 2) d_Mod_needsOpen_1 (by decide) ?_
  refine z_icmp_eq d_Mod_needsOpen_2 38 (by decide) (fun h9 => absurd h9 (by decide)) (fun _ => ?_)
  refine z_iload_n d_Mod_needsOpen_5 rfl ?_
  refine z_iconst (v := 3) d_Mod_needsOpen_6 (by decide) ?_
  refine z_icmp_eq d_Mod_needsOpen_7 38 (by decide) (fun h9 => absurd h9 (by decide)) (fun _ => ?_)
  refine z_iload_n d_Mod_needsOpen_10 rfl ?_
  refine z_iconst (v := 4) d_Mod_needsOpen_11 (by decide) ?_
  refine z_icmp_eq d_Mod_needsOpen_12 38 (by decide) (fun h9 => absurd h9 (by decide)) (fun _ => ?_)
  refine z_iload_n d_Mod_needsOpen_15 rfl ?_
  refine z_iconst (v := 5) d_Mod_needsOpen_16 (by decide) ?_
  refine z_icmp_eq d_Mod_needsOpen_17 38 (by decide) (fun h9 => absurd h9 (by decide)) (fun _ => ?_)
  refine z_iload_n d_Mod_needsOpen_20 rfl ?_
  refine z_bipush (v := 8) d_Mod_needsOpen_21 (by decide) ?_
  refine z_icmp_eq d_Mod_needsOpen_23 38 (by decide) (fun h9 => absurd h9 (by decide)) (fun _ => ?_)
  refine z_iload_n d_Mod_needsOpen_26 rfl ?_
  refine z_bipush (v := 20) d_Mod_needsOpen_27 (by decide) ?_
  refine z_icmp_eq d_Mod_needsOpen_29 38 (by decide) (fun h9 => absurd h9 (by decide)) (fun _ => ?_)
  refine z_iload_n d_Mod_needsOpen_32 rfl ?_
  refine z_bipush (v := 21) d_Mod_needsOpen_33 (by decide) ?_
  refine z_icmp_ne d_Mod_needsOpen_35 42 (by decide) (fun _ => ?_) (fun h9 => absurd h9 (by decide))
  refine z_iconst (v := 0) d_Mod_needsOpen_42 (by decide) ?_
  exact z_zret d_Mod_needsOpen_43 rfl (by decide) (by decide) (by decide) rfl rfl
set_option maxRecDepth 100000 in
set_option maxHeartbeats 4000000 in
theorem c_Mod_needsOpen_7 (X : zX) (d : Nat) (h : zH) (N : Nat) : zC X d m_Mod_needsOpen 0 0 false [.int 7] h N (some (.int 0)) h N := by
  refine zC_of (by decide) (Nat.le_of_ble_eq_true rfl) ?_
  refine z_iload_n d_Mod_needsOpen_0 rfl ?_
  refine z_iconst (v := 2) d_Mod_needsOpen_1 (by decide) ?_
  refine z_icmp_eq d_Mod_needsOpen_2 38 (by decide) (fun h9 => absurd h9 (by decide)) (fun _ => ?_)
  refine z_iload_n d_Mod_needsOpen_5 rfl ?_
  refine z_iconst (v := 3) d_Mod_needsOpen_6 (by decide) ?_
  refine z_icmp_eq d_Mod_needsOpen_7 38 (by decide) (fun h9 => absurd h9 (by decide)) (fun _ => ?_)
  refine z_iload_n d_Mod_needsOpen_10 rfl ?_
  refine z_iconst (v := 4) d_Mod_needsOpen_11 (by decide) ?_
  refine z_icmp_eq d_Mod_needsOpen_12 38 (by decide) (fun h9 => absurd h9 (by decide)) (fun _ => ?_)
  refine z_iload_n d_Mod_needsOpen_15 rfl ?_
  refine z_iconst (v := 5) d_Mod_needsOpen_16 (by decide) ?_
  refine z_icmp_eq d_Mod_needsOpen_17 38 (by decide) (fun h9 => absurd h9 (by decide)) (fun _ => ?_)
  refine z_iload_n d_Mod_needsOpen_20 rfl ?_
  refine z_bipush (v := 8) d_Mod_needsOpen_21 (by decide) ?_
  refine z_icmp_eq d_Mod_needsOpen_23 38 (by decide) (fun h9 => absurd h9 (by decide)) (fun _ => ?_)
  refine z_iload_n d_Mod_needsOpen_26 rfl ?_
  refine z_bipush (v := 20) d_Mod_needsOpen_27 (by decide) ?_
  refine z_icmp_eq d_Mod_needsOpen_29 38 (by decide) (fun h9 => absurd h9 (by decide)) (fun _ => ?_)
  refine z_iload_n d_Mod_needsOpen_32 rfl ?_
  refine z_bipush (v := 21) d_Mod_needsOpen_33 (by decide) ?_
  refine z_icmp_ne d_Mod_needsOpen_35 42 (by decide) (fun _ => ?_) (fun h9 => absurd h9 (by decide))
  refine z_iconst (v := 0) d_Mod_needsOpen_42 (by decide) ?_
  exact z_zret d_Mod_needsOpen_43 rfl (by decide) (by decide) (by decide) rfl rfl
set_option maxRecDepth 100000 in
set_option maxHeartbeats 4000000 in
theorem c_Mod_needsOpen_8 (X : zX) (d : Nat) (h : zH) (N : Nat) : zC X d m_Mod_needsOpen 0 0 false [.int 8] h N (some (.int 1)) h N := by
  refine zC_of (by decide) (Nat.le_of_ble_eq_true rfl) ?_
  refine z_iload_n d_Mod_needsOpen_0 rfl ?_
  refine z_iconst (v := 2) d_Mod_needsOpen_1 (by decide) ?_
  refine z_icmp_eq d_Mod_needsOpen_2 38 (by decide) (fun h9 => absurd h9 (by decide)) (fun _ => ?_)
  refine z_iload_n d_Mod_needsOpen_5 rfl ?_
  refine z_iconst (v := 3) d_Mod_needsOpen_6 (by decide) ?_
  refine z_icmp_eq d_Mod_needsOpen_7 38 (by decide) (fun h9 => absurd h9 (by decide)) (fun _ => ?_)
  refine z_iload_n d_Mod_needsOpen_10 rfl ?_
  refine z_iconst (v := 4) d_Mod_needsOpen_11 (by decide) ?_
  refine z_icmp_eq d_Mod_needsOpen_12 38 (by decide) (fun h9 => absurd h9 (by decide)) (fun _ => ?_)
  refine z_iload_n d_Mod_needsOpen_15 rfl ?_
  refine z_iconst (v := 5) d_Mod_needsOpen_16 (by decide) ?_
  refine z_icmp_eq d_Mod_needsOpen_17 38 (by decide) (fun h9 => absurd h9 (by decide)) (fun _ => ?_)
  refine z_iload_n d_Mod_needsOpen_20 rfl ?_
  refine z_bipush (v := 8) d_Mod_needsOpen_21 (by decide) ?_
  refine z_icmp_eq d_Mod_needsOpen_23 38 (by decide) (fun _ => ?_) (fun h9 => absurd (by decide) h9)
  refine z_iconst (v := 1) d_Mod_needsOpen_38 (by decide) ?_
  refine z_goto d_Mod_needsOpen_39 43 (by decide) ?_
  exact z_zret d_Mod_needsOpen_43 rfl (by decide) (by decide) (by decide) rfl rfl
set_option maxRecDepth 100000 in
set_option maxHeartbeats 4000000 in
theorem c_Mod_needsOpen_9 (X : zX) (d : Nat) (h : zH) (N : Nat) : zC X d m_Mod_needsOpen 0 0 false [.int 9] h N (some (.int 0)) h N := by
  refine zC_of (by decide) (Nat.le_of_ble_eq_true rfl) ?_
  refine z_iload_n d_Mod_needsOpen_0 rfl ?_
  refine z_iconst (v := 2) d_Mod_needsOpen_1 (by decide) ?_
  refine z_icmp_eq d_Mod_needsOpen_2 38 (by decide) (fun h9 => absurd h9 (by decide)) (fun _ => ?_)
  refine z_iload_n d_Mod_needsOpen_5 rfl ?_
  refine z_iconst (v := 3) d_Mod_needsOpen_6 (by decide) ?_
  refine z_icmp_eq d_Mod_needsOpen_7 38 (by decide) (fun h9 => absurd h9 (by decide)) (fun _ => ?_)
  refine z_iload_n d_Mod_needsOpen_10 rfl ?_
  refine z_iconst (v := 4) d_Mod_needsOpen_11 (by decide) ?_
  refine z_icmp_eq d_Mod_needsOpen_12 38 (by decide) (fun h9 => absurd h9 (by decide)) (fun _ => ?_)
  refine z_iload_n d_Mod_needsOpen_15 rfl ?_
  refine z_iconst (v := 5) d_Mod_needsOpen_16 (by decide) ?_
  refine z_icmp_eq d_Mod_needsOpen_17 38 (by decide) (fun h9 => absurd h9 (by decide)) (fun _ => ?_)
  refine z_iload_n d_Mod_needsOpen_20 rfl ?_
  refine z_bipush (v := 8) d_Mod_needsOpen_21 (by decide) ?_
  refine z_icmp_eq d_Mod_needsOpen_23 38 (by decide) (fun h9 => absurd h9 (by decide)) (fun _ => ?_)
  refine z_iload_n d_Mod_needsOpen_26 rfl ?_
  refine z_bipush (v := 20) d_Mod_needsOpen_27 (by decide) ?_
  refine z_icmp_eq d_Mod_needsOpen_29 38 (by decide) (fun h9 => absurd h9 (by decide)) (fun _ => ?_)
  refine z_iload_n d_Mod_needsOpen_32 rfl ?_
  refine z_bipush (v := 21) d_Mod_needsOpen_33 (by decide) ?_
  refine z_icmp_ne d_Mod_needsOpen_35 42 (by decide) (fun _ => ?_) (fun h9 => absurd h9 (by decide))
  refine z_iconst (v := 0) d_Mod_needsOpen_42 (by decide) ?_
  exact z_zret d_Mod_needsOpen_43 rfl (by decide) (by decide) (by decide) rfl rfl
set_option maxRecDepth 100000 in
set_option maxHeartbeats 4000000 in
theorem c_Mod_needsOpen_10 (X : zX) (d : Nat) (h : zH) (N : Nat) : zC X d m_Mod_needsOpen 0 0 false [.int 10] h N (some (.int 0)) h N := by
  refine zC_of (by decide) (Nat.le_of_ble_eq_true rfl) ?_
  refine z_iload_n d_Mod_needsOpen_0 rfl ?_
  refine z_iconst (v := 2) d_Mod_needsOpen_1 (by decide) ?_
  refine z_icmp_eq d_Mod_needsOpen_2 38 (by decide) (fun h9 => absurd h9 (by decide)) (fun _ => ?_)
  refine z_iload_n d_Mod_needsOpen_5 rfl ?_
  refine z_iconst (v := 3) d_Mod_needsOpen_6 (by decide) ?_
  refine z_icmp_eq d_Mod_needsOpen_7 38 (by decide) (fun h9 => absurd h9 (by decide)) (fun _ => ?_)
  refine z_iload_n d_Mod_needsOpen_10 rfl ?_
  refine z_iconst (v := 4) d_Mod_needsOpen_11 (by decide) ?_
  refine z_icmp_eq d_Mod_needsOpen_12 38 (by decide) (fun h9 => absurd h9 (by decide)) (fun _ => ?_)
  refine z_iload_n d_Mod_needsOpen_15 rfl ?_
  refine z_iconst (v := 5) d_Mod_needsOpen_16 (by decide) ?_
  refine z_icmp_eq d_Mod_needsOpen_17 38 (by decide) (fun h9 => absurd h9 (by decide)) (fun _ => ?_)
  refine z_iload_n d_Mod_needsOpen_20 rfl ?_
  refine z_bipush (v := 8) d_Mod_needsOpen_21 (by decide) ?_
  refine z_icmp_eq d_Mod_needsOpen_23 38 (by decide) (fun h9 => absurd h9 (by decide)) (fun _ => ?_)
  refine z_iload_n d_Mod_needsOpen_26 rfl ?_
  refine z_bipush (v := 20) d_Mod_needsOpen_27 (by decide) ?_
  refine z_icmp_eq d_Mod_needsOpen_29 38 (by decide) (fun h9 => absurd h9 (by decide)) (fun _ => ?_)
  refine z_iload_n d_Mod_needsOpen_32 rfl ?_
  refine z_bipush (v := 21) d_Mod_needsOpen_33 (by decide) ?_
  refine z_icmp_ne d_Mod_needsOpen_35 42 (by decide) (fun _ => ?_) (fun h9 => absurd h9 (by decide))
  refine z_iconst (v := 0) d_Mod_needsOpen_42 (by decide) ?_
  exact z_zret d_Mod_needsOpen_43 rfl (by decide) (by decide) (by decide) rfl rfl
set_option maxRecDepth 100000 in
set_option maxHeartbeats 4000000 in
theorem c_Mod_needsOpen_11 (X : zX) (d : Nat) (h : zH) (N : Nat) : zC X d m_Mod_needsOpen 0 0 false [.int 11] h N (some (.int 0)) h N := by
  refine zC_of (by decide) (Nat.le_of_ble_eq_true rfl) ?_
  refine z_iload_n d_Mod_needsOpen_0 rfl ?_
  refine z_iconst (v := 2) d_Mod_needsOpen_1 (by decide) ?_
  refine z_icmp_eq d_Mod_needsOpen_2 38 (by decide) (fun h9 => absurd h9 (by decide)) (fun _ => ?_)
  refine z_iload_n d_Mod_needsOpen_5 rfl ?_
  refine z_iconst (v := 3) d_Mod_needsOpen_6 (by decide) ?_
  refine z_icmp_eq d_Mod_needsOpen_7 38 (by decide) (fun h9 => absurd h9 (by decide)) (fun _ => ?_)
  refine z_iload_n d_Mod_needsOpen_10 rfl ?_
  refine z_iconst (v := 4) d_Mod_needsOpen_11 (by decide) ?_
  refine z_icmp_eq d_Mod_needsOpen_12 38 (by decide) (fun h9 => absurd h9 (by decide)) (fun _ => ?_)
  refine z_iload_n d_Mod_needsOpen_15 rfl ?_
  refine z_iconst (v := 5) d_Mod_needsOpen_16 (by decide) ?_
  refine z_icmp_eq d_Mod_needsOpen_17 38 (by decide) (fun h9 => absurd h9 (by decide)) (fun _ => ?_)
  refine z_iload_n d_Mod_needsOpen_20 rfl ?_
  refine z_bipush (v := 8) d_Mod_needsOpen_21 (by decide) ?_
  refine z_icmp_eq d_Mod_needsOpen_23 38 (by decide) (fun h9 => absurd h9 (by decide)) (fun _ => ?_)
  refine z_iload_n d_Mod_needsOpen_26 rfl ?_
  refine z_bipush (v := 20) d_Mod_needsOpen_27 (by decide) ?_
  refine z_icmp_eq d_Mod_needsOpen_29 38 (by decide) (fun h9 => absurd h9 (by decide)) (fun _ => ?_)
  refine z_iload_n d_Mod_needsOpen_32 rfl ?_
  refine z_bipush (v := 21) d_Mod_needsOpen_33 (by decide) ?_
  refine z_icmp_ne d_Mod_needsOpen_35 42 (by decide) (fun _ => ?_) (fun h9 => absurd h9 (by decide))
  refine z_iconst (v := 0) d_Mod_needsOpen_42 (by decide) ?_
  exact z_zret d_Mod_needsOpen_43 rfl (by decide) (by decide) (by decide) rfl rfl
set_option maxRecDepth 100000 in
set_option maxHeartbeats 4000000 in
theorem c_Mod_needsOpen_12 (X : zX) (d : Nat) (h : zH) (N : Nat) : zC X d m_Mod_needsOpen 0 0 false [.int 12] h N (some (.int 0)) h N := by
  refine zC_of (by decide) (Nat.le_of_ble_eq_true rfl) ?_
  refine z_iload_n d_Mod_needsOpen_0 rfl ?_
  refine z_iconst (v := 2) d_Mod_needsOpen_1 (by decide) ?_
  refine z_icmp_eq d_Mod_needsOpen_2 38 (by decide) (fun h9 => absurd h9 (by decide)) (fun _ => ?_)
  refine z_iload_n d_Mod_needsOpen_5 rfl ?_
  refine z_iconst (v := 3) d_Mod_needsOpen_6 (by decide) ?_
  refine z_icmp_eq d_Mod_needsOpen_7 38 (by decide) (fun h9 => absurd h9 (by decide)) (fun _ => ?_)
  refine z_iload_n d_Mod_needsOpen_10 rfl ?_
  refine z_iconst (v := 4) d_Mod_needsOpen_11 (by decide) ?_
  refine z_icmp_eq d_Mod_needsOpen_12 38 (by decide) (fun h9 => absurd h9 (by decide)) (fun _ => ?_)
  refine z_iload_n d_Mod_needsOpen_15 rfl ?_
  refine z_iconst (v := 5) d_Mod_needsOpen_16 (by decide) ?_
  refine z_icmp_eq d_Mod_needsOpen_17 38 (by decide) (fun h9 => absurd h9 (by decide)) (fun _ => ?_)
  refine z_iload_n d_Mod_needsOpen_20 rfl ?_
  refine z_bipush (v := 8) d_Mod_needsOpen_21 (by decide) ?_
  refine z_icmp_eq d_Mod_needsOpen_23 38 (by decide) (fun h9 => absurd h9 (by decide)) (fun _ => ?_)
  refine z_iload_n d_Mod_needsOpen_26 rfl ?_
  refine z_bipush (v := 20) d_Mod_needsOpen_27 (by decide) ?_
  refine z_icmp_eq d_Mod_needsOpen_29 38 (by decide) (fun h9 => absurd h9 (by decide)) (fun _ => ?_)
  refine z_iload_n d_Mod_needsOpen_32 rfl ?_
  refine z_bipush (v := 21) d_Mod_needsOpen_33 (by decide) ?_
  refine z_icmp_ne d_Mod_needsOpen_35 42 (by decide) (fun _ => ?_) (fun h9 => absurd h9 (by decide))
  refine z_iconst (v := 0) d_Mod_needsOpen_42 (by decide) ?_
  exact z_zret d_Mod_needsOpen_43 rfl (by decide) (by decide) (by decide) rfl rfl
set_option maxRecDepth 100000 in
set_option maxHeartbeats 4000000 in
theorem c_Mod_needsOpen_13 (X : zX) (d : Nat) (h : zH) (N : Nat) : zC X d m_Mod_needsOpen 0 0 false [.int 13] h N (some (.int 0)) h N := by
  refine zC_of (by decide) (Nat.le_of_ble_eq_true rfl) ?_
  refine z_iload_n d_Mod_needsOpen_0 rfl ?_
  refine z_iconst (v := 2) d_Mod_needsOpen_1 (by decide) ?_
  refine z_icmp_eq d_Mod_needsOpen_2 38 (by decide) (fun h9 => absurd h9 (by decide)) (fun _ => ?_)
  refine z_iload_n d_Mod_needsOpen_5 rfl ?_
  refine z_iconst (v := 3) d_Mod_needsOpen_6 (by decide) ?_
  refine z_icmp_eq d_Mod_needsOpen_7 38 (by decide) (fun h9 => absurd h9 (by decide)) (fun _ => ?_)
  refine z_iload_n d_Mod_needsOpen_10 rfl ?_
  refine z_iconst (v := 4) d_Mod_needsOpen_11 (by decide) ?_
  refine z_icmp_eq d_Mod_needsOpen_12 38 (by decide) (fun h9 => absurd h9 (by decide)) (fun _ => ?_)
  refine z_iload_n d_Mod_needsOpen_15 rfl ?_
  refine z_iconst (v := 5) d_Mod_needsOpen_16 (by decide) ?_
  refine z_icmp_eq d_Mod_needsOpen_17 38 (by decide) (fun h9 => absurd h9 (by decide)) (fun _ => ?_)
  refine z_iload_n d_Mod_needsOpen_20 rfl ?_
  refine z_bipush (v := 8) d_Mod_needsOpen_21 (by decide) ?_
  refine z_icmp_eq d_Mod_needsOpen_23 38 (by decide) (fun h9 => absurd h9 (by decide)) (fun _ => ?_)
  refine z_iload_n d_Mod_needsOpen_26 rfl ?_
  refine z_bipush (v := 20) d_Mod_needsOpen_27 (by decide) ?_
  refine z_icmp_eq d_Mod_needsOpen_29 38 (by decide) (fun h9 => absurd h9 (by decide)) (fun _ => ?_)
  refine z_iload_n d_Mod_needsOpen_32 rfl ?_
  refine z_bipush (v := 21) d_Mod_needsOpen_33 (by decide) ?_
  refine z_icmp_ne d_Mod_needsOpen_35 42 (by decide) (fun _ => ?_) (fun h9 => absurd h9 (by decide))
  refine z_iconst (v := 0) d_Mod_needsOpen_42 (by decide) ?_
  exact z_zret d_Mod_needsOpen_43 rfl (by decide) (by decide) (by decide) rfl rfl
set_option maxRecDepth 100000 in
set_option maxHeartbeats 4000000 in
theorem c_Mod_needsOpen_14 (X : zX) (d : Nat) (h : zH) (N : Nat) : zC X d m_Mod_needsOpen 0 0 false [.int 14] h N (some (.int 0)) h N := by
  refine zC_of (by decide) (Nat.le_of_ble_eq_true rfl) ?_
  refine z_iload_n d_Mod_needsOpen_0 rfl ?_
  refine z_iconst (v := 2) d_Mod_needsOpen_1 (by decide) ?_
  refine z_icmp_eq d_Mod_needsOpen_2 38 (by decide) (fun h9 => absurd h9 (by decide)) (fun _ => ?_)
  refine z_iload_n d_Mod_needsOpen_5 rfl ?_
  refine z_iconst (v := 3) d_Mod_needsOpen_6 (by decide) ?_
  refine z_icmp_eq d_Mod_needsOpen_7 38 (by decide) (fun h9 => absurd h9 (by decide)) (fun _ => ?_)
  refine z_iload_n d_Mod_needsOpen_10 rfl ?_
  refine z_iconst (v := 4) d_Mod_needsOpen_11 (by decide) ?_
  refine z_icmp_eq d_Mod_needsOpen_12 38 (by decide) (fun h9 => absurd h9 (by decide)) (fun _ => ?_)
  refine z_iload_n d_Mod_needsOpen_15 rfl ?_
  refine z_iconst (v := 5) d_Mod_needsOpen_16 (by decide) ?_
  refine z_icmp_eq d_Mod_needsOpen_17 38 (by decide) (fun h9 => absurd h9 (by decide)) (fun _ => ?_)
  refine z_iload_n d_Mod_needsOpen_20 rfl ?_
  refine z_bipush (v := 8) d_Mod_needsOpen_21 (by decide) ?_
  refine z_icmp_eq d_Mod_needsOpen_23 38 (by decide) (fun h9 => absurd h9 (by decide)) (fun _ => ?_)
  refine z_iload_n d_Mod_needsOpen_26 rfl ?_
  refine z_bipush (v := 20) d_Mod_needsOpen_27 (by decide) ?_
  refine z_icmp_eq d_Mod_needsOpen_29 38 (by decide) (fun h9 => absurd h9 (by decide)) (fun _ => ?_)
  refine z_iload_n d_Mod_needsOpen_32 rfl ?_
  refine z_bipush (v := 21) d_Mod_needsOpen_33 (by decide) ?_
  refine z_icmp_ne d_Mod_needsOpen_35 42 (by decide) (fun _ => ?_) (fun h9 => absurd h9 (by decide))
  refine z_iconst (v := 0) d_Mod_needsOpen_42 (by decide) ?_
  exact z_zret d_Mod_needsOpen_43 rfl (by decide) (by decide) (by decide) rfl rfl
set_option maxRecDepth 100000 in
set_option maxHeartbeats 4000000 in
theorem c_Mod_needsOpen_15 (X : zX) (d : Nat) (h : zH) (N : Nat) : zC X d m_Mod_needsOpen 0 0 false [.int 15] h N (some (.int 0)) h N := by
  refine zC_of (by decide) (Nat.le_of_ble_eq_true rfl) ?_
  refine z_iload_n d_Mod_needsOpen_0 rfl ?_
  refine z_iconst (v := 2) d_Mod_needsOpen_1 (by decide) ?_
  refine z_icmp_eq d_Mod_needsOpen_2 38 (by decide) (fun h9 => absurd h9 (by decide)) (fun _ => ?_)
  refine z_iload_n d_Mod_needsOpen_5 rfl ?_
  refine z_iconst (v := 3) d_Mod_needsOpen_6 (by decide) ?_
  refine z_icmp_eq d_Mod_needsOpen_7 38 (by decide) (fun h9 => absurd h9 (by decide)) (fun _ => ?_)
  refine z_iload_n d_Mod_needsOpen_10 rfl ?_
  refine z_iconst (v := 4) d_Mod_needsOpen_11 (by decide) ?_
  refine z_icmp_eq d_Mod_needsOpen_12 38 (by decide) (fun h9 => absurd h9 (by decide)) (fun _ => ?_)
  refine z_iload_n d_Mod_needsOpen_15 rfl ?_
  refine z_iconst (v := 5) d_Mod_needsOpen_16 (by decide) ?_
  refine z_icmp_eq d_Mod_needsOpen_17 38 (by decide) (fun h9 => absurd h9 (by decide)) (fun _ => ?_)
  refine z_iload_n d_Mod_needsOpen_20 rfl ?_
  refine z_bipush (v := 8) d_Mod_needsOpen_21 (by decide) ?_
  refine z_icmp_eq d_Mod_needsOpen_23 38 (by decide) (fun h9 => absurd h9 (by decide)) (fun _ => ?_)
  refine z_iload_n d_Mod_needsOpen_26 rfl ?_
  refine z_bipush (v := 20) d_Mod_needsOpen_27 (by decide) ?_
  refine z_icmp_eq d_Mod_needsOpen_29 38 (by decide) (fun h9 => absurd h9 (by decide)) (fun _ => ?_)
  refine z_iload_n d_Mod_needsOpen_32 rfl ?_
  refine z_bipush (v := 21) d_Mod_needsOpen_33 (by decide) ?_
  refine z_icmp_ne d_Mod_needsOpen_35 42 (by decide) (fun _ => ?_) (fun h9 => absurd h9 (by decide))
  refine z_iconst (v := 0) d_Mod_needsOpen_42 (by decide) ?_
  exact z_zret d_Mod_needsOpen_43 rfl (by decide) (by decide) (by decide) rfl rfl
set_option maxRecDepth 100000 in
set_option maxHeartbeats 4000000 in
theorem c_Mod_needsOpen_16 (X : zX) (d : Nat) (h : zH) (N : Nat) : zC X d m_Mod_needsOpen 0 0 false [.int 16] h N (some (.int 0)) h N := by
  refine zC_of (by decide) (Nat.le_of_ble_eq_true rfl) ?_
  refine z_iload_n d_Mod_needsOpen_0 rfl ?_
  refine z_iconst (v := 2) d_Mod_needsOpen_1 (by decide) ?_
  refine z_icmp_eq d_Mod_needsOpen_2 38 (by decide) (fun h9 => absurd h9 (by decide)) (fun _ => ?_)
  refine z_iload_n d_Mod_needsOpen_5 rfl ?_
  refine z_iconst (v := 3) d_Mod_needsOpen_6 (by decide) ?_
  refine z_icmp_eq d_Mod_needsOpen_7 38 (by decide) (fun h9 => absurd h9 (by decide)) (fun _ => ?_)
  refine z_iload_n d_Mod_needsOpen_10 rfl ?_
  refine z_iconst (v := 4) d_Mod_needsOpen_11 (by decide) ?_
  refine z_icmp_eq d_Mod_needsOpen_12 38 (by decide) (fun h9 => absurd h9 (by decide)) (fun _ => ?_)
  refine z_iload_n d_Mod_needsOpen_15 rfl ?_
  refine z_iconst (v := 5) d_Mod_needsOpen_16 (by decide) ?_
  refine z_icmp_eq d_Mod_needsOpen_17 38 (by decide) (fun h9 => absurd h9 (by decide)) (fun _ => ?_)
  refine z_iload_n d_Mod_needsOpen_20 rfl ?_
  refine z_bipush (v := 8) d_Mod_needsOpen_21 (by decide) ?_
  refine z_icmp_eq d_Mod_needsOpen_23 38 (by decide) (fun h9 => absurd h9 (by decide)) (fun _ => ?_)
  refine z_iload_n d_Mod_needsOpen_26 rfl ?_
  refine z_bipush (v := 20) d_Mod_needsOpen_27 (by decide) ?_
  refine z_icmp_eq d_Mod_needsOpen_29 38 (by decide) (fun h9 => absurd h9 (by decide)) (fun _ => ?_)
  refine z_iload_n d_Mod_needsOpen_32 rfl ?_
  refine z_bipush (v := 21) d_Mod_needsOpen_33 (by decide) ?_
  refine z_icmp_ne d_Mod_needsOpen_35 42 (by decide) (fun _ => ?_) (fun h9 => absurd h9 (by decide))
  refine z_iconst (v := 0) d_Mod_needsOpen_42 (by decide) ?_
  exact z_zret d_Mod_needsOpen_43 rfl (by decide) (by decide) (by decide) rfl rfl
set_option maxRecDepth 100000 in
set_option maxHeartbeats 4000000 in
theorem c_Mod_needsOpen_17 (X : zX) (d : Nat) (h : zH) (N : Nat) : zC X d m_Mod_needsOpen 0 0 false [.int 17] h N (some (.int 0)) h N := by
  refine zC_of (by decide) (Nat.le_of_ble_eq_true rfl) ?_
  refine z_iload_n d_Mod_needsOpen_0 rfl ?_
  refine z_iconst (v := 2) d_Mod_needsOpen_1 (by decide) ?_
  refine z_icmp_eq d_Mod_needsOpen_2 38 (by decide) (fun h9 => absurd h9 (by decide)) (fun _ => ?_)
  refine z_iload_n d_Mod_needsOpen_5 rfl ?_
  refine z_iconst (v := 3) d_Mod_needsOpen_6 (by decide) ?_
  refine z_icmp_eq d_Mod_needsOpen_7 38 (by decide) (fun h9 => absurd h9 (by decide)) (fun _ => ?_)
  refine z_iload_n d_Mod_needsOpen_10 rfl ?_
  refine z_iconst (v := 4) d_Mod_needsOpen_11 (by decide) ?_
  refine z_icmp_eq d_Mod_needsOpen_12 38 (by decide) (fun h9 => absurd h9 (by decide)) (fun _ => ?_)
  refine z_iload_n d_Mod_needsOpen_15 rfl ?_
  refine z_iconst (v := 5) d_Mod_needsOpen_16 (by decide) ?_
  refine z_icmp_eq d_Mod_needsOpen_17 38 (by decide) (fun h9 => absurd h9 (by decide)) (fun _ => ?_)
  refine z_iload_n d_Mod_needsOpen_20 rfl ?_
  refine z_bipush (v := 8) d_Mod_needsOpen_21 (by decide) ?_
  refine z_icmp_eq d_Mod_needsOpen_23 38 (by decide) (fun h9 => absurd h9 (by decide)) (fun _ => ?_)
  refine z_iload_n d_Mod_needsOpen_26 rfl ?_
  refine z_bipush (v := 20) d_Mod_needsOpen_27 (by decide) ?_
  refine z_icmp_eq d_Mod_needsOpen_29 38 (by decide) (fun h9 => absurd h9 (by decide)) (fun _ => ?_)
  refine z_iload_n d_Mod_needsOpen_32 rfl ?_
  refine z_bipush (v := 21) d_Mod_needsOpen_33 (by decide) ?_
  refine z_icmp_ne d_Mod_needsOpen_35 42 (by decide) (fun _ => ?_) (fun h9 => absurd h9 (by decide))
  refine z_iconst (v := 0) d_Mod_needsOpen_42 (by decide) ?_
  exact z_zret d_Mod_needsOpen_43 rfl (by decide) (by decide) (by decide) rfl rfl
set_option maxRecDepth 100000 in
set_option maxHeartbeats 4000000 in
theorem c_Mod_needsOpen_18 (X : zX) (d : Nat) (h : zH) (N : Nat) : zC X d m_Mod_needsOpen 0 0 false [.int 18] h N (some (.int 0)) h N := by
  refine zC_of (by decide) (Nat.le_of_ble_eq_true rfl) ?_
  refine z_iload_n d_Mod_needsOpen_0 rfl ?_
  refine z_iconst (v := 2) d_Mod_needsOpen_1 (by decide) ?_
  refine z_icmp_eq d_Mod_needsOpen_2 38 (by decide) (fun h9 => absurd h9 (by decide)) (fun _ => ?_)
  refine z_iload_n d_Mod_needsOpen_5 rfl ?_
  refine z_iconst (v := 3) d_Mod_needsOpen_6 (by decide) ?_
  refine z_icmp_eq d_Mod_needsOpen_7 38 (by decide) (fun h9 => absurd h9 (by decide)) (fun _ => ?_)
  refine z_iload_n d_Mod_needsOpen_10 rfl ?_
  refine z_iconst (v := 4) d_Mod_needsOpen_11 (by decide) ?_
  refine z_icmp_eq d_Mod_needsOpen_12 38 (by decide) (fun h9 => absurd h9 (by decide)) (fun _ => ?_)
  refine z_iload_n d_Mod_needsOpen_15 rfl ?_
  refine z_iconst (v := 5) d_Mod_needsOpen_16 (by decide) ?_
  refine z_icmp_eq d_Mod_needsOpen_17 38 (by decide) (fun h9 => absurd h9 (by decide)) (fun _ => ?_)
  refine z_iload_n d_Mod_needsOpen_20 rfl ?_
  refine z_bipush (v := 8) d_Mod_needsOpen_21 (by decide) ?_
  refine z_icmp_eq d_Mod_needsOpen_23 38 (by decide) (fun h9 => absurd h9 (by decide)) (fun _ => ?_)
  refine z_iload_n d_Mod_needsOpen_26 rfl ?_
  refine z_bipush (v := 20) d_Mod_needsOpen_27 (by decide) ?_
  refine z_icmp_eq d_Mod_needsOpen_29 38 (by decide) (fun h9 => absurd h9 (by decide)) (fun _ => ?_)
  refine z_iload_n d_Mod_needsOpen_32 rfl ?_
  refine z_bipush (v := 21) d_Mod_needsOpen_33 (by decide) ?_
  refine z_icmp_ne d_Mod_needsOpen_35 42 (by decide) (fun _ => ?_) (fun h9 => absurd h9 (by decide))
  refine z_iconst (v := 0) d_Mod_needsOpen_42 (by decide) ?_
  exact z_zret d_Mod_needsOpen_43 rfl (by decide) (by decide) (by decide) rfl rfl
set_option maxRecDepth 100000 in
set_option maxHeartbeats 4000000 in
theorem c_Mod_needsOpen_19 (X : zX) (d : Nat) (h : zH) (N : Nat) : zC X d m_Mod_needsOpen 0 0 false [.int 19] h N (some (.int 0)) h N := by
  refine zC_of (by decide) (Nat.le_of_ble_eq_true rfl) ?_
  refine z_iload_n d_Mod_needsOpen_0 rfl ?_
  refine z_iconst (v := 2) d_Mod_needsOpen_1 (by decide) ?_
  refine z_icmp_eq d_Mod_needsOpen_2 38 (by decide) (fun h9 => absurd h9 (by decide)) (fun _ => ?_)
  refine z_iload_n d_Mod_needsOpen_5 rfl ?_
  refine z_iconst (v := 3) d_Mod_needsOpen_6 (by decide) ?_
  refine z_icmp_eq d_Mod_needsOpen_7 38 (by decide) (fun h9 => absurd h9 (by decide)) (fun _ => ?_)
  refine z_iload_n d_Mod_needsOpen_10 rfl ?_
  refine z_iconst (v := 4) d_Mod_needsOpen_11 (by decide) ?_
  refine z_icmp_eq d_Mod_needsOpen_12 38 (by decide) (fun h9 => absurd h9 (by decide)) (fun _ => ?_)
  refine z_iload_n d_Mod_needsOpen_15 rfl ?_
  refine z_iconst (v := 5) d_Mod_needsOpen_16 (by decide) ?_
  refine z_icmp_eq d_Mod_needsOpen_17 38 (by decide) (fun h9 => absurd h9 (by decide)) (fun _ => ?_)
  refine z_iload_n d_Mod_needsOpen_20 rfl ?_
  refine z_bipush (v := 8) d_Mod_needsOpen_21 (by decide) ?_
  refine z_icmp_eq d_Mod_needsOpen_23 38 (by decide) (fun h9 => absurd h9 (by decide)) (fun _ => ?_)
  refine z_iload_n d_Mod_needsOpen_26 rfl ?_
  refine z_bipush (v := 20) d_Mod_needsOpen_27 (by decide) ?_
  refine z_icmp_eq d_Mod_needsOpen_29 38 (by decide) (fun h9 => absurd h9 (by decide)) (fun _ => ?_)
  refine z_iload_n d_Mod_needsOpen_32 rfl ?_
  refine z_bipush (v := 21) d_Mod_needsOpen_33 (by decide) ?_
  refine z_icmp_ne d_Mod_needsOpen_35 42 (by decide) (fun _ => ?_) (fun h9 => absurd h9 (by decide))
  refine z_iconst (v := 0) d_Mod_needsOpen_42 (by decide) ?_
  exact z_zret d_Mod_needsOpen_43 rfl (by decide) (by decide) (by decide) rfl rfl
set_option maxRecDepth 100000 in
set_option maxHeartbeats 4000000 in
theorem c_Mod_needsOpen_20 (X : zX) (d : Nat) (h : zH) (N : Nat) : zC X d m_Mod_needsOpen 0 0 false [.int 20] h N (some (.int 1)) h N := by
  refine zC_of (by decide) (Nat.le_of_ble_eq_true rfl) ?_
  refine z_iload_n d_Mod_needsOpen_0 rfl ?_
  refine z_iconst (v := 2) d_Mod_needsOpen_1 (by decide) ?_
  refine z_icmp_eq d_Mod_needsOpen_2 38 (by decide) (fun h9 => absurd h9 (by decide)) (fun _ => ?_)
  refine z_iload_n d_Mod_needsOpen_5 rfl ?_
  refine z_iconst (v := 3) d_Mod_needsOpen_6 (by decide) ?_
  refine z_icmp_eq d_Mod_needsOpen_7 38 (by decide) (fun h9 => absurd h9 (by decide)) (fun _ => ?_)
  refine z_iload_n d_Mod_needsOpen_10 rfl ?_
  refine z_iconst (v := 4) d_Mod_needsOpen_11 (by decide) ?_
  refine z_icmp_eq d_Mod_needsOpen_12 38 (by decide) (fun h9 => absurd h9 (by decide)) (fun _ => ?_)
  refine z_iload_n d_Mod_needsOpen_15 rfl ?_
  refine z_iconst (v := 5) d_Mod_needsOpen_16 (by decide) ?_
  refine z_icmp_eq d_Mod_needsOpen_17 38 (by decide) (fun h9 => absurd h9 (by decide)) (fun _ => ?_)
  refine z_iload_n d_Mod_needsOpen_20 rfl ?_
  refine z_bipush (v := 8) d_Mod_needsOpen_21 (by decide) ?_
  refine z_icmp_eq d_Mod_needsOpen_23 38 (by decide) (fun h9 => absurd h9 (by decide)) (fun _ => ?_)
  refine z_iload_n d_Mod_needsOpen_26 rfl ?_
  refine z_bipush (v := 20) d_Mod_needsOpen_27 (by decide) ?_
  refine z_icmp_eq d_Mod_needsOpen_29 38 (by decide) (fun _ => ?_) (fun h9 => absurd (by decide) h9)
  refine z_iconst (v := 1) d_Mod_needsOpen_38 (by decide) ?_
  refine z_goto d_Mod_needsOpen_39 43 (by decide) ?_
  exact z_zret d_Mod_needsOpen_43 rfl (by decide) (by decide) (by decide) rfl rfl
set_option maxRecDepth 100000 in
set_option maxHeartbeats 4000000 in
theorem c_Mod_needsOpen_21 (X : zX) (d : Nat) (h : zH) (N : Nat) : zC X d m_Mod_needsOpen 0 0 false [.int 21] h N (some (.int 1)) h N := by
  refine zC_of (by decide) (Nat.le_of_ble_eq_true rfl) ?_
  refine z_iload_n d_Mod_needsOpen_0 rfl ?_
  refine z_iconst (v := 2) d_Mod_needsOpen_1 (by decide) ?_
  refine z_icmp_eq d_Mod_needsOpen_2 38 (by decide) (fun h9 => absurd h9 (by decide)) (fun _ => ?_)
  refine z_iload_n d_Mod_needsOpen_5 rfl ?_
  refine z_iconst (v := 3) d_Mod_needsOpen_6 (by decide) ?_
  refine z_icmp_eq d_Mod_needsOpen_7 38 (by decide) (fun h9 => absurd h9 (by decide)) (fun _ => ?_)
  refine z_iload_n d_Mod_needsOpen_10 rfl ?_
  refine z_iconst (v := 4) d_Mod_needsOpen_11 (by decide) ?_
  refine z_icmp_eq d_Mod_needsOpen_12 38 (by decide) (fun h9 => absurd h9 (by decide)) (fun _ => ?_)
  refine z_iload_n d_Mod_needsOpen_15 rfl ?_
  refine z_iconst (v := 5) d_Mod_needsOpen_16 (by decide) ?_
  refine z_icmp_eq d_Mod_needsOpen_17 38 (by decide) (fun h9 => absurd h9 (by decide)) (fun _ => ?_)
  refine z_iload_n d_Mod_needsOpen_20 rfl ?_
  refine z_bipush (v := 8) d_Mod_needsOpen_21 (by decide) ?_
  refine z_icmp_eq d_Mod_needsOpen_23 38 (by decide) (fun h9 => absurd h9 (by decide)) (fun _ => ?_)
  refine z_iload_n d_Mod_needsOpen_26 rfl ?_
  refine z_bipush (v := 20) d_Mod_needsOpen_27 (by decide) ?_
  refine z_icmp_eq d_Mod_needsOpen_29 38 (by decide) (fun h9 => absurd h9 (by decide)) (fun _ => ?_)
  refine z_iload_n d_Mod_needsOpen_32 rfl ?_
  refine z_bipush (v := 21) d_Mod_needsOpen_33 (by decide) ?_
  refine z_icmp_ne d_Mod_needsOpen_35 42 (by decide) (fun h9 => absurd h9 (by decide)) (fun _ => ?_)
  refine z_iconst (v := 1) d_Mod_needsOpen_38 (by decide) ?_
  refine z_goto d_Mod_needsOpen_39 43 (by decide) ?_
  exact z_zret d_Mod_needsOpen_43 rfl (by decide) (by decide) (by decide) rfl rfl
theorem c_Mod_needsOpen (X : zX) (d : Nat) {o : Nat} (ho : o < 22) (h : zH) (N : Nat) : zC X d m_Mod_needsOpen 0 0 false [.int (nI o)] h N (some (.int (rNeed.getD o 0))) h N := by
  match o, ho with
  | 0, _ => exact c_Mod_needsOpen_0 X d h N
  | 1, _ => exact c_Mod_needsOpen_1 X d h N
  | 2, _ => exact c_Mod_needsOpen_2 X d h N
  | 3, _ => exact c_Mod_needsOpen_3 X d h N
  | 4, _ => exact c_Mod_needsOpen_4 X d h N
  | 5, _ => exact c_Mod_needsOpen_5 X d h N
  | 6, _ => exact c_Mod_needsOpen_6 X d h N
  | 7, _ => exact c_Mod_needsOpen_7 X d h N
  | 8, _ => exact c_Mod_needsOpen_8 X d h N
  | 9, _ => exact c_Mod_needsOpen_9 X d h N
  | 10, _ => exact c_Mod_needsOpen_10 X d h N
  | 11, _ => exact c_Mod_needsOpen_11 X d h N
  | 12, _ => exact c_Mod_needsOpen_12 X d h N
  | 13, _ => exact c_Mod_needsOpen_13 X d h N
  | 14, _ => exact c_Mod_needsOpen_14 X d h N
  | 15, _ => exact c_Mod_needsOpen_15 X d h N
  | 16, _ => exact c_Mod_needsOpen_16 X d h N
  | 17, _ => exact c_Mod_needsOpen_17 X d h N
  | 18, _ => exact c_Mod_needsOpen_18 X d h N
  | 19, _ => exact c_Mod_needsOpen_19 X d h N
  | 20, _ => exact c_Mod_needsOpen_20 X d h N
  | 21, _ => exact c_Mod_needsOpen_21 X d h N
  | _ + 22, h9 => exact absurd h9 (by omega)
set_option maxRecDepth 100000 in
set_option maxHeartbeats 4000000 in
theorem c_Mod_keep (X : zX) (J : zJT) (G : zGT) (d : Nat) {r : Nat} (hr : r < 16) (b : Bool) (v : Int64) : zK X d m_Mod_keep [.ref 40, .int (nI r), .int (zb b), .long v] J G none (va_up J 50 (upd (J 50) r (zb b))) (va_up G 49 (vp_updL (G 49) r (if b then v else 0))) := by
  refine zC_of (by decide) (Nat.le_of_ble_eq_true rfl) ?_
  refine z_aload_n d_Mod_keep_0 rfl ?_
  refine z_get d_Mod_keep_1 f_Mod_39 (by omega) rfl rfl ?_
  refine z_iload_n d_Mod_keep_4 rfl ?_
  refine z_iload_n d_Mod_keep_5 rfl ?_
  refine z_zast d_Mod_keep_6 (by omega) rfl (show zin (nI r) r 16 from ⟨rfl, hr, by decide⟩) (zb_v _) (hp_ai rfl) ?_
  refine z_aload_n d_Mod_keep_7 rfl ?_
  refine z_get d_Mod_keep_8 f_Mod_36 (by omega) rfl rfl ?_
  refine z_iload_n d_Mod_keep_11 rfl ?_
  refine z_iload_n d_Mod_keep_12 rfl ?_
  refine z_if_eq d_Mod_keep_13 20 (by decide) (fun h13 => ?_) (fun h13 => ?_)
  · refine z_lconst (v := 0) d_Mod_keep_20 (by decide) ?_
    refine z_last d_Mod_keep_21 (by omega) rfl (show zin (nI r) r 16 from ⟨rfl, hr, by decide⟩) (hp_al rfl) ?_
    exact z_vret d_Mod_keep_22 rfl (by decide) (by decide) (by first | (rw [zb0 h13]; rfl) | (rw [zb1' h13]; rfl))
  · refine z_lload_n d_Mod_keep_16 rfl ?_
    refine z_goto d_Mod_keep_17 21 (by decide) ?_
    refine z_last d_Mod_keep_21 (by omega) rfl (show zin (nI r) r 16 from ⟨rfl, hr, by decide⟩) (hp_al rfl) ?_
    exact z_vret d_Mod_keep_22 rfl (by decide) (by decide) (by first | (rw [zb0 h13]; rfl) | (rw [zb1' h13]; rfl))
theorem rz4 {m w : Nat} (hm : m < 60) (hw : w < 4) : zin (4 * nI m + nI w) (4 * m + w) 240 := by
  refine ⟨?_, by omega, by decide⟩
  rw [show (4 : Int32) = nI 4 from rfl, pk_mul, nI_add]
