/-! the reference: tables and rows -/
theorem rOf_th (J : zJT) (G : zGT) (v t : Int32) (key : Int64) (k : Nat) : rOf (rTh J v) G t key k = rOf J G t key k := rOf_c (J := J) (J' := rTh J v) (G := G) (G' := G) rfl rfl t key k
def rLJ (J : zJT) (m : Nat) (t : Int32) (b : Nat → Bool) : Nat → zJT
  | 0 => J
  | k + 1 => va_up (va_up (rLJ J m t b k) 42 (upd (rLJ J m t b k 42) m t)) 45 (upd (rLJ J m t b k 45) (4 * m + k) (zb (b k)))
def rLG (G : zGT) (m : Nat) (key : Int64) (b : Nat → Bool) (v : Nat → Int64) : Nat → zGT
  | 0 => G
  | k + 1 => va_up (va_up (rLG G m key b v k) 43 (vp_updL (rLG G m key b v k 43) m key)) 44 (vp_updL (rLG G m key b v k 44) (4 * m + k) (if b k then v k else 0))
theorem rLJ_o {J : zJT} {m : Nat} {t : Int32} {b : Nat → Bool} {a : Nat} (h1 : a ≠ 42) (h2 : a ≠ 45) : ∀ k, rLJ J m t b k a = J a
  | 0 => rfl
  | k + 1 => by
    rw [rLJ, zu_n h2, zu_n h1, rLJ_o h1 h2 k]
theorem rLG_o {G : zGT} {m : Nat} {key : Int64} {b : Nat → Bool} {v : Nat → Int64} {a : Nat} (h1 : a ≠ 43) (h2 : a ≠ 44) : ∀ k, rLG G m key b v k a = G a
  | 0 => rfl
  | k + 1 => by
    rw [rLG, zu_n h2, zu_n h1, rLG_o h1 h2 k]
set_option maxRecDepth 100000 in
set_option maxHeartbeats 4000000 in
theorem c_Mod_table1 (X : zX) (J : zJT) (G : zGT) (d : Nat) (v : Int32) (h : v < 1) : zK X d m_Mod_table [.ref 40, .int v] J G (some (.int 0)) (rTh J 1) G := by
  refine zC_of (by decide) (Nat.le_of_ble_eq_true rfl) ?_
  refine z_aload_n d_Mod_table_0 rfl ?_
  refine z_iload_n d_Mod_table_1 rfl ?_
  refine z_iconst (v := 1) d_Mod_table_2 (by decide) ?_
  refine z_icmp_lt d_Mod_table_3 11 (by decide) (fun _ => ?_) (fun h9 => absurd h h9)
  refine z_iconst (v := 1) d_Mod_table_11 (by decide) ?_
  refine z_goto d_Mod_table_12 28 (by decide) ?_
  refine z_put d_Mod_table_28 f_Mod_73 p_9_0 (by omega) rfl (Nat.le_of_ble_eq_true rfl) rfl rfl (hp_pi 0 rfl) ?_
  refine z_aload_n d_Mod_table_31 rfl ?_
  refine z_get d_Mod_table_32 f_Mod_73 (by omega) rfl rfl ?_
  refine z_if_le d_Mod_table_35 40 (by decide) (fun h9 => absurd h9 (show ¬ (1 : Int32) ≤ 0 by decide)) (fun _ => ?_)
  refine z_iconst (v := 0) d_Mod_table_38 (by decide) ?_
  exact z_iret d_Mod_table_39 rfl (by decide) (by decide) rfl rfl
set_option maxRecDepth 100000 in
set_option maxHeartbeats 4000000 in
theorem c_Mod_table2 (X : zX) (J : zJT) (G : zGT) (d : Nat) (v : Int32) (h1 : ¬ v < 1) (h : ¬ v ≤ 4) : zK X d m_Mod_table [.ref 40, .int v] J G (some (.int 0)) (rTh J 1) G := by
  refine zC_of (by decide) (Nat.le_of_ble_eq_true rfl) ?_
  refine z_aload_n d_Mod_table_0 rfl ?_
  refine z_iload_n d_Mod_table_1 rfl ?_
  refine z_iconst (v := 1) d_Mod_table_2 (by decide) ?_
  refine z_icmp_lt d_Mod_table_3 11 (by decide) (fun h9 => absurd h9 h1) (fun _ => ?_)
  refine z_iload_n d_Mod_table_6 rfl ?_
  refine z_iconst (v := 4) d_Mod_table_7 (by decide) ?_
  refine z_icmp_le d_Mod_table_8 15 (by decide) (fun h9 => absurd h9 h) (fun _ => ?_)
  refine z_iconst (v := 1) d_Mod_table_11 (by decide) ?_
  refine z_goto d_Mod_table_12 28 (by decide) ?_
  refine z_put d_Mod_table_28 f_Mod_73 p_9_0 (by omega) rfl (Nat.le_of_ble_eq_true rfl) rfl rfl (hp_pi 0 rfl) ?_
  refine z_aload_n d_Mod_table_31 rfl ?_
  refine z_get d_Mod_table_32 f_Mod_73 (by omega) rfl rfl ?_
  refine z_if_le d_Mod_table_35 40 (by decide) (fun h9 => absurd h9 (show ¬ (1 : Int32) ≤ 0 by decide)) (fun _ => ?_)
  refine z_iconst (v := 0) d_Mod_table_38 (by decide) ?_
  exact z_iret d_Mod_table_39 rfl (by decide) (by decide) rfl rfl
set_option maxRecDepth 100000 in
set_option maxHeartbeats 4000000 in
theorem c_Mod_table3 (X : zX) (J : zJT) (G : zGT) (d : Nat) (v : Int32) (h1 : ¬ v < 1) (h4 : v ≤ 4) (h : J 40 1 = 3) : zK X d m_Mod_table [.ref 40, .int v] J G (some (.int 0)) (rTh J 2) G := by
  refine zC_of (by decide) (Nat.le_of_ble_eq_true rfl) ?_
  refine z_aload_n d_Mod_table_0 rfl ?_
  refine z_iload_n d_Mod_table_1 rfl ?_
  refine z_iconst (v := 1) d_Mod_table_2 (by decide) ?_
  refine z_icmp_lt d_Mod_table_3 11 (by decide) (fun h9 => absurd h9 h1) (fun _ => ?_)
  refine z_iload_n d_Mod_table_6 rfl ?_
  refine z_iconst (v := 4) d_Mod_table_7 (by decide) ?_
  refine z_icmp_le d_Mod_table_8 15 (by decide) (fun _ => ?_) (fun h9 => absurd h4 h9)
  refine z_aload_n d_Mod_table_15 rfl ?_
  refine z_get d_Mod_table_16 f_Mod_76 (by omega) rfl rfl ?_
  refine z_iconst (v := 3) d_Mod_table_19 (by decide) ?_
  refine z_icmp_ne d_Mod_table_20 27 (by decide) (fun h9 => absurd h9 (fun h9 => h9 h)) (fun _ => ?_)
  refine z_iconst (v := 2) d_Mod_table_23 (by decide) ?_
  refine z_goto d_Mod_table_24 28 (by decide) ?_
  refine z_put d_Mod_table_28 f_Mod_73 p_9_0 (by omega) rfl (Nat.le_of_ble_eq_true rfl) rfl rfl (hp_pi 0 rfl) ?_
  refine z_aload_n d_Mod_table_31 rfl ?_
  refine z_get d_Mod_table_32 f_Mod_73 (by omega) rfl rfl ?_
  refine z_if_le d_Mod_table_35 40 (by decide) (fun h9 => absurd h9 (show ¬ (2 : Int32) ≤ 0 by decide)) (fun _ => ?_)
  refine z_iconst (v := 0) d_Mod_table_38 (by decide) ?_
  exact z_iret d_Mod_table_39 rfl (by decide) (by decide) rfl rfl
set_option maxRecDepth 100000 in
set_option maxHeartbeats 4000000 in
theorem c_Mod_table (X : zX) (J : zJT) (G : zGT) (d : Nat) {t : Nat} (ht : t < 3) (hJ : J 40 1 = nI t) (v : Int32) (h1 : ¬ v < 1) (h4 : v ≤ 4) : zK X d m_Mod_table [.ref 40, .int v] J G (some (.int (nI t))) (va_up (va_up (rTh J 0) 41 (upd (J 41) t v)) 40 (va_up (rTh J 0 40) 1 (nI t + 1))) G := by
  refine zC_of (by decide) (Nat.le_of_ble_eq_true rfl) ?_
  refine z_aload_n d_Mod_table_0 rfl ?_
  refine z_iload_n d_Mod_table_1 rfl ?_
  refine z_iconst (v := 1) d_Mod_table_2 (by decide) ?_
  refine z_icmp_lt d_Mod_table_3 11 (by decide) (fun h9 => absurd h9 h1) (fun _ => ?_)
  refine z_iload_n d_Mod_table_6 rfl ?_
  refine z_iconst (v := 4) d_Mod_table_7 (by decide) ?_
  refine z_icmp_le d_Mod_table_8 15 (by decide) (fun _ => ?_) (fun h9 => absurd h4 h9)
  refine z_aload_n d_Mod_table_15 rfl ?_
  refine z_get d_Mod_table_16 f_Mod_76 (by omega) rfl rfl ?_
  refine z_iconst (v := 3) d_Mod_table_19 (by decide) ?_
  refine z_icmp_ne d_Mod_table_20 27 (by decide) (fun _ => ?_) (fun h9 => absurd h9 (by rw [hJ]; exact fun h9 => absurd ((nI_eq (by omega) (by decide)).mp (show nI t = nI 3 from h9)) (by omega)))
  refine z_iconst (v := 0) d_Mod_table_27 (by decide) ?_
  refine z_put d_Mod_table_28 f_Mod_73 p_9_0 (by omega) rfl (Nat.le_of_ble_eq_true rfl) rfl rfl (hp_pi 0 rfl) ?_
  refine z_aload_n d_Mod_table_31 rfl ?_
  refine z_get d_Mod_table_32 f_Mod_73 (by omega) rfl rfl ?_
  refine z_if_le d_Mod_table_35 40 (by decide) (fun _ => ?_) (fun h9 => absurd (show (0 : Int32) ≤ 0 by decide) h9)
  refine z_aload_n d_Mod_table_40 rfl ?_
  refine z_get d_Mod_table_41 f_Mod_7 (by omega) rfl rfl ?_
  refine z_aload_n d_Mod_table_44 rfl ?_
  refine z_get d_Mod_table_45 f_Mod_76 (by omega) rfl rfl ?_
  refine z_iload_n d_Mod_table_48 rfl ?_
  refine z_iast d_Mod_table_49 (by omega) rfl (show zin (J 40 1) t 3 from ⟨hJ, ht, by decide⟩) (hp_ai rfl) ?_
  refine z_aload_n d_Mod_table_50 rfl ?_
  refine z_dup d_Mod_table_51 rfl ?_
  refine z_get d_Mod_table_52 f_Mod_76 (by omega) rfl rfl ?_
  refine z_iconst (v := 1) d_Mod_table_55 (by decide) ?_
  refine z_iadd d_Mod_table_56 ?_
  refine z_put d_Mod_table_57 f_Mod_76 p_9_1 (by omega) rfl (Nat.le_of_ble_eq_true rfl) rfl rfl (hp_pi 1 rfl) ?_
  refine z_aload_n d_Mod_table_60 rfl ?_
  refine z_get d_Mod_table_61 f_Mod_76 (by omega) rfl rfl ?_
  refine z_iconst (v := 1) d_Mod_table_64 (by decide) ?_
  refine z_isub d_Mod_table_65 ?_
  exact z_iret d_Mod_table_66 rfl (by decide) (by decide) (by show J 40 1 + 1 - 1 = nI t; rw [hJ, nI_1, nI_pred]) (by show hp (va_up (va_up (rTh J 0) 41 (upd (J 41) t v)) 40 (va_up (rTh J 0 40) 1 (J 40 1 + 1))) G = _; rw [hJ])
set_option maxRecDepth 100000 in
set_option maxHeartbeats 4000000 in
theorem c_Mod_insert1 (X : zX) (J : zJT) (G : zGT) (t : Int32) (key : Int64) (hno : (decide (0 ≤ t) && decide (t < J 40 1)) = false) : zK X 1 m_Mod_insert [.ref 40, .int t, .long key] J G (some (.int 0)) (rTh J 1) G := by
  refine zC_of (by decide) (Nat.le_of_ble_eq_true rfl) ?_
  refine z_aload_n d_Mod_insert_0 rfl ?_
  refine z_aload_n d_Mod_insert_1 rfl ?_
  refine z_iload_n d_Mod_insert_2 rfl ?_
  refine z_callV1 d_Mod_insert_3 g_Mod_82 (c_Mod_isTable X J G 0 t) (by omega) rfl rfl rfl ⟨by decide, by decide, by decide, by decide⟩ rfl (Nat.le_of_ble_eq_true rfl) ?_
  refine z_if_ne d_Mod_insert_6 13 (by decide) (fun h9 => absurd h9 (fun h9 => h9 (by rw [hno]; rfl))) (fun _ => ?_)
  refine z_iconst (v := 1) d_Mod_insert_9 (by decide) ?_
  refine z_goto d_Mod_insert_10 27 (by decide) ?_
  refine z_put d_Mod_insert_27 f_Mod_73 p_9_0 (by omega) rfl (Nat.le_of_ble_eq_true rfl) rfl rfl (hp_pi 0 rfl) ?_
  refine z_aload_n d_Mod_insert_30 rfl ?_
  refine z_get d_Mod_insert_31 f_Mod_73 (by omega) rfl rfl ?_
  refine z_if_gt d_Mod_insert_34 46 (by decide) (fun _ => ?_) (fun h9 => absurd (show (0 : Int32) < 1 by decide) h9)
  refine z_iconst (v := 0) d_Mod_insert_46 (by decide) ?_
  exact z_zret d_Mod_insert_47 rfl (by decide) (by decide) (by decide) rfl rfl
set_option maxRecDepth 100000 in
set_option maxHeartbeats 4000000 in
theorem c_Mod_insert2 (X : zX) (J : zJT) (G : zGT) (t : Int32) (key : Int64) (hyes : (decide (0 ≤ t) && decide (t < J 40 1)) = true) (h : J 40 3 = 90) : zK X 1 m_Mod_insert [.ref 40, .int t, .long key] J G (some (.int 0)) (rTh J 2) G := by
  refine zC_of (by decide) (Nat.le_of_ble_eq_true rfl) ?_
  refine z_aload_n d_Mod_insert_0 rfl ?_
  refine z_aload_n d_Mod_insert_1 rfl ?_
  refine z_iload_n d_Mod_insert_2 rfl ?_
  refine z_callV1 d_Mod_insert_3 g_Mod_82 (c_Mod_isTable X J G 0 t) (by omega) rfl rfl rfl ⟨by decide, by decide, by decide, by decide⟩ rfl (Nat.le_of_ble_eq_true rfl) ?_
  refine z_if_ne d_Mod_insert_6 13 (by decide) (fun _ => ?_) (fun h9 => absurd h9 (by rw [hyes]; decide))
  refine z_aload_n d_Mod_insert_13 rfl ?_
  refine z_get d_Mod_insert_14 f_Mod_79 (by omega) rfl rfl ?_
  refine z_bipush (v := 90) d_Mod_insert_17 (by decide) ?_
  refine z_icmp_ne d_Mod_insert_19 26 (by decide) (fun h9 => absurd h9 (fun h9 => h9 h)) (fun _ => ?_)
  refine z_iconst (v := 2) d_Mod_insert_22 (by decide) ?_
  refine z_goto d_Mod_insert_23 27 (by decide) ?_
  refine z_put d_Mod_insert_27 f_Mod_73 p_9_0 (by omega) rfl (Nat.le_of_ble_eq_true rfl) rfl rfl (hp_pi 0 rfl) ?_
  refine z_aload_n d_Mod_insert_30 rfl ?_
  refine z_get d_Mod_insert_31 f_Mod_73 (by omega) rfl rfl ?_
  refine z_if_gt d_Mod_insert_34 46 (by decide) (fun _ => ?_) (fun h9 => absurd (show (0 : Int32) < 2 by decide) h9)
  refine z_iconst (v := 0) d_Mod_insert_46 (by decide) ?_
  exact z_zret d_Mod_insert_47 rfl (by decide) (by decide) (by decide) rfl rfl
set_option maxRecDepth 100000 in
set_option maxHeartbeats 4000000 in
theorem c_Mod_insert3 (X : zX) (J : zJT) (G : zGT) (t : Int32) (key : Int64) (hyes : (decide (0 ≤ t) && decide (t < J 40 1)) = true) {n : Nat} (hn : J 40 3 = nI n) (hn9 : n < 90) (h : ¬ rOf J G t key n < 0) : zK X 1 m_Mod_insert [.ref 40, .int t, .long key] J G (some (.int 0)) (rTh J 0) G := by
  refine zC_of (by decide) (Nat.le_of_ble_eq_true rfl) ?_
  refine z_aload_n d_Mod_insert_0 rfl ?_
  refine z_aload_n d_Mod_insert_1 rfl ?_
  refine z_iload_n d_Mod_insert_2 rfl ?_
  refine z_callV1 d_Mod_insert_3 g_Mod_82 (c_Mod_isTable X J G 0 t) (by omega) rfl rfl rfl ⟨by decide, by decide, by decide, by decide⟩ rfl (Nat.le_of_ble_eq_true rfl) ?_
  refine z_if_ne d_Mod_insert_6 13 (by decide) (fun _ => ?_) (fun h9 => absurd h9 (by rw [hyes]; decide))
  refine z_aload_n d_Mod_insert_13 rfl ?_
  refine z_get d_Mod_insert_14 f_Mod_79 (by omega) rfl rfl ?_
  refine z_bipush (v := 90) d_Mod_insert_17 (by decide) ?_
  refine z_icmp_ne d_Mod_insert_19 26 (by decide) (fun _ => ?_) (fun h9 => absurd h9 (by rw [hn]; exact fun h9 => absurd ((nI_eq (by omega) (by decide)).mp (show nI n = nI 90 from h9)) (by omega)))
  refine z_iconst (v := 0) d_Mod_insert_26 (by decide) ?_
  refine z_put d_Mod_insert_27 f_Mod_73 p_9_0 (by omega) rfl (Nat.le_of_ble_eq_true rfl) rfl rfl (hp_pi 0 rfl) ?_
  refine z_aload_n d_Mod_insert_30 rfl ?_
  refine z_get d_Mod_insert_31 f_Mod_73 (by omega) rfl rfl ?_
  refine z_if_gt d_Mod_insert_34 46 (by decide) (fun h9 => absurd h9 (show ¬ (0 : Int32) < 0 by decide)) (fun _ => ?_)
  refine z_aload_n d_Mod_insert_37 rfl ?_
  refine z_iload_n d_Mod_insert_38 rfl ?_
  refine z_lload_n d_Mod_insert_39 rfl ?_
  refine z_callV1 d_Mod_insert_40 g_Mod_86 (c_Mod_rowOf X (rTh J 0) G 0 (show rTh J 0 40 3 = nI n from hn) (by omega) t key) (by omega) rfl rfl rfl ⟨by decide, by decide, by decide, by decide⟩ rfl (Nat.le_of_ble_eq_true rfl) ?_
  refine z_if_lt d_Mod_insert_43 48 (by decide) (fun h9 => absurd h9 (by rw [rOf_th]; exact h)) (fun _ => ?_)
  refine z_iconst (v := 0) d_Mod_insert_46 (by decide) ?_
  exact z_zret d_Mod_insert_47 rfl (by decide) (by decide) (by decide) rfl rfl
set_option maxRecDepth 100000 in
set_option maxHeartbeats 4000000 in
theorem l_Mod_insert (X : zX) (J : zJT) (G : zGT) {u c : Nat} (hu : u < 3) (hc : J 41 u = nI c) (hc4 : c ≤ 4) (key : Int64) (b : Nat → Bool) (hb : ∀ k, k < 4 → J 47 k = zb (b k)) {n : Nat} (hn : J 40 3 = nI n) (hn9 : n < 90) : ∀ rem k, c - k = rem → k ≤ c → zJ X (zR 1 0 0) m_Mod_insert (zRet X 0 0 false (some (.int 1)) (hp (va_up (rLJ J n (nI u) b c) 40 (va_up (J 40) 3 (nI n + 1))) (rLG G n key b (G 46) c)) 60) false 0 0 (hp (rLJ J n (nI u) b k) (rLG G n key b (G 46) k)) 60 51 [(0, .ref 40), (1, .int (nI u)), (2, .long key), (4, .int (nI k))] [] := by
  intro rem
  induction rem with
  | zero =>
    intro k hr hk
    obtain rfl : k = c := by omega
    refine z_iload d_Mod_insert_51 rfl ?_
    refine z_aload_n d_Mod_insert_53 rfl ?_
    refine z_get d_Mod_insert_54 f_Mod_7 (by omega) rfl rfl ?_
    refine z_iload_n d_Mod_insert_57 rfl ?_
    refine z_iald d_Mod_insert_58 (by omega) rfl (show zin (nI u) u 3 from ⟨rfl, hu, by decide⟩) ?_
    refine z_icmp_ge d_Mod_insert_59 90 (by decide) (fun _ => ?_) (fun h9 => absurd (by rw [rLJ_o (a := 41) (by decide) (by decide), hc]; exact nI_le (Nat.le_refl _) (by omega)) h9)
    refine z_aload_n d_Mod_insert_90 rfl ?_
    refine z_dup d_Mod_insert_91 rfl ?_
    refine z_get d_Mod_insert_92 f_Mod_79 (by omega) rfl rfl ?_
    refine z_iconst (v := 1) d_Mod_insert_95 (by decide) ?_
    refine z_iadd d_Mod_insert_96 ?_
    refine z_put d_Mod_insert_97 f_Mod_79 p_9_3 (by omega) rfl (Nat.le_of_ble_eq_true rfl) rfl rfl (hp_pi 3 rfl) ?_
    refine z_iconst (v := 1) d_Mod_insert_100 (by decide) ?_
    exact z_zret d_Mod_insert_101 rfl (by decide) (by decide) (by decide) rfl (by rw [rLJ_o (a := 40) (by decide) (by decide), hn])
  | succ rem ih =>
    intro k hr hk
    refine z_iload d_Mod_insert_51 rfl ?_
    refine z_aload_n d_Mod_insert_53 rfl ?_
    refine z_get d_Mod_insert_54 f_Mod_7 (by omega) rfl rfl ?_
    refine z_iload_n d_Mod_insert_57 rfl ?_
    refine z_iald d_Mod_insert_58 (by omega) rfl (show zin (nI u) u 3 from ⟨rfl, hu, by decide⟩) ?_
    refine z_icmp_ge d_Mod_insert_59 90 (by decide) (fun h9 => absurd h9 (by rw [rLJ_o (a := 41) (by decide) (by decide), hc]; exact nI_ge (show k < c by omega) (by omega))) (fun _ => ?_)
    refine z_aload_n d_Mod_insert_62 rfl ?_
    refine z_iload_n d_Mod_insert_63 rfl ?_
    refine z_lload_n d_Mod_insert_64 rfl ?_
    refine z_iload d_Mod_insert_65 rfl ?_
    refine z_aload_n d_Mod_insert_67 rfl ?_
    refine z_get d_Mod_insert_68 f_Mod_30 (by omega) rfl rfl ?_
    refine z_iload d_Mod_insert_71 rfl ?_
    refine z_zald d_Mod_insert_73 (by omega) rfl (show zin (nI k) k 4 from ⟨rfl, by omega, by decide⟩) ?_
    refine z_aload_n d_Mod_insert_74 rfl ?_
    refine z_get d_Mod_insert_75 f_Mod_27 (by omega) rfl rfl ?_
    refine z_iload d_Mod_insert_78 rfl ?_
    refine z_lald d_Mod_insert_80 (by omega) rfl (show zin (nI k) k 4 from ⟨rfl, by omega, by decide⟩) ?_
    rw [rLJ_o (a := 47) (by decide) (by decide), hb k (by omega), rLG_o (a := 46) (by decide) (by decide)]
    refine z_callV0 d_Mod_insert_81 g_Mod_90 (c_Mod_lay X _ _ 0 (show rLJ J n (nI u) b k 40 3 = nI n by rw [rLJ_o (a := 40) (by decide) (by decide), hn]) hn9 (show k < 4 by omega) (nI u) key (b k) (G 46 k)) (by omega) rfl rfl rfl ⟨by decide, by decide, by decide, by decide⟩ rfl (Nat.le_of_ble_eq_true rfl) ?_
    refine z_iinc (lv' := [(0, _), (1, _), (2, _), (4, _)]) d_Mod_insert_84 (by decide) rfl (show _ + Int32.ofInt 1 = nI (k + 1) from nI_1 _) rfl ?_
    refine z_goto d_Mod_insert_87 51 (by decide) ?_
    exact z_loc (lv' := [(0, .ref 40), (1, .int (nI u)), (2, .long key), (4, .int (nI (k + 1)))]) (by simp) (ih (k + 1) (by omega) (by omega))
set_option maxRecDepth 100000 in
set_option maxHeartbeats 4000000 in
theorem c_Mod_insert4 (X : zX) (J : zJT) (G : zGT) {u c : Nat} (hu : u < 3) (hc : J 41 u = nI c) (hc4 : c ≤ 4) (key : Int64) (b : Nat → Bool) (hb : ∀ k, k < 4 → J 47 k = zb (b k)) {n : Nat} (hn : J 40 3 = nI n) (hn9 : n < 90) (hyes : (decide (0 ≤ nI u) && decide (nI u < J 40 1)) = true) (h : rOf J G (nI u) key n < 0) : zK X 1 m_Mod_insert [.ref 40, .int (nI u), .long key] J G (some (.int 1)) (va_up (rLJ (rTh J 0) n (nI u) b c) 40 (va_up (rTh J 0 40) 3 (nI n + 1))) (rLG G n key b (G 46) c) := by
  refine zC_of (by decide) (Nat.le_of_ble_eq_true rfl) ?_
  refine z_aload_n d_Mod_insert_0 rfl ?_
  refine z_aload_n d_Mod_insert_1 rfl ?_
  refine z_iload_n d_Mod_insert_2 rfl ?_
  refine z_callV1 d_Mod_insert_3 g_Mod_82 (c_Mod_isTable X J G 0 (nI u)) (by omega) rfl rfl rfl ⟨by decide, by decide, by decide, by decide⟩ rfl (Nat.le_of_ble_eq_true rfl) ?_
  refine z_if_ne d_Mod_insert_6 13 (by decide) (fun _ => ?_) (fun h9 => absurd h9 (by rw [hyes]; decide))
  refine z_aload_n d_Mod_insert_13 rfl ?_
  refine z_get d_Mod_insert_14 f_Mod_79 (by omega) rfl rfl ?_
  refine z_bipush (v := 90) d_Mod_insert_17 (by decide) ?_
  refine z_icmp_ne d_Mod_insert_19 26 (by decide) (fun _ => ?_) (fun h9 => absurd h9 (by rw [hn]; exact fun h9 => absurd ((nI_eq (by omega) (by decide)).mp (show nI n = nI 90 from h9)) (by omega)))
  refine z_iconst (v := 0) d_Mod_insert_26 (by decide) ?_
  refine z_put d_Mod_insert_27 f_Mod_73 p_9_0 (by omega) rfl (Nat.le_of_ble_eq_true rfl) rfl rfl (hp_pi 0 rfl) ?_
  refine z_aload_n d_Mod_insert_30 rfl ?_
  refine z_get d_Mod_insert_31 f_Mod_73 (by omega) rfl rfl ?_
  refine z_if_gt d_Mod_insert_34 46 (by decide) (fun h9 => absurd h9 (show ¬ (0 : Int32) < 0 by decide)) (fun _ => ?_)
  refine z_aload_n d_Mod_insert_37 rfl ?_
  refine z_iload_n d_Mod_insert_38 rfl ?_
  refine z_lload_n d_Mod_insert_39 rfl ?_
  refine z_callV1 d_Mod_insert_40 g_Mod_86 (c_Mod_rowOf X (rTh J 0) G 0 (show rTh J 0 40 3 = nI n from hn) (by omega) (nI u) key) (by omega) rfl rfl rfl ⟨by decide, by decide, by decide, by decide⟩ rfl (Nat.le_of_ble_eq_true rfl) ?_
  refine z_if_lt d_Mod_insert_43 48 (by decide) (fun _ => ?_) (fun h9 => absurd (by rw [rOf_th]; exact h) h9)
  refine z_iconst (v := 0) d_Mod_insert_48 (by decide) ?_
  refine z_istore (lv' := [(0, _), (1, _), (2, _), (4, _)]) d_Mod_insert_49 (by decide) rfl ?_
  exact z_loc (lv' := [(0, .ref 40), (1, .int (nI u)), (2, .long key), (4, .int (nI 0))]) (by simp [nI_0]) (l_Mod_insert X (rTh J 0) G hu hc hc4 key b hb hn hn9 c 0 (by omega) (by omega))
set_option maxRecDepth 100000 in
set_option maxHeartbeats 4000000 in
theorem c_Mod_delete1 (X : zX) (J : zJT) (G : zGT) (t : Int32) (key : Int64) (hno : (decide (0 ≤ t) && decide (t < J 40 1)) = false) : zK X 1 m_Mod_delete [.ref 40, .int t, .long key] J G (some (.int 0)) (rTh J 1) G := by
  refine zC_of (by decide) (Nat.le_of_ble_eq_true rfl) ?_
  refine z_aload_n d_Mod_delete_0 rfl ?_
  refine z_aload_n d_Mod_delete_1 rfl ?_
  refine z_iload_n d_Mod_delete_2 rfl ?_
  refine z_callV1 d_Mod_delete_3 g_Mod_82 (c_Mod_isTable X J G 0 t) (by omega) rfl rfl rfl ⟨by decide, by decide, by decide, by decide⟩ rfl (Nat.le_of_ble_eq_true rfl) ?_
  refine z_if_eq d_Mod_delete_6 13 (by decide) (fun _ => ?_) (fun h9 => absurd (by rw [hno]; rfl) h9)
  refine z_iconst (v := 1) d_Mod_delete_13 (by decide) ?_
  refine z_put d_Mod_delete_14 f_Mod_73 p_9_0 (by omega) rfl (Nat.le_of_ble_eq_true rfl) rfl rfl (hp_pi 0 rfl) ?_
  refine z_aload_n d_Mod_delete_17 rfl ?_
  refine z_get d_Mod_delete_18 f_Mod_73 (by omega) rfl rfl ?_
  refine z_if_le d_Mod_delete_21 26 (by decide) (fun h9 => absurd h9 (show ¬ (1 : Int32) ≤ 0 by decide)) (fun _ => ?_)
  refine z_iconst (v := 0) d_Mod_delete_24 (by decide) ?_
  exact z_zret d_Mod_delete_25 rfl (by decide) (by decide) (by decide) rfl rfl
set_option maxRecDepth 100000 in
set_option maxHeartbeats 4000000 in
theorem c_Mod_delete2 (X : zX) (J : zJT) (G : zGT) (t : Int32) (key : Int64) (hyes : (decide (0 ≤ t) && decide (t < J 40 1)) = true) {n : Nat} (hn : J 40 3 = nI n) (hn9 : n ≤ 90) (h : rOf J G t key n < 0) : zK X 1 m_Mod_delete [.ref 40, .int t, .long key] J G (some (.int 0)) (rTh J 0) G := by
  refine zC_of (by decide) (Nat.le_of_ble_eq_true rfl) ?_
  refine z_aload_n d_Mod_delete_0 rfl ?_
  refine z_aload_n d_Mod_delete_1 rfl ?_
  refine z_iload_n d_Mod_delete_2 rfl ?_
  refine z_callV1 d_Mod_delete_3 g_Mod_82 (c_Mod_isTable X J G 0 t) (by omega) rfl rfl rfl ⟨by decide, by decide, by decide, by decide⟩ rfl (Nat.le_of_ble_eq_true rfl) ?_
  refine z_if_eq d_Mod_delete_6 13 (by decide) (fun h9 => absurd h9 (by rw [hyes]; decide)) (fun _ => ?_)
  refine z_iconst (v := 0) d_Mod_delete_9 (by decide) ?_
  refine z_goto d_Mod_delete_10 14 (by decide) ?_
  refine z_put d_Mod_delete_14 f_Mod_73 p_9_0 (by omega) rfl (Nat.le_of_ble_eq_true rfl) rfl rfl (hp_pi 0 rfl) ?_
  refine z_aload_n d_Mod_delete_17 rfl ?_
  refine z_get d_Mod_delete_18 f_Mod_73 (by omega) rfl rfl ?_
  refine z_if_le d_Mod_delete_21 26 (by decide) (fun _ => ?_) (fun h9 => absurd (show (0 : Int32) ≤ 0 by decide) h9)
  refine z_aload_n d_Mod_delete_26 rfl ?_
  refine z_iload_n d_Mod_delete_27 rfl ?_
  refine z_lload_n d_Mod_delete_28 rfl ?_
  refine z_callV1 d_Mod_delete_29 g_Mod_86 (c_Mod_rowOf X (rTh J 0) G 0 (show rTh J 0 40 3 = nI n from hn) (by omega) t key) (by omega) rfl rfl rfl ⟨by decide, by decide, by decide, by decide⟩ rfl (Nat.le_of_ble_eq_true rfl) ?_
  refine z_istore (lv' := [(0, _), (1, _), (2, _), (4, _)]) d_Mod_delete_32 (by decide) rfl ?_
  refine z_iload d_Mod_delete_34 rfl ?_
  refine z_if_lt d_Mod_delete_36 45 (by decide) (fun _ => ?_) (fun h9 => absurd (by rw [rOf_th]; exact h) h9)
  refine z_iload d_Mod_delete_45 rfl ?_
  refine z_if_lt d_Mod_delete_47 54 (by decide) (fun _ => ?_) (fun h9 => absurd (by rw [rOf_th]; exact h) h9)
  refine z_iconst (v := 0) d_Mod_delete_54 (by decide) ?_
  exact z_zret d_Mod_delete_55 rfl (by decide) (by decide) (by decide) rfl rfl
set_option maxRecDepth 100000 in
set_option maxHeartbeats 4000000 in
theorem c_Mod_delete3 (X : zX) (J : zJT) (G : zGT) (t : Int32) (key : Int64) (hyes : (decide (0 ≤ t) && decide (t < J 40 1)) = true) {m r : Nat} (hn : J 40 3 = nI (m + 1)) (hn9 : m < 90) (hr9 : r < 90) (h : rOf J G t key (m + 1) = nI r) (hz : ∀ i, vp_nar .boolean (J 45 i) = J 45 i) : zK X 1 m_Mod_delete [.ref 40, .int t, .long key] J G (some (.int 1)) (rTJ (rTh J 0) m r 4) (rTG G m r 4) := by
  refine zC_of (by decide) (Nat.le_of_ble_eq_true rfl) ?_
  refine z_aload_n d_Mod_delete_0 rfl ?_
  refine z_aload_n d_Mod_delete_1 rfl ?_
  refine z_iload_n d_Mod_delete_2 rfl ?_
  refine z_callV1 d_Mod_delete_3 g_Mod_82 (c_Mod_isTable X J G 0 t) (by omega) rfl rfl rfl ⟨by decide, by decide, by decide, by decide⟩ rfl (Nat.le_of_ble_eq_true rfl) ?_
  refine z_if_eq d_Mod_delete_6 13 (by decide) (fun h9 => absurd h9 (by rw [hyes]; decide)) (fun _ => ?_)
  refine z_iconst (v := 0) d_Mod_delete_9 (by decide) ?_
  refine z_goto d_Mod_delete_10 14 (by decide) ?_
  refine z_put d_Mod_delete_14 f_Mod_73 p_9_0 (by omega) rfl (Nat.le_of_ble_eq_true rfl) rfl rfl (hp_pi 0 rfl) ?_
  refine z_aload_n d_Mod_delete_17 rfl ?_
  refine z_get d_Mod_delete_18 f_Mod_73 (by omega) rfl rfl ?_
  refine z_if_le d_Mod_delete_21 26 (by decide) (fun _ => ?_) (fun h9 => absurd (show (0 : Int32) ≤ 0 by decide) h9)
  refine z_aload_n d_Mod_delete_26 rfl ?_
  refine z_iload_n d_Mod_delete_27 rfl ?_
  refine z_lload_n d_Mod_delete_28 rfl ?_
  refine z_callV1 d_Mod_delete_29 g_Mod_86 (c_Mod_rowOf X (rTh J 0) G 0 (show rTh J 0 40 3 = nI (m + 1) from hn) (by omega) t key) (by omega) rfl rfl rfl ⟨by decide, by decide, by decide, by decide⟩ rfl (Nat.le_of_ble_eq_true rfl) ?_
  rw [rOf_th, h]
  refine z_istore (lv' := [(0, _), (1, _), (2, _), (4, _)]) d_Mod_delete_32 (by decide) rfl ?_
  refine z_iload d_Mod_delete_34 rfl ?_
  refine z_if_lt d_Mod_delete_36 45 (by decide) (fun h9 => absurd h9 (nI_pos (by omega))) (fun _ => ?_)
  refine z_aload_n d_Mod_delete_39 rfl ?_
  refine z_iload d_Mod_delete_40 rfl ?_
  refine z_callV0 d_Mod_delete_42 g_Mod_94 (c_Mod_take X (rTh J 0) G 0 hn hn9 hr9 hz) (by omega) rfl rfl rfl ⟨by decide, by decide, by decide, by decide⟩ rfl (Nat.le_of_ble_eq_true rfl) ?_
  refine z_iload d_Mod_delete_45 rfl ?_
  refine z_if_lt d_Mod_delete_47 54 (by decide) (fun h9 => absurd h9 (nI_pos (by omega))) (fun _ => ?_)
  refine z_iconst (v := 1) d_Mod_delete_50 (by decide) ?_
  refine z_goto d_Mod_delete_51 55 (by decide) ?_
  exact z_zret d_Mod_delete_55 rfl (by decide) (by decide) (by decide) rfl rfl
set_option maxRecDepth 100000 in
set_option maxHeartbeats 4000000 in
theorem c_Mod_next1 (X : zX) (J : zJT) (G : zGT) (t : Int32) (key : Int64) (o : Bool) (hno : (decide (0 ≤ t) && decide (t < J 40 1)) = false) : zK X 1 m_Mod_next [.ref 40, .int t, .long key, .int (zb o)] J G (some (.long 0)) (rTh J 1) G := by
  refine zC_of (by decide) (Nat.le_of_ble_eq_true rfl) ?_
  refine z_aload_n d_Mod_next_0 rfl ?_
  refine z_aload_n d_Mod_next_1 rfl ?_
  refine z_iload_n d_Mod_next_2 rfl ?_
  refine z_callV1 d_Mod_next_3 g_Mod_82 (c_Mod_isTable X J G 0 t) (by omega) rfl rfl rfl ⟨by decide, by decide, by decide, by decide⟩ rfl (Nat.le_of_ble_eq_true rfl) ?_
  refine z_if_eq d_Mod_next_6 13 (by decide) (fun _ => ?_) (fun h9 => absurd (by rw [hno]; rfl) h9)
  refine z_iconst (v := 1) d_Mod_next_13 (by decide) ?_
  refine z_put d_Mod_next_14 f_Mod_73 p_9_0 (by omega) rfl (Nat.le_of_ble_eq_true rfl) rfl rfl (hp_pi 0 rfl) ?_
  refine z_aload_n d_Mod_next_17 rfl ?_
  refine z_get d_Mod_next_18 f_Mod_73 (by omega) rfl rfl ?_
  refine z_if_le d_Mod_next_21 26 (by decide) (fun h9 => absurd h9 (show ¬ (1 : Int32) ≤ 0 by decide)) (fun _ => ?_)
  refine z_lconst (v := 0) d_Mod_next_24 (by decide) ?_
  exact z_lret d_Mod_next_25 rfl (by decide) (by decide) rfl rfl
set_option maxRecDepth 100000 in
set_option maxHeartbeats 4000000 in
theorem c_Mod_next2 (X : zX) (J : zJT) (G : zGT) (t : Int32) (key : Int64) (o : Bool) (hyes : (decide (0 ≤ t) && decide (t < J 40 1)) = true) {n : Nat} (hn : J 40 3 = nI n) (hn9 : n ≤ 90) (h : rMin G (rP J G t key o) n = none) : zK X 1 m_Mod_next [.ref 40, .int t, .long key, .int (zb o)] J G (some (.long 0)) (rTh (rTh J 0) 2) G := by
  refine zC_of (by decide) (Nat.le_of_ble_eq_true rfl) ?_
  refine z_aload_n d_Mod_next_0 rfl ?_
  refine z_aload_n d_Mod_next_1 rfl ?_
  refine z_iload_n d_Mod_next_2 rfl ?_
  refine z_callV1 d_Mod_next_3 g_Mod_82 (c_Mod_isTable X J G 0 t) (by omega) rfl rfl rfl ⟨by decide, by decide, by decide, by decide⟩ rfl (Nat.le_of_ble_eq_true rfl) ?_
  refine z_if_eq d_Mod_next_6 13 (by decide) (fun h9 => absurd h9 (by rw [hyes]; decide)) (fun _ => ?_)
  refine z_iconst (v := 0) d_Mod_next_9 (by decide) ?_
  refine z_goto d_Mod_next_10 14 (by decide) ?_
  refine z_put d_Mod_next_14 f_Mod_73 p_9_0 (by omega) rfl (Nat.le_of_ble_eq_true rfl) rfl rfl (hp_pi 0 rfl) ?_
  refine z_aload_n d_Mod_next_17 rfl ?_
  refine z_get d_Mod_next_18 f_Mod_73 (by omega) rfl rfl ?_
  refine z_if_le d_Mod_next_21 26 (by decide) (fun _ => ?_) (fun h9 => absurd (show (0 : Int32) ≤ 0 by decide) h9)
  refine z_aload_n d_Mod_next_26 rfl ?_
  refine z_iload_n d_Mod_next_27 rfl ?_
  refine z_lload_n d_Mod_next_28 rfl ?_
  refine z_iload d_Mod_next_29 rfl ?_
  refine z_callV1 d_Mod_next_31 g_Mod_98 (c_Mod_rowFrom X (rTh J 0) G 0 (show rTh J 0 40 3 = nI n from hn) hn9 t key o) (by omega) rfl rfl rfl ⟨by decide, by decide, by decide, by decide⟩ rfl (Nat.le_of_ble_eq_true rfl) ?_
  rw [show rMin G (rP (rTh J 0) G t key o) n = none from h, show rI none = -1 from rfl]
  refine z_istore (lv' := [(0, _), (1, _), (2, _), (4, _), (5, _)]) d_Mod_next_34 (by decide) rfl ?_
  refine z_aload_n d_Mod_next_36 rfl ?_
  refine z_iload d_Mod_next_37 rfl ?_
  refine z_if_ge d_Mod_next_39 46 (by decide) (fun h9 => absurd h9 (by decide)) (fun _ => ?_)
  refine z_iconst (v := 2) d_Mod_next_42 (by decide) ?_
  refine z_goto d_Mod_next_43 47 (by decide) ?_
  refine z_put d_Mod_next_47 f_Mod_73 p_9_0 (by omega) rfl (Nat.le_of_ble_eq_true rfl) rfl rfl (hp_pi 0 rfl) ?_
  refine z_iload d_Mod_next_50 rfl ?_
  refine z_if_ge d_Mod_next_52 59 (by decide) (fun h9 => absurd h9 (by decide)) (fun _ => ?_)
  refine z_lconst (v := 0) d_Mod_next_55 (by decide) ?_
  refine z_goto d_Mod_next_56 66 (by decide) ?_
  exact z_lret d_Mod_next_66 rfl (by decide) (by decide) rfl rfl
set_option maxRecDepth 100000 in
set_option maxHeartbeats 4000000 in
theorem c_Mod_next3 (X : zX) (J : zJT) (G : zGT) (t : Int32) (key : Int64) (o : Bool) (hyes : (decide (0 ≤ t) && decide (t < J 40 1)) = true) {n : Nat} (hn : J 40 3 = nI n) (hn9 : n ≤ 90) {i : Nat} (h : rMin G (rP J G t key o) n = some i) : zK X 1 m_Mod_next [.ref 40, .int t, .long key, .int (zb o)] J G (some (.long (G 43 i))) (rTh (rTh J 0) 0) G := by
  have hi9 := (rMin_lt n i h).1
  refine zC_of (by decide) (Nat.le_of_ble_eq_true rfl) ?_
  refine z_aload_n d_Mod_next_0 rfl ?_
  refine z_aload_n d_Mod_next_1 rfl ?_
  refine z_iload_n d_Mod_next_2 rfl ?_
  refine z_callV1 d_Mod_next_3 g_Mod_82 (c_Mod_isTable X J G 0 t) (by omega) rfl rfl rfl ⟨by decide, by decide, by decide, by decide⟩ rfl (Nat.le_of_ble_eq_true rfl) ?_
  refine z_if_eq d_Mod_next_6 13 (by decide) (fun h9 => absurd h9 (by rw [hyes]; decide)) (fun _ => ?_)
  refine z_iconst (v := 0) d_Mod_next_9 (by decide) ?_
  refine z_goto d_Mod_next_10 14 (by decide) ?_
  refine z_put d_Mod_next_14 f_Mod_73 p_9_0 (by omega) rfl (Nat.le_of_ble_eq_true rfl) rfl rfl (hp_pi 0 rfl) ?_
  refine z_aload_n d_Mod_next_17 rfl ?_
  refine z_get d_Mod_next_18 f_Mod_73 (by omega) rfl rfl ?_
  refine z_if_le d_Mod_next_21 26 (by decide) (fun _ => ?_) (fun h9 => absurd (show (0 : Int32) ≤ 0 by decide) h9)
  refine z_aload_n d_Mod_next_26 rfl ?_
  refine z_iload_n d_Mod_next_27 rfl ?_
  refine z_lload_n d_Mod_next_28 rfl ?_
  refine z_iload d_Mod_next_29 rfl ?_
  refine z_callV1 d_Mod_next_31 g_Mod_98 (c_Mod_rowFrom X (rTh J 0) G 0 (show rTh J 0 40 3 = nI n from hn) hn9 t key o) (by omega) rfl rfl rfl ⟨by decide, by decide, by decide, by decide⟩ rfl (Nat.le_of_ble_eq_true rfl) ?_
  rw [show rMin G (rP (rTh J 0) G t key o) n = some i from h, show rI (some i) = nI i from rfl]
  refine z_istore (lv' := [(0, _), (1, _), (2, _), (4, _), (5, _)]) d_Mod_next_34 (by decide) rfl ?_
  refine z_aload_n d_Mod_next_36 rfl ?_
  refine z_iload d_Mod_next_37 rfl ?_
  refine z_if_ge d_Mod_next_39 46 (by decide) (fun _ => ?_) (fun h9 => absurd (nI_pos' (by omega)) h9)
  refine z_iconst (v := 0) d_Mod_next_46 (by decide) ?_
  refine z_put d_Mod_next_47 f_Mod_73 p_9_0 (by omega) rfl (Nat.le_of_ble_eq_true rfl) rfl rfl (hp_pi 0 rfl) ?_
  refine z_iload d_Mod_next_50 rfl ?_
  refine z_if_ge d_Mod_next_52 59 (by decide) (fun _ => ?_) (fun h9 => absurd (nI_pos' (by omega)) h9)
  refine z_aload_n d_Mod_next_59 rfl ?_
  refine z_get d_Mod_next_60 f_Mod_16 (by omega) rfl rfl ?_
  refine z_iload d_Mod_next_63 rfl ?_
  refine z_lald d_Mod_next_65 (by omega) rfl (show zin (nI i) i 90 from ⟨rfl, by omega, by decide⟩) ?_
  exact z_lret d_Mod_next_66 rfl (by decide) (by decide) rfl rfl
set_option maxRecDepth 100000 in
set_option maxHeartbeats 4000000 in
theorem c_Mod_asked1 (X : zX) (J : zJT) (G : zGT) (t : Int32) (key : Int64) (k : Int32) (hno : (decide (0 ≤ t) && decide (t < J 40 1)) = false) : zK X 1 m_Mod_asked [.ref 40, .int t, .long key, .int k] J G (some (.int (-1))) (rTh J 1) G := by
  refine zC_of (by decide) (Nat.le_of_ble_eq_true rfl) ?_
  refine z_aload_n d_Mod_asked_0 rfl ?_
  refine z_aload_n d_Mod_asked_1 rfl ?_
  refine z_iload_n d_Mod_asked_2 rfl ?_
  refine z_callV1 d_Mod_asked_3 g_Mod_82 (c_Mod_isTable X J G 0 t) (by omega) rfl rfl rfl ⟨by decide, by decide, by decide, by decide⟩ rfl (Nat.le_of_ble_eq_true rfl) ?_
  refine z_if_eq d_Mod_asked_6 13 (by decide) (fun _ => ?_) (fun h9 => absurd (by rw [hno]; rfl) h9)
  refine z_iconst (v := 1) d_Mod_asked_13 (by decide) ?_
  refine z_put d_Mod_asked_14 f_Mod_73 p_9_0 (by omega) rfl (Nat.le_of_ble_eq_true rfl) rfl rfl (hp_pi 0 rfl) ?_
  refine z_aload_n d_Mod_asked_17 rfl ?_
  refine z_get d_Mod_asked_18 f_Mod_73 (by omega) rfl rfl ?_
  refine z_if_le d_Mod_asked_21 26 (by decide) (fun h9 => absurd h9 (show ¬ (1 : Int32) ≤ 0 by decide)) (fun _ => ?_)
  refine z_iconst (v := (-1)) d_Mod_asked_24 (by decide) ?_
  exact z_iret d_Mod_asked_25 rfl (by decide) (by decide) rfl rfl
set_option maxRecDepth 100000 in
set_option maxHeartbeats 4000000 in
theorem c_Mod_asked2 (X : zX) (J : zJT) (G : zGT) {u : Nat} (hu : u < 3) (key : Int64) (k : Int32) (hyes : (decide (0 ≤ nI u) && decide (nI u < J 40 1)) = true) {n : Nat} (hn : J 40 3 = nI n) (hn9 : n ≤ 90) (h : k < 0 ∨ ¬ k < J 41 u) : zK X 1 m_Mod_asked [.ref 40, .int (nI u), .long key, .int k] J G (some (.int (-1))) (rTh (rTh J 0) 1) G := by
  refine zC_of (by decide) (Nat.le_of_ble_eq_true rfl) ?_
  refine z_aload_n d_Mod_asked_0 rfl ?_
  refine z_aload_n d_Mod_asked_1 rfl ?_
  refine z_iload_n d_Mod_asked_2 rfl ?_
  refine z_callV1 d_Mod_asked_3 g_Mod_82 (c_Mod_isTable X J G 0 (nI u)) (by omega) rfl rfl rfl ⟨by decide, by decide, by decide, by decide⟩ rfl (Nat.le_of_ble_eq_true rfl) ?_
  refine z_if_eq d_Mod_asked_6 13 (by decide) (fun h9 => absurd h9 (by rw [hyes]; decide)) (fun _ => ?_)
  refine z_iconst (v := 0) d_Mod_asked_9 (by decide) ?_
  refine z_goto d_Mod_asked_10 14 (by decide) ?_
  refine z_put d_Mod_asked_14 f_Mod_73 p_9_0 (by omega) rfl (Nat.le_of_ble_eq_true rfl) rfl rfl (hp_pi 0 rfl) ?_
  refine z_aload_n d_Mod_asked_17 rfl ?_
  refine z_get d_Mod_asked_18 f_Mod_73 (by omega) rfl rfl ?_
  refine z_if_le d_Mod_asked_21 26 (by decide) (fun _ => ?_) (fun h9 => absurd (show (0 : Int32) ≤ 0 by decide) h9)
  refine z_aload_n d_Mod_asked_26 rfl ?_
  refine z_iload_n d_Mod_asked_27 rfl ?_
  refine z_lload_n d_Mod_asked_28 rfl ?_
  refine z_callV1 d_Mod_asked_29 g_Mod_86 (c_Mod_rowOf X (rTh J 0) G 0 (show rTh J 0 40 3 = nI n from hn) (by omega) (nI u) key) (by omega) rfl rfl rfl ⟨by decide, by decide, by decide, by decide⟩ rfl (Nat.le_of_ble_eq_true rfl) ?_
  rw [rOf_th]
  refine z_istore (lv' := [(0, _), (1, _), (2, _), (4, _), (5, _)]) d_Mod_asked_32 (by decide) rfl ?_
  refine z_aload_n d_Mod_asked_34 rfl ?_
  refine z_iload d_Mod_asked_35 rfl ?_
  refine z_if_lt d_Mod_asked_37 51 (by decide) (fun h37 => ?_) (fun h37 => ?_)
  · refine z_iconst (v := 1) d_Mod_asked_51 (by decide) ?_
    refine z_goto d_Mod_asked_52 65 (by decide) ?_
    refine z_put d_Mod_asked_65 f_Mod_73 p_9_0 (by omega) rfl (Nat.le_of_ble_eq_true rfl) rfl rfl (hp_pi 0 rfl) ?_
    refine z_aload_n d_Mod_asked_68 rfl ?_
    refine z_get d_Mod_asked_69 f_Mod_73 (by omega) rfl rfl ?_
    refine z_if_le d_Mod_asked_72 79 (by decide) (fun h9 => absurd h9 (show ¬ (1 : Int32) ≤ 0 by decide)) (fun _ => ?_)
    refine z_iconst (v := (-1)) d_Mod_asked_75 (by decide) ?_
    refine z_goto d_Mod_asked_76 81 (by decide) ?_
    exact z_iret d_Mod_asked_81 rfl (by decide) (by decide) rfl rfl
  · refine z_iload d_Mod_asked_40 rfl ?_
    refine z_aload_n d_Mod_asked_42 rfl ?_
    refine z_get d_Mod_asked_43 f_Mod_7 (by omega) rfl rfl ?_
    refine z_iload_n d_Mod_asked_46 rfl ?_
    refine z_iald d_Mod_asked_47 (by omega) rfl (show zin (nI u) u 3 from ⟨rfl, hu, by decide⟩) ?_
    refine z_icmp_lt d_Mod_asked_48 55 (by decide) (fun h9 => absurd h9 (h.resolve_left h37)) (fun _ => ?_)
    refine z_iconst (v := 1) d_Mod_asked_51 (by decide) ?_
    refine z_goto d_Mod_asked_52 65 (by decide) ?_
    refine z_put d_Mod_asked_65 f_Mod_73 p_9_0 (by omega) rfl (Nat.le_of_ble_eq_true rfl) rfl rfl (hp_pi 0 rfl) ?_
    refine z_aload_n d_Mod_asked_68 rfl ?_
    refine z_get d_Mod_asked_69 f_Mod_73 (by omega) rfl rfl ?_
    refine z_if_le d_Mod_asked_72 79 (by decide) (fun h9 => absurd h9 (show ¬ (1 : Int32) ≤ 0 by decide)) (fun _ => ?_)
    refine z_iconst (v := (-1)) d_Mod_asked_75 (by decide) ?_
    refine z_goto d_Mod_asked_76 81 (by decide) ?_
    exact z_iret d_Mod_asked_81 rfl (by decide) (by decide) rfl rfl
set_option maxRecDepth 100000 in
set_option maxHeartbeats 4000000 in
theorem c_Mod_asked3 (X : zX) (J : zJT) (G : zGT) {u : Nat} (hu : u < 3) (key : Int64) (k : Int32) (hyes : (decide (0 ≤ nI u) && decide (nI u < J 40 1)) = true) {n : Nat} (hn : J 40 3 = nI n) (hn9 : n ≤ 90) (h0 : ¬ k < 0) (h1 : k < J 41 u) (h : rOf J G (nI u) key n < 0) : zK X 1 m_Mod_asked [.ref 40, .int (nI u), .long key, .int k] J G (some (.int (-1))) (rTh (rTh J 0) 2) G := by
  refine zC_of (by decide) (Nat.le_of_ble_eq_true rfl) ?_
  refine z_aload_n d_Mod_asked_0 rfl ?_
  refine z_aload_n d_Mod_asked_1 rfl ?_
  refine z_iload_n d_Mod_asked_2 rfl ?_
  refine z_callV1 d_Mod_asked_3 g_Mod_82 (c_Mod_isTable X J G 0 (nI u)) (by omega) rfl rfl rfl ⟨by decide, by decide, by decide, by decide⟩ rfl (Nat.le_of_ble_eq_true rfl) ?_
  refine z_if_eq d_Mod_asked_6 13 (by decide) (fun h9 => absurd h9 (by rw [hyes]; decide)) (fun _ => ?_)
  refine z_iconst (v := 0) d_Mod_asked_9 (by decide) ?_
  refine z_goto d_Mod_asked_10 14 (by decide) ?_
  refine z_put d_Mod_asked_14 f_Mod_73 p_9_0 (by omega) rfl (Nat.le_of_ble_eq_true rfl) rfl rfl (hp_pi 0 rfl) ?_
  refine z_aload_n d_Mod_asked_17 rfl ?_
  refine z_get d_Mod_asked_18 f_Mod_73 (by omega) rfl rfl ?_
  refine z_if_le d_Mod_asked_21 26 (by decide) (fun _ => ?_) (fun h9 => absurd (show (0 : Int32) ≤ 0 by decide) h9)
  refine z_aload_n d_Mod_asked_26 rfl ?_
  refine z_iload_n d_Mod_asked_27 rfl ?_
  refine z_lload_n d_Mod_asked_28 rfl ?_
  refine z_callV1 d_Mod_asked_29 g_Mod_86 (c_Mod_rowOf X (rTh J 0) G 0 (show rTh J 0 40 3 = nI n from hn) (by omega) (nI u) key) (by omega) rfl rfl rfl ⟨by decide, by decide, by decide, by decide⟩ rfl (Nat.le_of_ble_eq_true rfl) ?_
  rw [rOf_th]
  refine z_istore (lv' := [(0, _), (1, _), (2, _), (4, _), (5, _)]) d_Mod_asked_32 (by decide) rfl ?_
  refine z_aload_n d_Mod_asked_34 rfl ?_
  refine z_iload d_Mod_asked_35 rfl ?_
  refine z_if_lt d_Mod_asked_37 51 (by decide) (fun h9 => absurd h9 h0) (fun _ => ?_)
  refine z_iload d_Mod_asked_40 rfl ?_
  refine z_aload_n d_Mod_asked_42 rfl ?_
  refine z_get d_Mod_asked_43 f_Mod_7 (by omega) rfl rfl ?_
  refine z_iload_n d_Mod_asked_46 rfl ?_
  refine z_iald d_Mod_asked_47 (by omega) rfl (show zin (nI u) u 3 from ⟨rfl, hu, by decide⟩) ?_
  refine z_icmp_lt d_Mod_asked_48 55 (by decide) (fun _ => ?_) (fun h9 => absurd h1 h9)
  refine z_iload d_Mod_asked_55 rfl ?_
  refine z_if_ge d_Mod_asked_57 64 (by decide) (fun h9 => absurd h9 (fun h9 => absurd h (Int32.not_lt.mpr h9))) (fun _ => ?_)
  refine z_iconst (v := 2) d_Mod_asked_60 (by decide) ?_
  refine z_goto d_Mod_asked_61 65 (by decide) ?_
  refine z_put d_Mod_asked_65 f_Mod_73 p_9_0 (by omega) rfl (Nat.le_of_ble_eq_true rfl) rfl rfl (hp_pi 0 rfl) ?_
  refine z_aload_n d_Mod_asked_68 rfl ?_
  refine z_get d_Mod_asked_69 f_Mod_73 (by omega) rfl rfl ?_
  refine z_if_le d_Mod_asked_72 79 (by decide) (fun h9 => absurd h9 (show ¬ (2 : Int32) ≤ 0 by decide)) (fun _ => ?_)
  refine z_iconst (v := (-1)) d_Mod_asked_75 (by decide) ?_
  refine z_goto d_Mod_asked_76 81 (by decide) ?_
  exact z_iret d_Mod_asked_81 rfl (by decide) (by decide) rfl rfl
set_option maxRecDepth 100000 in
set_option maxHeartbeats 4000000 in
theorem c_Mod_asked4 (X : zX) (J : zJT) (G : zGT) {u : Nat} (hu : u < 3) (key : Int64) (k : Int32) (hyes : (decide (0 ≤ nI u) && decide (nI u < J 40 1)) = true) {n : Nat} (hn : J 40 3 = nI n) (hn9 : n ≤ 90) (h0 : ¬ k < 0) (h1 : k < J 41 u) (h : ¬ rOf J G (nI u) key n < 0) : zK X 1 m_Mod_asked [.ref 40, .int (nI u), .long key, .int k] J G (some (.int (rOf J G (nI u) key n))) (rTh (rTh J 0) 0) G := by
  refine zC_of (by decide) (Nat.le_of_ble_eq_true rfl) ?_
  refine z_aload_n d_Mod_asked_0 rfl ?_
  refine z_aload_n d_Mod_asked_1 rfl ?_
  refine z_iload_n d_Mod_asked_2 rfl ?_
  refine z_callV1 d_Mod_asked_3 g_Mod_82 (c_Mod_isTable X J G 0 (nI u)) (by omega) rfl rfl rfl ⟨by decide, by decide, by decide, by decide⟩ rfl (Nat.le_of_ble_eq_true rfl) ?_
  refine z_if_eq d_Mod_asked_6 13 (by decide) (fun h9 => absurd h9 (by rw [hyes]; decide)) (fun _ => ?_)
  refine z_iconst (v := 0) d_Mod_asked_9 (by decide) ?_
  refine z_goto d_Mod_asked_10 14 (by decide) ?_
  refine z_put d_Mod_asked_14 f_Mod_73 p_9_0 (by omega) rfl (Nat.le_of_ble_eq_true rfl) rfl rfl (hp_pi 0 rfl) ?_
  refine z_aload_n d_Mod_asked_17 rfl ?_
  refine z_get d_Mod_asked_18 f_Mod_73 (by omega) rfl rfl ?_
  refine z_if_le d_Mod_asked_21 26 (by decide) (fun _ => ?_) (fun h9 => absurd (show (0 : Int32) ≤ 0 by decide) h9)
  refine z_aload_n d_Mod_asked_26 rfl ?_
  refine z_iload_n d_Mod_asked_27 rfl ?_
  refine z_lload_n d_Mod_asked_28 rfl ?_
  refine z_callV1 d_Mod_asked_29 g_Mod_86 (c_Mod_rowOf X (rTh J 0) G 0 (show rTh J 0 40 3 = nI n from hn) (by omega) (nI u) key) (by omega) rfl rfl rfl ⟨by decide, by decide, by decide, by decide⟩ rfl (Nat.le_of_ble_eq_true rfl) ?_
  rw [rOf_th]
  refine z_istore (lv' := [(0, _), (1, _), (2, _), (4, _), (5, _)]) d_Mod_asked_32 (by decide) rfl ?_
  refine z_aload_n d_Mod_asked_34 rfl ?_
  refine z_iload d_Mod_asked_35 rfl ?_
  refine z_if_lt d_Mod_asked_37 51 (by decide) (fun h9 => absurd h9 h0) (fun _ => ?_)
  refine z_iload d_Mod_asked_40 rfl ?_
  refine z_aload_n d_Mod_asked_42 rfl ?_
  refine z_get d_Mod_asked_43 f_Mod_7 (by omega) rfl rfl ?_
  refine z_iload_n d_Mod_asked_46 rfl ?_
  refine z_iald d_Mod_asked_47 (by omega) rfl (show zin (nI u) u 3 from ⟨rfl, hu, by decide⟩) ?_
  refine z_icmp_lt d_Mod_asked_48 55 (by decide) (fun _ => ?_) (fun h9 => absurd h1 h9)
  refine z_iload d_Mod_asked_55 rfl ?_
  refine z_if_ge d_Mod_asked_57 64 (by decide) (fun _ => ?_) (fun h9 => absurd (Int32.not_lt.mp h) h9)
  refine z_iconst (v := 0) d_Mod_asked_64 (by decide) ?_
  refine z_put d_Mod_asked_65 f_Mod_73 p_9_0 (by omega) rfl (Nat.le_of_ble_eq_true rfl) rfl rfl (hp_pi 0 rfl) ?_
  refine z_aload_n d_Mod_asked_68 rfl ?_
  refine z_get d_Mod_asked_69 f_Mod_73 (by omega) rfl rfl ?_
  refine z_if_le d_Mod_asked_72 79 (by decide) (fun _ => ?_) (fun h9 => absurd (show (0 : Int32) ≤ 0 by decide) h9)
  refine z_iload d_Mod_asked_79 rfl ?_
  exact z_iret d_Mod_asked_81 rfl (by decide) (by decide) rfl rfl
set_option maxRecDepth 100000 in
set_option maxHeartbeats 4000000 in
theorem c_Mod_value0 (X : zX) (J : zJT) (G : zGT) (t : Int32) (key : Int64) (k : Int32) {J' : zJT} (hm : zK X 1 m_Mod_asked [.ref 40, .int t, .long key, .int k] J G (some (.int (-1))) J' G) : zK X 2 m_Mod_value [.ref 40, .int t, .long key, .int k] J G (some (.long 0)) J' G := by
  refine zC_of (by decide) (Nat.le_of_ble_eq_true rfl) ?_
  refine z_aload_n d_Mod_value_0 rfl ?_
  refine z_iload_n d_Mod_value_1 rfl ?_
  refine z_lload_n d_Mod_value_2 rfl ?_
  refine z_iload d_Mod_value_3 rfl ?_
  refine z_callV1 d_Mod_value_5 g_Mod_102 (hm) (by omega) rfl rfl rfl ⟨by decide, by decide, by decide, by decide⟩ rfl (Nat.le_of_ble_eq_true rfl) ?_
  refine z_istore (lv' := [(0, _), (1, _), (2, _), (4, _), (5, _)]) d_Mod_value_8 (by decide) rfl ?_
  refine z_iload d_Mod_value_10 rfl ?_
  refine z_if_ge d_Mod_value_12 19 (by decide) (fun h9 => absurd h9 (by decide)) (fun _ => ?_)
  refine z_lconst (v := 0) d_Mod_value_15 (by decide) ?_
  refine z_goto d_Mod_value_16 31 (by decide) ?_
  exact z_lret d_Mod_value_31 rfl (by decide) (by decide) rfl rfl
set_option maxRecDepth 100000 in
set_option maxHeartbeats 4000000 in
theorem c_Mod_value1 (X : zX) (J : zJT) (G : zGT) (t : Int32) (key : Int64) {k r : Nat} (hk : k < 4) (hr : r < 90) {J' : zJT} (hm : zK X 1 m_Mod_asked [.ref 40, .int t, .long key, .int (nI k)] J G (some (.int (nI r))) J' G) : zK X 2 m_Mod_value [.ref 40, .int t, .long key, .int (nI k)] J G (some (.long (G 44 (4 * r + k)))) J' G := by
  refine zC_of (by decide) (Nat.le_of_ble_eq_true rfl) ?_
  refine z_aload_n d_Mod_value_0 rfl ?_
  refine z_iload_n d_Mod_value_1 rfl ?_
  refine z_lload_n d_Mod_value_2 rfl ?_
  refine z_iload d_Mod_value_3 rfl ?_
  refine z_callV1 d_Mod_value_5 g_Mod_102 (hm) (by omega) rfl rfl rfl ⟨by decide, by decide, by decide, by decide⟩ rfl (Nat.le_of_ble_eq_true rfl) ?_
  refine z_istore (lv' := [(0, _), (1, _), (2, _), (4, _), (5, _)]) d_Mod_value_8 (by decide) rfl ?_
  refine z_iload d_Mod_value_10 rfl ?_
  refine z_if_ge d_Mod_value_12 19 (by decide) (fun _ => ?_) (fun h9 => absurd (nI_pos' (by omega)) h9)
  refine z_aload_n d_Mod_value_19 rfl ?_
  refine z_get d_Mod_value_20 f_Mod_20 (by omega) rfl rfl ?_
  refine z_iconst (v := 4) d_Mod_value_23 (by decide) ?_
  refine z_iload d_Mod_value_24 rfl ?_
  refine z_imul d_Mod_value_26 ?_
  refine z_iload d_Mod_value_27 rfl ?_
  refine z_iadd d_Mod_value_29 ?_
  refine z_lald d_Mod_value_30 (by omega) rfl (rz360' hr hk) ?_
  exact z_lret d_Mod_value_31 rfl (by decide) (by decide) rfl rfl
set_option maxRecDepth 100000 in
set_option maxHeartbeats 4000000 in
theorem c_Mod_isNull0 (X : zX) (J : zJT) (G : zGT) (t : Int32) (key : Int64) (k : Int32) {J' : zJT} (hm : zK X 1 m_Mod_asked [.ref 40, .int t, .long key, .int k] J G (some (.int (-1))) J' G) : zK X 2 m_Mod_isNull [.ref 40, .int t, .long key, .int k] J G (some (.int 0)) J' G := by
  refine zC_of (by decide) (Nat.le_of_ble_eq_true rfl) ?_
  refine z_aload_n d_Mod_isNull_0 rfl ?_
  refine z_iload_n d_Mod_isNull_1 rfl ?_
  refine z_lload_n d_Mod_isNull_2 rfl ?_
  refine z_iload d_Mod_isNull_3 rfl ?_
  refine z_callV1 d_Mod_isNull_5 g_Mod_102 (hm) (by omega) rfl rfl rfl ⟨by decide, by decide, by decide, by decide⟩ rfl (Nat.le_of_ble_eq_true rfl) ?_
  refine z_istore (lv' := [(0, _), (1, _), (2, _), (4, _), (5, _)]) d_Mod_isNull_8 (by decide) rfl ?_
  refine z_iload d_Mod_isNull_10 rfl ?_
  refine z_if_lt d_Mod_isNull_12 34 (by decide) (fun _ => ?_) (fun h9 => absurd (by decide) h9)
  refine z_iconst (v := 0) d_Mod_isNull_34 (by decide) ?_
  exact z_zret d_Mod_isNull_35 rfl (by decide) (by decide) (by decide) rfl rfl
set_option maxRecDepth 100000 in
set_option maxHeartbeats 4000000 in
theorem c_Mod_isNull1 (X : zX) (J : zJT) (G : zGT) (t : Int32) (key : Int64) {k r : Nat} (hk : k < 4) (hr : r < 90) {J' : zJT} (hm : zK X 1 m_Mod_asked [.ref 40, .int t, .long key, .int (nI k)] J G (some (.int (nI r))) J' G) (b : Bool) (hb : J' 45 (4 * r + k) = zb b) : zK X 2 m_Mod_isNull [.ref 40, .int t, .long key, .int (nI k)] J G (some (.int (zb (!b)))) J' G := by
  refine zC_of (by decide) (Nat.le_of_ble_eq_true rfl) ?_
  refine z_aload_n d_Mod_isNull_0 rfl ?_
  refine z_iload_n d_Mod_isNull_1 rfl ?_
  refine z_lload_n d_Mod_isNull_2 rfl ?_
  refine z_iload d_Mod_isNull_3 rfl ?_
  refine z_callV1 d_Mod_isNull_5 g_Mod_102 (hm) (by omega) rfl rfl rfl ⟨by decide, by decide, by decide, by decide⟩ rfl (Nat.le_of_ble_eq_true rfl) ?_
  refine z_istore (lv' := [(0, _), (1, _), (2, _), (4, _), (5, _)]) d_Mod_isNull_8 (by decide) rfl ?_
  refine z_iload d_Mod_isNull_10 rfl ?_
  refine z_if_lt d_Mod_isNull_12 34 (by decide) (fun h9 => absurd h9 (nI_pos (by omega))) (fun _ => ?_)
  refine z_aload_n d_Mod_isNull_15 rfl ?_
  refine z_get d_Mod_isNull_16 f_Mod_23 (by omega) rfl rfl ?_
  refine z_iconst (v := 4) d_Mod_isNull_19 (by decide) ?_
  refine z_iload d_Mod_isNull_20 rfl ?_
  refine z_imul d_Mod_isNull_22 ?_
  refine z_iload d_Mod_isNull_23 rfl ?_
  refine z_iadd d_Mod_isNull_25 ?_
  refine z_zald d_Mod_isNull_26 (by omega) rfl (rz360' hr hk) ?_
  rw [hb]
  refine z_if_ne d_Mod_isNull_27 34 (by decide) (fun h27 => ?_) (fun h27 => ?_)
  · refine z_iconst (v := 0) d_Mod_isNull_34 (by decide) ?_
    exact z_zret d_Mod_isNull_35 rfl (by decide) (by decide) (by decide) (by first | (rw [zb0 h27]; rfl) | (rw [zb1' h27]; rfl)) rfl
  · refine z_iconst (v := 1) d_Mod_isNull_30 (by decide) ?_
    refine z_goto d_Mod_isNull_31 35 (by decide) ?_
    exact z_zret d_Mod_isNull_35 rfl (by decide) (by decide) (by decide) (by first | (rw [zb0 h27]; rfl) | (rw [zb1' h27]; rfl)) rfl
