set_option maxRecDepth 100000 in
set_option maxHeartbeats 4000000 in
theorem c_Sto_begin (X : zX) {t : Nat} (ht : t < 3) (J : zJT) (G : zGT) (hJ : J 2 1 = nI t) (v : Int32) : zK X 0 m_Sto_begin [.ref 2, .int v] J G (some (.int (nI t))) (va_up (va_up J (9 + 2 * t) (va_up (J (9 + 2 * t)) 0 v)) 2 (va_up (J 2) 1 (nI t + 1))) G := by
  refine zC_of (by decide) (Nat.le_of_ble_eq_true rfl) ?_
  refine z_aload_n d_Sto_begin_0 rfl ?_
  refine z_get d_Sto_begin_1 f_Sto_17 (by omega) rfl rfl ?_
  rw [hJ]
  refine z_istore_n (lv' := [(0, _), (1, _), (2, _)]) d_Sto_begin_4 (by decide) rfl ?_
  refine z_aload_n d_Sto_begin_5 rfl ?_
  refine z_get d_Sto_begin_6 f_Sto_11 (by omega) rfl rfl ?_
  refine z_iload_n d_Sto_begin_9 rfl ?_
  refine z_aald d_Sto_begin_10 (by omega) rfl rfl (show zin (nI t) t 3 from ⟨rfl, ht, by decide⟩) (zt_at ht) ?_
  refine z_iload_n d_Sto_begin_11 rfl ?_
  refine z_put d_Sto_begin_12 f_Sto_42 p_3_0 (by omega) (zt_c ht _ _) (Nat.le_of_ble_eq_true rfl) rfl rfl (hp_t0 ht) ?_
  refine z_aload_n d_Sto_begin_15 rfl ?_
  refine z_dup d_Sto_begin_16 rfl ?_
  refine z_get d_Sto_begin_17 f_Sto_17 (by omega) rfl rfl ?_
  refine z_iconst (v := 1) d_Sto_begin_20 (by decide) ?_
  refine z_iadd d_Sto_begin_21 ?_
  refine z_put d_Sto_begin_22 f_Sto_17 p_2_1 (by omega) rfl (Nat.le_of_ble_eq_true rfl) rfl rfl (hp_pi 1 rfl) ?_
  refine z_iload_n d_Sto_begin_25 rfl ?_
  exact z_iret d_Sto_begin_26 rfl (by decide) (by decide) rfl (by simp only [zu_n (show (2 : Nat) ≠ 9 + 2 * t by omega), hJ])
set_option maxRecDepth 100000 in
set_option maxHeartbeats 4000000 in
theorem c_Sto_hasColumn0 (X : zX) (i v : Int32) (J : zJT) (G : zGT) (hno : (decide (0 ≤ i) && decide (i < J 2 1)) = false) : zK X 2 m_Sto_hasColumn [.ref 2, .int i, .int v] J G (some (.int 0)) J G := by
  refine zC_of (by decide) (Nat.le_of_ble_eq_true rfl) ?_
  refine z_aload_n d_Sto_hasColumn_0 rfl ?_
  refine z_iload_n d_Sto_hasColumn_1 rfl ?_
  refine z_callV1 d_Sto_hasColumn_2 g_Sto_49 (c_Sto_hasTable X i J G) (by decide) rfl rfl rfl ⟨by decide, by decide, by decide, by decide⟩ rfl (Nat.le_of_ble_eq_true rfl) ?_
  refine z_if_eq d_Sto_hasColumn_5 28 (by decide) (fun _ => ?_) (fun h9 => absurd (by rw [hno]; rfl) h9)
  refine z_iconst (v := 0) d_Sto_hasColumn_28 (by decide) ?_
  exact z_zret d_Sto_hasColumn_29 rfl (by decide) (by decide) (by decide) rfl rfl
set_option maxRecDepth 100000 in
set_option maxHeartbeats 4000000 in
theorem c_Sto_hasColumn (X : zX) {t : Nat} (ht : t < 3) (v : Int32) (J : zJT) (G : zGT) (hyes : (decide (0 ≤ nI t) && decide (nI t < J 2 1)) = true) : zK X 2 m_Sto_hasColumn [.ref 2, .int (nI t), .int v] J G (some (.int (zb (decide (0 ≤ v) && decide (v < J (9 + 2 * t) 0))))) J G := by
  refine zC_of (by decide) (Nat.le_of_ble_eq_true rfl) ?_
  refine z_aload_n d_Sto_hasColumn_0 rfl ?_
  refine z_iload_n d_Sto_hasColumn_1 rfl ?_
  refine z_callV1 d_Sto_hasColumn_2 g_Sto_49 (c_Sto_hasTable X (nI t) J G) (by omega) rfl rfl rfl ⟨by decide, by decide, by decide, by decide⟩ rfl (Nat.le_of_ble_eq_true rfl) ?_
  refine z_if_eq d_Sto_hasColumn_5 28 (by decide) (fun h9 => absurd h9 (by rw [hyes]; decide)) (fun _ => ?_)
  refine z_iload_n d_Sto_hasColumn_8 rfl ?_
  refine z_aload_n d_Sto_hasColumn_9 rfl ?_
  refine z_get d_Sto_hasColumn_10 f_Sto_11 (by omega) rfl rfl ?_
  refine z_iload_n d_Sto_hasColumn_13 rfl ?_
  refine z_aald d_Sto_hasColumn_14 (by omega) rfl rfl (show zin (nI t) t 3 from ⟨rfl, ht, by decide⟩) (zt_at ht) ?_
  refine z_get d_Sto_hasColumn_15 f_Sto_42 (by omega) (zt_c ht _ _) rfl ?_
  refine z_callN1 d_Sto_hasColumn_18 g_Sto_45 (c_isIndex X 0 _ _ _ _) rfl ⟨by decide, by decide, by decide, by decide⟩ rfl (Nat.le_of_ble_eq_true rfl) ?_
  refine z_if_eq d_Sto_hasColumn_21 28 (by decide) (fun h21 => ?_) (fun h21 => ?_)
  · refine z_iconst (v := 0) d_Sto_hasColumn_28 (by decide) ?_
    exact z_zret d_Sto_hasColumn_29 rfl (by decide) (by decide) (by decide) (by rw [zb0 h21]; rfl) rfl
  · refine z_iconst (v := 1) d_Sto_hasColumn_24 (by decide) ?_
    refine z_goto d_Sto_hasColumn_25 29 (by decide) ?_
    exact z_zret d_Sto_hasColumn_29 rfl (by decide) (by decide) (by decide) (by rw [zb1' h21]; rfl) rfl
def zcl (f : Nat → Int32) (k : Nat) : Nat → Int32 := fun j => if j < k then 0 else f j
def zclL (f : Nat → Int64) (k : Nat) : Nat → Int64 := fun j => if j < k then 0 else f j
theorem zcl_s {f : Nat → Int32} {k : Nat} : upd (zcl f k) k 0 = zcl f (k + 1) := by
  funext j; simp only [upd, zcl]
  by_cases h1 : j = k
  · subst h1; rw [if_pos rfl, if_pos (by omega)]
  · rw [if_neg h1]; by_cases h2 : j < k
    · rw [if_pos h2, if_pos (by omega)]
    · rw [if_neg h2, if_neg (by omega)]
theorem zclL_s {f : Nat → Int64} {k : Nat} : vp_updL (zclL f k) k 0 = zclL f (k + 1) := by
  funext j; simp only [vp_updL, zclL]
  by_cases h1 : j = k
  · subst h1; rw [if_pos rfl, if_pos (by omega)]
  · rw [if_neg h1]; by_cases h2 : j < k
    · rw [if_pos h2, if_pos (by omega)]
    · rw [if_neg h2, if_neg (by omega)]
theorem zcl_0 {f : Nat → Int32} : zcl f 0 = f := by funext j; simp [zcl]
theorem zclL_0 {f : Nat → Int64} : zclL f 0 = f := by funext j; simp [zclL]
set_option maxRecDepth 100000 in
set_option maxHeartbeats 4000000 in
theorem l_Val_clearAll (X : zX) (J : zJT) (G : zGT) : ∀ m k, 16 - k = m → k ≤ 16 → zJ X (zR 1 0 0) m_Val_clearAll (zRet X 0 0 false none (hp (va_up J 24 (zcl (J 24) 16)) (va_up G 23 (zclL (G 23) 16))) 60) false 0 0 (hp (va_up J 24 (zcl (J 24) k)) (va_up G 23 (zclL (G 23) k))) 60 2 [(0, .ref 22), (1, .int (nI k))] [] := by
  intro m
  induction m with
  | zero =>
    intro k hm hk
    rw [show k = 16 by omega]
    refine z_iload_n d_Val_clearAll_2 rfl ?_
    refine z_aload_n d_Val_clearAll_3 rfl ?_
    refine z_get d_Val_clearAll_4 f_Val_7 (by decide) rfl rfl ?_
    refine z_alen d_Val_clearAll_7 (by decide) rfl rfl (show Int32.ofNat 16 = nI 16 from rfl) ?_
    refine z_icmp_ge d_Val_clearAll_8 22 (by decide) (fun _ => ?_) (fun h9 => absurd (nI_le (Nat.le_refl _) (by decide)) h9)
    exact z_vret d_Val_clearAll_22 rfl (by decide) (by decide) rfl
  | succ m ih =>
    intro k hm hk
    refine z_iload_n d_Val_clearAll_2 rfl ?_
    refine z_aload_n d_Val_clearAll_3 rfl ?_
    refine z_get d_Val_clearAll_4 f_Val_7 (by decide) rfl rfl ?_
    refine z_alen d_Val_clearAll_7 (by decide) rfl rfl (show Int32.ofNat 16 = nI 16 from rfl) ?_
    refine z_icmp_ge d_Val_clearAll_8 22 (by decide) (fun h9 => absurd h9 (nI_ge (show k < 16 by omega) (by decide))) (fun _ => ?_)
    refine z_aload_n d_Val_clearAll_11 rfl ?_
    refine z_iload_n d_Val_clearAll_12 rfl ?_
    refine z_callV0 d_Val_clearAll_13 g_Val_17 (c_Val_clear X 0 zVal22 (show zin (nI k) k 16 from ⟨rfl, by omega, by decide⟩) _ _) (by decide) rfl rfl rfl ⟨by decide, by decide, by decide, by decide⟩ rfl (Nat.le_of_ble_eq_true rfl) ?_
    refine z_iinc (lv' := [(0, _), (1, _)]) d_Val_clearAll_16 (by decide) rfl (show _ + Int32.ofInt 1 = nI (k + 1) from nI_1 _) rfl ?_
    refine z_goto d_Val_clearAll_19 2 (by decide) ?_
    refine z_heq (h' := (hp (va_up J 24 (zcl (J 24) (k + 1))) (va_up G 23 (zclL (G 23) (k + 1))))) ?_ (ih (k + 1) (by omega) (by omega))
    simp only [bx_uu, zu_s, zcl_s, zclL_s, Nat.reduceAdd]
set_option maxRecDepth 100000 in
set_option maxHeartbeats 4000000 in
theorem c_Val_clearAll (X : zX) (J : zJT) (G : zGT) : zK X 1 m_Val_clearAll [.ref 22] J G none (va_up J 24 (zcl (J 24) 16)) (va_up G 23 (zclL (G 23) 16)) := by
  refine zC_of (by decide) (Nat.le_of_ble_eq_true rfl) ?_
  refine z_iconst (v := 0) d_Val_clearAll_0 (by decide) ?_
  refine z_istore_n (lv' := [(0, _), (1, _)]) d_Val_clearAll_1 (by decide) rfl ?_
  exact z_loc (lv' := [(0, .ref 22), (1, .int (nI 0))]) (by simp [nI_0]) (z_heq (by rw [zcl_0, zclL_0, zu_self, zu_self]) (l_Val_clearAll X J G 16 0 (by omega) (by omega)))
set_option maxRecDepth 100000 in
set_option maxHeartbeats 4000000 in
theorem c_Res_take0 (X : zX) (i j : Int32) (b : Nat) (J : zJT) (G : zGT) (hJ : J 17 0 = 64) : zK X 1 m_Res_take [.ref 17, .ref b, .int i, .int j] J G (some (.int 0)) J G := by
  refine zC_of (by decide) (Nat.le_of_ble_eq_true rfl) ?_
  refine z_aload_n d_Res_take_0 rfl ?_
  refine z_get d_Res_take_1 f_Res_9 (by decide) rfl rfl ?_
  refine z_bipush (v := 64) d_Res_take_4 (by decide) ?_
  refine z_icmp_ne d_Res_take_6 11 (by decide) (fun h9 => absurd h9 (fun h9 => h9 hJ)) (fun _ => ?_)
  refine z_iconst (v := 0) d_Res_take_9 (by decide) ?_
  exact z_zret d_Res_take_10 rfl (by decide) (by decide) (by decide) rfl rfl
def ztkJ (J : zJT) (f s w k : Nat) : zJT := va_up (va_up J 18 (upd (J 18) s (nI w))) 21 (va_cpy (J 24) (J 21) f (4 * s) k)
def ztkG (G : zGT) (f s k : Nat) : zGT := va_up G 20 (va_cpy (G 23) (G 20) f (4 * s) k)
set_option maxRecDepth 100000 in
set_option maxHeartbeats 4000000 in
theorem l_Res_take (X : zX) (J : zJT) (G : zGT) {s f w : Nat} (hs : s < 64) (hw : w ≤ 4) (hf : f + w ≤ 16) (hJ : J 17 0 = nI s) (hbool : ∀ i, i < 16 → vp_nar .boolean (J 24 i) = J 24 i) : ∀ m k, w - k = m → k ≤ w → zJ X (zR 1 0 0) m_Res_take (zRet X 0 0 false (some (.int 1)) (hp (va_up (ztkJ J f s w w) 17 (va_up (J 17) 0 (nI s + 1))) (ztkG G f s w)) 60) false 0 0 (hp (ztkJ J f s w k) (ztkG G f s k)) 60 24 [(0, .ref 17), (1, .ref 22), (2, .int (nI f)), (3, .int (nI w)), (4, .int (nI k))] [] := by
  intro m
  induction m with
  | zero =>
    intro k hm hk
    rw [show k = w by omega]
    refine z_iload d_Res_take_24 rfl ?_
    refine z_iload_n d_Res_take_26 rfl ?_
    refine z_icmp_ge d_Res_take_27 57 (by decide) (fun _ => ?_) (fun h9 => absurd (nI_le (Nat.le_refl _) (by omega)) h9)
    refine z_aload_n d_Res_take_57 rfl ?_
    refine z_dup d_Res_take_58 rfl ?_
    refine z_get d_Res_take_59 f_Res_9 (by decide) rfl rfl ?_
    refine z_iconst (v := 1) d_Res_take_62 (by decide) ?_
    refine z_iadd d_Res_take_63 ?_
    refine z_put d_Res_take_64 f_Res_9 p_7_0 (by decide) rfl (Nat.le_of_ble_eq_true rfl) rfl rfl (hp_pi 0 rfl) ?_
    refine z_iconst (v := 1) d_Res_take_67 (by decide) ?_
    exact z_zret d_Res_take_68 rfl (by decide) (by decide) (by decide) rfl (by simp only [ztkJ, zu_n (show (17 : Nat) ≠ 21 by decide), zu_n (show (17 : Nat) ≠ 18 by decide), hJ])
  | succ m ih =>
    intro k hm hk
    refine z_iload d_Res_take_24 rfl ?_
    refine z_iload_n d_Res_take_26 rfl ?_
    refine z_icmp_ge d_Res_take_27 57 (by decide) (fun h9 => absurd h9 (nI_ge (show k < w by omega) (by omega))) (fun _ => ?_)
    refine z_aload_n d_Res_take_30 rfl ?_
    refine z_get d_Res_take_31 f_Res_24 (by decide) rfl rfl ?_
    refine z_aload_n d_Res_take_34 rfl ?_
    refine z_get d_Res_take_35 f_Res_9 (by decide) rfl rfl ?_
    refine z_iconst (v := 4) d_Res_take_38 (by decide) ?_
    refine z_imul d_Res_take_39 ?_
    refine z_iload d_Res_take_40 rfl ?_
    refine z_iadd d_Res_take_42 ?_
    refine z_aload_n d_Res_take_43 rfl ?_
    refine z_iload_n d_Res_take_44 rfl ?_
    refine z_iload d_Res_take_45 rfl ?_
    refine z_iadd d_Res_take_47 ?_
    refine z_callV0 d_Res_take_48 g_Res_32 (c_Val_copy X zVal19 (show zin (ztkJ J f s w k 17 0 * 4 + nI k) (4 * s + k) 256 from ⟨by rw [ztkJ, zu_n (by decide), zu_n (by decide), hJ, show (4 : Int32) = nI 4 from rfl, pk_mul, nI_add, Nat.mul_comm], by omega, by decide⟩) zVal22 (show zin (nI f + nI k) (f + k) 16 from ⟨nI_add _ _, by omega, by decide⟩) _ _ (by rw [ztkJ, zu_n (by decide), zu_n (by decide)]; exact hbool _ (by omega))) (by decide) rfl rfl rfl ⟨by decide, by decide, by decide, by decide⟩ rfl (Nat.le_of_ble_eq_true rfl) ?_
    refine z_iinc (lv' := [(0, _), (1, _), (2, _), (3, _), (4, _)]) d_Res_take_51 (by decide) rfl (show _ + Int32.ofInt 1 = nI (k + 1) from nI_1 _) rfl ?_
    refine z_goto d_Res_take_54 24 (by decide) ?_
    refine z_heq (h' := (hp (ztkJ J f s w (k + 1)) (ztkG G f s (k + 1)))) ?_ (ih (k + 1) (by omega) (by omega))
    simp only [ztkJ, ztkG, bx_uu, zu_s, zu_n (show (24 : Nat) ≠ 21 by decide), zu_n (show (24 : Nat) ≠ 18 by decide), zu_n (show (23 : Nat) ≠ 20 by decide), Nat.reduceAdd, cpy_s, cpy_sL]
set_option maxRecDepth 100000 in
set_option maxHeartbeats 4000000 in
theorem c_Res_take1 (X : zX) (J : zJT) (G : zGT) {s f w : Nat} (hs : s < 64) (hw : w ≤ 4) (hf : f + w ≤ 16) (hJ : J 17 0 = nI s) (hbool : ∀ i, i < 16 → vp_nar .boolean (J 24 i) = J 24 i) : zK X 1 m_Res_take [.ref 17, .ref 22, .int (nI f), .int (nI w)] J G (some (.int 1)) (va_up (ztkJ J f s w w) 17 (va_up (J 17) 0 (nI s + 1))) (ztkG G f s w) := by
  refine zC_of (by decide) (Nat.le_of_ble_eq_true rfl) ?_
  refine z_aload_n d_Res_take_0 rfl ?_
  refine z_get d_Res_take_1 f_Res_9 (by decide) rfl rfl ?_
  refine z_bipush (v := 64) d_Res_take_4 (by decide) ?_
  refine z_icmp_ne d_Res_take_6 11 (by decide) (fun _ => ?_) (fun h9 => absurd h9 (by rw [hJ]; exact fun h9 => absurd ((nI_eq (by omega) (by decide)).mp (show nI s = nI 64 from h9)) (by omega)))
  refine z_aload_n d_Res_take_11 rfl ?_
  refine z_get d_Res_take_12 f_Res_15 (by decide) rfl rfl ?_
  refine z_aload_n d_Res_take_15 rfl ?_
  refine z_get d_Res_take_16 f_Res_9 (by decide) rfl rfl ?_
  refine z_iload_n d_Res_take_19 rfl ?_
  refine z_iast d_Res_take_20 (by decide) rfl (show zin (J 17 0) s 64 from ⟨hJ, hs, by decide⟩) (hp_ai rfl) ?_
  refine z_iconst (v := 0) d_Res_take_21 (by decide) ?_
  refine z_istore (lv' := [(0, _), (1, _), (2, _), (3, _), (4, _)]) d_Res_take_22 (by decide) rfl ?_
  exact z_loc (lv' := [(0, .ref 17), (1, .ref 22), (2, .int (nI f)), (3, .int (nI w)), (4, .int (nI 0))]) (by simp [nI_0]) (z_heq (by simp only [ztkJ, ztkG, cpy_0]; rw [← zu_n (show (21 : Nat) ≠ 18 by decide) (f := J) (v := upd (J 18) s (nI w)), zu_self, zu_self]) (l_Res_take X J G hs hw hf hJ hbool w 0 (by omega) (by omega)))
/-- what an operand of a kind may be -/
def zix (v : Int32) (n : Int32) : Bool := decide (0 ≤ v) && decide (v < n)
def zTk (k : Nat) (v : Int32) : Bool := match k with
  | 1 => zix v 3
  | 2 => zix v 3
  | 3 => zix v 61
  | 4 => zix v 4
  | 5 => zix v 16
  | 6 => zix v 12
  | 7 => decide (1 ≤ v) && decide (v ≤ 4)
  | _ => true
set_option maxRecDepth 100000 in
set_option maxHeartbeats 4000000 in
theorem c_Kin_takes (X : zX) {k : Nat} (hk : k < 9) (v : Int32) (J : zJT) (G : zGT) : zK X 1 m_Kin_takes [.int (nI k), .int v] J G (some (.int (zb (zTk k v)))) J G := by
  rcases (show k = 0 ∨ k = 1 ∨ k = 2 ∨ k = 3 ∨ k = 4 ∨ k = 5 ∨ k = 6 ∨ k = 7 ∨ k = 8 by omega) with rfl | rfl | rfl | rfl | rfl | rfl | rfl | rfl | rfl
  · refine zC_of (by decide) (Nat.le_of_ble_eq_true rfl) ?_
    refine z_iload_n d_Kin_takes_0 rfl ?_
    refine z_tableOut d_Kin_takes_1 99 (by decide) (by decide) ?_
    refine z_iconst (v := 1) d_Kin_takes_99 (by decide) ?_
    exact z_zret d_Kin_takes_100 rfl (by decide) (by decide) (by decide) rfl rfl
  · refine zC_of (by decide) (Nat.le_of_ble_eq_true rfl) ?_
    refine z_iload_n d_Kin_takes_0 rfl ?_
    refine z_tableIn (off := 43) d_Kin_takes_1 44 (by decide) (by decide) (by decide) (by decide) ?_
    refine z_iload_n d_Kin_takes_44 rfl ?_
    refine z_iconst (v := 3) d_Kin_takes_45 (by decide) ?_
    refine z_callN1 d_Kin_takes_46 g_Kin_9 (c_isIndex X 0 _ _ _ _) rfl ⟨by decide, by decide, by decide, by decide⟩ rfl (Nat.le_of_ble_eq_true rfl) ?_
    exact z_zret d_Kin_takes_49 rfl (by decide) (by decide) (zb_n _) rfl rfl
  · refine zC_of (by decide) (Nat.le_of_ble_eq_true rfl) ?_
    refine z_iload_n d_Kin_takes_0 rfl ?_
    refine z_tableIn (off := 49) d_Kin_takes_1 50 (by decide) (by decide) (by decide) (by decide) ?_
    refine z_iload_n d_Kin_takes_50 rfl ?_
    refine z_iconst (v := 3) d_Kin_takes_51 (by decide) ?_
    refine z_callN1 d_Kin_takes_52 g_Kin_9 (c_isIndex X 0 _ _ _ _) rfl ⟨by decide, by decide, by decide, by decide⟩ rfl (Nat.le_of_ble_eq_true rfl) ?_
    exact z_zret d_Kin_takes_55 rfl (by decide) (by decide) (zb_n _) rfl rfl
  · refine zC_of (by decide) (Nat.le_of_ble_eq_true rfl) ?_
    refine z_iload_n d_Kin_takes_0 rfl ?_
    refine z_tableIn (off := 55) d_Kin_takes_1 56 (by decide) (by decide) (by decide) (by decide) ?_
    refine z_iload_n d_Kin_takes_56 rfl ?_
    refine z_bipush (v := 61) d_Kin_takes_57 (by decide) ?_
    refine z_callN1 d_Kin_takes_59 g_Kin_9 (c_isIndex X 0 _ _ _ _) rfl ⟨by decide, by decide, by decide, by decide⟩ rfl (Nat.le_of_ble_eq_true rfl) ?_
    exact z_zret d_Kin_takes_62 rfl (by decide) (by decide) (zb_n _) rfl rfl
  · refine zC_of (by decide) (Nat.le_of_ble_eq_true rfl) ?_
    refine z_iload_n d_Kin_takes_0 rfl ?_
    refine z_tableIn (off := 62) d_Kin_takes_1 63 (by decide) (by decide) (by decide) (by decide) ?_
    refine z_iload_n d_Kin_takes_63 rfl ?_
    refine z_iconst (v := 4) d_Kin_takes_64 (by decide) ?_
    refine z_callN1 d_Kin_takes_65 g_Kin_9 (c_isIndex X 0 _ _ _ _) rfl ⟨by decide, by decide, by decide, by decide⟩ rfl (Nat.le_of_ble_eq_true rfl) ?_
    exact z_zret d_Kin_takes_68 rfl (by decide) (by decide) (zb_n _) rfl rfl
  · refine zC_of (by decide) (Nat.le_of_ble_eq_true rfl) ?_
    refine z_iload_n d_Kin_takes_0 rfl ?_
    refine z_tableIn (off := 68) d_Kin_takes_1 69 (by decide) (by decide) (by decide) (by decide) ?_
    refine z_iload_n d_Kin_takes_69 rfl ?_
    refine z_bipush (v := 16) d_Kin_takes_70 (by decide) ?_
    refine z_callN1 d_Kin_takes_72 g_Kin_9 (c_isIndex X 0 _ _ _ _) rfl ⟨by decide, by decide, by decide, by decide⟩ rfl (Nat.le_of_ble_eq_true rfl) ?_
    exact z_zret d_Kin_takes_75 rfl (by decide) (by decide) (zb_n _) rfl rfl
  · refine zC_of (by decide) (Nat.le_of_ble_eq_true rfl) ?_
    refine z_iload_n d_Kin_takes_0 rfl ?_
    refine z_tableIn (off := 75) d_Kin_takes_1 76 (by decide) (by decide) (by decide) (by decide) ?_
    refine z_iload_n d_Kin_takes_76 rfl ?_
    refine z_bipush (v := 12) d_Kin_takes_77 (by decide) ?_
    refine z_callN1 d_Kin_takes_79 g_Kin_9 (c_isIndex X 0 _ _ _ _) rfl ⟨by decide, by decide, by decide, by decide⟩ rfl (Nat.le_of_ble_eq_true rfl) ?_
    exact z_zret d_Kin_takes_82 rfl (by decide) (by decide) (zb_n _) rfl rfl
  · refine zC_of (by decide) (Nat.le_of_ble_eq_true rfl) ?_
    refine z_iload_n d_Kin_takes_0 rfl ?_
    refine z_tableIn (off := 82) d_Kin_takes_1 83 (by decide) (by decide) (by decide) (by decide) ?_
    refine z_iload_n d_Kin_takes_83 rfl ?_
    refine z_iconst (v := 1) d_Kin_takes_84 (by decide) ?_
    refine z_icmp_lt d_Kin_takes_85 97 (by decide) (fun h85 => ?_) (fun h85 => ?_)
    · refine z_iconst (v := 0) d_Kin_takes_97 (by decide) ?_
      exact z_zret d_Kin_takes_98 rfl (by decide) (by decide) (by decide) (by simp only [zTk]; first | (simp_all [zb]; done) | grind [zb]) rfl
    · refine z_iload_n d_Kin_takes_88 rfl ?_
      refine z_iconst (v := 4) d_Kin_takes_89 (by decide) ?_
      refine z_icmp_gt d_Kin_takes_90 97 (by decide) (fun h90 => ?_) (fun h90 => ?_)
      · refine z_iconst (v := 0) d_Kin_takes_97 (by decide) ?_
        exact z_zret d_Kin_takes_98 rfl (by decide) (by decide) (by decide) (by simp only [zTk]; first | (simp_all [zb]; done) | grind [zb]) rfl
      · refine z_iconst (v := 1) d_Kin_takes_93 (by decide) ?_
        refine z_goto d_Kin_takes_94 98 (by decide) ?_
        exact z_zret d_Kin_takes_98 rfl (by decide) (by decide) (by decide) (by simp only [zTk]; first | (simp_all [zb]; done) | grind [zb]) rfl
  · refine zC_of (by decide) (Nat.le_of_ble_eq_true rfl) ?_
    refine z_iload_n d_Kin_takes_0 rfl ?_
    refine z_tableOut d_Kin_takes_1 99 (by decide) (by decide) ?_
    refine z_iconst (v := 1) d_Kin_takes_99 (by decide) ?_
    exact z_zret d_Kin_takes_100 rfl (by decide) (by decide) (by decide) rfl rfl
