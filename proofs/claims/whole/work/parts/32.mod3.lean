/-! the reference: counting, laying and taking rows -/
def rTh (J : zJT) (v : Int32) : zJT := va_up J 40 (va_up (J 40) 0 v)
def rCnt (f : Nat → Int32) (t : Int32) : Nat → Nat
  | 0 => 0
  | k + 1 => if f k = t then rCnt f t k + 1 else rCnt f t k
theorem rCnt_le (f : Nat → Int32) (t : Int32) : ∀ k, rCnt f t k ≤ k
  | 0 => Nat.le_refl _
  | k + 1 => by
    have := rCnt_le f t k
    rw [rCnt]
    split <;> omega
theorem rOf_c {J J' : zJT} {G G' : zGT} (h1 : J' 42 = J 42) (h2 : G' 43 = G 43) (t : Int32) (key : Int64) : ∀ k, rOf J' G' t key k = rOf J G t key k
  | 0 => rfl
  | k + 1 => by rw [rOf, rOf, h1, h2, rOf_c h1 h2 t key k]
theorem rMin_c {P P' : Nat → Bool} {G G' : zGT} (h1 : ∀ k, P' k = P k) (h2 : G' 43 = G 43) : ∀ k, rMin G' P' k = rMin G P k
  | 0 => rfl
  | k + 1 => by rw [rMin, rMin, h1, h2, rMin_c h1 h2 k]
theorem rz360 {J : zJT} {m k : Nat} (hm : J 40 3 = nI m) (hm9 : m < 90) (hk : k < 4) : zin (4 * J 40 3 + nI k) (4 * m + k) 360 := by
  refine ⟨?_, by omega, by decide⟩
  rw [hm, show (4 : Int32) = nI 4 from rfl, pk_mul, nI_add]
theorem rz360' {m k : Nat} (hm9 : m < 90) (hk : k < 4) : zin (4 * nI m + nI k) (4 * m + k) 360 := by
  refine ⟨?_, by omega, by decide⟩
  rw [show (4 : Int32) = nI 4 from rfl, pk_mul, nI_add]
set_option maxRecDepth 100000 in
set_option maxHeartbeats 4000000 in
theorem c_Mod_lay (X : zX) (J : zJT) (G : zGT) (d : Nat) {m k : Nat} (hm : J 40 3 = nI m) (hm9 : m < 90) (hk : k < 4) (t : Int32) (key : Int64) (b : Bool) (v : Int64) : zK X d m_Mod_lay [.ref 40, .int t, .long key, .int (nI k), .int (zb b), .long v] J G none (va_up (va_up J 42 (upd (J 42) m t)) 45 (upd (J 45) (4 * m + k) (zb b))) (va_up (va_up G 43 (vp_updL (G 43) m key)) 44 (vp_updL (G 44) (4 * m + k) (if b then v else 0))) := by
  refine zC_of (by decide) (Nat.le_of_ble_eq_true rfl) ?_
  refine z_aload_n d_Mod_lay_0 rfl ?_
  refine z_get d_Mod_lay_1 f_Mod_13 (by omega) rfl rfl ?_
  refine z_aload_n d_Mod_lay_4 rfl ?_
  refine z_get d_Mod_lay_5 f_Mod_79 (by omega) rfl rfl ?_
  refine z_iload_n d_Mod_lay_8 rfl ?_
  refine z_iast d_Mod_lay_9 (by omega) rfl (show zin (J 40 3) m 90 from ⟨hm, hm9, by decide⟩) (hp_ai rfl) ?_
  refine z_aload_n d_Mod_lay_10 rfl ?_
  refine z_get d_Mod_lay_11 f_Mod_16 (by omega) rfl rfl ?_
  refine z_aload_n d_Mod_lay_14 rfl ?_
  refine z_get d_Mod_lay_15 f_Mod_79 (by omega) rfl rfl ?_
  refine z_lload_n d_Mod_lay_18 rfl ?_
  refine z_last d_Mod_lay_19 (by omega) rfl (show zin (J 40 3) m 90 from ⟨hm, hm9, by decide⟩) (hp_al rfl) ?_
  refine z_aload_n d_Mod_lay_20 rfl ?_
  refine z_get d_Mod_lay_21 f_Mod_23 (by omega) rfl rfl ?_
  refine z_iconst (v := 4) d_Mod_lay_24 (by decide) ?_
  refine z_aload_n d_Mod_lay_25 rfl ?_
  refine z_get d_Mod_lay_26 f_Mod_79 (by omega) rfl rfl ?_
  refine z_imul d_Mod_lay_29 ?_
  refine z_iload d_Mod_lay_30 rfl ?_
  refine z_iadd d_Mod_lay_32 ?_
  refine z_iload d_Mod_lay_33 rfl ?_
  refine z_zast d_Mod_lay_35 (by omega) rfl (rz360 hm hm9 hk) (zb_v _) (hp_ai rfl) ?_
  refine z_aload_n d_Mod_lay_36 rfl ?_
  refine z_get d_Mod_lay_37 f_Mod_20 (by omega) rfl rfl ?_
  refine z_iconst (v := 4) d_Mod_lay_40 (by decide) ?_
  refine z_aload_n d_Mod_lay_41 rfl ?_
  refine z_get d_Mod_lay_42 f_Mod_79 (by omega) rfl rfl ?_
  refine z_imul d_Mod_lay_45 ?_
  refine z_iload d_Mod_lay_46 rfl ?_
  refine z_iadd d_Mod_lay_48 ?_
  refine z_iload d_Mod_lay_49 rfl ?_
  refine z_if_eq d_Mod_lay_51 59 (by decide) (fun h51 => ?_) (fun h51 => ?_)
  · refine z_lconst (v := 0) d_Mod_lay_59 (by decide) ?_
    refine z_last d_Mod_lay_60 (by omega) rfl (rz360 hm hm9 hk) (hp_al rfl) ?_
    exact z_vret d_Mod_lay_61 rfl (by decide) (by decide) (by first | (rw [zb0 h51]; rfl) | (rw [zb1' h51]; rfl))
  · refine z_lload d_Mod_lay_54 rfl ?_
    refine z_goto d_Mod_lay_56 60 (by decide) ?_
    refine z_last d_Mod_lay_60 (by omega) rfl (rz360 hm hm9 hk) (hp_al rfl) ?_
    exact z_vret d_Mod_lay_61 rfl (by decide) (by decide) (by first | (rw [zb0 h51]; rfl) | (rw [zb1' h51]; rfl))
set_option maxRecDepth 100000 in
set_option maxHeartbeats 4000000 in
theorem l_Mod_count (X : zX) (J : zJT) (G : zGT) (d : Nat) {n : Nat} (hn : J 40 3 = nI n) (hn9 : n ≤ 90) (t : Int32) : ∀ rem k, n - k = rem → k ≤ n → zJ X (zR (d + 1) 0 0) m_Mod_count (zRet X 0 0 false (some (.int (if (decide (0 ≤ t) && decide (t < J 40 1)) = true then nI (rCnt (J 42) t n) else -1))) (hp J G) 60) false 0 0 (hp J G) 60 9 [(0, .ref 40), (1, .int t), (2, .int (nI (rCnt (J 42) t k))), (3, .int (nI k))] [] := by
  intro rem
  induction rem with
  | zero =>
    intro k hr hk
    obtain rfl : k = n := by omega
    refine z_iload_n d_Mod_count_9 rfl ?_
    refine z_aload_n d_Mod_count_10 rfl ?_
    refine z_get d_Mod_count_11 f_Mod_79 (by omega) rfl rfl ?_
    refine z_icmp_ge d_Mod_count_14 41 (by decide) (fun _ => ?_) (fun h9 => absurd (by rw [hn]; exact nI_le (Nat.le_refl _) (by omega)) h9)
    refine z_aload_n d_Mod_count_41 rfl ?_
    refine z_iload_n d_Mod_count_42 rfl ?_
    refine z_callV1 d_Mod_count_43 g_Mod_82 (c_Mod_isTable X J G 0 t) (by omega) rfl rfl rfl ⟨by show 0 + 4 ≤ d + 1 + 3; omega, by show 33 * 0 + 33 ≤ 33 * (d + 1); omega, Nat.le_refl _, Nat.le_refl _⟩ rfl (Nat.le_of_ble_eq_true rfl) ?_
    refine z_if_eq d_Mod_count_46 53 (by decide) (fun h46 => ?_) (fun h46 => ?_)
    · refine z_iconst (v := (-1)) d_Mod_count_53 (by decide) ?_
      exact z_iret d_Mod_count_54 rfl (by decide) (by decide) (by first | (rw [zb0 h46]; rfl) | (rw [zb1' h46]; rfl)) rfl
    · refine z_iload_n d_Mod_count_49 rfl ?_
      refine z_goto d_Mod_count_50 54 (by decide) ?_
      exact z_iret d_Mod_count_54 rfl (by decide) (by decide) (by first | (rw [zb0 h46]; rfl) | (rw [zb1' h46]; rfl)) rfl
  | succ rem ih =>
    intro k hr hk
    refine z_iload_n d_Mod_count_9 rfl ?_
    refine z_aload_n d_Mod_count_10 rfl ?_
    refine z_get d_Mod_count_11 f_Mod_79 (by omega) rfl rfl ?_
    refine z_icmp_ge d_Mod_count_14 41 (by decide) (fun h9 => absurd h9 (by rw [hn]; exact nI_ge (show k < n by omega) (by omega))) (fun _ => ?_)
    refine z_iload_n d_Mod_count_17 rfl ?_
    refine z_aload_n d_Mod_count_18 rfl ?_
    refine z_get d_Mod_count_19 f_Mod_13 (by omega) rfl rfl ?_
    refine z_iload_n d_Mod_count_22 rfl ?_
    refine z_iald d_Mod_count_23 (by omega) rfl (show zin (nI k) k 90 from ⟨rfl, by omega, by decide⟩) ?_
    refine z_iload_n d_Mod_count_24 rfl ?_
    refine z_icmp_ne d_Mod_count_25 32 (by decide) (fun h25 => ?_) (fun h25 => ?_)
    · refine z_iconst (v := 0) d_Mod_count_32 (by decide) ?_
      refine z_iadd d_Mod_count_33 ?_
      refine z_istore_n (lv' := [(0, _), (1, _), (3, _), (2, _)]) d_Mod_count_34 (by decide) rfl ?_
      refine z_iinc (lv' := [(0, _), (1, _), (2, _), (3, _)]) d_Mod_count_35 (by decide) rfl (show _ + Int32.ofInt 1 = nI (k + 1) from nI_1 _) rfl ?_
      refine z_goto d_Mod_count_38 9 (by decide) ?_
      exact z_loc (lv' := [(0, .ref 40), (1, .int t), (2, .int (nI (rCnt (J 42) t (k + 1)))), (3, .int (nI (k + 1)))]) (by rw [show rCnt (J 42) t (k + 1) = rCnt (J 42) t k from (if_neg h25)]; simp [nI_succ]) (ih (k + 1) (by omega) (by omega))
    · refine z_iconst (v := 1) d_Mod_count_28 (by decide) ?_
      refine z_goto d_Mod_count_29 33 (by decide) ?_
      refine z_iadd d_Mod_count_33 ?_
      refine z_istore_n (lv' := [(0, _), (1, _), (3, _), (2, _)]) d_Mod_count_34 (by decide) rfl ?_
      refine z_iinc (lv' := [(0, _), (1, _), (2, _), (3, _)]) d_Mod_count_35 (by decide) rfl (show _ + Int32.ofInt 1 = nI (k + 1) from nI_1 _) rfl ?_
      refine z_goto d_Mod_count_38 9 (by decide) ?_
      exact z_loc (lv' := [(0, .ref 40), (1, .int t), (2, .int (nI (rCnt (J 42) t (k + 1)))), (3, .int (nI (k + 1)))]) (by rw [show rCnt (J 42) t (k + 1) = rCnt (J 42) t k + 1 from (if_pos h25)]; simp [nI_succ]) (ih (k + 1) (by omega) (by omega))
set_option maxRecDepth 100000 in
set_option maxHeartbeats 4000000 in
theorem c_Mod_count (X : zX) (J : zJT) (G : zGT) (d : Nat) {n : Nat} (hn : J 40 3 = nI n) (hn9 : n ≤ 90) (t : Int32) : zK X (d + 1) m_Mod_count [.ref 40, .int t] J G (some (.int (if (decide (0 ≤ t) && decide (t < J 40 1)) = true then nI (rCnt (J 42) t n) else -1))) (rTh J 0) G := by
  refine zC_of (by decide) (Nat.le_of_ble_eq_true rfl) ?_
  refine z_aload_n d_Mod_count_0 rfl ?_
  refine z_iconst (v := 0) d_Mod_count_1 (by decide) ?_
  refine z_put d_Mod_count_2 f_Mod_73 p_9_0 (by omega) rfl (Nat.le_of_ble_eq_true rfl) rfl rfl (hp_pi 0 rfl) ?_
  refine z_iconst (v := 0) d_Mod_count_5 (by decide) ?_
  refine z_istore_n (lv' := [(0, _), (1, _), (2, _)]) d_Mod_count_6 (by decide) rfl ?_
  refine z_iconst (v := 0) d_Mod_count_7 (by decide) ?_
  refine z_istore_n (lv' := [(0, _), (1, _), (2, _), (3, _)]) d_Mod_count_8 (by decide) rfl ?_
  exact z_loc (lv' := [(0, .ref 40), (1, .int t), (2, .int (nI (rCnt (J 42) t 0))), (3, .int (nI 0))]) (by simp [rCnt, nI_0]) (l_Mod_count X (rTh J 0) G d (show rTh J 0 40 3 = nI n from hn) hn9 t n 0 (by omega) (by omega))
def rTJ (J : zJT) (m r : Nat) : Nat → zJT
  | 0 => va_up (va_up J 40 (va_up (J 40) 3 (nI m))) 42 (upd (J 42) r (J 42 m))
  | k + 1 => va_up (rTJ J m r k) 45 (upd (rTJ J m r k 45) (4 * r + k) (rTJ J m r k 45 (4 * m + k)))
def rTG (G : zGT) (m r : Nat) : Nat → zGT
  | 0 => va_up G 43 (vp_updL (G 43) r (G 43 m))
  | k + 1 => va_up (rTG G m r k) 44 (vp_updL (rTG G m r k 44) (4 * r + k) (rTG G m r k 44 (4 * m + k)))
theorem rTJ_3 (J : zJT) (m r : Nat) : ∀ k, rTJ J m r k 40 3 = nI m
  | 0 => rfl
  | k + 1 => rTJ_3 J m r k
theorem rTJ_z {J : zJT} {m r : Nat} (hz : ∀ i, vp_nar .boolean (J 45 i) = J 45 i) : ∀ k i, vp_nar .boolean (rTJ J m r k 45 i) = rTJ J m r k 45 i
  | 0, i => hz i
  | k + 1, i => by
    show vp_nar .boolean (upd (rTJ J m r k 45) (4 * r + k) (rTJ J m r k 45 (4 * m + k)) i) = upd (rTJ J m r k 45) (4 * r + k) (rTJ J m r k 45 (4 * m + k)) i
    unfold upd
    split
    · exact rTJ_z hz k _
    · exact rTJ_z hz k _
set_option maxRecDepth 100000 in
set_option maxHeartbeats 4000000 in
theorem l_Mod_take (X : zX) (J : zJT) (G : zGT) (d : Nat) {m r : Nat} (hm : J 40 3 = nI (m + 1)) (hm9 : m < 90) (hr9 : r < 90) (hz : ∀ i, vp_nar .boolean (J 45 i) = J 45 i) : ∀ rem k, 4 - k = rem → k ≤ 4 → zJ X (zR d 0 0) m_Mod_take (zRet X 0 0 false none (hp (rTJ J m r 4) (rTG G m r 4)) 60) false 0 0 (hp (rTJ J m r k) (rTG G m r k)) 60 42 [(0, .ref 40), (1, .int (nI r)), (2, .int (nI k))] [] := by
  intro rem
  induction rem with
  | zero =>
    intro k hr hk
    obtain rfl : k = 4 := by omega
    refine z_iload_n d_Mod_take_42 rfl ?_
    refine z_iconst (v := 4) d_Mod_take_43 (by decide) ?_
    refine z_icmp_ge d_Mod_take_44 99 (by decide) (fun _ => ?_) (fun h9 => absurd (by decide) h9)
    exact z_vret d_Mod_take_99 rfl (by decide) (by decide) rfl
  | succ rem ih =>
    intro k hr hk
    refine z_iload_n d_Mod_take_42 rfl ?_
    refine z_iconst (v := 4) d_Mod_take_43 (by decide) ?_
    refine z_icmp_ge d_Mod_take_44 99 (by decide) (fun h9 => absurd h9 (nI_ge (show k < 4 by omega) (by decide))) (fun _ => ?_)
    refine z_aload_n d_Mod_take_47 rfl ?_
    refine z_get d_Mod_take_48 f_Mod_23 (by omega) rfl rfl ?_
    refine z_iconst (v := 4) d_Mod_take_51 (by decide) ?_
    refine z_iload_n d_Mod_take_52 rfl ?_
    refine z_imul d_Mod_take_53 ?_
    refine z_iload_n d_Mod_take_54 rfl ?_
    refine z_iadd d_Mod_take_55 ?_
    refine z_aload_n d_Mod_take_56 rfl ?_
    refine z_get d_Mod_take_57 f_Mod_23 (by omega) rfl rfl ?_
    refine z_iconst (v := 4) d_Mod_take_60 (by decide) ?_
    refine z_aload_n d_Mod_take_61 rfl ?_
    refine z_get d_Mod_take_62 f_Mod_79 (by omega) rfl rfl ?_
    refine z_imul d_Mod_take_65 ?_
    refine z_iload_n d_Mod_take_66 rfl ?_
    refine z_iadd d_Mod_take_67 ?_
    refine z_zald d_Mod_take_68 (by omega) rfl (show zin (4 * rTJ J m r k 40 3 + nI k) (4 * m + k) 360 by rw [rTJ_3]; exact rz360' hm9 (by omega)) ?_
    refine z_zast d_Mod_take_69 (by omega) rfl (rz360' hr9 (by omega)) (rTJ_z hz k _) (hp_ai rfl) ?_
    refine z_aload_n d_Mod_take_70 rfl ?_
    refine z_get d_Mod_take_71 f_Mod_20 (by omega) rfl rfl ?_
    refine z_iconst (v := 4) d_Mod_take_74 (by decide) ?_
    refine z_iload_n d_Mod_take_75 rfl ?_
    refine z_imul d_Mod_take_76 ?_
    refine z_iload_n d_Mod_take_77 rfl ?_
    refine z_iadd d_Mod_take_78 ?_
    refine z_aload_n d_Mod_take_79 rfl ?_
    refine z_get d_Mod_take_80 f_Mod_20 (by omega) rfl rfl ?_
    refine z_iconst (v := 4) d_Mod_take_83 (by decide) ?_
    refine z_aload_n d_Mod_take_84 rfl ?_
    refine z_get d_Mod_take_85 f_Mod_79 (by omega) rfl rfl ?_
    refine z_imul d_Mod_take_88 ?_
    refine z_iload_n d_Mod_take_89 rfl ?_
    refine z_iadd d_Mod_take_90 ?_
    refine z_lald d_Mod_take_91 (by omega) rfl (show zin (4 * rTJ J m r k 40 3 + nI k) (4 * m + k) 360 by rw [rTJ_3]; exact rz360' hm9 (by omega)) ?_
    refine z_last d_Mod_take_92 (by omega) rfl (rz360' hr9 (by omega)) (hp_al rfl) ?_
    refine z_iinc (lv' := [(0, _), (1, _), (2, _)]) d_Mod_take_93 (by decide) rfl (show _ + Int32.ofInt 1 = nI (k + 1) from nI_1 _) rfl ?_
    refine z_goto d_Mod_take_96 42 (by decide) ?_
    exact z_loc (lv' := [(0, .ref 40), (1, .int (nI r)), (2, .int (nI (k + 1)))]) (by simp) (ih (k + 1) (by omega) (by omega))
set_option maxRecDepth 100000 in
set_option maxHeartbeats 4000000 in
theorem c_Mod_take (X : zX) (J : zJT) (G : zGT) (d : Nat) {m r : Nat} (hm : J 40 3 = nI (m + 1)) (hm9 : m < 90) (hr9 : r < 90) (hz : ∀ i, vp_nar .boolean (J 45 i) = J 45 i) : zK X d m_Mod_take [.ref 40, .int (nI r)] J G none (rTJ J m r 4) (rTG G m r 4) := by
  refine zC_of (by decide) (Nat.le_of_ble_eq_true rfl) ?_
  refine z_aload_n d_Mod_take_0 rfl ?_
  refine z_dup d_Mod_take_1 rfl ?_
  refine z_get d_Mod_take_2 f_Mod_79 (by omega) rfl rfl ?_
  rw [hm]
  refine z_iconst (v := 1) d_Mod_take_5 (by decide) ?_
  refine z_isub d_Mod_take_6 ?_
  rw [nI_pred]
  refine z_put d_Mod_take_7 f_Mod_79 p_9_3 (by omega) rfl (Nat.le_of_ble_eq_true rfl) rfl rfl (hp_pi 3 rfl) ?_
  refine z_aload_n d_Mod_take_10 rfl ?_
  refine z_get d_Mod_take_11 f_Mod_13 (by omega) rfl rfl ?_
  refine z_iload_n d_Mod_take_14 rfl ?_
  refine z_aload_n d_Mod_take_15 rfl ?_
  refine z_get d_Mod_take_16 f_Mod_13 (by omega) rfl rfl ?_
  refine z_aload_n d_Mod_take_19 rfl ?_
  refine z_get d_Mod_take_20 f_Mod_79 (by omega) rfl rfl ?_
  refine z_iald d_Mod_take_23 (by omega) rfl (show zin (nI m) m 90 from ⟨rfl, hm9, by decide⟩) ?_
  refine z_iast d_Mod_take_24 (by omega) rfl (show zin (nI r) r 90 from ⟨rfl, hr9, by decide⟩) (hp_ai rfl) ?_
  refine z_aload_n d_Mod_take_25 rfl ?_
  refine z_get d_Mod_take_26 f_Mod_16 (by omega) rfl rfl ?_
  refine z_iload_n d_Mod_take_29 rfl ?_
  refine z_aload_n d_Mod_take_30 rfl ?_
  refine z_get d_Mod_take_31 f_Mod_16 (by omega) rfl rfl ?_
  refine z_aload_n d_Mod_take_34 rfl ?_
  refine z_get d_Mod_take_35 f_Mod_79 (by omega) rfl rfl ?_
  refine z_lald d_Mod_take_38 (by omega) rfl (show zin (nI m) m 90 from ⟨rfl, hm9, by decide⟩) ?_
  refine z_last d_Mod_take_39 (by omega) rfl (show zin (nI r) r 90 from ⟨rfl, hr9, by decide⟩) (hp_al rfl) ?_
  refine z_iconst (v := 0) d_Mod_take_40 (by decide) ?_
  refine z_istore_n (lv' := [(0, _), (1, _), (2, _)]) d_Mod_take_41 (by decide) rfl ?_
  exact z_loc (lv' := [(0, .ref 40), (1, .int (nI r)), (2, .int (nI 0))]) (by simp [nI_0]) (l_Mod_take X J G d hm hm9 hr9 hz 4 0 (by omega) (by omega))
