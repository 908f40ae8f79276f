theorem d_Lng_compare_0 : decode m_Lng_compare.2.1 0 = .ok (.lload_n 0, 1) := by decide +kernel
theorem d_Lng_compare_1 : decode m_Lng_compare.2.1 1 = .ok (.lload_n 2, 1) := by decide +kernel
theorem d_Lng_compare_2 : decode m_Lng_compare.2.1 2 = .ok (.lcmp, 1) := by decide +kernel
theorem d_Lng_compare_3 : decode m_Lng_compare.2.1 3 = .ok (.ifCond .ge 7, 3) := by decide +kernel
theorem d_Lng_compare_6 : decode m_Lng_compare.2.1 6 = .ok (.iconst (-1), 1) := by decide +kernel
theorem d_Lng_compare_7 : decode m_Lng_compare.2.1 7 = .ok (.goto 14, 3) := by decide +kernel
theorem d_Lng_compare_10 : decode m_Lng_compare.2.1 10 = .ok (.lload_n 0, 1) := by decide +kernel
theorem d_Lng_compare_11 : decode m_Lng_compare.2.1 11 = .ok (.lload_n 2, 1) := by decide +kernel
theorem d_Lng_compare_12 : decode m_Lng_compare.2.1 12 = .ok (.lcmp, 1) := by decide +kernel
theorem d_Lng_compare_13 : decode m_Lng_compare.2.1 13 = .ok (.ifCond .ne 7, 3) := by decide +kernel
theorem d_Lng_compare_16 : decode m_Lng_compare.2.1 16 = .ok (.iconst 0, 1) := by decide +kernel
theorem d_Lng_compare_17 : decode m_Lng_compare.2.1 17 = .ok (.goto 4, 3) := by decide +kernel
theorem d_Lng_compare_20 : decode m_Lng_compare.2.1 20 = .ok (.iconst 1, 1) := by decide +kernel
theorem d_Lng_compare_21 : decode m_Lng_compare.2.1 21 = .ok (.ireturn, 1) := by decide +kernel
set_option maxRecDepth 100000 in
set_option maxHeartbeats 4000000 in
theorem c_Lng_compare (X : zX) (x y : Int64) (J : zJT) (G : zGT) : zK X 0 m_Lng_compare [.long x, .long y] J G (some (.int (lg_cmp x y))) J G := by
  refine zC_of (by decide) (Nat.le_of_ble_eq_true rfl) ?_
  refine z_lload_n d_Lng_compare_0 rfl ?_
  refine z_lload_n d_Lng_compare_1 rfl ?_
  refine z_lcmp d_Lng_compare_2 ?_
  refine z_if_ge d_Lng_compare_3 10 (by decide) (fun h3 => ?_) (fun h3 => ?_)
  · refine z_lload_n d_Lng_compare_10 rfl ?_
    refine z_lload_n d_Lng_compare_11 rfl ?_
    refine z_lcmp d_Lng_compare_12 ?_
    refine z_if_ne d_Lng_compare_13 20 (by decide) (fun h13 => ?_) (fun h13 => ?_)
    · refine z_iconst (v := 1) d_Lng_compare_20 (by decide) ?_
      exact z_iret d_Lng_compare_21 rfl (by decide) (by decide) (by have h8 := (lg_cmp_gt x y).mpr; unfold lg_cmp; have h7 := (lg_cmp_ge x y).mp h3; have h6 : ¬ x = y := fun h => h13 ((lg_cmp_eq x y).mpr h); rw [if_pos (show x > y from Int64.lt_of_le_of_ne h7 (fun h => h6 h.symm))]) rfl
    · refine z_iconst (v := 0) d_Lng_compare_16 (by decide) ?_
      refine z_goto d_Lng_compare_17 21 (by decide) ?_
      exact z_iret d_Lng_compare_21 rfl (by decide) (by decide) (by exact h13.symm) rfl
  · refine z_iconst (v := (-1)) d_Lng_compare_6 (by decide) ?_
    refine z_goto d_Lng_compare_7 21 (by decide) ?_
    exact z_iret d_Lng_compare_21 rfl (by decide) (by decide) (by have h7 : ¬ y ≤ x := fun h => h3 ((lg_cmp_ge x y).mpr h); unfold lg_cmp; rw [if_neg (fun h : x > y => h7 (Int64.le_of_lt h)), if_neg (fun h => h7 (by rw [h]; exact Int64.le_refl _))]) rfl
def zkn (i : Nat) : Nat := (zKinds.getD i 0).toNatClampNeg
theorem zkn_ok : ∀ i, i < 66 → zKinds.getD i 0 = nI (zkn i) ∧ zkn i < 9 := by decide
theorem c_Op_kind2 (X : zX) {o w : Nat} (ho : o < 22) (hw : w < 3) (J : zJT) (G : zGT) : zK X 0 m_Op_kind [.int (nI o), .int (nI w)] J G (some (.int (nI (zkn (3 * o + w))))) J G := by
  rw [← (zkn_ok (3 * o + w) (by omega)).1]; exact c_Op_kind X ho hw J G
def zAcc (o : Nat) (p q s : Int32) : Bool := zTk (zkn (3 * o)) p && zTk (zkn (3 * o + 1)) q && zTk (zkn (3 * o + 2)) s && (decide (¬ o = 18) || decide (p + q ≤ 16))
set_option maxRecDepth 100000 in
set_option maxHeartbeats 4000000 in
theorem c_Op_accepts0 (X : zX) (i p q s : Int32) (J : zJT) (G : zGT) (hno : (decide (0 ≤ i) && decide (i < 22)) = false) : zK X 2 m_Op_accepts [.int i, .int p, .int q, .int s] J G (some (.int 0)) J G := by
  refine zC_of (by decide) (Nat.le_of_ble_eq_true rfl) ?_
  refine z_iload_n d_Op_accepts_0 rfl ?_
  refine z_bipush (v := 22) d_Op_accepts_1 (by decide) ?_
  refine z_callN1 d_Op_accepts_3 g_Op_15 (c_isIndex X 0 _ _ _ _) rfl ⟨by decide, by decide, by decide, by decide⟩ rfl (Nat.le_of_ble_eq_true rfl) ?_
  refine z_if_ne d_Op_accepts_6 11 (by decide) (fun h9 => absurd h9 (fun h9 => h9 (by rw [hno]; rfl))) (fun _ => ?_)
  refine z_iconst (v := 0) d_Op_accepts_9 (by decide) ?_
  exact z_zret d_Op_accepts_10 rfl (by decide) (by decide) (by decide) rfl rfl
theorem nI_e18 {o : Nat} (h : o < 22) : (nI o = 18) = (o = 18) := by
  rw [show (18 : Int32) = nI 18 from rfl, nI_eq (by omega) (by decide)]
set_option maxRecDepth 100000 in
set_option maxHeartbeats 4000000 in
theorem c_Op_accepts (X : zX) {o : Nat} (ho : o < 22) (p q s : Int32) (J : zJT) (G : zGT) : zK X 2 m_Op_accepts [.int (nI o), .int p, .int q, .int s] J G (some (.int (zb (zAcc o p q s)))) J G := by
  refine zC_of (by decide) (Nat.le_of_ble_eq_true rfl) ?_
  refine z_iload_n d_Op_accepts_0 rfl ?_
  refine z_bipush (v := 22) d_Op_accepts_1 (by decide) ?_
  refine z_callN1 d_Op_accepts_3 g_Op_15 (c_isIndex X 0 _ _ _ _) rfl ⟨by decide, by decide, by decide, by decide⟩ rfl (Nat.le_of_ble_eq_true rfl) ?_
  refine z_if_ne d_Op_accepts_6 11 (by decide) (fun _ => ?_) (fun h9 => absurd h9 (by rw [decide_eq_true (nI_pos' (by omega)), decide_eq_true (show nI o < 22 from nI_lt (show o < 22 from ho) (by decide))]; decide))
  refine z_iload_n d_Op_accepts_11 rfl ?_
  refine z_iconst (v := 0) d_Op_accepts_12 (by decide) ?_
  refine z_callS1 d_Op_accepts_13 g_Op_19 (c_Op_kind2 (w := 0) X ho (by decide) J G) rfl ⟨by decide, by decide, by decide, by decide⟩ rfl (Nat.le_of_ble_eq_true rfl) ?_
  refine z_iload_n d_Op_accepts_16 rfl ?_
  refine z_callS1 d_Op_accepts_17 g_Op_23 (c_Kin_takes X (zkn_ok (3 * o + 0) (by omega)).2 p J G) rfl ⟨by decide, by decide, by decide, by decide⟩ rfl (Nat.le_of_ble_eq_true rfl) ?_
  refine z_if_eq d_Op_accepts_20 47 (by decide) (fun h20 => ?_) (fun h20 => ?_)
  · refine z_iconst (v := 0) d_Op_accepts_47 (by decide) ?_
    exact z_zret d_Op_accepts_48 rfl (by decide) (by decide) (by decide) (by simp only [zAcc]; simp_all [zb, nI_e18 ho]) rfl
  · refine z_iload_n d_Op_accepts_23 rfl ?_
    refine z_iconst (v := 1) d_Op_accepts_24 (by decide) ?_
    refine z_callS1 d_Op_accepts_25 g_Op_19 (c_Op_kind2 (w := 1) X ho (by decide) J G) rfl ⟨by decide, by decide, by decide, by decide⟩ rfl (Nat.le_of_ble_eq_true rfl) ?_
    refine z_iload_n d_Op_accepts_28 rfl ?_
    refine z_callS1 d_Op_accepts_29 g_Op_23 (c_Kin_takes X (zkn_ok (3 * o + 1) (by omega)).2 q J G) rfl ⟨by decide, by decide, by decide, by decide⟩ rfl (Nat.le_of_ble_eq_true rfl) ?_
    refine z_if_eq d_Op_accepts_32 47 (by decide) (fun h32 => ?_) (fun h32 => ?_)
    · refine z_iconst (v := 0) d_Op_accepts_47 (by decide) ?_
      exact z_zret d_Op_accepts_48 rfl (by decide) (by decide) (by decide) (by simp only [zAcc]; simp_all [zb, nI_e18 ho]) rfl
    · refine z_iload_n d_Op_accepts_35 rfl ?_
      refine z_iconst (v := 2) d_Op_accepts_36 (by decide) ?_
      refine z_callS1 d_Op_accepts_37 g_Op_19 (c_Op_kind2 (w := 2) X ho (by decide) J G) rfl ⟨by decide, by decide, by decide, by decide⟩ rfl (Nat.le_of_ble_eq_true rfl) ?_
      refine z_iload_n d_Op_accepts_40 rfl ?_
      refine z_callS1 d_Op_accepts_41 g_Op_23 (c_Kin_takes X (zkn_ok (3 * o + 2) (by omega)).2 s J G) rfl ⟨by decide, by decide, by decide, by decide⟩ rfl (Nat.le_of_ble_eq_true rfl) ?_
      refine z_if_ne d_Op_accepts_44 49 (by decide) (fun h44 => ?_) (fun h44 => ?_)
      · refine z_iload_n d_Op_accepts_49 rfl ?_
        refine z_bipush (v := 18) d_Op_accepts_50 (by decide) ?_
        refine z_icmp_ne d_Op_accepts_52 63 (by decide) (fun h52 => ?_) (fun h52 => ?_)
        · refine z_iconst (v := 1) d_Op_accepts_63 (by decide) ?_
          refine z_goto d_Op_accepts_64 68 (by decide) ?_
          exact z_zret d_Op_accepts_68 rfl (by decide) (by decide) (by decide) (by simp only [zAcc]; simp_all [zb, nI_e18 ho]) rfl
        · refine z_iload_n d_Op_accepts_55 rfl ?_
          refine z_iload_n d_Op_accepts_56 rfl ?_
          refine z_iadd d_Op_accepts_57 ?_
          refine z_bipush (v := 16) d_Op_accepts_58 (by decide) ?_
          refine z_icmp_gt d_Op_accepts_60 67 (by decide) (fun h60 => ?_) (fun h60 => ?_)
          · refine z_iconst (v := 0) d_Op_accepts_67 (by decide) ?_
            exact z_zret d_Op_accepts_68 rfl (by decide) (by decide) (by decide) (by simp only [zAcc]; simp_all [zb, nI_e18 ho]) rfl
          · refine z_iconst (v := 1) d_Op_accepts_63 (by decide) ?_
            refine z_goto d_Op_accepts_64 68 (by decide) ?_
            exact z_zret d_Op_accepts_68 rfl (by decide) (by decide) (by decide) (by simp only [zAcc]; simp_all [zb, nI_e18 ho]) rfl
      · refine z_iconst (v := 0) d_Op_accepts_47 (by decide) ?_
        exact z_zret d_Op_accepts_48 rfl (by decide) (by decide) (by decide) (by simp only [zAcc]; simp_all [zb, nI_e18 ho]) rfl
set_option maxRecDepth 100000 in
set_option maxHeartbeats 4000000 in
theorem c_Mac_end (X : zX) (v : Int32) (J : zJT) (G : zGT) : zK X 0 m_Mac_end [.ref 1, .int v] J G (some (.int (J 15 0))) (va_up J 1 (va_up (J 1) 5 v)) G := by
  refine zC_of (by decide) (Nat.le_of_ble_eq_true rfl) ?_
  refine z_aload_n d_Mac_end_0 rfl ?_
  refine z_iload_n d_Mac_end_1 rfl ?_
  refine z_put d_Mac_end_2 f_Mac_47 p_1_5 (by decide) rfl (Nat.le_of_ble_eq_true rfl) rfl rfl (hp_pi 5 rfl) ?_
  refine z_aload_n d_Mac_end_5 rfl ?_
  refine z_get d_Mac_end_6 f_Mac_21 (by decide) rfl rfl ?_
  refine z_get d_Mac_end_9 f_Mac_55 (by decide) rfl rfl ?_
  exact z_iret d_Mac_end_12 rfl (by decide) (by decide) (by simp [va_up]) rfl
set_option maxRecDepth 100000 in
set_option maxHeartbeats 4000000 in
theorem c_Mac_moveTo1 (X : zX) {c t n p : Nat} (hc : c < 3) (J : zJT) (G : zGT) (hT : zTn J t n) (ht : J (26 + c) 0 = nI t) (hp : p < n) : zK X 1 m_Mac_moveTo [.ref 1, .ref (26 + c), .int (nI p)] J G (some (.int (zb true))) (va_up J (26 + c) (va_up (J (26 + c)) 1 (zb true))) (va_up G (26 + c) (va_up (G (26 + c)) 2 (zky J G t p))) := by
  have ht3 := hT.1
  have hn9 := hT.2.1
  have h8 : decide (nI p < J (9 + 2 * t) 1) = true := by rw [hT.2.2.1]; exact decide_eq_true (nI_lt hp (by omega))
  refine zC_of (by decide) (Nat.le_of_ble_eq_true rfl) ?_
  refine z_aload_n d_Mac_moveTo_0 rfl ?_
  refine z_aload_n d_Mac_moveTo_1 rfl ?_
  refine z_get d_Mac_moveTo_2 f_Mac_12 (by omega) rfl rfl ?_
  refine z_aload_n d_Mac_moveTo_5 rfl ?_
  refine z_get d_Mac_moveTo_6 f_Mac_140 (by omega) (zc_c hc _ _) rfl ?_
  refine z_iload_n d_Mac_moveTo_9 rfl ?_
  rw [ht]
  refine z_callV1 d_Mac_moveTo_10 g_Mac_143 (c_Sto_hasPlace X hT.1 J G (nI p)) (by omega) rfl rfl rfl ⟨by decide, by decide, by decide, by decide⟩ rfl (Nat.le_of_ble_eq_true rfl) ?_
  rw [h8]
  refine z_put d_Mac_moveTo_13 f_Mac_147 p_5_1 (by omega) (zc_c hc _ _) (Nat.le_of_ble_eq_true rfl) (zb_n true) (zb_f true) (hp_c1 hc) ?_
  refine z_aload_n d_Mac_moveTo_16 rfl ?_
  refine z_get d_Mac_moveTo_17 f_Mac_147 (by omega) (zc_c hc _ _) rfl ?_
  refine z_if_eq d_Mac_moveTo_20 39 (by decide) (fun h9 => absurd h9 (by rw [zu_s, zu_s]; decide)) (fun _ => ?_)
  refine z_aload_n d_Mac_moveTo_23 rfl ?_
  refine z_aload_n d_Mac_moveTo_24 rfl ?_
  refine z_get d_Mac_moveTo_25 f_Mac_12 (by omega) rfl rfl ?_
  refine z_aload_n d_Mac_moveTo_28 rfl ?_
  refine z_get d_Mac_moveTo_29 f_Mac_140 (by omega) (zc_c hc _ _) rfl ?_
  refine z_iload_n d_Mac_moveTo_32 rfl ?_
  rw [show (va_up J (26 + c) (va_up (J (26 + c)) 1 (zb true))) (26 + c) 0 = nI t by rw [zu_s, zu_n (by decide)]; exact ht]
  refine z_callV1 d_Mac_moveTo_33 g_Mac_151 (c_Sto_keyAt X hT.1 _ G (show zin (nI p) p 90 from ⟨rfl, by omega, by decide⟩) (show (va_up J (26 + c) (va_up (J (26 + c)) 1 (zb true))) (10 + 2 * t) p = nI (zsl J t p) by rw [zu_n (by omega)]; exact (hT.2.2.2 p hp).1) (hT.2.2.2 p hp).2.1) (by omega) rfl rfl rfl ⟨by decide, by decide, by decide, by decide⟩ rfl (Nat.le_of_ble_eq_true rfl) ?_
  refine z_put d_Mac_moveTo_36 f_Mac_155 p_5_2 (by omega) (zc_c hc _ _) (Nat.le_of_ble_eq_true rfl) rfl rfl (hp_c2 hc) ?_
  refine z_aload_n d_Mac_moveTo_39 rfl ?_
  refine z_get d_Mac_moveTo_40 f_Mac_147 (by omega) (zc_c hc _ _) rfl ?_
  exact z_zret d_Mac_moveTo_43 rfl (by decide) (by decide) (by rw [zu_s, zu_s]; decide) (by rw [zu_s, zu_s]) rfl
set_option maxRecDepth 100000 in
set_option maxHeartbeats 4000000 in
theorem c_Mac_moveTo0 (X : zX) {c t n p : Nat} (hc : c < 3) (J : zJT) (G : zGT) (hT : zTn J t n) (ht : J (26 + c) 0 = nI t) (hp : n ≤ p ∧ p ≤ 90) : zK X 1 m_Mac_moveTo [.ref 1, .ref (26 + c), .int (nI p)] J G (some (.int (zb false))) (va_up J (26 + c) (va_up (J (26 + c)) 1 (zb false))) G := by
  have ht3 := hT.1
  have hn9 := hT.2.1
  have h8 : decide (nI p < J (9 + 2 * t) 1) = false := by rw [hT.2.2.1]; exact decide_eq_false (nI_nlt hp.1 (by omega))
  refine zC_of (by decide) (Nat.le_of_ble_eq_true rfl) ?_
  refine z_aload_n d_Mac_moveTo_0 rfl ?_
  refine z_aload_n d_Mac_moveTo_1 rfl ?_
  refine z_get d_Mac_moveTo_2 f_Mac_12 (by omega) rfl rfl ?_
  refine z_aload_n d_Mac_moveTo_5 rfl ?_
  refine z_get d_Mac_moveTo_6 f_Mac_140 (by omega) (zc_c hc _ _) rfl ?_
  refine z_iload_n d_Mac_moveTo_9 rfl ?_
  rw [ht]
  refine z_callV1 d_Mac_moveTo_10 g_Mac_143 (c_Sto_hasPlace X hT.1 J G (nI p)) (by omega) rfl rfl rfl ⟨by decide, by decide, by decide, by decide⟩ rfl (Nat.le_of_ble_eq_true rfl) ?_
  rw [h8]
  refine z_put d_Mac_moveTo_13 f_Mac_147 p_5_1 (by omega) (zc_c hc _ _) (Nat.le_of_ble_eq_true rfl) (zb_n false) (zb_f false) (hp_c1 hc) ?_
  refine z_aload_n d_Mac_moveTo_16 rfl ?_
  refine z_get d_Mac_moveTo_17 f_Mac_147 (by omega) (zc_c hc _ _) rfl ?_
  refine z_if_eq d_Mac_moveTo_20 39 (by decide) (fun _ => ?_) (fun h9 => absurd (by rw [zu_s, zu_s]; rfl) h9)
  refine z_aload_n d_Mac_moveTo_39 rfl ?_
  refine z_get d_Mac_moveTo_40 f_Mac_147 (by omega) (zc_c hc _ _) rfl ?_
  exact z_zret d_Mac_moveTo_43 rfl (by decide) (by decide) (by rw [zu_s, zu_s]; decide) (by rw [zu_s, zu_s]) rfl
