/-! the reference: single instructions -/
set_option maxRecDepth 100000 in
set_option maxHeartbeats 4000000 in
theorem c_Mod_wopen (X : zX) (J : zJT) (G : zGT) {c : Nat} (hc : c < 3) (q s : Int32) : zK X 1 m_Mod_without [.ref 40, .int 1, .int (nI c), .int q, .int s] J G (some (.int 0)) (va_up (va_up J 51 (upd (J 51) c q)) 52 (upd (J 52) c 0)) G := by
  refine zC_of (by decide) (Nat.le_of_ble_eq_true rfl) ?_
  refine z_iload_n d_Mod_without_0 rfl ?_
  refine z_iconst (v := 1) d_Mod_without_1 (by decide) ?_
  refine z_icmp_ne d_Mod_without_2 22 (by decide) (fun h9 => absurd h9 (by decide)) (fun _ => ?_)
  refine z_aload_n d_Mod_without_5 rfl ?_
  refine z_get d_Mod_without_6 f_Mod_42 (by omega) rfl rfl ?_
  refine z_iload_n d_Mod_without_9 rfl ?_
  refine z_iload_n d_Mod_without_10 rfl ?_
  refine z_iast d_Mod_without_11 (by omega) rfl (show zin (nI c) c 3 from ⟨rfl, hc, by decide⟩) (hp_ai rfl) ?_
  refine z_aload_n d_Mod_without_12 rfl ?_
  refine z_get d_Mod_without_13 f_Mod_45 (by omega) rfl rfl ?_
  refine z_iload_n d_Mod_without_16 rfl ?_
  refine z_iconst (v := 0) d_Mod_without_17 (by decide) ?_
  refine z_zast d_Mod_without_18 (by omega) rfl (show zin (nI c) c 3 from ⟨rfl, hc, by decide⟩) (by decide) (hp_ai rfl) ?_
  refine z_goto d_Mod_without_19 292 (by decide) ?_
  refine z_iload_n d_Mod_without_292 rfl ?_
  refine z_bipush (v := 19) d_Mod_without_293 (by decide) ?_
  refine z_icmp_ne d_Mod_without_295 302 (by decide) (fun _ => ?_) (fun h9 => absurd h9 (by decide))
  refine z_iconst (v := 0) d_Mod_without_302 (by decide) ?_
  exact z_zret d_Mod_without_303 rfl (by decide) (by decide) (by decide) rfl rfl
set_option maxRecDepth 100000 in
set_option maxHeartbeats 4000000 in
theorem c_Mod_wint (X : zX) (J : zJT) (G : zGT) {r : Nat} (hr : r < 16) (p s : Int32) : zK X 1 m_Mod_without [.ref 40, .int 6, .int p, .int (nI r), .int s] J G (some (.int 0)) (va_up J 50 (upd (J 50) r 1)) (va_up G 49 (vp_updL (G 49) r p.toInt64)) := by
  refine zC_of (by decide) (Nat.le_of_ble_eq_true rfl) ?_
  refine z_iload_n d_Mod_without_0 rfl ?_
  refine z_iconst (v := 1) d_Mod_without_1 (by decide) ?_
  refine z_icmp_ne d_Mod_without_2 22 (by decide) (fun _ => ?_) (fun h9 => absurd h9 (by decide))
  refine z_iload_n d_Mod_without_22 rfl ?_
  refine z_bipush (v := 6) d_Mod_without_23 (by decide) ?_
  refine z_icmp_ne d_Mod_without_25 39 (by decide) (fun h9 => absurd h9 (by decide)) (fun _ => ?_)
  refine z_aload_n d_Mod_without_28 rfl ?_
  refine z_iload_n d_Mod_without_29 rfl ?_
  refine z_iconst (v := 1) d_Mod_without_30 (by decide) ?_
  refine z_iload_n d_Mod_without_31 rfl ?_
  refine z_i2l d_Mod_without_32 ?_
  refine z_callV0 d_Mod_without_33 g_Mod_138 (c_Mod_keep X J G 0 hr true p.toInt64) (by omega) rfl rfl rfl ⟨by decide, by decide, by decide, by decide⟩ rfl (Nat.le_of_ble_eq_true rfl) ?_
  refine z_goto d_Mod_without_36 292 (by decide) ?_
  refine z_iload_n d_Mod_without_292 rfl ?_
  refine z_bipush (v := 19) d_Mod_without_293 (by decide) ?_
  refine z_icmp_ne d_Mod_without_295 302 (by decide) (fun _ => ?_) (fun h9 => absurd h9 (by decide))
  refine z_iconst (v := 0) d_Mod_without_302 (by decide) ?_
  exact z_zret d_Mod_without_303 rfl (by decide) (by decide) (by decide) rfl rfl
set_option maxRecDepth 100000 in
set_option maxHeartbeats 4000000 in
theorem c_Mod_wnull (X : zX) (J : zJT) (G : zGT) {r : Nat} (hr : r < 16) (q s : Int32) : zK X 1 m_Mod_without [.ref 40, .int 7, .int (nI r), .int q, .int s] J G (some (.int 0)) (va_up J 50 (upd (J 50) r 0)) (va_up G 49 (vp_updL (G 49) r 0)) := by
  refine zC_of (by decide) (Nat.le_of_ble_eq_true rfl) ?_
  refine z_iload_n d_Mod_without_0 rfl ?_
  refine z_iconst (v := 1) d_Mod_without_1 (by decide) ?_
  refine z_icmp_ne d_Mod_without_2 22 (by decide) (fun _ => ?_) (fun h9 => absurd h9 (by decide))
  refine z_iload_n d_Mod_without_22 rfl ?_
  refine z_bipush (v := 6) d_Mod_without_23 (by decide) ?_
  refine z_icmp_ne d_Mod_without_25 39 (by decide) (fun _ => ?_) (fun h9 => absurd h9 (by decide))
  refine z_iload_n d_Mod_without_39 rfl ?_
  refine z_bipush (v := 7) d_Mod_without_40 (by decide) ?_
  refine z_icmp_ne d_Mod_without_42 55 (by decide) (fun h9 => absurd h9 (by decide)) (fun _ => ?_)
  refine z_aload_n d_Mod_without_45 rfl ?_
  refine z_iload_n d_Mod_without_46 rfl ?_
  refine z_iconst (v := 0) d_Mod_without_47 (by decide) ?_
  refine z_lconst (v := 0) d_Mod_without_48 (by decide) ?_
  refine z_callV0 d_Mod_without_49 g_Mod_138 (c_Mod_keep X J G 0 hr false 0) (by omega) rfl rfl rfl ⟨by decide, by decide, by decide, by decide⟩ rfl (Nat.le_of_ble_eq_true rfl) ?_
  refine z_goto d_Mod_without_52 292 (by decide) ?_
  refine z_iload_n d_Mod_without_292 rfl ?_
  refine z_bipush (v := 19) d_Mod_without_293 (by decide) ?_
  refine z_icmp_ne d_Mod_without_295 302 (by decide) (fun _ => ?_) (fun h9 => absurd h9 (by decide))
  refine z_iconst (v := 0) d_Mod_without_302 (by decide) ?_
  exact z_zret d_Mod_without_303 rfl (by decide) (by decide) (by decide) rfl rfl
set_option maxRecDepth 100000 in
set_option maxHeartbeats 4000000 in
theorem c_Mod_wadd (X : zX) (J : zJT) (G : zGT) {a b c : Nat} (ha : a < 16) (hb : b < 16) (hc : c < 16) (x y : Bool) (hx : J 50 a = zb x) (hy : J 50 b = zb y) : zK X 1 m_Mod_without [.ref 40, .int 17, .int (nI a), .int (nI b), .int (nI c)] J G (some (.int 0)) (va_up J 50 (upd (J 50) c (zb (x && y)))) (va_up G 49 (vp_updL (G 49) c (if x && y then G 49 a + G 49 b else 0))) := by
  refine zC_of (by decide) (Nat.le_of_ble_eq_true rfl) ?_
  refine z_iload_n d_Mod_without_0 rfl ?_
  refine z_iconst (v := 1) d_Mod_without_1 (by decide) ?_
  refine z_icmp_ne d_Mod_without_2 22 (by decide) (fun _ => ?_) (fun h9 => absurd h9 (by decide))
  refine z_iload_n d_Mod_without_22 rfl ?_
  refine z_bipush (v := 6) d_Mod_without_23 (by decide) ?_
  refine z_icmp_ne d_Mod_without_25 39 (by decide) (fun _ => ?_) (fun h9 => absurd h9 (by decide))
  refine z_iload_n d_Mod_without_39 rfl ?_
  refine z_bipush (v := 7) d_Mod_without_40 (by decide) ?_
  refine z_icmp_ne d_Mod_without_42 55 (by decide) (fun _ => ?_) (fun h9 => absurd h9 (by decide))
  refine z_iload_n d_Mod_without_55 rfl ?_
  refine z_bipush (v := 17) d_Mod_without_56 (by decide) ?_
  refine z_icmp_ne d_Mod_without_58 106 (by decide) (fun h9 => absurd h9 (by decide)) (fun _ => ?_)
  refine z_aload_n d_Mod_without_61 rfl ?_
  refine z_iload d_Mod_without_62 rfl ?_
  refine z_aload_n d_Mod_without_64 rfl ?_
  refine z_get d_Mod_without_65 f_Mod_39 (by omega) rfl rfl ?_
  refine z_iload_n d_Mod_without_68 rfl ?_
  refine z_zald d_Mod_without_69 (by omega) rfl (show zin (nI a) a 16 from ⟨rfl, ha, by decide⟩) ?_
  rw [hx]
  refine z_if_eq d_Mod_without_70 86 (by decide) (fun h70 => ?_) (fun h70 => ?_)
  · refine z_iconst (v := 0) d_Mod_without_86 (by decide) ?_
    refine z_aload_n d_Mod_without_87 rfl ?_
    refine z_get d_Mod_without_88 f_Mod_36 (by omega) rfl rfl ?_
    refine z_iload_n d_Mod_without_91 rfl ?_
    refine z_lald d_Mod_without_92 (by omega) rfl (show zin (nI a) a 16 from ⟨rfl, ha, by decide⟩) ?_
    refine z_aload_n d_Mod_without_93 rfl ?_
    refine z_get d_Mod_without_94 f_Mod_36 (by omega) rfl rfl ?_
    refine z_iload_n d_Mod_without_97 rfl ?_
    refine z_lald d_Mod_without_98 (by omega) rfl (show zin (nI b) b 16 from ⟨rfl, hb, by decide⟩) ?_
    refine z_ladd d_Mod_without_99 ?_
    refine z_callV0 d_Mod_without_100 g_Mod_138 (c_Mod_keep X J G 0 hc false (G 49 a + G 49 b)) (by omega) rfl rfl rfl ⟨by decide, by decide, by decide, by decide⟩ rfl (Nat.le_of_ble_eq_true rfl) ?_
    refine z_goto d_Mod_without_103 292 (by decide) ?_
    refine z_iload_n d_Mod_without_292 rfl ?_
    refine z_bipush (v := 19) d_Mod_without_293 (by decide) ?_
    refine z_icmp_ne d_Mod_without_295 302 (by decide) (fun _ => ?_) (fun h9 => absurd h9 (by decide))
    refine z_iconst (v := 0) d_Mod_without_302 (by decide) ?_
    exact z_zret d_Mod_without_303 rfl (by decide) (by decide) (by decide) rfl (by rw [zb0 h70]; rfl)
  · refine z_aload_n d_Mod_without_73 rfl ?_
    refine z_get d_Mod_without_74 f_Mod_39 (by omega) rfl rfl ?_
    refine z_iload_n d_Mod_without_77 rfl ?_
    refine z_zald d_Mod_without_78 (by omega) rfl (show zin (nI b) b 16 from ⟨rfl, hb, by decide⟩) ?_
    rw [hy]
    refine z_if_eq d_Mod_without_79 86 (by decide) (fun h79 => ?_) (fun h79 => ?_)
    · refine z_iconst (v := 0) d_Mod_without_86 (by decide) ?_
      refine z_aload_n d_Mod_without_87 rfl ?_
      refine z_get d_Mod_without_88 f_Mod_36 (by omega) rfl rfl ?_
      refine z_iload_n d_Mod_without_91 rfl ?_
      refine z_lald d_Mod_without_92 (by omega) rfl (show zin (nI a) a 16 from ⟨rfl, ha, by decide⟩) ?_
      refine z_aload_n d_Mod_without_93 rfl ?_
      refine z_get d_Mod_without_94 f_Mod_36 (by omega) rfl rfl ?_
      refine z_iload_n d_Mod_without_97 rfl ?_
      refine z_lald d_Mod_without_98 (by omega) rfl (show zin (nI b) b 16 from ⟨rfl, hb, by decide⟩) ?_
      refine z_ladd d_Mod_without_99 ?_
      refine z_callV0 d_Mod_without_100 g_Mod_138 (c_Mod_keep X J G 0 hc false (G 49 a + G 49 b)) (by omega) rfl rfl rfl ⟨by decide, by decide, by decide, by decide⟩ rfl (Nat.le_of_ble_eq_true rfl) ?_
      refine z_goto d_Mod_without_103 292 (by decide) ?_
      refine z_iload_n d_Mod_without_292 rfl ?_
      refine z_bipush (v := 19) d_Mod_without_293 (by decide) ?_
      refine z_icmp_ne d_Mod_without_295 302 (by decide) (fun _ => ?_) (fun h9 => absurd h9 (by decide))
      refine z_iconst (v := 0) d_Mod_without_302 (by decide) ?_
      exact z_zret d_Mod_without_303 rfl (by decide) (by decide) (by decide) rfl (by rw [zb1' h70, zb0 h79]; rfl)
    · refine z_iconst (v := 1) d_Mod_without_82 (by decide) ?_
      refine z_goto d_Mod_without_83 87 (by decide) ?_
      refine z_aload_n d_Mod_without_87 rfl ?_
      refine z_get d_Mod_without_88 f_Mod_36 (by omega) rfl rfl ?_
      refine z_iload_n d_Mod_without_91 rfl ?_
      refine z_lald d_Mod_without_92 (by omega) rfl (show zin (nI a) a 16 from ⟨rfl, ha, by decide⟩) ?_
      refine z_aload_n d_Mod_without_93 rfl ?_
      refine z_get d_Mod_without_94 f_Mod_36 (by omega) rfl rfl ?_
      refine z_iload_n d_Mod_without_97 rfl ?_
      refine z_lald d_Mod_without_98 (by omega) rfl (show zin (nI b) b 16 from ⟨rfl, hb, by decide⟩) ?_
      refine z_ladd d_Mod_without_99 ?_
      refine z_callV0 d_Mod_without_100 g_Mod_138 (c_Mod_keep X J G 0 hc true (G 49 a + G 49 b)) (by omega) rfl rfl rfl ⟨by decide, by decide, by decide, by decide⟩ rfl (Nat.le_of_ble_eq_true rfl) ?_
      refine z_goto d_Mod_without_103 292 (by decide) ?_
      refine z_iload_n d_Mod_without_292 rfl ?_
      refine z_bipush (v := 19) d_Mod_without_293 (by decide) ?_
      refine z_icmp_ne d_Mod_without_295 302 (by decide) (fun _ => ?_) (fun h9 => absurd h9 (by decide))
      refine z_iconst (v := 0) d_Mod_without_302 (by decide) ?_
      exact z_zret d_Mod_without_303 rfl (by decide) (by decide) (by decide) rfl (by rw [zb1' h70, zb1' h79]; rfl)
set_option maxRecDepth 100000 in
set_option maxHeartbeats 4000000 in
theorem c_Mod_wisnull (X : zX) (J : zJT) (G : zGT) {a : Nat} (ha : a < 16) (q s : Int32) : zK X 1 m_Mod_without [.ref 40, .int 15, .int (nI a), .int q, .int s] J G (some (.int (zb (decide (J 50 a = 0))))) J G := by
  refine zC_of (by decide) (Nat.le_of_ble_eq_true rfl) ?_
  refine z_iload_n d_Mod_without_0 rfl ?_
  refine z_iconst (v := 1) d_Mod_without_1 (by decide) ?_
  refine z_icmp_ne d_Mod_without_2 22 (by decide) (fun _ => ?_) (fun h9 => absurd h9 (by decide))
  refine z_iload_n d_Mod_without_22 rfl ?_
  refine z_bipush (v := 6) d_Mod_without_23 (by decide) ?_
  refine z_icmp_ne d_Mod_without_25 39 (by decide) (fun _ => ?_) (fun h9 => absurd h9 (by decide))
  refine z_iload_n d_Mod_without_39 rfl ?_
  refine z_bipush (v := 7) d_Mod_without_40 (by decide) ?_
  refine z_icmp_ne d_Mod_without_42 55 (by decide) (fun _ => ?_) (fun h9 => absurd h9 (by decide))
  refine z_iload_n d_Mod_without_55 rfl ?_
  refine z_bipush (v := 17) d_Mod_without_56 (by decide) ?_
  refine z_icmp_ne d_Mod_without_58 106 (by decide) (fun _ => ?_) (fun h9 => absurd h9 (by decide))
  refine z_iload_n d_Mod_without_106 rfl ?_
  refine z_bipush (v := 18) d_Mod_without_107 (by decide) ?_
  refine z_icmp_ne d_Mod_without_109 196 (by decide) (fun _ => ?_) (fun h9 => absurd h9 (by decide))
  refine z_iload_n d_Mod_without_196 rfl ?_
  refine z_bipush (v := 15) d_Mod_without_197 (by decide) ?_
  refine z_icmp_eq d_Mod_without_199 208 (by decide) (fun _ => ?_) (fun h9 => absurd (by decide) h9)
  refine z_aload_n d_Mod_without_208 rfl ?_
  refine z_get d_Mod_without_209 f_Mod_39 (by omega) rfl rfl ?_
  refine z_iload_n d_Mod_without_212 rfl ?_
  refine z_zald d_Mod_without_213 (by omega) rfl (show zin (nI a) a 16 from ⟨rfl, ha, by decide⟩) ?_
  refine z_iload_n d_Mod_without_214 rfl ?_
  refine z_bipush (v := 16) d_Mod_without_215 (by decide) ?_
  refine z_icmp_ne d_Mod_without_217 224 (by decide) (fun _ => ?_) (fun h9 => absurd h9 (by decide))
  refine z_iconst (v := 0) d_Mod_without_224 (by decide) ?_
  refine z_icmp_ne d_Mod_without_225 232 (by decide) (fun h225 => ?_) (fun h225 => ?_)
  · refine z_iconst (v := 0) d_Mod_without_232 (by decide) ?_
    exact z_zret d_Mod_without_233 rfl (by decide) (by decide) (by decide) (by rw [decide_eq_false h225]; rfl) rfl
  · refine z_iconst (v := 1) d_Mod_without_228 (by decide) ?_
    refine z_goto d_Mod_without_229 233 (by decide) ?_
    exact z_zret d_Mod_without_233 rfl (by decide) (by decide) (by decide) (by rw [decide_eq_true h225]; rfl) rfl
set_option maxRecDepth 100000 in
set_option maxHeartbeats 4000000 in
theorem c_Mod_wnotnull (X : zX) (J : zJT) (G : zGT) {a : Nat} (ha : a < 16) (q s : Int32) : zK X 1 m_Mod_without [.ref 40, .int 16, .int (nI a), .int q, .int s] J G (some (.int (zb (decide (J 50 a = 1))))) J G := by
  refine zC_of (by decide) (Nat.le_of_ble_eq_true rfl) ?_
  refine z_iload_n d_Mod_without_0 rfl ?_
  refine z_iconst (v := 1) d_Mod_without_1 (by decide) ?_
  refine z_icmp_ne d_Mod_without_2 22 (by decide) (fun _ => ?_) (fun h9 => absurd h9 (by decide))
  refine z_iload_n d_Mod_without_22 rfl ?_
  refine z_bipush (v := 6) d_Mod_without_23 (by decide) ?_
  refine z_icmp_ne d_Mod_without_25 39 (by decide) (fun _ => ?_) (fun h9 => absurd h9 (by decide))
  refine z_iload_n d_Mod_without_39 rfl ?_
  refine z_bipush (v := 7) d_Mod_without_40 (by decide) ?_
  refine z_icmp_ne d_Mod_without_42 55 (by decide) (fun _ => ?_) (fun h9 => absurd h9 (by decide))
  refine z_iload_n d_Mod_without_55 rfl ?_
  refine z_bipush (v := 17) d_Mod_without_56 (by decide) ?_
  refine z_icmp_ne d_Mod_without_58 106 (by decide) (fun _ => ?_) (fun h9 => absurd h9 (by decide))
  refine z_iload_n d_Mod_without_106 rfl ?_
  refine z_bipush (v := 18) d_Mod_without_107 (by decide) ?_
  refine z_icmp_ne d_Mod_without_109 196 (by decide) (fun _ => ?_) (fun h9 => absurd h9 (by decide))
  refine z_iload_n d_Mod_without_196 rfl ?_
  refine z_bipush (v := 15) d_Mod_without_197 (by decide) ?_
  refine z_icmp_eq d_Mod_without_199 208 (by decide) (fun h9 => absurd h9 (by decide)) (fun _ => ?_)
  refine z_iload_n d_Mod_without_202 rfl ?_
  refine z_bipush (v := 16) d_Mod_without_203 (by decide) ?_
  refine z_icmp_ne d_Mod_without_205 234 (by decide) (fun h9 => absurd h9 (by decide)) (fun _ => ?_)
  refine z_aload_n d_Mod_without_208 rfl ?_
  refine z_get d_Mod_without_209 f_Mod_39 (by omega) rfl rfl ?_
  refine z_iload_n d_Mod_without_212 rfl ?_
  refine z_zald d_Mod_without_213 (by omega) rfl (show zin (nI a) a 16 from ⟨rfl, ha, by decide⟩) ?_
  refine z_iload_n d_Mod_without_214 rfl ?_
  refine z_bipush (v := 16) d_Mod_without_215 (by decide) ?_
  refine z_icmp_ne d_Mod_without_217 224 (by decide) (fun h9 => absurd h9 (by decide)) (fun _ => ?_)
  refine z_iconst (v := 1) d_Mod_without_220 (by decide) ?_
  refine z_goto d_Mod_without_221 225 (by decide) ?_
  refine z_icmp_ne d_Mod_without_225 232 (by decide) (fun h225 => ?_) (fun h225 => ?_)
  · refine z_iconst (v := 0) d_Mod_without_232 (by decide) ?_
    exact z_zret d_Mod_without_233 rfl (by decide) (by decide) (by decide) (by rw [decide_eq_false h225]; rfl) rfl
  · refine z_iconst (v := 1) d_Mod_without_228 (by decide) ?_
    refine z_goto d_Mod_without_229 233 (by decide) ?_
    exact z_zret d_Mod_without_233 rfl (by decide) (by decide) (by decide) (by rw [decide_eq_true h225]; rfl) rfl
set_option maxRecDepth 100000 in
set_option maxHeartbeats 4000000 in
theorem c_Mod_wcmp9 (X : zX) (J : zJT) (G : zGT) {a b : Nat} (ha : a < 16) (hb : b < 16) (x y : Bool) (hx : J 50 a = zb x) (hy : J 50 b = zb y) (q : Int32) : zK X 1 m_Mod_without [.ref 40, .int 9, .int (nI a), .int q, .int (nI b)] J G (some (.int (zb (x && (y && rCmp 9 (G 49 a) (G 49 b)))))) J G := by
  refine zC_of (by decide) (Nat.le_of_ble_eq_true rfl) ?_
  refine z_iload_n d_Mod_without_0 rfl ?_
  refine z_iconst (v := 1) d_Mod_without_1 (by decide) ?_
  refine z_icmp_ne d_Mod_without_2 22 (by decide) (fun _ => ?_) (fun h9 => absurd h9 (by decide))
  refine z_iload_n d_Mod_without_22 rfl ?_
  refine z_bipush (v := 6) d_Mod_without_23 (by decide) ?_
  refine z_icmp_ne d_Mod_without_25 39 (by decide) (fun _ => ?_) (fun h9 => absurd h9 (by decide))
  refine z_iload_n d_Mod_without_39 rfl ?_
  refine z_bipush (v := 7) d_Mod_without_40 (by decide) ?_
  refine z_icmp_ne d_Mod_without_42 55 (by decide) (fun _ => ?_) (fun h9 => absurd h9 (by decide))
  refine z_iload_n d_Mod_without_55 rfl ?_
  refine z_bipush (v := 17) d_Mod_without_56 (by decide) ?_
  refine z_icmp_ne d_Mod_without_58 106 (by decide) (fun _ => ?_) (fun h9 => absurd h9 (by decide))
  refine z_iload_n d_Mod_without_106 rfl ?_
  refine z_bipush (v := 18) d_Mod_without_107 (by decide) ?_
  refine z_icmp_ne d_Mod_without_109 196 (by decide) (fun _ => ?_) (fun h9 => absurd h9 (by decide))
  refine z_iload_n d_Mod_without_196 rfl ?_
  refine z_bipush (v := 15) d_Mod_without_197 (by decide) ?_
  refine z_icmp_eq d_Mod_without_199 208 (by decide) (fun h9 => absurd h9 (by decide)) (fun _ => ?_)
  refine z_iload_n d_Mod_without_202 rfl ?_
  refine z_bipush (v := 16) d_Mod_without_203 (by decide) ?_
  refine z_icmp_ne d_Mod_without_205 234 (by decide) (fun _ => ?_) (fun h9 => absurd h9 (by decide))
  refine z_iload_n d_Mod_without_234 rfl ?_
  refine z_bipush (v := 9) d_Mod_without_235 (by decide) ?_
  refine z_icmp_lt d_Mod_without_237 292 (by decide) (fun h9 => absurd h9 (by decide)) (fun _ => ?_)
  refine z_iload_n d_Mod_without_240 rfl ?_
  refine z_bipush (v := 15) d_Mod_without_241 (by decide) ?_
  refine z_icmp_ge d_Mod_without_243 292 (by decide) (fun h9 => absurd h9 (by decide)) (fun _ => ?_)
  refine z_aload_n d_Mod_without_246 rfl ?_
  refine z_get d_Mod_without_247 f_Mod_39 (by omega) rfl rfl ?_
  refine z_iload_n d_Mod_without_250 rfl ?_
  refine z_zald d_Mod_without_251 (by omega) rfl (show zin (nI a) a 16 from ⟨rfl, ha, by decide⟩) ?_
  rw [hx]
  refine z_if_eq d_Mod_without_252 290 (by decide) (fun h252 => ?_) (fun h252 => ?_)
  · refine z_iconst (v := 0) d_Mod_without_290 (by decide) ?_
    exact z_zret d_Mod_without_291 rfl (by decide) (by decide) (by decide) (by rw [zb0 h252]; rfl) rfl
  · refine z_aload_n d_Mod_without_255 rfl ?_
    refine z_get d_Mod_without_256 f_Mod_39 (by omega) rfl rfl ?_
    refine z_iload d_Mod_without_259 rfl ?_
    refine z_zald d_Mod_without_261 (by omega) rfl (show zin (nI b) b 16 from ⟨rfl, hb, by decide⟩) ?_
    rw [hy]
    refine z_if_eq d_Mod_without_262 290 (by decide) (fun h262 => ?_) (fun h262 => ?_)
    · refine z_iconst (v := 0) d_Mod_without_290 (by decide) ?_
      exact z_zret d_Mod_without_291 rfl (by decide) (by decide) (by decide) (by rw [zb1' h252, zb0 h262]; rfl) rfl
    · refine z_aload_n d_Mod_without_265 rfl ?_
      refine z_iload_n d_Mod_without_266 rfl ?_
      refine z_aload_n d_Mod_without_267 rfl ?_
      refine z_get d_Mod_without_268 f_Mod_36 (by omega) rfl rfl ?_
      refine z_iload_n d_Mod_without_271 rfl ?_
      refine z_lald d_Mod_without_272 (by omega) rfl (show zin (nI a) a 16 from ⟨rfl, ha, by decide⟩) ?_
      refine z_aload_n d_Mod_without_273 rfl ?_
      refine z_get d_Mod_without_274 f_Mod_36 (by omega) rfl rfl ?_
      refine z_iload d_Mod_without_277 rfl ?_
      refine z_lald d_Mod_without_279 (by omega) rfl (show zin (nI b) b 16 from ⟨rfl, hb, by decide⟩) ?_
      refine z_callV1 d_Mod_without_280 g_Mod_145 (c_Mod_compares_9 X J G 0 _ _) (by omega) rfl rfl rfl ⟨by decide, by decide, by decide, by decide⟩ rfl (Nat.le_of_ble_eq_true rfl) ?_
      refine z_if_eq d_Mod_without_283 290 (by decide) (fun h283 => ?_) (fun h283 => ?_)
      · refine z_iconst (v := 0) d_Mod_without_290 (by decide) ?_
        exact z_zret d_Mod_without_291 rfl (by decide) (by decide) (by decide) (by rw [zb1' h252, zb1' h262, zb0 h283]; rfl) rfl
      · refine z_iconst (v := 1) d_Mod_without_286 (by decide) ?_
        refine z_goto d_Mod_without_287 291 (by decide) ?_
        exact z_zret d_Mod_without_291 rfl (by decide) (by decide) (by decide) (by rw [zb1' h252, zb1' h262, zb1' h283]; rfl) rfl
set_option maxRecDepth 100000 in
set_option maxHeartbeats 4000000 in
theorem c_Mod_wcmp10 (X : zX) (J : zJT) (G : zGT) {a b : Nat} (ha : a < 16) (hb : b < 16) (x y : Bool) (hx : J 50 a = zb x) (hy : J 50 b = zb y) (q : Int32) : zK X 1 m_Mod_without [.ref 40, .int 10, .int (nI a), .int q, .int (nI b)] J G (some (.int (zb (x && (y && rCmp 10 (G 49 a) (G 49 b)))))) J G := by
  refine zC_of (by decide) (Nat.le_of_ble_eq_true rfl) ?_
  refine z_iload_n d_Mod_without_0 rfl ?_
  refine z_iconst (v := 1) d_Mod_without_1 (by decide) ?_
  refine z_icmp_ne d_Mod_without_2 22 (by decide) (fun _ => ?_) (fun h9 => absurd h9 (by decide))
  refine z_iload_n d_Mod_without_22 rfl ?_
  refine z_bipush (v := 6) d_Mod_without_23 (by decide) ?_
  refine z_icmp_ne d_Mod_without_25 39 (by decide) (fun _ => ?_) (fun h9 => absurd h9 (by decide))
  refine z_iload_n d_Mod_without_39 rfl ?_
  refine z_bipush (v := 7) d_Mod_without_40 (by decide) ?_
  refine z_icmp_ne d_Mod_without_42 55 (by decide) (fun _ => ?_) (fun h9 => absurd h9 (by decide))
  refine z_iload_n d_Mod_without_55 rfl ?_
  refine z_bipush (v := 17) d_Mod_without_56 (by decide) ?_
  refine z_icmp_ne d_Mod_without_58 106 (by decide) (fun _ => ?_) (fun h9 => absurd h9 (by decide))
  refine z_iload_n d_Mod_without_106 rfl ?_
  refine z_bipush (v := 18) d_Mod_without_107 (by decide) ?_
  refine z_icmp_ne d_Mod_without_109 196 (by decide) (fun _ => ?_) (fun h9 => absurd h9 (by decide))
  refine z_iload_n d_Mod_without_196 rfl ?_
  refine z_bipush (v := 15) d_Mod_without_197 (by decide) ?_
  refine z_icmp_eq d_Mod_without_199 208 (by decide) (fun h9 => absurd h9 (by decide)) (fun _ => ?_)
  refine z_iload_n d_Mod_without_202 rfl ?_
  refine z_bipush (v := 16) d_Mod_without_203 (by decide) ?_
  refine z_icmp_ne d_Mod_without_205 234 (by decide) (fun _ => ?_) (fun h9 => absurd h9 (by decide))
  refine z_iload_n d_Mod_without_234 rfl ?_
  refine z_bipush (v := 9) d_Mod_without_235 (by decide) ?_
  refine z_icmp_lt d_Mod_without_237 292 (by decide) (fun h9 => absurd h9 (by decide)) (fun _ => ?_)
  refine z_iload_n d_Mod_without_240 rfl ?_
  refine z_bipush (v := 15) d_Mod_without_241 (by decide) ?_
  refine z_icmp_ge d_Mod_without_243 292 (by decide) (fun h9 => absurd h9 (by decide)) (fun _ => ?_)
  refine z_aload_n d_Mod_without_246 rfl ?_
  refine z_get d_Mod_without_247 f_Mod_39 (by omega) rfl rfl ?_
  refine z_iload_n d_Mod_without_250 rfl ?_
  refine z_zald d_Mod_without_251 (by omega) rfl (show zin (nI a) a 16 from ⟨rfl, ha, by decide⟩) ?_
  rw [hx]
  refine z_if_eq d_Mod_without_252 290 (by decide) (fun h252 => ?_) (fun h252 => ?_)
  · refine z_iconst (v := 0) d_Mod_without_290 (by decide) ?_
    exact z_zret d_Mod_without_291 rfl (by decide) (by decide) (by decide) (by rw [zb0 h252]; rfl) rfl
  · refine z_aload_n d_Mod_without_255 rfl ?_
    refine z_get d_Mod_without_256 f_Mod_39 (by omega) rfl rfl ?_
    refine z_iload d_Mod_without_259 rfl ?_
    refine z_zald d_Mod_without_261 (by omega) rfl (show zin (nI b) b 16 from ⟨rfl, hb, by decide⟩) ?_
    rw [hy]
    refine z_if_eq d_Mod_without_262 290 (by decide) (fun h262 => ?_) (fun h262 => ?_)
    · refine z_iconst (v := 0) d_Mod_without_290 (by decide) ?_
      exact z_zret d_Mod_without_291 rfl (by decide) (by decide) (by decide) (by rw [zb1' h252, zb0 h262]; rfl) rfl
    · refine z_aload_n d_Mod_without_265 rfl ?_
      refine z_iload_n d_Mod_without_266 rfl ?_
      refine z_aload_n d_Mod_without_267 rfl ?_
      refine z_get d_Mod_without_268 f_Mod_36 (by omega) rfl rfl ?_
      refine z_iload_n d_Mod_without_271 rfl ?_
      refine z_lald d_Mod_without_272 (by omega) rfl (show zin (nI a) a 16 from ⟨rfl, ha, by decide⟩) ?_
      refine z_aload_n d_Mod_without_273 rfl ?_
      refine z_get d_Mod_without_274 f_Mod_36 (by omega) rfl rfl ?_
      refine z_iload d_Mod_without_277 rfl ?_
      refine z_lald d_Mod_without_279 (by omega) rfl (show zin (nI b) b 16 from ⟨rfl, hb, by decide⟩) ?_
      refine z_callV1 d_Mod_without_280 g_Mod_145 (c_Mod_compares_10 X J G 0 _ _) (by omega) rfl rfl rfl ⟨by decide, by decide, by decide, by decide⟩ rfl (Nat.le_of_ble_eq_true rfl) ?_
      refine z_if_eq d_Mod_without_283 290 (by decide) (fun h283 => ?_) (fun h283 => ?_)
      · refine z_iconst (v := 0) d_Mod_without_290 (by decide) ?_
        exact z_zret d_Mod_without_291 rfl (by decide) (by decide) (by decide) (by rw [zb1' h252, zb1' h262, zb0 h283]; rfl) rfl
      · refine z_iconst (v := 1) d_Mod_without_286 (by decide) ?_
        refine z_goto d_Mod_without_287 291 (by decide) ?_
        exact z_zret d_Mod_without_291 rfl (by decide) (by decide) (by decide) (by rw [zb1' h252, zb1' h262, zb1' h283]; rfl) rfl
set_option maxRecDepth 100000 in
set_option maxHeartbeats 4000000 in
theorem c_Mod_wcmp11 (X : zX) (J : zJT) (G : zGT) {a b : Nat} (ha : a < 16) (hb : b < 16) (x y : Bool) (hx : J 50 a = zb x) (hy : J 50 b = zb y) (q : Int32) : zK X 1 m_Mod_without [.ref 40, .int 11, .int (nI a), .int q, .int (nI b)] J G (some (.int (zb (x && (y && rCmp 11 (G 49 a) (G 49 b)))))) J G := by
  refine zC_of (by decide) (Nat.le_of_ble_eq_true rfl) ?_
  refine z_iload_n d_Mod_without_0 rfl ?_
  refine z_iconst (v := 1) d_Mod_without_1 (by decide) ?_
  refine z_icmp_ne d_Mod_without_2 22 (by decide) (fun _ => ?_) (fun h9 => absurd h9 (by decide))
  refine z_iload_n d_Mod_without_22 rfl ?_
  refine z_bipush (v := 6) d_Mod_without_23 (by decide) ?_
  refine z_icmp_ne d_Mod_without_25 39 (by decide) (fun _ => ?_) (fun h9 => absurd h9 (by decide))
  refine z_iload_n d_Mod_without_39 rfl ?_
  refine z_bipush (v := 7) d_Mod_without_40 (by decide) ?_
  refine z_icmp_ne d_Mod_without_42 55 (by decide) (fun _ => ?_) (fun h9 => absurd h9 (by decide))
  refine z_iload_n d_Mod_without_55 rfl ?_
  refine z_bipush (v := 17) d_Mod_without_56 (by decide) ?_
  refine z_icmp_ne d_Mod_without_58 106 (by decide) (fun _ => ?_) (fun h9 => absurd h9 (by decide))
  refine z_iload_n d_Mod_without_106 rfl ?_
  refine z_bipush (v := 18) d_Mod_without_107 (by decide) ?_
  refine z_icmp_ne d_Mod_without_109 196 (by decide) (fun _ => ?_) (fun h9 => absurd h9 (by decide))
  refine z_iload_n d_Mod_without_196 rfl ?_
  refine z_bipush (v := 15) d_Mod_without_197 (by decide) ?_
  refine z_icmp_eq d_Mod_without_199 208 (by decide) (fun h9 => absurd h9 (by decide)) (fun _ => ?_)
  refine z_iload_n d_Mod_without_202 rfl ?_
  refine z_bipush (v := 16) d_Mod_without_203 (by decide) ?_
  refine z_icmp_ne d_Mod_without_205 234 (by decide) (fun _ => ?_) (fun h9 => absurd h9 (by decide))
  refine z_iload_n d_Mod_without_234 rfl ?_
  refine z_bipush (v := 9) d_Mod_without_235 (by decide) ?_
  refine z_icmp_lt d_Mod_without_237 292 (by decide) (fun h9 => absurd h9 (by decide)) (fun _ => ?_)
  refine z_iload_n d_Mod_without_240 rfl ?_
  refine z_bipush (v := 15) d_Mod_without_241 (by decide) ?_
  refine z_icmp_ge d_Mod_without_243 292 (by decide) (fun h9 => absurd h9 (by decide)) (fun _ => ?_)
  refine z_aload_n d_Mod_without_246 rfl ?_
  refine z_get d_Mod_without_247 f_Mod_39 (by omega) rfl rfl ?_
  refine z_iload_n d_Mod_without_250 rfl ?_
  refine z_zald d_Mod_without_251 (by omega) rfl (show zin (nI a) a 16 from ⟨rfl, ha, by decide⟩) ?_
  rw [hx]
  refine z_if_eq d_Mod_without_252 290 (by decide) (fun h252 => ?_) (fun h252 => ?_)
  · refine z_iconst (v := 0) d_Mod_without_290 (by decide) ?_
    exact z_zret d_Mod_without_291 rfl (by decide) (by decide) (by decide) (by rw [zb0 h252]; rfl) rfl
  · refine z_aload_n d_Mod_without_255 rfl ?_
    refine z_get d_Mod_without_256 f_Mod_39 (by omega) rfl rfl ?_
    refine z_iload d_Mod_without_259 rfl ?_
    refine z_zald d_Mod_without_261 (by omega) rfl (show zin (nI b) b 16 from ⟨rfl, hb, by decide⟩) ?_
    rw [hy]
    refine z_if_eq d_Mod_without_262 290 (by decide) (fun h262 => ?_) (fun h262 => ?_)
    · refine z_iconst (v := 0) d_Mod_without_290 (by decide) ?_
      exact z_zret d_Mod_without_291 rfl (by decide) (by decide) (by decide) (by rw [zb1' h252, zb0 h262]; rfl) rfl
    · refine z_aload_n d_Mod_without_265 rfl ?_
      refine z_iload_n d_Mod_without_266 rfl ?_
      refine z_aload_n d_Mod_without_267 rfl ?_
      refine z_get d_Mod_without_268 f_Mod_36 (by omega) rfl rfl ?_
      refine z_iload_n d_Mod_without_271 rfl ?_
      refine z_lald d_Mod_without_272 (by omega) rfl (show zin (nI a) a 16 from ⟨rfl, ha, by decide⟩) ?_
      refine z_aload_n d_Mod_without_273 rfl ?_
      refine z_get d_Mod_without_274 f_Mod_36 (by omega) rfl rfl ?_
      refine z_iload d_Mod_without_277 rfl ?_
      refine z_lald d_Mod_without_279 (by omega) rfl (show zin (nI b) b 16 from ⟨rfl, hb, by decide⟩) ?_
      refine z_callV1 d_Mod_without_280 g_Mod_145 (c_Mod_compares_11 X J G 0 _ _) (by omega) rfl rfl rfl ⟨by decide, by decide, by decide, by decide⟩ rfl (Nat.le_of_ble_eq_true rfl) ?_
      refine z_if_eq d_Mod_without_283 290 (by decide) (fun h283 => ?_) (fun h283 => ?_)
      · refine z_iconst (v := 0) d_Mod_without_290 (by decide) ?_
        exact z_zret d_Mod_without_291 rfl (by decide) (by decide) (by decide) (by rw [zb1' h252, zb1' h262, zb0 h283]; rfl) rfl
      · refine z_iconst (v := 1) d_Mod_without_286 (by decide) ?_
        refine z_goto d_Mod_without_287 291 (by decide) ?_
        exact z_zret d_Mod_without_291 rfl (by decide) (by decide) (by decide) (by rw [zb1' h252, zb1' h262, zb1' h283]; rfl) rfl
set_option maxRecDepth 100000 in
set_option maxHeartbeats 4000000 in
theorem c_Mod_wcmp12 (X : zX) (J : zJT) (G : zGT) {a b : Nat} (ha : a < 16) (hb : b < 16) (x y : Bool) (hx : J 50 a = zb x) (hy : J 50 b = zb y) (q : Int32) : zK X 1 m_Mod_without [.ref 40, .int 12, .int (nI a), .int q, .int (nI b)] J G (some (.int (zb (x && (y && rCmp 12 (G 49 a) (G 49 b)))))) J G := by
  refine zC_of (by decide) (Nat.le_of_ble_eq_true rfl) ?_
  refine z_iload_n d_Mod_without_0 rfl ?_
  refine z_iconst (v := 1) d_Mod_without_1 (by decide) ?_
  refine z_icmp_ne d_Mod_without_2 22 (by decide) (fun _ => ?_) (fun h9 => absurd h9 (by decide))
  refine z_iload_n d_Mod_without_22 rfl ?_
  refine z_bipush (v := 6) d_Mod_without_23 (by decide) ?_
  refine z_icmp_ne d_Mod_without_25 39 (by decide) (fun _ => ?_) (fun h9 => absurd h9 (by decide))
  refine z_iload_n d_Mod_without_39 rfl ?_
  refine z_bipush (v := 7) d_Mod_without_40 (by decide) ?_
  refine z_icmp_ne d_Mod_without_42 55 (by decide) (fun _ => ?_) (fun h9 => absurd h9 (by decide))
  refine z_iload_n d_Mod_without_55 rfl ?_
  refine z_bipush (v := 17) d_Mod_without_56 (by decide) ?_
  refine z_icmp_ne d_Mod_without_58 106 (by decide) (fun _ => ?_) (fun h9 => absurd h9 (by decide))
  refine z_iload_n d_Mod_without_106 rfl ?_
  refine z_bipush (v := 18) d_Mod_without_107 (by decide) ?_
  refine z_icmp_ne d_Mod_without_109 196 (by decide) (fun _ => ?_) (fun h9 => absurd h9 (by decide))
  refine z_iload_n d_Mod_without_196 rfl ?_
  refine z_bipush (v := 15) d_Mod_without_197 (by decide) ?_
  refine z_icmp_eq d_Mod_without_199 208 (by decide) (fun h9 => absurd h9 (by decide)) (fun _ => ?_)
  refine z_iload_n d_Mod_without_202 rfl ?_
  refine z_bipush (v := 16) d_Mod_without_203 (by decide) ?_
  refine z_icmp_ne d_Mod_without_205 234 (by decide) (fun _ => ?_) (fun h9 => absurd h9 (by decide))
  refine z_iload_n d_Mod_without_234 rfl ?_
  refine z_bipush (v := 9) d_Mod_without_235 (by decide) ?_
  refine z_icmp_lt d_Mod_without_237 292 (by decide) (fun h9 => absurd h9 (by decide)) (fun _ => ?_)
  refine z_iload_n d_Mod_without_240 rfl ?_
  refine z_bipush (v := 15) d_Mod_without_241 (by decide) ?_
  refine z_icmp_ge d_Mod_without_243 292 (by decide) (fun h9 => absurd h9 (by decide)) (fun _ => ?_)
  refine z_aload_n d_Mod_without_246 rfl ?_
  refine z_get d_Mod_without_247 f_Mod_39 (by omega) rfl rfl ?_
  refine z_iload_n d_Mod_without_250 rfl ?_
  refine z_zald d_Mod_without_251 (by omega) rfl (show zin (nI a) a 16 from ⟨rfl, ha, by decide⟩) ?_
  rw [hx]
  refine z_if_eq d_Mod_without_252 290 (by decide) (fun h252 => ?_) (fun h252 => ?_)
  · refine z_iconst (v := 0) d_Mod_without_290 (by decide) ?_
    exact z_zret d_Mod_without_291 rfl (by decide) (by decide) (by decide) (by rw [zb0 h252]; rfl) rfl
  · refine z_aload_n d_Mod_without_255 rfl ?_
    refine z_get d_Mod_without_256 f_Mod_39 (by omega) rfl rfl ?_
    refine z_iload d_Mod_without_259 rfl ?_
    refine z_zald d_Mod_without_261 (by omega) rfl (show zin (nI b) b 16 from ⟨rfl, hb, by decide⟩) ?_
    rw [hy]
    refine z_if_eq d_Mod_without_262 290 (by decide) (fun h262 => ?_) (fun h262 => ?_)
    · refine z_iconst (v := 0) d_Mod_without_290 (by decide) ?_
      exact z_zret d_Mod_without_291 rfl (by decide) (by decide) (by decide) (by rw [zb1' h252, zb0 h262]; rfl) rfl
    · refine z_aload_n d_Mod_without_265 rfl ?_
      refine z_iload_n d_Mod_without_266 rfl ?_
      refine z_aload_n d_Mod_without_267 rfl ?_
      refine z_get d_Mod_without_268 f_Mod_36 (by omega) rfl rfl ?_
      refine z_iload_n d_Mod_without_271 rfl ?_
      refine z_lald d_Mod_without_272 (by omega) rfl (show zin (nI a) a 16 from ⟨rfl, ha, by decide⟩) ?_
      refine z_aload_n d_Mod_without_273 rfl ?_
      refine z_get d_Mod_without_274 f_Mod_36 (by omega) rfl rfl ?_
      refine z_iload d_Mod_without_277 rfl ?_
      refine z_lald d_Mod_without_279 (by omega) rfl (show zin (nI b) b 16 from ⟨rfl, hb, by decide⟩) ?_
      refine z_callV1 d_Mod_without_280 g_Mod_145 (c_Mod_compares_12 X J G 0 _ _) (by omega) rfl rfl rfl ⟨by decide, by decide, by decide, by decide⟩ rfl (Nat.le_of_ble_eq_true rfl) ?_
      refine z_if_eq d_Mod_without_283 290 (by decide) (fun h283 => ?_) (fun h283 => ?_)
      · refine z_iconst (v := 0) d_Mod_without_290 (by decide) ?_
        exact z_zret d_Mod_without_291 rfl (by decide) (by decide) (by decide) (by rw [zb1' h252, zb1' h262, zb0 h283]; rfl) rfl
      · refine z_iconst (v := 1) d_Mod_without_286 (by decide) ?_
        refine z_goto d_Mod_without_287 291 (by decide) ?_
        exact z_zret d_Mod_without_291 rfl (by decide) (by decide) (by decide) (by rw [zb1' h252, zb1' h262, zb1' h283]; rfl) rfl
set_option maxRecDepth 100000 in
set_option maxHeartbeats 4000000 in
theorem c_Mod_wcmp13 (X : zX) (J : zJT) (G : zGT) {a b : Nat} (ha : a < 16) (hb : b < 16) (x y : Bool) (hx : J 50 a = zb x) (hy : J 50 b = zb y) (q : Int32) : zK X 1 m_Mod_without [.ref 40, .int 13, .int (nI a), .int q, .int (nI b)] J G (some (.int (zb (x && (y && rCmp 13 (G 49 a) (G 49 b)))))) J G := by
  refine zC_of (by decide) (Nat.le_of_ble_eq_true rfl) ?_
  refine z_iload_n d_Mod_without_0 rfl ?_
  refine z_iconst (v := 1) d_Mod_without_1 (by decide) ?_
  refine z_icmp_ne d_Mod_without_2 22 (by decide) (fun _ => ?_) (fun h9 => absurd h9 (by decide))
  refine z_iload_n d_Mod_without_22 rfl ?_
  refine z_bipush (v := 6) d_Mod_without_23 (by decide) ?_
  refine z_icmp_ne d_Mod_without_25 39 (by decide) (fun _ => ?_) (fun h9 => absurd h9 (by decide))
  refine z_iload_n d_Mod_without_39 rfl ?_
  refine z_bipush (v := 7) d_Mod_without_40 (by decide) ?_
  refine z_icmp_ne d_Mod_without_42 55 (by decide) (fun _ => ?_) (fun h9 => absurd h9 (by decide))
  refine z_iload_n d_Mod_without_55 rfl ?_
  refine z_bipush (v := 17) d_Mod_without_56 (by decide) ?_
  refine z_icmp_ne d_Mod_without_58 106 (by decide) (fun _ => ?_) (fun h9 => absurd h9 (by decide))
  refine z_iload_n d_Mod_without_106 rfl ?_
  refine z_bipush (v := 18) d_Mod_without_107 (by decide) ?_
  refine z_icmp_ne d_Mod_without_109 196 (by decide) (fun _ => ?_) (fun h9 => absurd h9 (by decide))
  refine z_iload_n d_Mod_without_196 rfl ?_
  refine z_bipush (v := 15) d_Mod_without_197 (by decide) ?_
  refine z_icmp_eq d_Mod_without_199 208 (by decide) (fun h9 => absurd h9 (by decide)) (fun _ => ?_)
  refine z_iload_n d_Mod_without_202 rfl ?_
  refine z_bipush (v := 16) d_Mod_without_203 (by decide) ?_
  refine z_icmp_ne d_Mod_without_205 234 (by decide) (fun _ => ?_) (fun h9 => absurd h9 (by decide))
  refine z_iload_n d_Mod_without_234 rfl ?_
  refine z_bipush (v := 9) d_Mod_without_235 (by decide) ?_
  refine z_icmp_lt d_Mod_without_237 292 (by decide) (fun h9 => absurd h9 (by decide)) (fun _ => ?_)
  refine z_iload_n d_Mod_without_240 rfl ?_
  refine z_bipush (v := 15) d_Mod_without_241 (by decide) ?_
  refine z_icmp_ge d_Mod_without_243 292 (by decide) (fun h9 => absurd h9 (by decide)) (fun _ => ?_)
  refine z_aload_n d_Mod_without_246 rfl ?_
  refine z_get d_Mod_without_247 f_Mod_39 (by omega) rfl rfl ?_
  refine z_iload_n d_Mod_without_250 rfl ?_
  refine z_zald d_Mod_without_251 (by omega) rfl (show zin (nI a) a 16 from ⟨rfl, ha, by decide⟩) ?_
  rw [hx]
  refine z_if_eq d_Mod_without_252 290 (by decide) (fun h252 => ?_) (fun h252 => ?_)
  · refine z_iconst (v := 0) d_Mod_without_290 (by decide) ?_
    exact z_zret d_Mod_without_291 rfl (by decide) (by decide) (by decide) (by rw [zb0 h252]; rfl) rfl
  · refine z_aload_n d_Mod_without_255 rfl ?_
    refine z_get d_Mod_without_256 f_Mod_39 (by omega) rfl rfl ?_
    refine z_iload d_Mod_without_259 rfl ?_
    refine z_zald d_Mod_without_261 (by omega) rfl (show zin (nI b) b 16 from ⟨rfl, hb, by decide⟩) ?_
    rw [hy]
    refine z_if_eq d_Mod_without_262 290 (by decide) (fun h262 => ?_) (fun h262 => ?_)
    · refine z_iconst (v := 0) d_Mod_without_290 (by decide) ?_
      exact z_zret d_Mod_without_291 rfl (by decide) (by decide) (by decide) (by rw [zb1' h252, zb0 h262]; rfl) rfl
    · refine z_aload_n d_Mod_without_265 rfl ?_
      refine z_iload_n d_Mod_without_266 rfl ?_
      refine z_aload_n d_Mod_without_267 rfl ?_
      refine z_get d_Mod_without_268 f_Mod_36 (by omega) rfl rfl ?_
      refine z_iload_n d_Mod_without_271 rfl ?_
      refine z_lald d_Mod_without_272 (by omega) rfl (show zin (nI a) a 16 from ⟨rfl, ha, by decide⟩) ?_
      refine z_aload_n d_Mod_without_273 rfl ?_
      refine z_get d_Mod_without_274 f_Mod_36 (by omega) rfl rfl ?_
      refine z_iload d_Mod_without_277 rfl ?_
      refine z_lald d_Mod_without_279 (by omega) rfl (show zin (nI b) b 16 from ⟨rfl, hb, by decide⟩) ?_
      refine z_callV1 d_Mod_without_280 g_Mod_145 (c_Mod_compares_13 X J G 0 _ _) (by omega) rfl rfl rfl ⟨by decide, by decide, by decide, by decide⟩ rfl (Nat.le_of_ble_eq_true rfl) ?_
      refine z_if_eq d_Mod_without_283 290 (by decide) (fun h283 => ?_) (fun h283 => ?_)
      · refine z_iconst (v := 0) d_Mod_without_290 (by decide) ?_
        exact z_zret d_Mod_without_291 rfl (by decide) (by decide) (by decide) (by rw [zb1' h252, zb1' h262, zb0 h283]; rfl) rfl
      · refine z_iconst (v := 1) d_Mod_without_286 (by decide) ?_
        refine z_goto d_Mod_without_287 291 (by decide) ?_
        exact z_zret d_Mod_without_291 rfl (by decide) (by decide) (by decide) (by rw [zb1' h252, zb1' h262, zb1' h283]; rfl) rfl
set_option maxRecDepth 100000 in
set_option maxHeartbeats 4000000 in
theorem c_Mod_wcmp14 (X : zX) (J : zJT) (G : zGT) {a b : Nat} (ha : a < 16) (hb : b < 16) (x y : Bool) (hx : J 50 a = zb x) (hy : J 50 b = zb y) (q : Int32) : zK X 1 m_Mod_without [.ref 40, .int 14, .int (nI a), .int q, .int (nI b)] J G (some (.int (zb (x && (y && rCmp 14 (G 49 a) (G 49 b)))))) J G := by
  refine zC_of (by decide) (Nat.le_of_ble_eq_true rfl) ?_
  refine z_iload_n d_Mod_without_0 rfl ?_
  refine z_iconst (v := 1) d_Mod_without_1 (by decide) ?_
  refine z_icmp_ne d_Mod_without_2 22 (by decide) (fun _ => ?_) (fun h9 => absurd h9 (by decide))
  refine z_iload_n d_Mod_without_22 rfl ?_
  refine z_bipush (v := 6) d_Mod_without_23 (by decide) ?_
  refine z_icmp_ne d_Mod_without_25 39 (by decide) (fun _ => ?_) (fun h9 => absurd h9 (by decide))
  refine z_iload_n d_Mod_without_39 rfl ?_
  refine z_bipush (v := 7) d_Mod_without_40 (by decide) ?_
  refine z_icmp_ne d_Mod_without_42 55 (by decide) (fun _ => ?_) (fun h9 => absurd h9 (by decide))
  refine z_iload_n d_Mod_without_55 rfl ?_
  refine z_bipush (v := 17) d_Mod_without_56 (by decide) ?_
  refine z_icmp_ne d_Mod_without_58 106 (by decide) (fun _ => ?_) (fun h9 => absurd h9 (by decide))
  refine z_iload_n d_Mod_without_106 rfl ?_
  refine z_bipush (v := 18) d_Mod_without_107 (by decide) ?_
  refine z_icmp_ne d_Mod_without_109 196 (by decide) (fun _ => ?_) (fun h9 => absurd h9 (by decide))
  refine z_iload_n d_Mod_without_196 rfl ?_
  refine z_bipush (v := 15) d_Mod_without_197 (by decide) ?_
  refine z_icmp_eq d_Mod_without_199 208 (by decide) (fun h9 => absurd h9 (by decide)) (fun _ => ?_)
  refine z_iload_n d_Mod_without_202 rfl ?_
  refine z_bipush (v := 16) d_Mod_without_203 (by decide) ?_
  refine z_icmp_ne d_Mod_without_205 234 (by decide) (fun _ => ?_) (fun h9 => absurd h9 (by decide))
  refine z_iload_n d_Mod_without_234 rfl ?_
  refine z_bipush (v := 9) d_Mod_without_235 (by decide) ?_
  refine z_icmp_lt d_Mod_without_237 292 (by decide) (fun h9 => absurd h9 (by decide)) (fun _ => ?_)
  refine z_iload_n d_Mod_without_240 rfl ?_
  refine z_bipush (v := 15) d_Mod_without_241 (by decide) ?_
  refine z_icmp_ge d_Mod_without_243 292 (by decide) (fun h9 => absurd h9 (by decide)) (fun _ => ?_)
  refine z_aload_n d_Mod_without_246 rfl ?_
  refine z_get d_Mod_without_247 f_Mod_39 (by omega) rfl rfl ?_
  refine z_iload_n d_Mod_without_250 rfl ?_
  refine z_zald d_Mod_without_251 (by omega) rfl (show zin (nI a) a 16 from ⟨rfl, ha, by decide⟩) ?_
  rw [hx]
  refine z_if_eq d_Mod_without_252 290 (by decide) (fun h252 => ?_) (fun h252 => ?_)
  · refine z_iconst (v := 0) d_Mod_without_290 (by decide) ?_
    exact z_zret d_Mod_without_291 rfl (by decide) (by decide) (by decide) (by rw [zb0 h252]; rfl) rfl
  · refine z_aload_n d_Mod_without_255 rfl ?_
    refine z_get d_Mod_without_256 f_Mod_39 (by omega) rfl rfl ?_
    refine z_iload d_Mod_without_259 rfl ?_
    refine z_zald d_Mod_without_261 (by omega) rfl (show zin (nI b) b 16 from ⟨rfl, hb, by decide⟩) ?_
    rw [hy]
    refine z_if_eq d_Mod_without_262 290 (by decide) (fun h262 => ?_) (fun h262 => ?_)
    · refine z_iconst (v := 0) d_Mod_without_290 (by decide) ?_
      exact z_zret d_Mod_without_291 rfl (by decide) (by decide) (by decide) (by rw [zb1' h252, zb0 h262]; rfl) rfl
    · refine z_aload_n d_Mod_without_265 rfl ?_
      refine z_iload_n d_Mod_without_266 rfl ?_
      refine z_aload_n d_Mod_without_267 rfl ?_
      refine z_get d_Mod_without_268 f_Mod_36 (by omega) rfl rfl ?_
      refine z_iload_n d_Mod_without_271 rfl ?_
      refine z_lald d_Mod_without_272 (by omega) rfl (show zin (nI a) a 16 from ⟨rfl, ha, by decide⟩) ?_
      refine z_aload_n d_Mod_without_273 rfl ?_
      refine z_get d_Mod_without_274 f_Mod_36 (by omega) rfl rfl ?_
      refine z_iload d_Mod_without_277 rfl ?_
      refine z_lald d_Mod_without_279 (by omega) rfl (show zin (nI b) b 16 from ⟨rfl, hb, by decide⟩) ?_
      refine z_callV1 d_Mod_without_280 g_Mod_145 (c_Mod_compares_14 X J G 0 _ _) (by omega) rfl rfl rfl ⟨by decide, by decide, by decide, by decide⟩ rfl (Nat.le_of_ble_eq_true rfl) ?_
      refine z_if_eq d_Mod_without_283 290 (by decide) (fun h283 => ?_) (fun h283 => ?_)
      · refine z_iconst (v := 0) d_Mod_without_290 (by decide) ?_
        exact z_zret d_Mod_without_291 rfl (by decide) (by decide) (by decide) (by rw [zb1' h252, zb1' h262, zb0 h283]; rfl) rfl
      · refine z_iconst (v := 1) d_Mod_without_286 (by decide) ?_
        refine z_goto d_Mod_without_287 291 (by decide) ?_
        exact z_zret d_Mod_without_291 rfl (by decide) (by decide) (by decide) (by rw [zb1' h252, zb1' h262, zb1' h283]; rfl) rfl
set_option maxRecDepth 100000 in
set_option maxHeartbeats 4000000 in
theorem c_Mod_wgoto (X : zX) (J : zJT) (G : zGT) (p q s : Int32) : zK X 1 m_Mod_without [.ref 40, .int 19, .int p, .int q, .int s] J G (some (.int 1)) J G := by
  refine zC_of (by decide) (Nat.le_of_ble_eq_true rfl) ?_
  refine z_iload_n d_Mod_without_0 rfl ?_
  refine z_iconst (v := 1) d_Mod_without_1 (by decide) ?_
  refine z_icmp_ne d_Mod_without_2 22 (by decide) (fun _ => ?_) (fun h9 => absurd h9 (by decide))
  refine z_iload_n d_Mod_without_22 rfl ?_
  refine z_bipush (v := 6) d_Mod_without_23 (by decide) ?_
  refine z_icmp_ne d_Mod_without_25 39 (by decide) (fun _ => ?_) (fun h9 => absurd h9 (by decide))
  refine z_iload_n d_Mod_without_39 rfl ?_
  refine z_bipush (v := 7) d_Mod_without_40 (by decide) ?_
  refine z_icmp_ne d_Mod_without_42 55 (by decide) (fun _ => ?_) (fun h9 => absurd h9 (by decide))
  refine z_iload_n d_Mod_without_55 rfl ?_
  refine z_bipush (v := 17) d_Mod_without_56 (by decide) ?_
  refine z_icmp_ne d_Mod_without_58 106 (by decide) (fun _ => ?_) (fun h9 => absurd h9 (by decide))
  refine z_iload_n d_Mod_without_106 rfl ?_
  refine z_bipush (v := 18) d_Mod_without_107 (by decide) ?_
  refine z_icmp_ne d_Mod_without_109 196 (by decide) (fun _ => ?_) (fun h9 => absurd h9 (by decide))
  refine z_iload_n d_Mod_without_196 rfl ?_
  refine z_bipush (v := 15) d_Mod_without_197 (by decide) ?_
  refine z_icmp_eq d_Mod_without_199 208 (by decide) (fun h9 => absurd h9 (by decide)) (fun _ => ?_)
  refine z_iload_n d_Mod_without_202 rfl ?_
  refine z_bipush (v := 16) d_Mod_without_203 (by decide) ?_
  refine z_icmp_ne d_Mod_without_205 234 (by decide) (fun _ => ?_) (fun h9 => absurd h9 (by decide))
  refine z_iload_n d_Mod_without_234 rfl ?_
  refine z_bipush (v := 9) d_Mod_without_235 (by decide) ?_
  refine z_icmp_lt d_Mod_without_237 292 (by decide) (fun h9 => absurd h9 (by decide)) (fun _ => ?_)
  refine z_iload_n d_Mod_without_240 rfl ?_
  refine z_bipush (v := 15) d_Mod_without_241 (by decide) ?_
  refine z_icmp_ge d_Mod_without_243 292 (by decide) (fun _ => ?_) (fun h9 => absurd (by decide) h9)
  refine z_iload_n d_Mod_without_292 rfl ?_
  refine z_bipush (v := 19) d_Mod_without_293 (by decide) ?_
  refine z_icmp_ne d_Mod_without_295 302 (by decide) (fun h9 => absurd h9 (by decide)) (fun _ => ?_)
  refine z_iconst (v := 1) d_Mod_without_298 (by decide) ?_
  refine z_goto d_Mod_without_299 303 (by decide) ?_
  exact z_zret d_Mod_without_303 rfl (by decide) (by decide) (by decide) rfl rfl
set_option maxRecDepth 100000 in
set_option maxHeartbeats 4000000 in
theorem c_Mod_crew0 (X : zX) (J : zJT) (G : zGT) {c : Nat} (hc : c < 3) (q s : Int32) {n : Nat} (hn : J 40 3 = nI n) (hn9 : n ≤ 90) (h : rMin G (rT J (J 51 c)) n = none) : zK X 2 m_Mod_withCursor [.ref 40, .int 2, .int (nI c), .int q, .int s] J G (some (.int 1)) (va_up J 52 (upd (J 52) c 0)) (va_up G 53 (vp_updL (G 53) c 0)) := by
  refine zC_of (by decide) (Nat.le_of_ble_eq_true rfl) ?_
  refine z_aload_n d_Mod_withCursor_0 rfl ?_
  refine z_get d_Mod_withCursor_1 f_Mod_42 (by omega) rfl rfl ?_
  refine z_iload_n d_Mod_withCursor_4 rfl ?_
  refine z_iald d_Mod_withCursor_5 (by omega) rfl (show zin (nI c) c 3 from ⟨rfl, hc, by decide⟩) ?_
  refine z_istore (lv' := [(0, _), (1, _), (2, _), (3, _), (4, _), (5, _)]) d_Mod_withCursor_6 (by decide) rfl ?_
  refine z_iload_n d_Mod_withCursor_8 rfl ?_
  refine z_iconst (v := 2) d_Mod_withCursor_9 (by decide) ?_
  refine z_icmp_ne d_Mod_withCursor_10 39 (by decide) (fun h9 => absurd h9 (by decide)) (fun _ => ?_)
  refine z_aload_n d_Mod_withCursor_13 rfl ?_
  refine z_iload_n d_Mod_withCursor_14 rfl ?_
  refine z_aload_n d_Mod_withCursor_15 rfl ?_
  refine z_iload d_Mod_withCursor_16 rfl ?_
  refine z_callV1 d_Mod_withCursor_18 g_Mod_128 (c_Mod_firstRow X J G 0 hn hn9 (J 51 c)) (by omega) rfl rfl rfl ⟨by decide, by decide, by decide, by decide⟩ rfl (Nat.le_of_ble_eq_true rfl) ?_
  rw [h, show rI none = -1 from rfl]
  refine z_callV0 d_Mod_withCursor_21 g_Mod_131 (c_Mod_point0 X J G 0 hc) (by omega) rfl rfl rfl ⟨by decide, by decide, by decide, by decide⟩ rfl (Nat.le_of_ble_eq_true rfl) ?_
  refine z_aload_n d_Mod_withCursor_24 rfl ?_
  refine z_get d_Mod_withCursor_25 f_Mod_45 (by omega) rfl rfl ?_
  refine z_iload_n d_Mod_withCursor_28 rfl ?_
  refine z_zald d_Mod_withCursor_29 (by omega) rfl (show zin (nI c) c 3 from ⟨rfl, hc, by decide⟩) ?_
  refine z_if_ne d_Mod_withCursor_30 37 (by decide) (fun h9 => absurd h9 (fun h9 => h9 (show upd (J 52) c 0 c = 0 by simp [upd]))) (fun _ => ?_)
  refine z_iconst (v := 1) d_Mod_withCursor_33 (by decide) ?_
  refine z_goto d_Mod_withCursor_34 38 (by decide) ?_
  exact z_zret d_Mod_withCursor_38 rfl (by decide) (by decide) (by decide) rfl rfl
set_option maxRecDepth 100000 in
set_option maxHeartbeats 4000000 in
theorem c_Mod_crew1 (X : zX) (J : zJT) (G : zGT) {c : Nat} (hc : c < 3) (q s : Int32) {n : Nat} (hn : J 40 3 = nI n) (hn9 : n ≤ 90) {i : Nat} (h : rMin G (rT J (J 51 c)) n = some i) : zK X 2 m_Mod_withCursor [.ref 40, .int 2, .int (nI c), .int q, .int s] J G (some (.int 0)) (va_up J 52 (upd (J 52) c 1)) (va_up G 53 (vp_updL (G 53) c (G 43 i))) := by
  have hi9 := (rMin_lt n i h).1
  refine zC_of (by decide) (Nat.le_of_ble_eq_true rfl) ?_
  refine z_aload_n d_Mod_withCursor_0 rfl ?_
  refine z_get d_Mod_withCursor_1 f_Mod_42 (by omega) rfl rfl ?_
  refine z_iload_n d_Mod_withCursor_4 rfl ?_
  refine z_iald d_Mod_withCursor_5 (by omega) rfl (show zin (nI c) c 3 from ⟨rfl, hc, by decide⟩) ?_
  refine z_istore (lv' := [(0, _), (1, _), (2, _), (3, _), (4, _), (5, _)]) d_Mod_withCursor_6 (by decide) rfl ?_
  refine z_iload_n d_Mod_withCursor_8 rfl ?_
  refine z_iconst (v := 2) d_Mod_withCursor_9 (by decide) ?_
  refine z_icmp_ne d_Mod_withCursor_10 39 (by decide) (fun h9 => absurd h9 (by decide)) (fun _ => ?_)
  refine z_aload_n d_Mod_withCursor_13 rfl ?_
  refine z_iload_n d_Mod_withCursor_14 rfl ?_
  refine z_aload_n d_Mod_withCursor_15 rfl ?_
  refine z_iload d_Mod_withCursor_16 rfl ?_
  refine z_callV1 d_Mod_withCursor_18 g_Mod_128 (c_Mod_firstRow X J G 0 hn hn9 (J 51 c)) (by omega) rfl rfl rfl ⟨by decide, by decide, by decide, by decide⟩ rfl (Nat.le_of_ble_eq_true rfl) ?_
  rw [h, show rI (some i) = nI i from rfl]
  refine z_callV0 d_Mod_withCursor_21 g_Mod_131 (c_Mod_point1 X J G 0 hc (show i < 90 by omega)) (by omega) rfl rfl rfl ⟨by decide, by decide, by decide, by decide⟩ rfl (Nat.le_of_ble_eq_true rfl) ?_
  refine z_aload_n d_Mod_withCursor_24 rfl ?_
  refine z_get d_Mod_withCursor_25 f_Mod_45 (by omega) rfl rfl ?_
  refine z_iload_n d_Mod_withCursor_28 rfl ?_
  refine z_zald d_Mod_withCursor_29 (by omega) rfl (show zin (nI c) c 3 from ⟨rfl, hc, by decide⟩) ?_
  refine z_if_ne d_Mod_withCursor_30 37 (by decide) (fun _ => ?_) (fun h9 => absurd h9 (show ¬ upd (J 52) c 1 c = 0 by simp [upd]))
  refine z_iconst (v := 0) d_Mod_withCursor_37 (by decide) ?_
  exact z_zret d_Mod_withCursor_38 rfl (by decide) (by decide) (by decide) rfl rfl
set_option maxRecDepth 100000 in
set_option maxHeartbeats 4000000 in
theorem c_Mod_cnxtU (X : zX) (J : zJT) (G : zGT) {c : Nat} (hc : c < 3) (q s : Int32) (h : J 52 c = 0) : zK X 2 m_Mod_withCursor [.ref 40, .int 3, .int (nI c), .int q, .int s] J G (some (.int 0)) J G := by
  refine zC_of (by decide) (Nat.le_of_ble_eq_true rfl) ?_
  refine z_aload_n d_Mod_withCursor_0 rfl ?_
  refine z_get d_Mod_withCursor_1 f_Mod_42 (by omega) rfl rfl ?_
  refine z_iload_n d_Mod_withCursor_4 rfl ?_
  refine z_iald d_Mod_withCursor_5 (by omega) rfl (show zin (nI c) c 3 from ⟨rfl, hc, by decide⟩) ?_
  refine z_istore (lv' := [(0, _), (1, _), (2, _), (3, _), (4, _), (5, _)]) d_Mod_withCursor_6 (by decide) rfl ?_
  refine z_iload_n d_Mod_withCursor_8 rfl ?_
  refine z_iconst (v := 2) d_Mod_withCursor_9 (by decide) ?_
  refine z_icmp_ne d_Mod_withCursor_10 39 (by decide) (fun _ => ?_) (fun h9 => absurd h9 (by decide))
  refine z_iload_n d_Mod_withCursor_39 rfl ?_
  refine z_iconst (v := 3) d_Mod_withCursor_40 (by decide) ?_
  refine z_icmp_ne d_Mod_withCursor_41 95 (by decide) (fun h9 => absurd h9 (by decide)) (fun _ => ?_)
  refine z_aload_n d_Mod_withCursor_44 rfl ?_
  refine z_get d_Mod_withCursor_45 f_Mod_45 (by omega) rfl rfl ?_
  refine z_iload_n d_Mod_withCursor_48 rfl ?_
  refine z_zald d_Mod_withCursor_49 (by omega) rfl (show zin (nI c) c 3 from ⟨rfl, hc, by decide⟩) ?_
  refine z_if_eq d_Mod_withCursor_50 69 (by decide) (fun _ => ?_) (fun h9 => absurd h h9)
  refine z_iconst (v := (-1)) d_Mod_withCursor_69 (by decide) ?_
  refine z_istore (lv' := [(0, _), (1, _), (2, _), (3, _), (4, _), (5, _), (6, _)]) d_Mod_withCursor_70 (by decide) rfl ?_
  refine z_iload d_Mod_withCursor_72 rfl ?_
  refine z_if_lt d_Mod_withCursor_74 84 (by decide) (fun _ => ?_) (fun h9 => absurd (by decide) h9)
  refine z_iload d_Mod_withCursor_84 rfl ?_
  refine z_if_lt d_Mod_withCursor_86 93 (by decide) (fun _ => ?_) (fun h9 => absurd (by decide) h9)
  refine z_iconst (v := 0) d_Mod_withCursor_93 (by decide) ?_
  exact z_zret d_Mod_withCursor_94 rfl (by decide) (by decide) (by decide) rfl rfl
set_option maxRecDepth 100000 in
set_option maxHeartbeats 4000000 in
theorem c_Mod_cnxt0 (X : zX) (J : zJT) (G : zGT) {c : Nat} (hc : c < 3) (q s : Int32) (hk : ¬ J 52 c = 0) {n : Nat} (hn : J 40 3 = nI n) (hn9 : n ≤ 90) (h : rMin G (rP J G (J 51 c) (G 53 c) true) n = none) : zK X 2 m_Mod_withCursor [.ref 40, .int 3, .int (nI c), .int q, .int s] J G (some (.int 0)) J G := by
  refine zC_of (by decide) (Nat.le_of_ble_eq_true rfl) ?_
  refine z_aload_n d_Mod_withCursor_0 rfl ?_
  refine z_get d_Mod_withCursor_1 f_Mod_42 (by omega) rfl rfl ?_
  refine z_iload_n d_Mod_withCursor_4 rfl ?_
  refine z_iald d_Mod_withCursor_5 (by omega) rfl (show zin (nI c) c 3 from ⟨rfl, hc, by decide⟩) ?_
  refine z_istore (lv' := [(0, _), (1, _), (2, _), (3, _), (4, _), (5, _)]) d_Mod_withCursor_6 (by decide) rfl ?_
  refine z_iload_n d_Mod_withCursor_8 rfl ?_
  refine z_iconst (v := 2) d_Mod_withCursor_9 (by decide) ?_
  refine z_icmp_ne d_Mod_withCursor_10 39 (by decide) (fun _ => ?_) (fun h9 => absurd h9 (by decide))
  refine z_iload_n d_Mod_withCursor_39 rfl ?_
  refine z_iconst (v := 3) d_Mod_withCursor_40 (by decide) ?_
  refine z_icmp_ne d_Mod_withCursor_41 95 (by decide) (fun h9 => absurd h9 (by decide)) (fun _ => ?_)
  refine z_aload_n d_Mod_withCursor_44 rfl ?_
  refine z_get d_Mod_withCursor_45 f_Mod_45 (by omega) rfl rfl ?_
  refine z_iload_n d_Mod_withCursor_48 rfl ?_
  refine z_zald d_Mod_withCursor_49 (by omega) rfl (show zin (nI c) c 3 from ⟨rfl, hc, by decide⟩) ?_
  refine z_if_eq d_Mod_withCursor_50 69 (by decide) (fun h9 => absurd h9 hk) (fun _ => ?_)
  refine z_aload_n d_Mod_withCursor_53 rfl ?_
  refine z_iload d_Mod_withCursor_54 rfl ?_
  refine z_aload_n d_Mod_withCursor_56 rfl ?_
  refine z_get d_Mod_withCursor_57 f_Mod_48 (by omega) rfl rfl ?_
  refine z_iload_n d_Mod_withCursor_60 rfl ?_
  refine z_lald d_Mod_withCursor_61 (by omega) rfl (show zin (nI c) c 3 from ⟨rfl, hc, by decide⟩) ?_
  refine z_iconst (v := 1) d_Mod_withCursor_62 (by decide) ?_
  refine z_callV1 d_Mod_withCursor_63 g_Mod_98 (c_Mod_rowFrom X J G 0 hn hn9 (J 51 c) (G 53 c) true) (by omega) rfl rfl rfl ⟨by decide, by decide, by decide, by decide⟩ rfl (Nat.le_of_ble_eq_true rfl) ?_
  rw [h, show rI none = -1 from rfl]
  refine z_goto d_Mod_withCursor_66 70 (by decide) ?_
  refine z_istore (lv' := [(0, _), (1, _), (2, _), (3, _), (4, _), (5, _), (6, _)]) d_Mod_withCursor_70 (by decide) rfl ?_
  refine z_iload d_Mod_withCursor_72 rfl ?_
  refine z_if_lt d_Mod_withCursor_74 84 (by decide) (fun _ => ?_) (fun h9 => absurd (by decide) h9)
  refine z_iload d_Mod_withCursor_84 rfl ?_
  refine z_if_lt d_Mod_withCursor_86 93 (by decide) (fun _ => ?_) (fun h9 => absurd (by decide) h9)
  refine z_iconst (v := 0) d_Mod_withCursor_93 (by decide) ?_
  exact z_zret d_Mod_withCursor_94 rfl (by decide) (by decide) (by decide) rfl rfl
set_option maxRecDepth 100000 in
set_option maxHeartbeats 4000000 in
theorem c_Mod_cnxt1 (X : zX) (J : zJT) (G : zGT) {c : Nat} (hc : c < 3) (q s : Int32) (hk : ¬ J 52 c = 0) {n : Nat} (hn : J 40 3 = nI n) (hn9 : n ≤ 90) {i : Nat} (h : rMin G (rP J G (J 51 c) (G 53 c) true) n = some i) : zK X 2 m_Mod_withCursor [.ref 40, .int 3, .int (nI c), .int q, .int s] J G (some (.int 1)) (va_up J 52 (upd (J 52) c 1)) (va_up G 53 (vp_updL (G 53) c (G 43 i))) := by
  have hi9 := (rMin_lt n i h).1
  refine zC_of (by decide) (Nat.le_of_ble_eq_true rfl) ?_
  refine z_aload_n d_Mod_withCursor_0 rfl ?_
  refine z_get d_Mod_withCursor_1 f_Mod_42 (by omega) rfl rfl ?_
  refine z_iload_n d_Mod_withCursor_4 rfl ?_
  refine z_iald d_Mod_withCursor_5 (by omega) rfl (show zin (nI c) c 3 from ⟨rfl, hc, by decide⟩) ?_
  refine z_istore (lv' := [(0, _), (1, _), (2, _), (3, _), (4, _), (5, _)]) d_Mod_withCursor_6 (by decide) rfl ?_
  refine z_iload_n d_Mod_withCursor_8 rfl ?_
  refine z_iconst (v := 2) d_Mod_withCursor_9 (by decide) ?_
  refine z_icmp_ne d_Mod_withCursor_10 39 (by decide) (fun _ => ?_) (fun h9 => absurd h9 (by decide))
  refine z_iload_n d_Mod_withCursor_39 rfl ?_
  refine z_iconst (v := 3) d_Mod_withCursor_40 (by decide) ?_
  refine z_icmp_ne d_Mod_withCursor_41 95 (by decide) (fun h9 => absurd h9 (by decide)) (fun _ => ?_)
  refine z_aload_n d_Mod_withCursor_44 rfl ?_
  refine z_get d_Mod_withCursor_45 f_Mod_45 (by omega) rfl rfl ?_
  refine z_iload_n d_Mod_withCursor_48 rfl ?_
  refine z_zald d_Mod_withCursor_49 (by omega) rfl (show zin (nI c) c 3 from ⟨rfl, hc, by decide⟩) ?_
  refine z_if_eq d_Mod_withCursor_50 69 (by decide) (fun h9 => absurd h9 hk) (fun _ => ?_)
  refine z_aload_n d_Mod_withCursor_53 rfl ?_
  refine z_iload d_Mod_withCursor_54 rfl ?_
  refine z_aload_n d_Mod_withCursor_56 rfl ?_
  refine z_get d_Mod_withCursor_57 f_Mod_48 (by omega) rfl rfl ?_
  refine z_iload_n d_Mod_withCursor_60 rfl ?_
  refine z_lald d_Mod_withCursor_61 (by omega) rfl (show zin (nI c) c 3 from ⟨rfl, hc, by decide⟩) ?_
  refine z_iconst (v := 1) d_Mod_withCursor_62 (by decide) ?_
  refine z_callV1 d_Mod_withCursor_63 g_Mod_98 (c_Mod_rowFrom X J G 0 hn hn9 (J 51 c) (G 53 c) true) (by omega) rfl rfl rfl ⟨by decide, by decide, by decide, by decide⟩ rfl (Nat.le_of_ble_eq_true rfl) ?_
  rw [h, show rI (some i) = nI i from rfl]
  refine z_goto d_Mod_withCursor_66 70 (by decide) ?_
  refine z_istore (lv' := [(0, _), (1, _), (2, _), (3, _), (4, _), (5, _), (6, _)]) d_Mod_withCursor_70 (by decide) rfl ?_
  refine z_iload d_Mod_withCursor_72 rfl ?_
  refine z_if_lt d_Mod_withCursor_74 84 (by decide) (fun h9 => absurd h9 (nI_pos (by omega))) (fun _ => ?_)
  refine z_aload_n d_Mod_withCursor_77 rfl ?_
  refine z_iload_n d_Mod_withCursor_78 rfl ?_
  refine z_iload d_Mod_withCursor_79 rfl ?_
  refine z_callV0 d_Mod_withCursor_81 g_Mod_131 (c_Mod_point1 X J G 0 hc (show i < 90 by omega)) (by omega) rfl rfl rfl ⟨by decide, by decide, by decide, by decide⟩ rfl (Nat.le_of_ble_eq_true rfl) ?_
  refine z_iload d_Mod_withCursor_84 rfl ?_
  refine z_if_lt d_Mod_withCursor_86 93 (by decide) (fun h9 => absurd h9 (nI_pos (by omega))) (fun _ => ?_)
  refine z_iconst (v := 1) d_Mod_withCursor_89 (by decide) ?_
  refine z_goto d_Mod_withCursor_90 94 (by decide) ?_
  exact z_zret d_Mod_withCursor_94 rfl (by decide) (by decide) (by decide) rfl rfl
set_option maxRecDepth 100000 in
set_option maxHeartbeats 4000000 in
theorem c_Mod_cskN (X : zX) (J : zJT) (G : zGT) {c : Nat} (hc : c < 3) {a : Nat} (ha : a < 16) (q : Int32) (hk : J 50 a = 0) : zK X 2 m_Mod_withCursor [.ref 40, .int 8, .int (nI c), .int q, .int (nI a)] J G (some (.int 1)) (va_up J 52 (upd (J 52) c 0)) (va_up G 53 (vp_updL (G 53) c 0)) := by
  refine zC_of (by decide) (Nat.le_of_ble_eq_true rfl) ?_
  refine z_aload_n d_Mod_withCursor_0 rfl ?_
  refine z_get d_Mod_withCursor_1 f_Mod_42 (by omega) rfl rfl ?_
  refine z_iload_n d_Mod_withCursor_4 rfl ?_
  refine z_iald d_Mod_withCursor_5 (by omega) rfl (show zin (nI c) c 3 from ⟨rfl, hc, by decide⟩) ?_
  refine z_istore (lv' := [(0, _), (1, _), (2, _), (3, _), (4, _), (5, _)]) d_Mod_withCursor_6 (by decide) rfl ?_
  refine z_iload_n d_Mod_withCursor_8 rfl ?_
  refine z_iconst (v := 2) d_Mod_withCursor_9 (by decide) ?_
  refine z_icmp_ne d_Mod_withCursor_10 39 (by decide) (fun _ => ?_) (fun h9 => absurd h9 (by decide))
  refine z_iload_n d_Mod_withCursor_39 rfl ?_
  refine z_iconst (v := 3) d_Mod_withCursor_40 (by decide) ?_
  refine z_icmp_ne d_Mod_withCursor_41 95 (by decide) (fun _ => ?_) (fun h9 => absurd h9 (by decide))
  refine z_iload_n d_Mod_withCursor_95 rfl ?_
  refine z_bipush (v := 8) d_Mod_withCursor_96 (by decide) ?_
  refine z_icmp_ne d_Mod_withCursor_98 149 (by decide) (fun h9 => absurd h9 (by decide)) (fun _ => ?_)
  refine z_aload_n d_Mod_withCursor_101 rfl ?_
  refine z_iload_n d_Mod_withCursor_102 rfl ?_
  refine z_aload_n d_Mod_withCursor_103 rfl ?_
  refine z_get d_Mod_withCursor_104 f_Mod_39 (by omega) rfl rfl ?_
  refine z_iload d_Mod_withCursor_107 rfl ?_
  refine z_zald d_Mod_withCursor_109 (by omega) rfl (show zin (nI a) a 16 from ⟨rfl, ha, by decide⟩) ?_
  refine z_if_eq d_Mod_withCursor_110 130 (by decide) (fun _ => ?_) (fun h9 => absurd hk h9)
  refine z_iconst (v := (-1)) d_Mod_withCursor_130 (by decide) ?_
  refine z_callV0 d_Mod_withCursor_131 g_Mod_131 (c_Mod_point0 X J G 0 hc) (by omega) rfl rfl rfl ⟨by decide, by decide, by decide, by decide⟩ rfl (Nat.le_of_ble_eq_true rfl) ?_
  refine z_aload_n d_Mod_withCursor_134 rfl ?_
  refine z_get d_Mod_withCursor_135 f_Mod_45 (by omega) rfl rfl ?_
  refine z_iload_n d_Mod_withCursor_138 rfl ?_
  refine z_zald d_Mod_withCursor_139 (by omega) rfl (show zin (nI c) c 3 from ⟨rfl, hc, by decide⟩) ?_
  refine z_if_ne d_Mod_withCursor_140 147 (by decide) (fun h9 => absurd h9 (fun h9 => h9 (show upd (J 52) c 0 c = 0 by simp [upd]))) (fun _ => ?_)
  refine z_iconst (v := 1) d_Mod_withCursor_143 (by decide) ?_
  refine z_goto d_Mod_withCursor_144 148 (by decide) ?_
  exact z_zret d_Mod_withCursor_148 rfl (by decide) (by decide) (by decide) rfl rfl
set_option maxRecDepth 100000 in
set_option maxHeartbeats 4000000 in
theorem c_Mod_csk0 (X : zX) (J : zJT) (G : zGT) {c : Nat} (hc : c < 3) {a : Nat} (ha : a < 16) (q : Int32) (hk : ¬ J 50 a = 0) {n : Nat} (hn : J 40 3 = nI n) (hn9 : n ≤ 90) (h : rMin G (rP J G (J 51 c) (G 49 a) false) n = none) : zK X 2 m_Mod_withCursor [.ref 40, .int 8, .int (nI c), .int q, .int (nI a)] J G (some (.int 1)) (va_up J 52 (upd (J 52) c 0)) (va_up G 53 (vp_updL (G 53) c 0)) := by
  refine zC_of (by decide) (Nat.le_of_ble_eq_true rfl) ?_
  refine z_aload_n d_Mod_withCursor_0 rfl ?_
  refine z_get d_Mod_withCursor_1 f_Mod_42 (by omega) rfl rfl ?_
  refine z_iload_n d_Mod_withCursor_4 rfl ?_
  refine z_iald d_Mod_withCursor_5 (by omega) rfl (show zin (nI c) c 3 from ⟨rfl, hc, by decide⟩) ?_
  refine z_istore (lv' := [(0, _), (1, _), (2, _), (3, _), (4, _), (5, _)]) d_Mod_withCursor_6 (by decide) rfl ?_
  refine z_iload_n d_Mod_withCursor_8 rfl ?_
  refine z_iconst (v := 2) d_Mod_withCursor_9 (by decide) ?_
  refine z_icmp_ne d_Mod_withCursor_10 39 (by decide) (fun _ => ?_) (fun h9 => absurd h9 (by decide))
  refine z_iload_n d_Mod_withCursor_39 rfl ?_
  refine z_iconst (v := 3) d_Mod_withCursor_40 (by decide) ?_
  refine z_icmp_ne d_Mod_withCursor_41 95 (by decide) (fun _ => ?_) (fun h9 => absurd h9 (by decide))
  refine z_iload_n d_Mod_withCursor_95 rfl ?_
  refine z_bipush (v := 8) d_Mod_withCursor_96 (by decide) ?_
  refine z_icmp_ne d_Mod_withCursor_98 149 (by decide) (fun h9 => absurd h9 (by decide)) (fun _ => ?_)
  refine z_aload_n d_Mod_withCursor_101 rfl ?_
  refine z_iload_n d_Mod_withCursor_102 rfl ?_
  refine z_aload_n d_Mod_withCursor_103 rfl ?_
  refine z_get d_Mod_withCursor_104 f_Mod_39 (by omega) rfl rfl ?_
  refine z_iload d_Mod_withCursor_107 rfl ?_
  refine z_zald d_Mod_withCursor_109 (by omega) rfl (show zin (nI a) a 16 from ⟨rfl, ha, by decide⟩) ?_
  refine z_if_eq d_Mod_withCursor_110 130 (by decide) (fun h9 => absurd h9 hk) (fun _ => ?_)
  refine z_aload_n d_Mod_withCursor_113 rfl ?_
  refine z_iload d_Mod_withCursor_114 rfl ?_
  refine z_aload_n d_Mod_withCursor_116 rfl ?_
  refine z_get d_Mod_withCursor_117 f_Mod_36 (by omega) rfl rfl ?_
  refine z_iload d_Mod_withCursor_120 rfl ?_
  refine z_lald d_Mod_withCursor_122 (by omega) rfl (show zin (nI a) a 16 from ⟨rfl, ha, by decide⟩) ?_
  refine z_iconst (v := 0) d_Mod_withCursor_123 (by decide) ?_
  refine z_callV1 d_Mod_withCursor_124 g_Mod_98 (c_Mod_rowFrom X J G 0 hn hn9 (J 51 c) (G 49 a) false) (by omega) rfl rfl rfl ⟨by decide, by decide, by decide, by decide⟩ rfl (Nat.le_of_ble_eq_true rfl) ?_
  rw [h, show rI none = -1 from rfl]
  refine z_goto d_Mod_withCursor_127 131 (by decide) ?_
  refine z_callV0 d_Mod_withCursor_131 g_Mod_131 (c_Mod_point0 X J G 0 hc) (by omega) rfl rfl rfl ⟨by decide, by decide, by decide, by decide⟩ rfl (Nat.le_of_ble_eq_true rfl) ?_
  refine z_aload_n d_Mod_withCursor_134 rfl ?_
  refine z_get d_Mod_withCursor_135 f_Mod_45 (by omega) rfl rfl ?_
  refine z_iload_n d_Mod_withCursor_138 rfl ?_
  refine z_zald d_Mod_withCursor_139 (by omega) rfl (show zin (nI c) c 3 from ⟨rfl, hc, by decide⟩) ?_
  refine z_if_ne d_Mod_withCursor_140 147 (by decide) (fun h9 => absurd h9 (fun h9 => h9 (show upd (J 52) c 0 c = 0 by simp [upd]))) (fun _ => ?_)
  refine z_iconst (v := 1) d_Mod_withCursor_143 (by decide) ?_
  refine z_goto d_Mod_withCursor_144 148 (by decide) ?_
  exact z_zret d_Mod_withCursor_148 rfl (by decide) (by decide) (by decide) rfl rfl
set_option maxRecDepth 100000 in
set_option maxHeartbeats 4000000 in
theorem c_Mod_csk1 (X : zX) (J : zJT) (G : zGT) {c : Nat} (hc : c < 3) {a : Nat} (ha : a < 16) (q : Int32) (hk : ¬ J 50 a = 0) {n : Nat} (hn : J 40 3 = nI n) (hn9 : n ≤ 90) {i : Nat} (h : rMin G (rP J G (J 51 c) (G 49 a) false) n = some i) : zK X 2 m_Mod_withCursor [.ref 40, .int 8, .int (nI c), .int q, .int (nI a)] J G (some (.int 0)) (va_up J 52 (upd (J 52) c 1)) (va_up G 53 (vp_updL (G 53) c (G 43 i))) := by
  have hi9 := (rMin_lt n i h).1
  refine zC_of (by decide) (Nat.le_of_ble_eq_true rfl) ?_
  refine z_aload_n d_Mod_withCursor_0 rfl ?_
  refine z_get d_Mod_withCursor_1 f_Mod_42 (by omega) rfl rfl ?_
  refine z_iload_n d_Mod_withCursor_4 rfl ?_
  refine z_iald d_Mod_withCursor_5 (by omega) rfl (show zin (nI c) c 3 from ⟨rfl, hc, by decide⟩) ?_
  refine z_istore (lv' := [(0, _), (1, _), (2, _), (3, _), (4, _), (5, _)]) d_Mod_withCursor_6 (by decide) rfl ?_
  refine z_iload_n d_Mod_withCursor_8 rfl ?_
  refine z_iconst (v := 2) d_Mod_withCursor_9 (by decide) ?_
  refine z_icmp_ne d_Mod_withCursor_10 39 (by decide) (fun _ => ?_) (fun h9 => absurd h9 (by decide))
  refine z_iload_n d_Mod_withCursor_39 rfl ?_
  refine z_iconst (v := 3) d_Mod_withCursor_40 (by decide) ?_
  refine z_icmp_ne d_Mod_withCursor_41 95 (by decide) (fun _ => ?_) (fun h9 => absurd h9 (by decide))
  refine z_iload_n d_Mod_withCursor_95 rfl ?_
  refine z_bipush (v := 8) d_Mod_withCursor_96 (by decide) ?_
  refine z_icmp_ne d_Mod_withCursor_98 149 (by decide) (fun h9 => absurd h9 (by decide)) (fun _ => ?_)
  refine z_aload_n d_Mod_withCursor_101 rfl ?_
  refine z_iload_n d_Mod_withCursor_102 rfl ?_
  refine z_aload_n d_Mod_withCursor_103 rfl ?_
  refine z_get d_Mod_withCursor_104 f_Mod_39 (by omega) rfl rfl ?_
  refine z_iload d_Mod_withCursor_107 rfl ?_
  refine z_zald d_Mod_withCursor_109 (by omega) rfl (show zin (nI a) a 16 from ⟨rfl, ha, by decide⟩) ?_
  refine z_if_eq d_Mod_withCursor_110 130 (by decide) (fun h9 => absurd h9 hk) (fun _ => ?_)
  refine z_aload_n d_Mod_withCursor_113 rfl ?_
  refine z_iload d_Mod_withCursor_114 rfl ?_
  refine z_aload_n d_Mod_withCursor_116 rfl ?_
  refine z_get d_Mod_withCursor_117 f_Mod_36 (by omega) rfl rfl ?_
  refine z_iload d_Mod_withCursor_120 rfl ?_
  refine z_lald d_Mod_withCursor_122 (by omega) rfl (show zin (nI a) a 16 from ⟨rfl, ha, by decide⟩) ?_
  refine z_iconst (v := 0) d_Mod_withCursor_123 (by decide) ?_
  refine z_callV1 d_Mod_withCursor_124 g_Mod_98 (c_Mod_rowFrom X J G 0 hn hn9 (J 51 c) (G 49 a) false) (by omega) rfl rfl rfl ⟨by decide, by decide, by decide, by decide⟩ rfl (Nat.le_of_ble_eq_true rfl) ?_
  rw [h, show rI (some i) = nI i from rfl]
  refine z_goto d_Mod_withCursor_127 131 (by decide) ?_
  refine z_callV0 d_Mod_withCursor_131 g_Mod_131 (c_Mod_point1 X J G 0 hc (show i < 90 by omega)) (by omega) rfl rfl rfl ⟨by decide, by decide, by decide, by decide⟩ rfl (Nat.le_of_ble_eq_true rfl) ?_
  refine z_aload_n d_Mod_withCursor_134 rfl ?_
  refine z_get d_Mod_withCursor_135 f_Mod_45 (by omega) rfl rfl ?_
  refine z_iload_n d_Mod_withCursor_138 rfl ?_
  refine z_zald d_Mod_withCursor_139 (by omega) rfl (show zin (nI c) c 3 from ⟨rfl, hc, by decide⟩) ?_
  refine z_if_ne d_Mod_withCursor_140 147 (by decide) (fun _ => ?_) (fun h9 => absurd h9 (show ¬ upd (J 52) c 1 c = 0 by simp [upd]))
  refine z_iconst (v := 0) d_Mod_withCursor_147 (by decide) ?_
  exact z_zret d_Mod_withCursor_148 rfl (by decide) (by decide) (by decide) rfl rfl
set_option maxRecDepth 100000 in
set_option maxHeartbeats 4000000 in
theorem c_Mod_cdel0 (X : zX) (J : zJT) (G : zGT) {c : Nat} (hc : c < 3) (q s : Int32) (hr : zK X 1 m_Mod_rowAt [.ref 40, .int (nI c)] J G (some (.int (-1))) J G) : zK X 2 m_Mod_withCursor [.ref 40, .int 21, .int (nI c), .int q, .int s] J G (some (.int 0)) J G := by
  refine zC_of (by decide) (Nat.le_of_ble_eq_true rfl) ?_
  refine z_aload_n d_Mod_withCursor_0 rfl ?_
  refine z_get d_Mod_withCursor_1 f_Mod_42 (by omega) rfl rfl ?_
  refine z_iload_n d_Mod_withCursor_4 rfl ?_
  refine z_iald d_Mod_withCursor_5 (by omega) rfl (show zin (nI c) c 3 from ⟨rfl, hc, by decide⟩) ?_
  refine z_istore (lv' := [(0, _), (1, _), (2, _), (3, _), (4, _), (5, _)]) d_Mod_withCursor_6 (by decide) rfl ?_
  refine z_iload_n d_Mod_withCursor_8 rfl ?_
  refine z_iconst (v := 2) d_Mod_withCursor_9 (by decide) ?_
  refine z_icmp_ne d_Mod_withCursor_10 39 (by decide) (fun _ => ?_) (fun h9 => absurd h9 (by decide))
  refine z_iload_n d_Mod_withCursor_39 rfl ?_
  refine z_iconst (v := 3) d_Mod_withCursor_40 (by decide) ?_
  refine z_icmp_ne d_Mod_withCursor_41 95 (by decide) (fun _ => ?_) (fun h9 => absurd h9 (by decide))
  refine z_iload_n d_Mod_withCursor_95 rfl ?_
  refine z_bipush (v := 8) d_Mod_withCursor_96 (by decide) ?_
  refine z_icmp_ne d_Mod_withCursor_98 149 (by decide) (fun _ => ?_) (fun h9 => absurd h9 (by decide))
  refine z_iload_n d_Mod_withCursor_149 rfl ?_
  refine z_bipush (v := 20) d_Mod_withCursor_150 (by decide) ?_
  refine z_icmp_ne d_Mod_withCursor_152 264 (by decide) (fun _ => ?_) (fun h9 => absurd h9 (by decide))
  refine z_aload_n d_Mod_withCursor_264 rfl ?_
  refine z_iload_n d_Mod_withCursor_265 rfl ?_
  refine z_callV1 d_Mod_withCursor_266 g_Mod_135 (hr) (by omega) rfl rfl rfl ⟨by decide, by decide, by decide, by decide⟩ rfl (Nat.le_of_ble_eq_true rfl) ?_
  refine z_istore (lv' := [(0, _), (1, _), (2, _), (3, _), (4, _), (5, _), (6, _)]) d_Mod_withCursor_269 (by decide) rfl ?_
  refine z_iload_n d_Mod_withCursor_271 rfl ?_
  refine z_iconst (v := 4) d_Mod_withCursor_272 (by decide) ?_
  refine z_icmp_ne d_Mod_withCursor_273 361 (by decide) (fun _ => ?_) (fun h9 => absurd h9 (by decide))
  refine z_iload_n d_Mod_withCursor_361 rfl ?_
  refine z_iconst (v := 5) d_Mod_withCursor_362 (by decide) ?_
  refine z_icmp_ne d_Mod_withCursor_363 390 (by decide) (fun _ => ?_) (fun h9 => absurd h9 (by decide))
  refine z_iload d_Mod_withCursor_390 rfl ?_
  refine z_if_lt d_Mod_withCursor_392 401 (by decide) (fun _ => ?_) (fun h9 => absurd (by decide) h9)
  refine z_iconst (v := 0) d_Mod_withCursor_401 (by decide) ?_
  exact z_zret d_Mod_withCursor_402 rfl (by decide) (by decide) (by decide) rfl rfl
set_option maxRecDepth 100000 in
set_option maxHeartbeats 4000000 in
theorem c_Mod_cdel1 (X : zX) (J : zJT) (G : zGT) {c : Nat} (hc : c < 3) (q s : Int32) {m r : Nat} (hr : zK X 1 m_Mod_rowAt [.ref 40, .int (nI c)] J G (some (.int (nI r))) J G) (hm : J 40 3 = nI (m + 1)) (hm9 : m < 90) (hr9 : r < 90) (hz : ∀ i, vp_nar .boolean (J 45 i) = J 45 i) : zK X 2 m_Mod_withCursor [.ref 40, .int 21, .int (nI c), .int q, .int s] J G (some (.int 0)) (rTJ J m r 4) (rTG G m r 4) := by
  refine zC_of (by decide) (Nat.le_of_ble_eq_true rfl) ?_
  refine z_aload_n d_Mod_withCursor_0 rfl ?_
  refine z_get d_Mod_withCursor_1 f_Mod_42 (by omega) rfl rfl ?_
  refine z_iload_n d_Mod_withCursor_4 rfl ?_
  refine z_iald d_Mod_withCursor_5 (by omega) rfl (show zin (nI c) c 3 from ⟨rfl, hc, by decide⟩) ?_
  refine z_istore (lv' := [(0, _), (1, _), (2, _), (3, _), (4, _), (5, _)]) d_Mod_withCursor_6 (by decide) rfl ?_
  refine z_iload_n d_Mod_withCursor_8 rfl ?_
  refine z_iconst (v := 2) d_Mod_withCursor_9 (by decide) ?_
  refine z_icmp_ne d_Mod_withCursor_10 39 (by decide) (fun _ => ?_) (fun h9 => absurd h9 (by decide))
  refine z_iload_n d_Mod_withCursor_39 rfl ?_
  refine z_iconst (v := 3) d_Mod_withCursor_40 (by decide) ?_
  refine z_icmp_ne d_Mod_withCursor_41 95 (by decide) (fun _ => ?_) (fun h9 => absurd h9 (by decide))
  refine z_iload_n d_Mod_withCursor_95 rfl ?_
  refine z_bipush (v := 8) d_Mod_withCursor_96 (by decide) ?_
  refine z_icmp_ne d_Mod_withCursor_98 149 (by decide) (fun _ => ?_) (fun h9 => absurd h9 (by decide))
  refine z_iload_n d_Mod_withCursor_149 rfl ?_
  refine z_bipush (v := 20) d_Mod_withCursor_150 (by decide) ?_
  refine z_icmp_ne d_Mod_withCursor_152 264 (by decide) (fun _ => ?_) (fun h9 => absurd h9 (by decide))
  refine z_aload_n d_Mod_withCursor_264 rfl ?_
  refine z_iload_n d_Mod_withCursor_265 rfl ?_
  refine z_callV1 d_Mod_withCursor_266 g_Mod_135 (hr) (by omega) rfl rfl rfl ⟨by decide, by decide, by decide, by decide⟩ rfl (Nat.le_of_ble_eq_true rfl) ?_
  refine z_istore (lv' := [(0, _), (1, _), (2, _), (3, _), (4, _), (5, _), (6, _)]) d_Mod_withCursor_269 (by decide) rfl ?_
  refine z_iload_n d_Mod_withCursor_271 rfl ?_
  refine z_iconst (v := 4) d_Mod_withCursor_272 (by decide) ?_
  refine z_icmp_ne d_Mod_withCursor_273 361 (by decide) (fun _ => ?_) (fun h9 => absurd h9 (by decide))
  refine z_iload_n d_Mod_withCursor_361 rfl ?_
  refine z_iconst (v := 5) d_Mod_withCursor_362 (by decide) ?_
  refine z_icmp_ne d_Mod_withCursor_363 390 (by decide) (fun _ => ?_) (fun h9 => absurd h9 (by decide))
  refine z_iload d_Mod_withCursor_390 rfl ?_
  refine z_if_lt d_Mod_withCursor_392 401 (by decide) (fun h9 => absurd h9 (nI_pos (by omega))) (fun _ => ?_)
  refine z_aload_n d_Mod_withCursor_395 rfl ?_
  refine z_iload d_Mod_withCursor_396 rfl ?_
  refine z_callV0 d_Mod_withCursor_398 g_Mod_94 (c_Mod_take X J G 0 hm hm9 hr9 hz) (by omega) rfl rfl rfl ⟨by decide, by decide, by decide, by decide⟩ rfl (Nat.le_of_ble_eq_true rfl) ?_
  refine z_iconst (v := 0) d_Mod_withCursor_401 (by decide) ?_
  exact z_zret d_Mod_withCursor_402 rfl (by decide) (by decide) (by decide) rfl rfl
set_option maxRecDepth 100000 in
set_option maxHeartbeats 4000000 in
theorem c_Mod_crow0 (X : zX) (J : zJT) (G : zGT) {c : Nat} (hc : c < 3) {a : Nat} (ha : a < 16) (s : Int32) (hr : zK X 1 m_Mod_rowAt [.ref 40, .int (nI c)] J G (some (.int (-1))) J G) : zK X 2 m_Mod_withCursor [.ref 40, .int 5, .int (nI c), .int (nI a), .int s] J G (some (.int 0)) (va_up J 50 (upd (J 50) a 0)) (va_up G 49 (vp_updL (G 49) a 0)) := by
  refine zC_of (by decide) (Nat.le_of_ble_eq_true rfl) ?_
  refine z_aload_n d_Mod_withCursor_0 rfl ?_
  refine z_get d_Mod_withCursor_1 f_Mod_42 (by omega) rfl rfl ?_
  refine z_iload_n d_Mod_withCursor_4 rfl ?_
  refine z_iald d_Mod_withCursor_5 (by omega) rfl (show zin (nI c) c 3 from ⟨rfl, hc, by decide⟩) ?_
  refine z_istore (lv' := [(0, _), (1, _), (2, _), (3, _), (4, _), (5, _)]) d_Mod_withCursor_6 (by decide) rfl ?_
  refine z_iload_n d_Mod_withCursor_8 rfl ?_
  refine z_iconst (v := 2) d_Mod_withCursor_9 (by decide) ?_
  refine z_icmp_ne d_Mod_withCursor_10 39 (by decide) (fun _ => ?_) (fun h9 => absurd h9 (by decide))
  refine z_iload_n d_Mod_withCursor_39 rfl ?_
  refine z_iconst (v := 3) d_Mod_withCursor_40 (by decide) ?_
  refine z_icmp_ne d_Mod_withCursor_41 95 (by decide) (fun _ => ?_) (fun h9 => absurd h9 (by decide))
  refine z_iload_n d_Mod_withCursor_95 rfl ?_
  refine z_bipush (v := 8) d_Mod_withCursor_96 (by decide) ?_
  refine z_icmp_ne d_Mod_withCursor_98 149 (by decide) (fun _ => ?_) (fun h9 => absurd h9 (by decide))
  refine z_iload_n d_Mod_withCursor_149 rfl ?_
  refine z_bipush (v := 20) d_Mod_withCursor_150 (by decide) ?_
  refine z_icmp_ne d_Mod_withCursor_152 264 (by decide) (fun _ => ?_) (fun h9 => absurd h9 (by decide))
  refine z_aload_n d_Mod_withCursor_264 rfl ?_
  refine z_iload_n d_Mod_withCursor_265 rfl ?_
  refine z_callV1 d_Mod_withCursor_266 g_Mod_135 (hr) (by omega) rfl rfl rfl ⟨by decide, by decide, by decide, by decide⟩ rfl (Nat.le_of_ble_eq_true rfl) ?_
  refine z_istore (lv' := [(0, _), (1, _), (2, _), (3, _), (4, _), (5, _), (6, _)]) d_Mod_withCursor_269 (by decide) rfl ?_
  refine z_iload_n d_Mod_withCursor_271 rfl ?_
  refine z_iconst (v := 4) d_Mod_withCursor_272 (by decide) ?_
  refine z_icmp_ne d_Mod_withCursor_273 361 (by decide) (fun _ => ?_) (fun h9 => absurd h9 (by decide))
  refine z_iload_n d_Mod_withCursor_361 rfl ?_
  refine z_iconst (v := 5) d_Mod_withCursor_362 (by decide) ?_
  refine z_icmp_ne d_Mod_withCursor_363 390 (by decide) (fun h9 => absurd h9 (by decide)) (fun _ => ?_)
  refine z_aload_n d_Mod_withCursor_366 rfl ?_
  refine z_iload_n d_Mod_withCursor_367 rfl ?_
  refine z_iload d_Mod_withCursor_368 rfl ?_
  refine z_if_lt d_Mod_withCursor_370 377 (by decide) (fun _ => ?_) (fun h9 => absurd (by decide) h9)
  refine z_iconst (v := 0) d_Mod_withCursor_377 (by decide) ?_
  refine z_aload_n d_Mod_withCursor_378 rfl ?_
  refine z_get d_Mod_withCursor_379 f_Mod_48 (by omega) rfl rfl ?_
  refine z_iload_n d_Mod_withCursor_382 rfl ?_
  refine z_lald d_Mod_withCursor_383 (by omega) rfl (show zin (nI c) c 3 from ⟨rfl, hc, by decide⟩) ?_
  refine z_callV0 d_Mod_withCursor_384 g_Mod_138 (c_Mod_keep X J G 0 ha false (G 53 c)) (by omega) rfl rfl rfl ⟨by decide, by decide, by decide, by decide⟩ rfl (Nat.le_of_ble_eq_true rfl) ?_
  refine z_goto d_Mod_withCursor_387 401 (by decide) ?_
  refine z_iconst (v := 0) d_Mod_withCursor_401 (by decide) ?_
  exact z_zret d_Mod_withCursor_402 rfl (by decide) (by decide) (by decide) rfl rfl
set_option maxRecDepth 100000 in
set_option maxHeartbeats 4000000 in
theorem c_Mod_crow1 (X : zX) (J : zJT) (G : zGT) {c : Nat} (hc : c < 3) {a r : Nat} (ha : a < 16) (hr9 : r < 90) (s : Int32) (hr : zK X 1 m_Mod_rowAt [.ref 40, .int (nI c)] J G (some (.int (nI r))) J G) : zK X 2 m_Mod_withCursor [.ref 40, .int 5, .int (nI c), .int (nI a), .int s] J G (some (.int 0)) (va_up J 50 (upd (J 50) a 1)) (va_up G 49 (vp_updL (G 49) a (G 53 c))) := by
  refine zC_of (by decide) (Nat.le_of_ble_eq_true rfl) ?_
  refine z_aload_n d_Mod_withCursor_0 rfl ?_
  refine z_get d_Mod_withCursor_1 f_Mod_42 (by omega) rfl rfl ?_
  refine z_iload_n d_Mod_withCursor_4 rfl ?_
  refine z_iald d_Mod_withCursor_5 (by omega) rfl (show zin (nI c) c 3 from ⟨rfl, hc, by decide⟩) ?_
  refine z_istore (lv' := [(0, _), (1, _), (2, _), (3, _), (4, _), (5, _)]) d_Mod_withCursor_6 (by decide) rfl ?_
  refine z_iload_n d_Mod_withCursor_8 rfl ?_
  refine z_iconst (v := 2) d_Mod_withCursor_9 (by decide) ?_
  refine z_icmp_ne d_Mod_withCursor_10 39 (by decide) (fun _ => ?_) (fun h9 => absurd h9 (by decide))
  refine z_iload_n d_Mod_withCursor_39 rfl ?_
  refine z_iconst (v := 3) d_Mod_withCursor_40 (by decide) ?_
  refine z_icmp_ne d_Mod_withCursor_41 95 (by decide) (fun _ => ?_) (fun h9 => absurd h9 (by decide))
  refine z_iload_n d_Mod_withCursor_95 rfl ?_
  refine z_bipush (v := 8) d_Mod_withCursor_96 (by decide) ?_
  refine z_icmp_ne d_Mod_withCursor_98 149 (by decide) (fun _ => ?_) (fun h9 => absurd h9 (by decide))
  refine z_iload_n d_Mod_withCursor_149 rfl ?_
  refine z_bipush (v := 20) d_Mod_withCursor_150 (by decide) ?_
  refine z_icmp_ne d_Mod_withCursor_152 264 (by decide) (fun _ => ?_) (fun h9 => absurd h9 (by decide))
  refine z_aload_n d_Mod_withCursor_264 rfl ?_
  refine z_iload_n d_Mod_withCursor_265 rfl ?_
  refine z_callV1 d_Mod_withCursor_266 g_Mod_135 (hr) (by omega) rfl rfl rfl ⟨by decide, by decide, by decide, by decide⟩ rfl (Nat.le_of_ble_eq_true rfl) ?_
  refine z_istore (lv' := [(0, _), (1, _), (2, _), (3, _), (4, _), (5, _), (6, _)]) d_Mod_withCursor_269 (by decide) rfl ?_
  refine z_iload_n d_Mod_withCursor_271 rfl ?_
  refine z_iconst (v := 4) d_Mod_withCursor_272 (by decide) ?_
  refine z_icmp_ne d_Mod_withCursor_273 361 (by decide) (fun _ => ?_) (fun h9 => absurd h9 (by decide))
  refine z_iload_n d_Mod_withCursor_361 rfl ?_
  refine z_iconst (v := 5) d_Mod_withCursor_362 (by decide) ?_
  refine z_icmp_ne d_Mod_withCursor_363 390 (by decide) (fun h9 => absurd h9 (by decide)) (fun _ => ?_)
  refine z_aload_n d_Mod_withCursor_366 rfl ?_
  refine z_iload_n d_Mod_withCursor_367 rfl ?_
  refine z_iload d_Mod_withCursor_368 rfl ?_
  refine z_if_lt d_Mod_withCursor_370 377 (by decide) (fun h9 => absurd h9 (nI_pos (by omega))) (fun _ => ?_)
  refine z_iconst (v := 1) d_Mod_withCursor_373 (by decide) ?_
  refine z_goto d_Mod_withCursor_374 378 (by decide) ?_
  refine z_aload_n d_Mod_withCursor_378 rfl ?_
  refine z_get d_Mod_withCursor_379 f_Mod_48 (by omega) rfl rfl ?_
  refine z_iload_n d_Mod_withCursor_382 rfl ?_
  refine z_lald d_Mod_withCursor_383 (by omega) rfl (show zin (nI c) c 3 from ⟨rfl, hc, by decide⟩) ?_
  refine z_callV0 d_Mod_withCursor_384 g_Mod_138 (c_Mod_keep X J G 0 ha true (G 53 c)) (by omega) rfl rfl rfl ⟨by decide, by decide, by decide, by decide⟩ rfl (Nat.le_of_ble_eq_true rfl) ?_
  refine z_goto d_Mod_withCursor_387 401 (by decide) ?_
  refine z_iconst (v := 0) d_Mod_withCursor_401 (by decide) ?_
  exact z_zret d_Mod_withCursor_402 rfl (by decide) (by decide) (by decide) rfl rfl
set_option maxRecDepth 100000 in
set_option maxHeartbeats 4000000 in
theorem c_Mod_ccol0 (X : zX) (J : zJT) (G : zGT) {c : Nat} (hc : c < 3) {a : Nat} (ha : a < 16) (q : Int32) (hr : zK X 1 m_Mod_rowAt [.ref 40, .int (nI c)] J G (some (.int (-1))) J G) : zK X 2 m_Mod_withCursor [.ref 40, .int 4, .int (nI c), .int q, .int (nI a)] J G (some (.int 0)) (va_up J 50 (upd (J 50) a 0)) (va_up G 49 (vp_updL (G 49) a 0)) := by
  refine zC_of (by decide) (Nat.le_of_ble_eq_true rfl) ?_
  refine z_aload_n d_Mod_withCursor_0 rfl ?_
  refine z_get d_Mod_withCursor_1 f_Mod_42 (by omega) rfl rfl ?_
  refine z_iload_n d_Mod_withCursor_4 rfl ?_
  refine z_iald d_Mod_withCursor_5 (by omega) rfl (show zin (nI c) c 3 from ⟨rfl, hc, by decide⟩) ?_
  refine z_istore (lv' := [(0, _), (1, _), (2, _), (3, _), (4, _), (5, _)]) d_Mod_withCursor_6 (by decide) rfl ?_
  refine z_iload_n d_Mod_withCursor_8 rfl ?_
  refine z_iconst (v := 2) d_Mod_withCursor_9 (by decide) ?_
  refine z_icmp_ne d_Mod_withCursor_10 39 (by decide) (fun _ => ?_) (fun h9 => absurd h9 (by decide))
  refine z_iload_n d_Mod_withCursor_39 rfl ?_
  refine z_iconst (v := 3) d_Mod_withCursor_40 (by decide) ?_
  refine z_icmp_ne d_Mod_withCursor_41 95 (by decide) (fun _ => ?_) (fun h9 => absurd h9 (by decide))
  refine z_iload_n d_Mod_withCursor_95 rfl ?_
  refine z_bipush (v := 8) d_Mod_withCursor_96 (by decide) ?_
  refine z_icmp_ne d_Mod_withCursor_98 149 (by decide) (fun _ => ?_) (fun h9 => absurd h9 (by decide))
  refine z_iload_n d_Mod_withCursor_149 rfl ?_
  refine z_bipush (v := 20) d_Mod_withCursor_150 (by decide) ?_
  refine z_icmp_ne d_Mod_withCursor_152 264 (by decide) (fun _ => ?_) (fun h9 => absurd h9 (by decide))
  refine z_aload_n d_Mod_withCursor_264 rfl ?_
  refine z_iload_n d_Mod_withCursor_265 rfl ?_
  refine z_callV1 d_Mod_withCursor_266 g_Mod_135 (hr) (by omega) rfl rfl rfl ⟨by decide, by decide, by decide, by decide⟩ rfl (Nat.le_of_ble_eq_true rfl) ?_
  refine z_istore (lv' := [(0, _), (1, _), (2, _), (3, _), (4, _), (5, _), (6, _)]) d_Mod_withCursor_269 (by decide) rfl ?_
  refine z_iload_n d_Mod_withCursor_271 rfl ?_
  refine z_iconst (v := 4) d_Mod_withCursor_272 (by decide) ?_
  refine z_icmp_ne d_Mod_withCursor_273 361 (by decide) (fun h9 => absurd h9 (by decide)) (fun _ => ?_)
  refine z_iload d_Mod_withCursor_276 rfl ?_
  refine z_if_lt d_Mod_withCursor_278 296 (by decide) (fun _ => ?_) (fun h9 => absurd (by decide) h9)
  refine z_iconst (v := 0) d_Mod_withCursor_296 (by decide) ?_
  refine z_istore (lv' := [(0, _), (1, _), (2, _), (3, _), (4, _), (5, _), (6, _), (7, _)]) d_Mod_withCursor_297 (by decide) rfl ?_
  refine z_aload_n d_Mod_withCursor_299 rfl ?_
  refine z_iload d_Mod_withCursor_300 rfl ?_
  refine z_iload d_Mod_withCursor_302 rfl ?_
  refine z_if_eq d_Mod_withCursor_304 334 (by decide) (fun _ => ?_) (fun h9 => absurd rfl h9)
  refine z_iconst (v := 0) d_Mod_withCursor_334 (by decide) ?_
  refine z_iload d_Mod_withCursor_335 rfl ?_
  refine z_if_eq d_Mod_withCursor_337 354 (by decide) (fun _ => ?_) (fun h9 => absurd rfl h9)
  refine z_lconst (v := 0) d_Mod_withCursor_354 (by decide) ?_
  refine z_callV0 d_Mod_withCursor_355 g_Mod_138 (c_Mod_keep X J G 0 ha false 0) (by omega) rfl rfl rfl ⟨by decide, by decide, by decide, by decide⟩ rfl (Nat.le_of_ble_eq_true rfl) ?_
  refine z_goto d_Mod_withCursor_358 401 (by decide) ?_
  refine z_iconst (v := 0) d_Mod_withCursor_401 (by decide) ?_
  exact z_zret d_Mod_withCursor_402 rfl (by decide) (by decide) (by decide) rfl rfl
set_option maxRecDepth 100000 in
set_option maxHeartbeats 4000000 in
theorem c_Mod_ccol1 (X : zX) (J : zJT) (G : zGT) {c : Nat} (hc : c < 3) {a r t : Nat} (ha : a < 16) (hr9 : r < 90) (ht : J 51 c = nI t) (ht3 : t < 3) (q : Int32) (h : ¬ q < J 41 t) (hr : zK X 1 m_Mod_rowAt [.ref 40, .int (nI c)] J G (some (.int (nI r))) J G) : zK X 2 m_Mod_withCursor [.ref 40, .int 4, .int (nI c), .int q, .int (nI a)] J G (some (.int 0)) (va_up J 50 (upd (J 50) a 0)) (va_up G 49 (vp_updL (G 49) a 0)) := by
  refine zC_of (by decide) (Nat.le_of_ble_eq_true rfl) ?_
  refine z_aload_n d_Mod_withCursor_0 rfl ?_
  refine z_get d_Mod_withCursor_1 f_Mod_42 (by omega) rfl rfl ?_
  refine z_iload_n d_Mod_withCursor_4 rfl ?_
  refine z_iald d_Mod_withCursor_5 (by omega) rfl (show zin (nI c) c 3 from ⟨rfl, hc, by decide⟩) ?_
  refine z_istore (lv' := [(0, _), (1, _), (2, _), (3, _), (4, _), (5, _)]) d_Mod_withCursor_6 (by decide) rfl ?_
  refine z_iload_n d_Mod_withCursor_8 rfl ?_
  refine z_iconst (v := 2) d_Mod_withCursor_9 (by decide) ?_
  refine z_icmp_ne d_Mod_withCursor_10 39 (by decide) (fun _ => ?_) (fun h9 => absurd h9 (by decide))
  refine z_iload_n d_Mod_withCursor_39 rfl ?_
  refine z_iconst (v := 3) d_Mod_withCursor_40 (by decide) ?_
  refine z_icmp_ne d_Mod_withCursor_41 95 (by decide) (fun _ => ?_) (fun h9 => absurd h9 (by decide))
  refine z_iload_n d_Mod_withCursor_95 rfl ?_
  refine z_bipush (v := 8) d_Mod_withCursor_96 (by decide) ?_
  refine z_icmp_ne d_Mod_withCursor_98 149 (by decide) (fun _ => ?_) (fun h9 => absurd h9 (by decide))
  refine z_iload_n d_Mod_withCursor_149 rfl ?_
  refine z_bipush (v := 20) d_Mod_withCursor_150 (by decide) ?_
  refine z_icmp_ne d_Mod_withCursor_152 264 (by decide) (fun _ => ?_) (fun h9 => absurd h9 (by decide))
  refine z_aload_n d_Mod_withCursor_264 rfl ?_
  refine z_iload_n d_Mod_withCursor_265 rfl ?_
  refine z_callV1 d_Mod_withCursor_266 g_Mod_135 (hr) (by omega) rfl rfl rfl ⟨by decide, by decide, by decide, by decide⟩ rfl (Nat.le_of_ble_eq_true rfl) ?_
  refine z_istore (lv' := [(0, _), (1, _), (2, _), (3, _), (4, _), (5, _), (6, _)]) d_Mod_withCursor_269 (by decide) rfl ?_
  refine z_iload_n d_Mod_withCursor_271 rfl ?_
  refine z_iconst (v := 4) d_Mod_withCursor_272 (by decide) ?_
  refine z_icmp_ne d_Mod_withCursor_273 361 (by decide) (fun h9 => absurd h9 (by decide)) (fun _ => ?_)
  refine z_iload d_Mod_withCursor_276 rfl ?_
  refine z_if_lt d_Mod_withCursor_278 296 (by decide) (fun h9 => absurd h9 (nI_pos (by omega))) (fun _ => ?_)
  refine z_iload_n d_Mod_withCursor_281 rfl ?_
  refine z_aload_n d_Mod_withCursor_282 rfl ?_
  refine z_get d_Mod_withCursor_283 f_Mod_7 (by omega) rfl rfl ?_
  refine z_iload d_Mod_withCursor_286 rfl ?_
  refine z_iald d_Mod_withCursor_288 (by omega) rfl (show zin (J 51 c) t 3 from ⟨ht, ht3, by decide⟩) ?_
  refine z_icmp_ge d_Mod_withCursor_289 296 (by decide) (fun _ => ?_) (fun h9 => absurd (Int32.not_lt.mp h) h9)
  refine z_iconst (v := 0) d_Mod_withCursor_296 (by decide) ?_
  refine z_istore (lv' := [(0, _), (1, _), (2, _), (3, _), (4, _), (5, _), (6, _), (7, _)]) d_Mod_withCursor_297 (by decide) rfl ?_
  refine z_aload_n d_Mod_withCursor_299 rfl ?_
  refine z_iload d_Mod_withCursor_300 rfl ?_
  refine z_iload d_Mod_withCursor_302 rfl ?_
  refine z_if_eq d_Mod_withCursor_304 334 (by decide) (fun _ => ?_) (fun h9 => absurd rfl h9)
  refine z_iconst (v := 0) d_Mod_withCursor_334 (by decide) ?_
  refine z_iload d_Mod_withCursor_335 rfl ?_
  refine z_if_eq d_Mod_withCursor_337 354 (by decide) (fun _ => ?_) (fun h9 => absurd rfl h9)
  refine z_lconst (v := 0) d_Mod_withCursor_354 (by decide) ?_
  refine z_callV0 d_Mod_withCursor_355 g_Mod_138 (c_Mod_keep X J G 0 ha false 0) (by omega) rfl rfl rfl ⟨by decide, by decide, by decide, by decide⟩ rfl (Nat.le_of_ble_eq_true rfl) ?_
  refine z_goto d_Mod_withCursor_358 401 (by decide) ?_
  refine z_iconst (v := 0) d_Mod_withCursor_401 (by decide) ?_
  exact z_zret d_Mod_withCursor_402 rfl (by decide) (by decide) (by decide) rfl rfl
set_option maxRecDepth 100000 in
set_option maxHeartbeats 4000000 in
theorem c_Mod_ccol2 (X : zX) (J : zJT) (G : zGT) {c : Nat} (hc : c < 3) {a r t k : Nat} (ha : a < 16) (hr9 : r < 90) (ht : J 51 c = nI t) (ht3 : t < 3) (hk : k < 4) (h : nI k < J 41 t) (b : Bool) (hb : J 45 (4 * r + k) = zb b) (hr : zK X 1 m_Mod_rowAt [.ref 40, .int (nI c)] J G (some (.int (nI r))) J G) : zK X 2 m_Mod_withCursor [.ref 40, .int 4, .int (nI c), .int (nI k), .int (nI a)] J G (some (.int 0)) (va_up J 50 (upd (J 50) a (zb b))) (va_up G 49 (vp_updL (G 49) a (if b then G 44 (4 * r + k) else 0))) := by
  refine zC_of (by decide) (Nat.le_of_ble_eq_true rfl) ?_
  refine z_aload_n d_Mod_withCursor_0 rfl ?_
  refine z_get d_Mod_withCursor_1 f_Mod_42 (by omega) rfl rfl ?_
  refine z_iload_n d_Mod_withCursor_4 rfl ?_
  refine z_iald d_Mod_withCursor_5 (by omega) rfl (show zin (nI c) c 3 from ⟨rfl, hc, by decide⟩) ?_
  refine z_istore (lv' := [(0, _), (1, _), (2, _), (3, _), (4, _), (5, _)]) d_Mod_withCursor_6 (by decide) rfl ?_
  refine z_iload_n d_Mod_withCursor_8 rfl ?_
  refine z_iconst (v := 2) d_Mod_withCursor_9 (by decide) ?_
  refine z_icmp_ne d_Mod_withCursor_10 39 (by decide) (fun _ => ?_) (fun h9 => absurd h9 (by decide))
  refine z_iload_n d_Mod_withCursor_39 rfl ?_
  refine z_iconst (v := 3) d_Mod_withCursor_40 (by decide) ?_
  refine z_icmp_ne d_Mod_withCursor_41 95 (by decide) (fun _ => ?_) (fun h9 => absurd h9 (by decide))
  refine z_iload_n d_Mod_withCursor_95 rfl ?_
  refine z_bipush (v := 8) d_Mod_withCursor_96 (by decide) ?_
  refine z_icmp_ne d_Mod_withCursor_98 149 (by decide) (fun _ => ?_) (fun h9 => absurd h9 (by decide))
  refine z_iload_n d_Mod_withCursor_149 rfl ?_
  refine z_bipush (v := 20) d_Mod_withCursor_150 (by decide) ?_
  refine z_icmp_ne d_Mod_withCursor_152 264 (by decide) (fun _ => ?_) (fun h9 => absurd h9 (by decide))
  refine z_aload_n d_Mod_withCursor_264 rfl ?_
  refine z_iload_n d_Mod_withCursor_265 rfl ?_
  refine z_callV1 d_Mod_withCursor_266 g_Mod_135 (hr) (by omega) rfl rfl rfl ⟨by decide, by decide, by decide, by decide⟩ rfl (Nat.le_of_ble_eq_true rfl) ?_
  refine z_istore (lv' := [(0, _), (1, _), (2, _), (3, _), (4, _), (5, _), (6, _)]) d_Mod_withCursor_269 (by decide) rfl ?_
  refine z_iload_n d_Mod_withCursor_271 rfl ?_
  refine z_iconst (v := 4) d_Mod_withCursor_272 (by decide) ?_
  refine z_icmp_ne d_Mod_withCursor_273 361 (by decide) (fun h9 => absurd h9 (by decide)) (fun _ => ?_)
  refine z_iload d_Mod_withCursor_276 rfl ?_
  refine z_if_lt d_Mod_withCursor_278 296 (by decide) (fun h9 => absurd h9 (nI_pos (by omega))) (fun _ => ?_)
  refine z_iload_n d_Mod_withCursor_281 rfl ?_
  refine z_aload_n d_Mod_withCursor_282 rfl ?_
  refine z_get d_Mod_withCursor_283 f_Mod_7 (by omega) rfl rfl ?_
  refine z_iload d_Mod_withCursor_286 rfl ?_
  refine z_iald d_Mod_withCursor_288 (by omega) rfl (show zin (J 51 c) t 3 from ⟨ht, ht3, by decide⟩) ?_
  refine z_icmp_ge d_Mod_withCursor_289 296 (by decide) (fun h9 => absurd h9 (Int32.not_le.mpr h)) (fun _ => ?_)
  refine z_iconst (v := 1) d_Mod_withCursor_292 (by decide) ?_
  refine z_goto d_Mod_withCursor_293 297 (by decide) ?_
  refine z_istore (lv' := [(0, _), (1, _), (2, _), (3, _), (4, _), (5, _), (6, _), (7, _)]) d_Mod_withCursor_297 (by decide) rfl ?_
  refine z_aload_n d_Mod_withCursor_299 rfl ?_
  refine z_iload d_Mod_withCursor_300 rfl ?_
  refine z_iload d_Mod_withCursor_302 rfl ?_
  refine z_if_eq d_Mod_withCursor_304 334 (by decide) (fun h9 => absurd h9 (by decide)) (fun _ => ?_)
  refine z_aload_n d_Mod_withCursor_307 rfl ?_
  refine z_get d_Mod_withCursor_308 f_Mod_23 (by omega) rfl rfl ?_
  refine z_iload d_Mod_withCursor_311 rfl ?_
  refine z_if_eq d_Mod_withCursor_313 325 (by decide) (fun h9 => absurd h9 (by decide)) (fun _ => ?_)
  refine z_iconst (v := 4) d_Mod_withCursor_316 (by decide) ?_
  refine z_iload d_Mod_withCursor_317 rfl ?_
  refine z_imul d_Mod_withCursor_319 ?_
  refine z_iload_n d_Mod_withCursor_320 rfl ?_
  refine z_iadd d_Mod_withCursor_321 ?_
  refine z_goto d_Mod_withCursor_322 326 (by decide) ?_
  refine z_zald d_Mod_withCursor_326 (by omega) rfl (rz360' hr9 hk) ?_
  rw [hb]
  refine z_if_eq d_Mod_withCursor_327 334 (by decide) (fun h327 => ?_) (fun h327 => ?_)
  · refine z_iconst (v := 0) d_Mod_withCursor_334 (by decide) ?_
    refine z_iload d_Mod_withCursor_335 rfl ?_
    refine z_if_eq d_Mod_withCursor_337 354 (by decide) (fun h9 => absurd h9 (by decide)) (fun _ => ?_)
    refine z_aload_n d_Mod_withCursor_340 rfl ?_
    refine z_get d_Mod_withCursor_341 f_Mod_20 (by omega) rfl rfl ?_
    refine z_iconst (v := 4) d_Mod_withCursor_344 (by decide) ?_
    refine z_iload d_Mod_withCursor_345 rfl ?_
    refine z_imul d_Mod_withCursor_347 ?_
    refine z_iload_n d_Mod_withCursor_348 rfl ?_
    refine z_iadd d_Mod_withCursor_349 ?_
    refine z_lald d_Mod_withCursor_350 (by omega) rfl (rz360' hr9 hk) ?_
    refine z_goto d_Mod_withCursor_351 355 (by decide) ?_
    refine z_callV0 d_Mod_withCursor_355 g_Mod_138 (c_Mod_keep X J G 0 ha false _) (by omega) rfl rfl rfl ⟨by decide, by decide, by decide, by decide⟩ rfl (Nat.le_of_ble_eq_true rfl) ?_
    refine z_goto d_Mod_withCursor_358 401 (by decide) ?_
    refine z_iconst (v := 0) d_Mod_withCursor_401 (by decide) ?_
    exact z_zret d_Mod_withCursor_402 rfl (by decide) (by decide) (by decide) rfl (by rw [zb0 h327])
  · refine z_iconst (v := 1) d_Mod_withCursor_330 (by decide) ?_
    refine z_goto d_Mod_withCursor_331 335 (by decide) ?_
    refine z_iload d_Mod_withCursor_335 rfl ?_
    refine z_if_eq d_Mod_withCursor_337 354 (by decide) (fun h9 => absurd h9 (by decide)) (fun _ => ?_)
    refine z_aload_n d_Mod_withCursor_340 rfl ?_
    refine z_get d_Mod_withCursor_341 f_Mod_20 (by omega) rfl rfl ?_
    refine z_iconst (v := 4) d_Mod_withCursor_344 (by decide) ?_
    refine z_iload d_Mod_withCursor_345 rfl ?_
    refine z_imul d_Mod_withCursor_347 ?_
    refine z_iload_n d_Mod_withCursor_348 rfl ?_
    refine z_iadd d_Mod_withCursor_349 ?_
    refine z_lald d_Mod_withCursor_350 (by omega) rfl (rz360' hr9 hk) ?_
    refine z_goto d_Mod_withCursor_351 355 (by decide) ?_
    refine z_callV0 d_Mod_withCursor_355 g_Mod_138 (c_Mod_keep X J G 0 ha true _) (by omega) rfl rfl rfl ⟨by decide, by decide, by decide, by decide⟩ rfl (Nat.le_of_ble_eq_true rfl) ?_
    refine z_goto d_Mod_withCursor_358 401 (by decide) ?_
    refine z_iconst (v := 0) d_Mod_withCursor_401 (by decide) ?_
    exact z_zret d_Mod_withCursor_402 rfl (by decide) (by decide) (by decide) rfl (by rw [zb1' h327])
