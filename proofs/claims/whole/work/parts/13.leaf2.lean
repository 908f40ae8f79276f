theorem zu_s {α : Type} (f : Nat → α) (a : Nat) (v : α) : va_up f a v a = v := by simp [va_up]
theorem zu_n {α : Type} {f : Nat → α} {a b : Nat} {v : α} (h : b ≠ a) : va_up f a v b = f b := by simp [va_up, h]
theorem zin_w {k w : Nat} (h : k < 60) (hw : w < 4) : zin (nI k * 4 + nI w) (4 * k + w) 240 := by
  refine ⟨?_, by omega, by decide⟩
  rw [show (4 : Int32) = nI 4 from rfl, pk_mul, nI_add, Nat.mul_comm]
/-- the three tables, their rows' slots; the three cursors -/
theorem zt_at {t : Nat} (h : t < 3) : (if t = 0 then some 9 else if t = 1 then some 11 else if t = 2 then some 13 else none : Option Nat) = some (9 + 2 * t) := by
  rcases (show t = 0 ∨ t = 1 ∨ t = 2 by omega) with rfl | rfl | rfl <;> rfl
theorem zt_c {t : Nat} (h : t < 3) (f : Nat → Int32) (g : Nat → Int64) : zsh (9 + 2 * t) f g = .inr (3, [.int (f 0), .int (f 1), .ref (10 + 2 * t)]) := by
  rcases (show t = 0 ∨ t = 1 ∨ t = 2 by omega) with rfl | rfl | rfl <;> rfl
theorem zt_s {t : Nat} (h : t < 3) (f : Nat → Int32) (g : Nat → Int64) : zsh (10 + 2 * t) f g = zAi 90 f := by
  rcases (show t = 0 ∨ t = 1 ∨ t = 2 by omega) with rfl | rfl | rfl <;> rfl
theorem zc_at {t : Nat} (h : t < 3) : (if t = 0 then some 26 else if t = 1 then some 27 else if t = 2 then some 28 else none : Option Nat) = some (26 + t) := by
  rcases (show t = 0 ∨ t = 1 ∨ t = 2 by omega) with rfl | rfl | rfl <;> rfl
theorem zc_c {t : Nat} (h : t < 3) (f : Nat → Int32) (g : Nat → Int64) : zsh (26 + t) f g = .inr (5, [.int (f 0), .int (f 1), .long (g 2)]) := by
  rcases (show t = 0 ∨ t = 1 ∨ t = 2 by omega) with rfl | rfl | rfl <;> rfl
set_option maxRecDepth 100000 in
set_option maxHeartbeats 4000000 in
theorem c_Val_copy (X : zX) {a len t b len2 u : Nat} {i j : Int32} (hv : zVal a len) (hi : zin i t len) (hw : zVal b len2) (hj : zin j u len2) (J : zJT) (G : zGT) (hb : vp_nar .boolean (J (b + 2) u) = J (b + 2) u) : zK X 0 m_Val_copy [.ref a, .int i, .ref b, .int j] J G none (va_up J (a + 2) (upd (J (a + 2)) t (J (b + 2) u))) (va_up G (a + 1) (vp_updL (G (a + 1)) t (G (b + 1) u))) := by
  refine zC_of (by decide) (Nat.le_of_ble_eq_true rfl) ?_
  refine z_aload_n d_Val_copy_0 rfl ?_
  refine z_get d_Val_copy_1 f_Val_7 (by have := hv.1; have := hw.1; omega) (hv.2.1 _ _) rfl ?_
  refine z_iload_n d_Val_copy_4 rfl ?_
  refine z_aload_n d_Val_copy_5 rfl ?_
  refine z_get d_Val_copy_6 f_Val_7 (by have := hv.1; have := hw.1; omega) (hw.2.1 _ _) rfl ?_
  refine z_iload_n d_Val_copy_9 rfl ?_
  refine z_lald d_Val_copy_10 (by have := hv.1; have := hw.1; omega) (hw.2.2.1 _ _) hj ?_
  refine z_last d_Val_copy_11 (by have := hv.1; have := hw.1; omega) (hv.2.2.1 _ _) hi (hp_al (hv.2.2.1 _ _).symm) ?_
  refine z_aload_n d_Val_copy_12 rfl ?_
  refine z_get d_Val_copy_13 f_Val_13 (by have := hv.1; have := hw.1; omega) (hv.2.1 _ _) rfl ?_
  refine z_iload_n d_Val_copy_16 rfl ?_
  refine z_aload_n d_Val_copy_17 rfl ?_
  refine z_get d_Val_copy_18 f_Val_13 (by have := hv.1; have := hw.1; omega) (hw.2.1 _ _) rfl ?_
  refine z_iload_n d_Val_copy_21 rfl ?_
  refine z_zald d_Val_copy_22 (by have := hv.1; have := hw.1; omega) (hw.2.2.2 _ _) hj ?_
  refine z_zast d_Val_copy_23 (by have := hv.1; have := hw.1; omega) (hv.2.2.2 _ _) hi hb (hp_ai (hv.2.2.2 _ _).symm) ?_
  exact z_vret d_Val_copy_24 rfl (by decide) (by decide) rfl
set_option maxRecDepth 100000 in
set_option maxHeartbeats 4000000 in
theorem c_Cur_open (X : zX) {t : Nat} (ht : t < 3) (v : Int32) (J : zJT) (G : zGT) : zK X 0 m_Cur_open [.ref (26 + t), .int v] J G none (va_up J (26 + t) (va_up (va_up (J (26 + t)) 0 v) 1 0)) G := by
  refine zC_of (by decide) (Nat.le_of_ble_eq_true rfl) ?_
  refine z_aload_n d_Cur_open_0 rfl ?_
  refine z_iload_n d_Cur_open_1 rfl ?_
  refine z_put d_Cur_open_2 f_Cur_9 p_5_0 (by omega) (zc_c ht _ _) (Nat.le_of_ble_eq_true rfl) rfl rfl (hp_pi 0 (zc_c ht (va_up (J (26 + t)) 0 v) _).symm) ?_
  refine z_aload_n d_Cur_open_5 rfl ?_
  refine z_iconst (v := 0) d_Cur_open_6 (by decide) ?_
  refine z_put d_Cur_open_7 f_Cur_15 p_5_1 (by omega) (zc_c ht _ _) (Nat.le_of_ble_eq_true rfl) (zb_n false) (zb_f false) (hp_pi 1 (zc_c ht (va_up (va_up J (26 + t) (va_up (J (26 + t)) 0 v) (26 + t)) 1 0) _).symm) ?_
  exact z_vret d_Cur_open_10 rfl (by decide) (by decide) (by simp [bx_uu, zu_s])
set_option maxRecDepth 100000 in
set_option maxHeartbeats 4000000 in
theorem c_Cur_shut (X : zX) {t : Nat} (ht : t < 3) (J : zJT) (G : zGT) : zK X 1 m_Cur_shut [.ref (26 + t)] J G none (va_up J (26 + t) (va_up (va_up (J (26 + t)) 0 (-1)) 1 0)) G := by
  refine zC_of (by decide) (Nat.le_of_ble_eq_true rfl) ?_
  refine z_aload_n d_Cur_shut_0 rfl ?_
  refine z_iconst (v := (-1)) d_Cur_shut_1 (by decide) ?_
  refine z_callV0 d_Cur_shut_2 g_Cur_23 (c_Cur_open X ht (-1) J G) (by omega) (zc_c ht _ _) rfl rfl ⟨by decide, by decide, by decide, by decide⟩ rfl (Nat.le_of_ble_eq_true rfl) ?_
  exact z_vret d_Cur_shut_5 rfl (by decide) (by decide) rfl
set_option maxRecDepth 100000 in
set_option maxHeartbeats 4000000 in
theorem c_Cur_isShut (X : zX) {t : Nat} (ht : t < 3) (J : zJT) (G : zGT) : zK X 0 m_Cur_isShut [.ref (26 + t)] J G (some (.int (zb (decide (J (26 + t) 0 = -1))))) J G := by
  refine zC_of (by decide) (Nat.le_of_ble_eq_true rfl) ?_
  refine z_aload_n d_Cur_isShut_0 rfl ?_
  refine z_get d_Cur_isShut_1 f_Cur_9 (by omega) (zc_c ht _ _) rfl ?_
  refine z_iconst (v := (-1)) d_Cur_isShut_4 (by decide) ?_
  refine z_icmp_ne d_Cur_isShut_5 12 (by decide) (fun h5 => ?_) (fun h5 => ?_)
  · refine z_iconst (v := 0) d_Cur_isShut_12 (by decide) ?_
    exact z_zret d_Cur_isShut_13 rfl (by decide) (by decide) (by decide) (by first | rfl | (simp_all [zb]; done) | grind [zb]) rfl
  · refine z_iconst (v := 1) d_Cur_isShut_8 (by decide) ?_
    refine z_goto d_Cur_isShut_9 13 (by decide) ?_
    exact z_zret d_Cur_isShut_13 rfl (by decide) (by decide) (by decide) (by first | rfl | (simp_all [zb]; done) | grind [zb]) rfl
set_option maxRecDepth 100000 in
set_option maxHeartbeats 4000000 in
theorem c_Pro_word (X : zX) {k w : Nat} (hk : k < 60) (hw : w < 4) (J : zJT) (G : zGT) : zK X 0 m_Pro_word [.ref 15, .int (nI k), .int (nI w)] J G (some (.int (J 16 (4 * k + w)))) J G := by
  refine zC_of (by decide) (Nat.le_of_ble_eq_true rfl) ?_
  refine z_aload_n d_Pro_word_0 rfl ?_
  refine z_get d_Pro_word_1 f_Pro_15 (by decide) rfl rfl ?_
  refine z_iload_n d_Pro_word_4 rfl ?_
  refine z_iconst (v := 4) d_Pro_word_5 (by decide) ?_
  refine z_imul d_Pro_word_6 ?_
  refine z_iload_n d_Pro_word_7 rfl ?_
  refine z_iadd d_Pro_word_8 ?_
  refine z_iald d_Pro_word_9 (by decide) rfl (zin_w hk hw) ?_
  exact z_iret d_Pro_word_10 rfl (by decide) (by decide) (by first | rfl | (simp_all; done) | grind) rfl
theorem zin_4 {k : Nat} {i : Int32} (h : k < 60) (hi : i = nI k * 4) (w : Nat) (hw : w < 4) : zin (i + nI w) (4 * k + w) 240 := by rw [hi]; exact zin_w h hw
/-- four words more -/
def zapp (f : Nat → Int32) (k : Nat) (o p q s : Int32) : Nat → Int32 := upd (upd (upd (upd f (4 * k) o) (4 * k + 1) p) (4 * k + 2) q) (4 * k + 3) s
set_option maxRecDepth 100000 in
set_option maxHeartbeats 4000000 in
theorem c_Pro_append (X : zX) {k : Nat} (hk : k < 60) (o p q s : Int32) (J : zJT) (G : zGT) (hJ : J 15 0 = nI k) : zK X 0 m_Pro_append [.ref 15, .int o, .int p, .int q, .int s] J G none (va_up (va_up J 16 (zapp (J 16) k o p q s)) 15 (va_up (J 15) 0 (nI k + 1))) G := by
  refine zC_of (by decide) (Nat.le_of_ble_eq_true rfl) ?_
  refine z_aload_n d_Pro_append_0 rfl ?_
  refine z_get d_Pro_append_1 f_Pro_9 (by decide) rfl rfl ?_
  refine z_iconst (v := 4) d_Pro_append_4 (by decide) ?_
  refine z_imul d_Pro_append_5 ?_
  refine z_istore (lv' := [(0, _), (1, _), (2, _), (3, _), (4, _), (5, _)]) d_Pro_append_6 (by decide) rfl ?_
  refine z_aload_n d_Pro_append_8 rfl ?_
  refine z_get d_Pro_append_9 f_Pro_15 (by decide) rfl rfl ?_
  refine z_iload d_Pro_append_12 rfl ?_
  refine z_iload_n d_Pro_append_14 rfl ?_
  refine z_iast d_Pro_append_15 (by decide) rfl (show zin _ (4 * k) 240 from ⟨by rw [hJ, show (4 : Int32) = nI 4 from rfl, pk_mul, Nat.mul_comm], by omega, by decide⟩) (hp_ai rfl) ?_
  refine z_aload_n d_Pro_append_16 rfl ?_
  refine z_get d_Pro_append_17 f_Pro_15 (by decide) rfl rfl ?_
  refine z_iload d_Pro_append_20 rfl ?_
  refine z_iconst (v := 1) d_Pro_append_22 (by decide) ?_
  refine z_iadd d_Pro_append_23 ?_
  refine z_iload_n d_Pro_append_24 rfl ?_
  refine z_iast d_Pro_append_25 (by decide) rfl (show zin _ (4 * k + 1) 240 from zin_4 hk (by rw [hJ]) 1 (by decide)) (hp_ai rfl) ?_
  refine z_aload_n d_Pro_append_26 rfl ?_
  refine z_get d_Pro_append_27 f_Pro_15 (by decide) rfl rfl ?_
  refine z_iload d_Pro_append_30 rfl ?_
  refine z_iconst (v := 2) d_Pro_append_32 (by decide) ?_
  refine z_iadd d_Pro_append_33 ?_
  refine z_iload_n d_Pro_append_34 rfl ?_
  refine z_iast d_Pro_append_35 (by decide) rfl (show zin _ (4 * k + 2) 240 from zin_4 hk (by rw [hJ]) 2 (by decide)) (hp_ai rfl) ?_
  refine z_aload_n d_Pro_append_36 rfl ?_
  refine z_get d_Pro_append_37 f_Pro_15 (by decide) rfl rfl ?_
  refine z_iload d_Pro_append_40 rfl ?_
  refine z_iconst (v := 3) d_Pro_append_42 (by decide) ?_
  refine z_iadd d_Pro_append_43 ?_
  refine z_iload d_Pro_append_44 rfl ?_
  refine z_iast d_Pro_append_46 (by decide) rfl (show zin _ (4 * k + 3) 240 from zin_4 hk (by rw [hJ]) 3 (by decide)) (hp_ai rfl) ?_
  refine z_aload_n d_Pro_append_47 rfl ?_
  refine z_dup d_Pro_append_48 rfl ?_
  refine z_get d_Pro_append_49 f_Pro_9 (by decide) rfl rfl ?_
  refine z_iconst (v := 1) d_Pro_append_52 (by decide) ?_
  refine z_iadd d_Pro_append_53 ?_
  refine z_put d_Pro_append_54 f_Pro_9 p_6_0 (by decide) rfl (Nat.le_of_ble_eq_true rfl) rfl rfl (hp_pi 0 rfl) ?_
  exact z_vret d_Pro_append_57 rfl (by decide) (by decide) (by simp [bx_uu, zu_s, zu_n, zapp, hJ])
set_option maxRecDepth 100000 in
set_option maxHeartbeats 4000000 in
theorem c_Res_hasRow (X : zX) (i : Int32) (J : zJT) (G : zGT) : zK X 1 m_Res_hasRow [.ref 17, .int i] J G (some (.int (zb (decide (0 ≤ i) && decide (i < J 17 0))))) J G := by
  refine zC_of (by decide) (Nat.le_of_ble_eq_true rfl) ?_
  refine z_iload_n d_Res_hasRow_0 rfl ?_
  refine z_aload_n d_Res_hasRow_1 rfl ?_
  refine z_get d_Res_hasRow_2 f_Res_9 (by decide) rfl rfl ?_
  refine z_callN1 d_Res_hasRow_5 g_Res_28 (c_isIndex X 0 _ _ _ _) rfl ⟨by decide, by decide, by decide, by decide⟩ rfl (Nat.le_of_ble_eq_true rfl) ?_
  exact z_zret d_Res_hasRow_8 rfl (by decide) (by decide) (zb_n _) rfl rfl
set_option maxRecDepth 100000 in
set_option maxHeartbeats 4000000 in
theorem c_Op_kind (X : zX) {o w : Nat} (ho : o < 22) (hw : w < 3) (J : zJT) (G : zGT) : zK X 0 m_Op_kind [.int (nI o), .int (nI w)] J G (some (.int (zKinds.getD (3 * o + w) 0))) J G := by
  refine zC_of (by decide) (Nat.le_of_ble_eq_true rfl) ?_
  refine z_getKinds d_Op_kind_0 (zWA_of (i := 557) (by decide +kernel) (by decide +kernel)) ?_
  refine z_iload_n d_Op_kind_3 rfl ?_
  refine z_iconst (v := 3) d_Op_kind_4 (by decide) ?_
  refine z_imul d_Op_kind_5 ?_
  refine z_iload_n d_Op_kind_6 rfl ?_
  refine z_iadd d_Op_kind_7 ?_
  refine z_kinds d_Op_kind_8 (t := 3 * o + w) ⟨by rw [show (3 : Int32) = nI 3 from rfl, pk_mul, nI_add, Nat.mul_comm], by omega, by decide⟩ ?_
  exact z_iret d_Op_kind_9 rfl (by decide) (by decide) rfl rfl
set_option maxRecDepth 100000 in
set_option maxHeartbeats 4000000 in
theorem c_Op_kept (X : zX) {o w : Nat} (ho : o < 22) (hw : w < 3) (v : Int32) (J : zJT) (G : zGT) : zK X 1 m_Op_kept [.int (nI o), .int (nI w), .int v] J G (some (.int (if zKinds.getD (3 * o + w) 0 = 0 then 0 else v))) J G := by
  refine zC_of (by decide) (Nat.le_of_ble_eq_true rfl) ?_
  refine z_iload_n d_Op_kept_0 rfl ?_
  refine z_iload_n d_Op_kept_1 rfl ?_
  refine z_callS1 d_Op_kept_2 g_Op_19 (c_Op_kind X ho hw J G) rfl ⟨by decide, by decide, by decide, by decide⟩ rfl (Nat.le_of_ble_eq_true rfl) ?_
  refine z_if_ne d_Op_kept_5 12 (by decide) (fun h5 => ?_) (fun h5 => ?_)
  · refine z_iload_n d_Op_kept_12 rfl ?_
    exact z_iret d_Op_kept_13 rfl (by decide) (by decide) (by simp_all) rfl
  · refine z_iconst (v := 0) d_Op_kept_8 (by decide) ?_
    refine z_goto d_Op_kept_9 13 (by decide) ?_
    exact z_iret d_Op_kept_13 rfl (by decide) (by decide) (by simp_all) rfl
set_option maxRecDepth 100000 in
set_option maxHeartbeats 4000000 in
theorem c_Op_needs (X : zX) {o : Nat} (ho : o < 22) (J : zJT) (G : zGT) : zK X 1 m_Op_needsOpenCursor [.int (nI o)] J G (some (.int (zb (decide (¬ nI o = 1) && decide (zKinds.getD (3 * o) 0 = 1))))) J G := by
  refine zC_of (by decide) (Nat.le_of_ble_eq_true rfl) ?_
  refine z_iload_n d_Op_needsOpenCursor_0 rfl ?_
  refine z_iconst (v := 1) d_Op_needsOpenCursor_1 (by decide) ?_
  refine z_icmp_eq d_Op_needsOpenCursor_2 18 (by decide) (fun h2 => ?_) (fun h2 => ?_)
  · refine z_iconst (v := 0) d_Op_needsOpenCursor_18 (by decide) ?_
    exact z_zret d_Op_needsOpenCursor_19 rfl (by decide) (by decide) (by decide) (by first | rfl | (simp_all [zb]; done) | grind [zb]) rfl
  · refine z_iload_n d_Op_needsOpenCursor_5 rfl ?_
    refine z_iconst (v := 0) d_Op_needsOpenCursor_6 (by decide) ?_
    refine z_callS1 d_Op_needsOpenCursor_7 g_Op_19 (c_Op_kind (w := 0) X ho (by decide) J G) rfl ⟨by decide, by decide, by decide, by decide⟩ rfl (Nat.le_of_ble_eq_true rfl) ?_
    refine z_iconst (v := 1) d_Op_needsOpenCursor_10 (by decide) ?_
    refine z_icmp_ne d_Op_needsOpenCursor_11 18 (by decide) (fun h11 => ?_) (fun h11 => ?_)
    · refine z_iconst (v := 0) d_Op_needsOpenCursor_18 (by decide) ?_
      exact z_zret d_Op_needsOpenCursor_19 rfl (by decide) (by decide) (by decide) (by first | rfl | (simp_all [zb]; done) | grind [zb]) rfl
    · refine z_iconst (v := 1) d_Op_needsOpenCursor_14 (by decide) ?_
      refine z_goto d_Op_needsOpenCursor_15 19 (by decide) ?_
      exact z_zret d_Op_needsOpenCursor_19 rfl (by decide) (by decide) (by decide) (by first | rfl | (simp_all [zb]; done) | grind [zb]) rfl
set_option maxRecDepth 100000 in
set_option maxHeartbeats 4000000 in
theorem c_Sto_hasTable (X : zX) (i : Int32) (J : zJT) (G : zGT) : zK X 1 m_Sto_hasTable [.ref 2, .int i] J G (some (.int (zb (decide (0 ≤ i) && decide (i < J 2 1))))) J G := by
  refine zC_of (by decide) (Nat.le_of_ble_eq_true rfl) ?_
  refine z_iload_n d_Sto_hasTable_0 rfl ?_
  refine z_aload_n d_Sto_hasTable_1 rfl ?_
  refine z_get d_Sto_hasTable_2 f_Sto_17 (by decide) rfl rfl ?_
  refine z_callN1 d_Sto_hasTable_5 g_Sto_45 (c_isIndex X 0 _ _ _ _) rfl ⟨by decide, by decide, by decide, by decide⟩ rfl (Nat.le_of_ble_eq_true rfl) ?_
  exact z_zret d_Sto_hasTable_8 rfl (by decide) (by decide) (zb_n _) rfl rfl
set_option maxRecDepth 100000 in
set_option maxHeartbeats 4000000 in
theorem c_Sto_isFull (X : zX) (J : zJT) (G : zGT) : zK X 0 m_Sto_isFull [.ref 2] J G (some (.int (zb (decide (J 2 5 = 0))))) J G := by
  refine zC_of (by decide) (Nat.le_of_ble_eq_true rfl) ?_
  refine z_aload_n d_Sto_isFull_0 rfl ?_
  refine z_get d_Sto_isFull_1 f_Sto_38 (by decide) rfl rfl ?_
  refine z_if_ne d_Sto_isFull_4 11 (by decide) (fun h4 => ?_) (fun h4 => ?_)
  · refine z_iconst (v := 0) d_Sto_isFull_11 (by decide) ?_
    exact z_zret d_Sto_isFull_12 rfl (by decide) (by decide) (by decide) (by first | rfl | (simp_all [zb]; done) | grind [zb]) rfl
  · refine z_iconst (v := 1) d_Sto_isFull_7 (by decide) ?_
    refine z_goto d_Sto_isFull_8 12 (by decide) ?_
    exact z_zret d_Sto_isFull_12 rfl (by decide) (by decide) (by decide) (by first | rfl | (simp_all [zb]; done) | grind [zb]) rfl
set_option maxRecDepth 100000 in
set_option maxHeartbeats 4000000 in
theorem c_Sto_hasPlace (X : zX) {t : Nat} (ht : t < 3) (J : zJT) (G : zGT) (p : Int32) : zK X 0 m_Sto_hasPlace [.ref 2, .int (nI t), .int p] J G (some (.int (zb (decide (p < J (9 + 2 * t) 1))))) J G := by
  refine zC_of (by decide) (Nat.le_of_ble_eq_true rfl) ?_
  refine z_iload_n d_Sto_hasPlace_0 rfl ?_
  refine z_aload_n d_Sto_hasPlace_1 rfl ?_
  refine z_get d_Sto_hasPlace_2 f_Sto_11 (by omega) rfl rfl ?_
  refine z_iload_n d_Sto_hasPlace_5 rfl ?_
  refine z_aald d_Sto_hasPlace_6 (by omega) rfl rfl (show zin (nI t) t 3 from ⟨rfl, ht, by decide⟩) (zt_at ht) ?_
  refine z_get d_Sto_hasPlace_7 f_Sto_53 (by omega) (zt_c ht _ _) rfl ?_
  refine z_icmp_ge d_Sto_hasPlace_10 17 (by decide) (fun h10 => ?_) (fun h10 => ?_)
  · refine z_iconst (v := 0) d_Sto_hasPlace_17 (by decide) ?_
    exact z_zret d_Sto_hasPlace_18 rfl (by decide) (by decide) (by decide) (by first | rfl | (simp_all [zb]; done) | grind [zb]) rfl
  · refine z_iconst (v := 1) d_Sto_hasPlace_13 (by decide) ?_
    refine z_goto d_Sto_hasPlace_14 18 (by decide) ?_
    exact z_zret d_Sto_hasPlace_18 rfl (by decide) (by decide) (by decide) (by first | rfl | (simp_all [zb]; done) | grind [zb]) rfl
set_option maxRecDepth 100000 in
set_option maxHeartbeats 4000000 in
theorem c_Sto_keyAt (X : zX) {t : Nat} (ht : t < 3) (J : zJT) (G : zGT) {p u : Nat} {i : Int32} (hi : zin i p 90) (hu : J (10 + 2 * t) p = nI u) (hu2 : u < 90) : zK X 0 m_Sto_keyAt [.ref 2, .int (nI t), .int i] J G (some (.long (G 7 u))) J G := by
  refine zC_of (by decide) (Nat.le_of_ble_eq_true rfl) ?_
  refine z_aload_n d_Sto_keyAt_0 rfl ?_
  refine z_get d_Sto_keyAt_1 f_Sto_30 (by omega) rfl rfl ?_
  refine z_aload_n d_Sto_keyAt_4 rfl ?_
  refine z_get d_Sto_keyAt_5 f_Sto_11 (by omega) rfl rfl ?_
  refine z_iload_n d_Sto_keyAt_8 rfl ?_
  refine z_aald d_Sto_keyAt_9 (by omega) rfl rfl (show zin (nI t) t 3 from ⟨rfl, ht, by decide⟩) (zt_at ht) ?_
  refine z_get d_Sto_keyAt_10 f_Sto_56 (by omega) (zt_c ht _ _) rfl ?_
  refine z_iload_n d_Sto_keyAt_13 rfl ?_
  refine z_iald d_Sto_keyAt_14 (by omega) (zt_s ht _ _) hi ?_
  refine z_lald d_Sto_keyAt_15 (by omega) rfl ⟨hu, hu2, by decide⟩ ?_
  exact z_lret d_Sto_keyAt_16 rfl (by decide) (by decide) rfl rfl
