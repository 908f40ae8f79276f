theorem zb0 {b : Bool} (h : zb b = 0) : b = false := by cases b; rfl; exact absurd h (by decide)
theorem zb1' {b : Bool} (h : ¬ zb b = 0) : b = true := by cases b; exact absurd rfl h; rfl
theorem cpy_s {f g : Nat → Int32} {sp dp k : Nat} : upd (va_cpy f g sp dp k) (dp + k) (f (sp + k)) = va_cpy f g sp dp (k + 1) := by
  funext j
  simp only [upd, va_cpy]
  by_cases h1 : j = dp + k
  · subst h1; rw [if_pos rfl, if_pos (by omega), show sp + (dp + k - dp) = sp + k by omega]
  · rw [if_neg h1]
    by_cases h2 : dp ≤ j ∧ j < dp + k
    · rw [if_pos h2, if_pos (by omega)]
    · rw [if_neg h2, if_neg (by omega)]
theorem cpy_sL {f g : Nat → Int64} {sp dp k : Nat} : vp_updL (va_cpy f g sp dp k) (dp + k) (f (sp + k)) = va_cpy f g sp dp (k + 1) := by
  funext j
  simp only [vp_updL, va_cpy]
  by_cases h1 : j = dp + k
  · subst h1; rw [if_pos rfl, if_pos (by omega), show sp + (dp + k - dp) = sp + k by omega]
  · rw [if_neg h1]
    by_cases h2 : dp ≤ j ∧ j < dp + k
    · rw [if_pos h2, if_pos (by omega)]
    · rw [if_neg h2, if_neg (by omega)]
theorem cpy_0 {α : Type} {f g : Nat → α} {sp dp : Nat} : va_cpy f g sp dp 0 = g := by
  funext j; simp only [va_cpy]; rw [if_neg (by omega)]
theorem zu_self {α : Type} (f : Nat → α) (a : Nat) : va_up f a (f a) = f := by
  funext i; by_cases h : i = a
  · subst h; rw [zu_s]
  · rw [zu_n h]
set_option maxRecDepth 100000 in
set_option maxHeartbeats 4000000 in
theorem c_Sto_slotOf (X : zX) {t : Nat} (J : zJT) (G : zGT) {n r : Nat} (hT : zTn J t n) (key : Int64) (hr : r ≤ n) (hb : ∀ p, p < n → (zbl (zky J G t p) key false ↔ p < r)) : zK X 1 m_Sto_slotOf [.ref 2, .int (nI t), .long key] J G (some (.int (if r < n ∧ zky J G t r = key then J (10 + 2 * t) r else -1))) J G := by
  have ht := hT.1
  have hn := hT.2.1
  refine zC_of (by decide) (Nat.le_of_ble_eq_true rfl) ?_
  refine z_aload_n d_Sto_slotOf_0 rfl ?_
  refine z_iload_n d_Sto_slotOf_1 rfl ?_
  refine z_lload_n d_Sto_slotOf_2 rfl ?_
  refine z_iconst (v := 0) d_Sto_slotOf_3 (by decide) ?_
  refine z_callV1 d_Sto_slotOf_4 g_Sto_59 (c_Sto_rows X J G hT key false hr hb) (by omega) rfl rfl rfl ⟨by decide, by decide, by decide, by decide⟩ rfl (Nat.le_of_ble_eq_true rfl) ?_
  refine z_istore (lv' := [(0, _), (1, _), (2, _), (4, _)]) d_Sto_slotOf_7 (by decide) rfl ?_
  refine z_aload_n d_Sto_slotOf_9 rfl ?_
  refine z_iload_n d_Sto_slotOf_10 rfl ?_
  refine z_iload d_Sto_slotOf_11 rfl ?_
  refine z_lload_n d_Sto_slotOf_13 rfl ?_
  refine z_callV1 d_Sto_slotOf_14 g_Sto_63 (c_Sto_isAt X J G hT (show r ≤ 90 by omega) key) (by omega) rfl rfl rfl ⟨by decide, by decide, by decide, by decide⟩ rfl (Nat.le_of_ble_eq_true rfl) ?_
  refine z_if_eq d_Sto_slotOf_17 35 (by decide) (fun h17 => ?_) (fun h17 => ?_)
  · refine z_iconst (v := (-1)) d_Sto_slotOf_35 (by decide) ?_
    exact z_iret d_Sto_slotOf_36 rfl (by decide) (by decide) (by have := zb0 h17; simp at this; rw [if_neg (fun h9 => this h9.1 h9.2)]) rfl
  · refine z_aload_n d_Sto_slotOf_20 rfl ?_
    refine z_get d_Sto_slotOf_21 f_Sto_11 (by omega) rfl rfl ?_
    refine z_iload_n d_Sto_slotOf_24 rfl ?_
    refine z_aald d_Sto_slotOf_25 (by omega) rfl rfl (show zin (nI t) t 3 from ⟨rfl, ht, by decide⟩) (zt_at ht) ?_
    refine z_get d_Sto_slotOf_26 f_Sto_56 (by omega) (zt_c ht _ _) rfl ?_
    refine z_iload d_Sto_slotOf_29 rfl ?_
    refine z_iald d_Sto_slotOf_31 (by omega) (zt_s ht _ _) (show zin (nI r) r 90 from ⟨rfl, by have := zb1' h17; simp at this; omega, by decide⟩) ?_
    refine z_goto d_Sto_slotOf_32 36 (by decide) ?_
    exact z_iret d_Sto_slotOf_36 rfl (by decide) (by decide) (by have := zb1' h17; simp at this; rw [if_pos this]) rfl
set_option maxRecDepth 100000 in
set_option maxHeartbeats 4000000 in
theorem c_Sto_drop0 (X : zX) {t : Nat} (J : zJT) (G : zGT) {n r : Nat} (hT : zTn J t n) (key : Int64) (hr : r ≤ n) (hb : ∀ p, p < n → (zbl (zky J G t p) key false ↔ p < r)) (hno : ¬ (r < n ∧ zky J G t r = key)) : zK X 1 m_Sto_drop [.ref 2, .int (nI t), .long key] J G (some (.int 0)) J G := by
  have ht := hT.1
  have hn := hT.2.1
  refine zC_of (by decide) (Nat.le_of_ble_eq_true rfl) ?_
  refine z_aload_n d_Sto_drop_0 rfl ?_
  refine z_iload_n d_Sto_drop_1 rfl ?_
  refine z_lload_n d_Sto_drop_2 rfl ?_
  refine z_iconst (v := 0) d_Sto_drop_3 (by decide) ?_
  refine z_callV1 d_Sto_drop_4 g_Sto_59 (c_Sto_rows X J G hT key false hr hb) (by omega) rfl rfl rfl ⟨by decide, by decide, by decide, by decide⟩ rfl (Nat.le_of_ble_eq_true rfl) ?_
  refine z_istore (lv' := [(0, _), (1, _), (2, _), (4, _)]) d_Sto_drop_7 (by decide) rfl ?_
  refine z_aload_n d_Sto_drop_9 rfl ?_
  refine z_iload_n d_Sto_drop_10 rfl ?_
  refine z_iload d_Sto_drop_11 rfl ?_
  refine z_lload_n d_Sto_drop_13 rfl ?_
  refine z_callV1 d_Sto_drop_14 g_Sto_63 (c_Sto_isAt X J G hT (show r ≤ 90 by omega) key) (by omega) rfl rfl rfl ⟨by decide, by decide, by decide, by decide⟩ rfl (Nat.le_of_ble_eq_true rfl) ?_
  refine z_if_ne d_Sto_drop_17 22 (by decide) (fun h9 => absurd h9 (fun h9 => hno (by have := zb1' h9; simpa using this))) (fun _ => ?_)
  refine z_iconst (v := 0) d_Sto_drop_20 (by decide) ?_
  exact z_zret d_Sto_drop_21 rfl (by decide) (by decide) (by decide) rfl rfl
def zdrJ (J : zJT) (t r n sp : Nat) : zJT := va_up (va_up (va_up (va_up J 8 (upd (J 8) sp (J (10 + 2 * t) r))) 2 (va_up (J 2) 5 (nI sp + 1))) (9 + 2 * t) (va_up (J (9 + 2 * t)) 1 (nI n))) (10 + 2 * t) (zdn (J (10 + 2 * t)) r n)
set_option maxRecDepth 100000 in
set_option maxHeartbeats 4000000 in
theorem c_Sto_drop1 (X : zX) {t : Nat} (J : zJT) (G : zGT) {n r sp : Nat} (hT : zTn J t (n + 1)) (key : Int64) (hr : r ≤ n + 1) (hb : ∀ p, p < n + 1 → (zbl (zky J G t p) key false ↔ p < r)) (hsp : J 2 5 = nI sp) (hs2 : sp < 90) (hlt : r < n + 1) (hk : zky J G t r = key) : zK X 1 m_Sto_drop [.ref 2, .int (nI t), .long key] J G (some (.int 1)) (zdrJ J t r n sp) G := by
  have ht := hT.1
  have hn := hT.2.1
  refine zC_of (by decide) (Nat.le_of_ble_eq_true rfl) ?_
  refine z_aload_n d_Sto_drop_0 rfl ?_
  refine z_iload_n d_Sto_drop_1 rfl ?_
  refine z_lload_n d_Sto_drop_2 rfl ?_
  refine z_iconst (v := 0) d_Sto_drop_3 (by decide) ?_
  refine z_callV1 d_Sto_drop_4 g_Sto_59 (c_Sto_rows X J G hT key false hr hb) (by omega) rfl rfl rfl ⟨by decide, by decide, by decide, by decide⟩ rfl (Nat.le_of_ble_eq_true rfl) ?_
  refine z_istore (lv' := [(0, _), (1, _), (2, _), (4, _)]) d_Sto_drop_7 (by decide) rfl ?_
  refine z_aload_n d_Sto_drop_9 rfl ?_
  refine z_iload_n d_Sto_drop_10 rfl ?_
  refine z_iload d_Sto_drop_11 rfl ?_
  refine z_lload_n d_Sto_drop_13 rfl ?_
  refine z_callV1 d_Sto_drop_14 g_Sto_63 (c_Sto_isAt X J G hT (show r ≤ 90 by omega) key) (by omega) rfl rfl rfl ⟨by decide, by decide, by decide, by decide⟩ rfl (Nat.le_of_ble_eq_true rfl) ?_
  refine z_if_ne d_Sto_drop_17 22 (by decide) (fun _ => ?_) (fun h9 => absurd h9 (by rw [decide_eq_true hlt, decide_eq_true hk]; decide))
  refine z_aload_n d_Sto_drop_22 rfl ?_
  refine z_get d_Sto_drop_23 f_Sto_34 (by omega) rfl rfl ?_
  refine z_aload_n d_Sto_drop_26 rfl ?_
  refine z_get d_Sto_drop_27 f_Sto_38 (by omega) rfl rfl ?_
  refine z_aload_n d_Sto_drop_30 rfl ?_
  refine z_get d_Sto_drop_31 f_Sto_11 (by omega) rfl rfl ?_
  refine z_iload_n d_Sto_drop_34 rfl ?_
  refine z_aald d_Sto_drop_35 (by omega) rfl rfl (show zin (nI t) t 3 from ⟨rfl, ht, by decide⟩) (zt_at ht) ?_
  refine z_get d_Sto_drop_36 f_Sto_56 (by omega) (zt_c ht _ _) rfl ?_
  refine z_iload d_Sto_drop_39 rfl ?_
  refine z_iald d_Sto_drop_41 (by omega) (zt_s ht _ _) (show zin (nI r) r 90 from ⟨rfl, by omega, by decide⟩) ?_
  refine z_iast d_Sto_drop_42 (by omega) rfl (show zin (J 2 5) sp 90 from ⟨hsp, hs2, by decide⟩) (hp_ai rfl) ?_
  refine z_aload_n d_Sto_drop_43 rfl ?_
  refine z_dup d_Sto_drop_44 rfl ?_
  refine z_get d_Sto_drop_45 f_Sto_38 (by omega) rfl rfl ?_
  refine z_iconst (v := 1) d_Sto_drop_48 (by decide) ?_
  refine z_iadd d_Sto_drop_49 ?_
  refine z_put d_Sto_drop_50 f_Sto_38 p_2_5 (by omega) rfl (Nat.le_of_ble_eq_true rfl) rfl rfl (hp_pi 5 rfl) ?_
  refine z_aload_n d_Sto_drop_53 rfl ?_
  refine z_get d_Sto_drop_54 f_Sto_11 (by omega) rfl rfl ?_
  refine z_iload_n d_Sto_drop_57 rfl ?_
  refine z_aald d_Sto_drop_58 (by omega) rfl rfl (show zin (nI t) t 3 from ⟨rfl, ht, by decide⟩) (zt_at ht) ?_
  refine z_iload d_Sto_drop_59 rfl ?_
  refine z_heq (h' := hp (va_up (va_up J 8 (upd (J 8) sp (J (10 + 2 * t) r))) 2 (va_up (J 2) 5 (nI sp + 1))) G) (by simp only [zu_n (show (2 : Nat) ≠ 8 by decide), hsp]) ?_
  refine z_callV0 d_Sto_drop_61 g_Sto_79 (c_Tab_close X ht (va_up (va_up J 8 (upd (J 8) sp (J (10 + 2 * t) r))) 2 (va_up (J 2) 5 (nI sp + 1))) G (p := r) (n := n) (by omega) (by omega) (by rw [zu_n (by omega), zu_n (by omega)]; exact hT.2.2.1)) (by omega) (zt_c ht _ _) rfl rfl ⟨by decide, by decide, by decide, by decide⟩ rfl (Nat.le_of_ble_eq_true rfl) ?_
  refine z_iconst (v := 1) d_Sto_drop_64 (by decide) ?_
  exact z_zret d_Sto_drop_65 rfl (by decide) (by decide) (by decide) rfl (by simp only [zdrJ, zu_n (show 9 + 2 * t ≠ 2 by omega), zu_n (show 9 + 2 * t ≠ 8 by omega), zu_n (show 10 + 2 * t ≠ 2 by omega), zu_n (show 10 + 2 * t ≠ 8 by omega)])
set_option maxRecDepth 100000 in
set_option maxHeartbeats 4000000 in
theorem c_Sto_bring0 (X : zX) {t : Nat} (J : zJT) (G : zGT) {n r : Nat} (hT : zTn J t n) (key : Int64) (hr : r ≤ n) (hb : ∀ p, p < n → (zbl (zky J G t p) key false ↔ p < r)) (b : Nat) (i : Int32) (hno : J 2 5 = 0 ∨ (r < n ∧ zky J G t r = key)) : zK X 1 m_Sto_bring [.ref 2, .int (nI t), .long key, .ref b, .int i] J G (some (.int 0)) J G := by
  have ht := hT.1
  have hn := hT.2.1
  refine zC_of (by decide) (Nat.le_of_ble_eq_true rfl) ?_
  refine z_aload_n d_Sto_bring_0 rfl ?_
  refine z_iload_n d_Sto_bring_1 rfl ?_
  refine z_lload_n d_Sto_bring_2 rfl ?_
  refine z_iconst (v := 0) d_Sto_bring_3 (by decide) ?_
  refine z_callV1 d_Sto_bring_4 g_Sto_59 (c_Sto_rows X J G hT key false hr hb) (by omega) rfl rfl rfl ⟨by decide, by decide, by decide, by decide⟩ rfl (Nat.le_of_ble_eq_true rfl) ?_
  refine z_istore (lv' := [(0, _), (1, _), (2, _), (4, _), (5, _), (6, _)]) d_Sto_bring_7 (by decide) rfl ?_
  refine z_aload_n d_Sto_bring_9 rfl ?_
  refine z_callV1 d_Sto_bring_10 g_Sto_67 (c_Sto_isFull X J G) (by omega) rfl rfl rfl ⟨by decide, by decide, by decide, by decide⟩ rfl (Nat.le_of_ble_eq_true rfl) ?_
  refine z_if_ne d_Sto_bring_13 27 (by decide) (fun h13 => ?_) (fun h13 => ?_)
  · refine z_iconst (v := 0) d_Sto_bring_27 (by decide) ?_
    exact z_zret d_Sto_bring_28 rfl (by decide) (by decide) (by decide) rfl rfl
  · refine z_aload_n d_Sto_bring_16 rfl ?_
    refine z_iload_n d_Sto_bring_17 rfl ?_
    refine z_iload d_Sto_bring_18 rfl ?_
    refine z_lload_n d_Sto_bring_20 rfl ?_
    refine z_callV1 d_Sto_bring_21 g_Sto_63 (c_Sto_isAt X J G hT (show r ≤ 90 by omega) key) (by omega) rfl rfl rfl ⟨by decide, by decide, by decide, by decide⟩ rfl (Nat.le_of_ble_eq_true rfl) ?_
    refine z_if_eq d_Sto_bring_24 29 (by decide) (fun h9 => absurd h9 (fun h9 => hno.elim (fun h => by rw [decide_eq_true h] at h13; exact absurd h13 (by decide)) (fun h => by rw [decide_eq_true h.1, decide_eq_true h.2] at h9; exact absurd h9 (by decide)))) (fun _ => ?_)
    refine z_iconst (v := 0) d_Sto_bring_27 (by decide) ?_
    exact z_zret d_Sto_bring_28 rfl (by decide) (by decide) (by decide) rfl rfl
/-- the heap as a row is brought: one slot u fewer to spare, its key, k of its values -/
def zbrJ (J : zJT) (b f u k sp : Nat) : zJT := va_up (va_up J 2 (va_up (J 2) 5 (nI sp))) 6 (va_cpy (J (b + 2)) (J 6) f (4 * u) k)
def zbrG (G : zGT) (b f u k : Nat) (key : Int64) : zGT := va_up (va_up G 7 (vp_updL (G 7) u key)) 5 (va_cpy (G (b + 1)) (G 5) f (4 * u) k)
def zbrT (J : zJT) (t b f u k sp r n : Nat) : zJT := va_up (va_up (zbrJ J b f u k sp) (10 + 2 * t) (zins (J (10 + 2 * t)) r n (nI u))) (9 + 2 * t) (va_up (J (9 + 2 * t)) 1 (nI n + 1))
theorem zbrJ_s {J : zJT} {b f u k sp : Nat} (hb : b + 2 ≠ 2) (hb6 : b + 2 ≠ 6) : va_up (zbrJ J b f u k sp) 6 (upd (zbrJ J b f u k sp 6) (4 * u + k) (zbrJ J b f u k sp (b + 2) (f + k))) = zbrJ J b f u (k + 1) sp := by
  simp only [zbrJ, bx_uu, zu_s, zu_n hb6, zu_n hb, cpy_s]
theorem zbrG_s {G : zGT} {b f u k : Nat} {key : Int64} (hb : b + 1 ≠ 7) (hb6 : b + 1 ≠ 5) : va_up (zbrG G b f u k key) 5 (vp_updL (zbrG G b f u k key 5) (4 * u + k) (zbrG G b f u k key (b + 1) (f + k))) = zbrG G b f u (k + 1) key := by
  simp only [zbrG, bx_uu, zu_s, zu_n hb6, zu_n hb, cpy_sL]
set_option maxRecDepth 100000 in
set_option maxHeartbeats 4000000 in
theorem l_Sto_bring (X : zX) {t : Nat} (J : zJT) (G : zGT) {n r sp u cl b len f : Nat} (hT : zTn J t n) (key : Int64) (hr : r ≤ n) (hv : zVal b len) (hb4 : 14 < b) (hcl : J (9 + 2 * t) 0 = nI cl) (hc4 : cl ≤ 4) (hlen : f + cl ≤ len) (hl3 : len < 2 ^ 31) (hu : u < 90) (hn9 : n < 90) (hbool : ∀ i, i < len → vp_nar .boolean (J (b + 2) i) = J (b + 2) i) : ∀ m k, cl - k = m → k ≤ cl → zJ X (zR 1 0 0) m_Sto_bring (zRet X 0 0 false (some (.int 1)) (hp (zbrT J t b f u cl sp r n) (zbrG G b f u cl key)) 60) false 0 0 (hp (zbrJ J b f u k sp) (zbrG G b f u k key)) 60 61 [(0, .ref 2), (1, .int (nI t)), (2, .long key), (4, .ref b), (5, .int (nI f)), (6, .int (nI r)), (7, .int (nI u)), (8, .int (nI k))] [] := by
  have ht := hT.1
  have hn := hT.2.1
  have hb59 := hv.1
  intro m
  induction m with
  | zero =>
    intro k hm hk
    rw [show k = cl by omega]
    refine z_iload d_Sto_bring_61 rfl ?_
    refine z_aload_n d_Sto_bring_63 rfl ?_
    refine z_get d_Sto_bring_64 f_Sto_11 (by omega) rfl rfl ?_
    refine z_iload_n d_Sto_bring_67 rfl ?_
    refine z_aald d_Sto_bring_68 (by omega) rfl rfl (show zin (nI t) t 3 from ⟨rfl, ht, by decide⟩) (zt_at ht) ?_
    refine z_get d_Sto_bring_69 f_Sto_42 (by omega) (zt_c ht _ _) rfl ?_
    refine z_icmp_ge d_Sto_bring_72 102 (by decide) (fun _ => ?_) (fun h9 => absurd (by rw [(show zbrJ J b f u cl sp (9 + 2 * t) 0 = nI cl by rw [zbrJ, zu_n (by omega), zu_n (by omega)]; exact hcl)]; exact nI_le (Nat.le_refl _) (by omega)) h9)
    refine z_aload_n d_Sto_bring_102 rfl ?_
    refine z_get d_Sto_bring_103 f_Sto_11 (by omega) rfl rfl ?_
    refine z_iload_n d_Sto_bring_106 rfl ?_
    refine z_aald d_Sto_bring_107 (by omega) rfl rfl (show zin (nI t) t 3 from ⟨rfl, ht, by decide⟩) (zt_at ht) ?_
    refine z_iload d_Sto_bring_108 rfl ?_
    refine z_iload d_Sto_bring_110 rfl ?_
    refine z_callV0 d_Sto_bring_112 g_Sto_75 (c_Tab_open X ht (zbrJ J b f u cl sp) (zbrG G b f u cl key) hr hn9 (nI u) (by rw [zbrJ, zu_n (by omega), zu_n (by omega)]; exact hT.2.2.1)) (by omega) (zt_c ht _ _) rfl rfl ⟨by decide, by decide, by decide, by decide⟩ rfl (Nat.le_of_ble_eq_true rfl) ?_
    refine z_iconst (v := 1) d_Sto_bring_115 (by decide) ?_
    exact z_zret d_Sto_bring_116 rfl (by decide) (by decide) (by decide) rfl (by simp only [zbrT, zbrJ, zu_n (show 9 + 2 * t ≠ 6 by omega), zu_n (show 9 + 2 * t ≠ 2 by omega), zu_n (show 10 + 2 * t ≠ 6 by omega), zu_n (show 10 + 2 * t ≠ 2 by omega)])
  | succ m ih =>
    intro k hm hk
    refine z_iload d_Sto_bring_61 rfl ?_
    refine z_aload_n d_Sto_bring_63 rfl ?_
    refine z_get d_Sto_bring_64 f_Sto_11 (by omega) rfl rfl ?_
    refine z_iload_n d_Sto_bring_67 rfl ?_
    refine z_aald d_Sto_bring_68 (by omega) rfl rfl (show zin (nI t) t 3 from ⟨rfl, ht, by decide⟩) (zt_at ht) ?_
    refine z_get d_Sto_bring_69 f_Sto_42 (by omega) (zt_c ht _ _) rfl ?_
    refine z_icmp_ge d_Sto_bring_72 102 (by decide) (fun h9 => absurd h9 (by rw [(show zbrJ J b f u k sp (9 + 2 * t) 0 = nI cl by rw [zbrJ, zu_n (by omega), zu_n (by omega)]; exact hcl)]; exact nI_ge (show k < cl by omega) (by omega))) (fun _ => ?_)
    refine z_aload_n d_Sto_bring_75 rfl ?_
    refine z_get d_Sto_bring_76 f_Sto_26 (by omega) rfl rfl ?_
    refine z_iload d_Sto_bring_79 rfl ?_
    refine z_iconst (v := 4) d_Sto_bring_81 (by decide) ?_
    refine z_imul d_Sto_bring_82 ?_
    refine z_iload d_Sto_bring_83 rfl ?_
    refine z_iadd d_Sto_bring_85 ?_
    refine z_aload d_Sto_bring_86 rfl ?_
    refine z_iload d_Sto_bring_88 rfl ?_
    refine z_iload d_Sto_bring_90 rfl ?_
    refine z_iadd d_Sto_bring_92 ?_
    refine z_callV0 d_Sto_bring_93 g_Sto_71 (c_Val_copy X zVal4 (show zin (nI u * 4 + nI k) (4 * u + k) 360 from ⟨by rw [show (4 : Int32) = nI 4 from rfl, pk_mul, nI_add, Nat.mul_comm], by omega, by decide⟩) hv (show zin (nI f + nI k) (f + k) len from ⟨nI_add _ _, by omega, hl3⟩) _ _ (by rw [zbrJ, zu_n (by omega), zu_n (by omega)]; exact hbool _ (by omega))) (by omega) rfl rfl rfl ⟨by decide, by decide, by decide, by decide⟩ rfl (Nat.le_of_ble_eq_true rfl) ?_
    refine z_iinc (lv' := [(0, _), (1, _), (2, _), (4, _), (5, _), (6, _), (7, _), (8, _)]) d_Sto_bring_96 (by decide) rfl (show _ + Int32.ofInt 1 = nI (k + 1) from nI_1 _) rfl ?_
    refine z_goto d_Sto_bring_99 61 (by decide) ?_
    refine z_heq (h' := (hp (zbrJ J b f u (k + 1) sp) (zbrG G b f u (k + 1) key))) ?_ (ih (k + 1) (by omega) (by omega))
    rw [zbrJ_s (by omega) (by omega), zbrG_s (by omega) (by omega)]
set_option maxRecDepth 100000 in
set_option maxHeartbeats 4000000 in
theorem c_Sto_bring1 (X : zX) {t : Nat} (J : zJT) (G : zGT) {n r sp u cl b len f : Nat} (hT : zTn J t n) (key : Int64) (hr : r ≤ n) (hv : zVal b len) (hb4 : 14 < b) (hcl : J (9 + 2 * t) 0 = nI cl) (hc4 : cl ≤ 4) (hlen : f + cl ≤ len) (hl3 : len < 2 ^ 31) (hu : u < 90) (hn9 : n < 90) (hbool : ∀ i, i < len → vp_nar .boolean (J (b + 2) i) = J (b + 2) i) (hb : ∀ p, p < n → (zbl (zky J G t p) key false ↔ p < r)) (hno : ¬ (r < n ∧ zky J G t r = key)) (hsp : J 2 5 = nI (sp + 1)) (hs9 : sp < 90) (hu8 : J 8 sp = nI u) : zK X 1 m_Sto_bring [.ref 2, .int (nI t), .long key, .ref b, .int (nI f)] J G (some (.int 1)) (zbrT J t b f u cl sp r n) (zbrG G b f u cl key) := by
  have ht := hT.1
  have hn := hT.2.1
  have hb59 := hv.1
  refine zC_of (by decide) (Nat.le_of_ble_eq_true rfl) ?_
  refine z_aload_n d_Sto_bring_0 rfl ?_
  refine z_iload_n d_Sto_bring_1 rfl ?_
  refine z_lload_n d_Sto_bring_2 rfl ?_
  refine z_iconst (v := 0) d_Sto_bring_3 (by decide) ?_
  refine z_callV1 d_Sto_bring_4 g_Sto_59 (c_Sto_rows X J G hT key false hr hb) (by omega) rfl rfl rfl ⟨by decide, by decide, by decide, by decide⟩ rfl (Nat.le_of_ble_eq_true rfl) ?_
  refine z_istore (lv' := [(0, _), (1, _), (2, _), (4, _), (5, _), (6, _)]) d_Sto_bring_7 (by decide) rfl ?_
  refine z_aload_n d_Sto_bring_9 rfl ?_
  refine z_callV1 d_Sto_bring_10 g_Sto_67 (c_Sto_isFull X J G) (by omega) rfl rfl rfl ⟨by decide, by decide, by decide, by decide⟩ rfl (Nat.le_of_ble_eq_true rfl) ?_
  refine z_if_ne d_Sto_bring_13 27 (by decide) (fun h9 => absurd h9 (fun h9 => h9 (by rw [hsp, decide_eq_false (nI_ne0 (by omega) (by omega))]; rfl))) (fun _ => ?_)
  refine z_aload_n d_Sto_bring_16 rfl ?_
  refine z_iload_n d_Sto_bring_17 rfl ?_
  refine z_iload d_Sto_bring_18 rfl ?_
  refine z_lload_n d_Sto_bring_20 rfl ?_
  refine z_callV1 d_Sto_bring_21 g_Sto_63 (c_Sto_isAt X J G hT (show r ≤ 90 by omega) key) (by omega) rfl rfl rfl ⟨by decide, by decide, by decide, by decide⟩ rfl (Nat.le_of_ble_eq_true rfl) ?_
  refine z_if_eq d_Sto_bring_24 29 (by decide) (fun _ => ?_) (fun h9 => absurd (by rw [show (decide (r < n) && decide (zky J G t r = key)) = false by simpa using hno]; rfl) h9)
  refine z_aload_n d_Sto_bring_29 rfl ?_
  refine z_dup d_Sto_bring_30 rfl ?_
  refine z_get d_Sto_bring_31 f_Sto_38 (by omega) rfl rfl ?_
  refine z_iconst (v := 1) d_Sto_bring_34 (by decide) ?_
  refine z_isub d_Sto_bring_35 ?_
  refine z_put d_Sto_bring_36 f_Sto_38 p_2_5 (by omega) rfl (Nat.le_of_ble_eq_true rfl) rfl rfl (hp_pi 5 rfl) ?_
  refine z_aload_n d_Sto_bring_39 rfl ?_
  refine z_get d_Sto_bring_40 f_Sto_34 (by omega) rfl rfl ?_
  refine z_aload_n d_Sto_bring_43 rfl ?_
  refine z_get d_Sto_bring_44 f_Sto_38 (by omega) rfl rfl ?_
  refine z_heq (h' := hp (va_up J 2 (va_up (J 2) 5 (nI sp))) G) (by rw [hsp, nI_pred]) ?_
  rw [hsp, nI_pred]
  refine z_iald d_Sto_bring_47 (by omega) rfl (show zin (nI sp) sp 90 from ⟨rfl, by omega, by decide⟩) ?_
  refine z_istore (lv' := [(0, _), (1, _), (2, _), (4, _), (5, _), (6, _), (7, _)]) d_Sto_bring_48 (by decide) rfl ?_
  refine z_aload_n d_Sto_bring_50 rfl ?_
  refine z_get d_Sto_bring_51 f_Sto_30 (by omega) rfl rfl ?_
  refine z_iload d_Sto_bring_54 rfl ?_
  refine z_lload_n d_Sto_bring_56 rfl ?_
  rw [show (va_up J 2 (va_up (J 2) 5 (nI sp))) 8 sp = nI u by rw [zu_n (by decide)]; exact hu8]
  refine z_last d_Sto_bring_57 (by omega) rfl (show zin (nI u) u 90 from ⟨rfl, hu, by decide⟩) (hp_al rfl) ?_
  refine z_iconst (v := 0) d_Sto_bring_58 (by decide) ?_
  refine z_istore (lv' := [(0, _), (1, _), (2, _), (4, _), (5, _), (6, _), (7, _), (8, _)]) d_Sto_bring_59 (by decide) rfl ?_
  refine z_loc (lv' := [(0, .ref 2), (1, .int (nI t)), (2, .long key), (4, .ref b), (5, .int (nI f)), (6, .int (nI r)), (7, .int (nI u)), (8, .int (nI 0))]) (by simp [nI_0]) (z_heq ?_ (l_Sto_bring (sp := sp) X J G hT key hr hv hb4 hcl hc4 hlen hl3 hu hn9 hbool cl 0 (by omega) (by omega)))
  simp only [zbrJ, zbrG, cpy_0]
  rw [← zu_n (show (6 : Nat) ≠ 2 by decide) (f := J) (v := va_up (J 2) 5 (nI sp)), zu_self, ← zu_n (show (5 : Nat) ≠ 7 by decide) (f := G) (v := vp_updL (G 7) u key), zu_self]
