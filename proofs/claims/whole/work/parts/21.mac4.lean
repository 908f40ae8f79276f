/-- the cursors below k are shut -/
def zsh3 (J : zJT) (k : Nat) : zJT := fun a => if 26 ≤ a ∧ a < 26 + k then va_up (va_up (J a) 0 (-1)) 1 0 else J a
theorem zsh3_0 (J : zJT) : zsh3 J 0 = J := by funext a; simp only [zsh3]; rw [if_neg (by omega)]
theorem zsh3_s (J : zJT) (k : Nat) : va_up (zsh3 J k) (26 + k) (va_up (va_up (zsh3 J k (26 + k)) 0 (-1)) 1 0) = zsh3 J (k + 1) := by
  funext a
  by_cases h : a = 26 + k
  · subst h; rw [zu_s]; simp only [zsh3]; rw [if_neg (by omega), if_pos (by omega)]
  · rw [zu_n h]; simp only [zsh3]
    by_cases h2 : 26 ≤ a ∧ a < 26 + k
    · rw [if_pos h2, if_pos (by omega)]
    · rw [if_neg h2, if_neg (by omega)]
/-- the heap at the start of a run -/
def zrsJ (J : zJT) : zJT := va_up (va_up (zsh3 (va_up J 24 (zcl (J 24) 16)) 3) 17 (va_up (J 17) 0 0)) 1 (va_up (J 1) 5 0)
def zrsG (G : zGT) : zGT := va_up G 23 (zclL (G 23) 16)
set_option maxRecDepth 100000 in
set_option maxHeartbeats 4000000 in
theorem l_Mac_reset (X : zX) (J : zJT) (G : zGT) : ∀ m k, 3 - k = m → k ≤ 3 → zJ X (zR 2 0 0) m_Mac_reset (zRet X 0 0 false none (hp (zrsJ J) (zrsG G)) 60) false 0 0 (hp (zsh3 (va_up J 24 (zcl (J 24) 16)) k) (zrsG G)) 60 9 [(0, .ref 1), (1, .int (nI k))] [] := by
  intro m
  induction m with
  | zero =>
    intro k hm hk
    rw [show k = 3 by omega]
    refine z_iload_n d_Mac_reset_9 rfl ?_
    refine z_iconst (v := 3) d_Mac_reset_10 (by decide) ?_
    refine z_icmp_ge d_Mac_reset_11 29 (by decide) (fun _ => ?_) (fun h9 => absurd (by decide) h9)
    refine z_aload_n d_Mac_reset_29 rfl ?_
    refine z_get d_Mac_reset_30 f_Mac_28 (by omega) rfl rfl ?_
    refine z_iconst (v := 0) d_Mac_reset_33 (by decide) ?_
    refine z_put d_Mac_reset_34 f_Mac_80 p_7_0 (by omega) rfl (Nat.le_of_ble_eq_true rfl) rfl rfl (hp_pi 0 rfl) ?_
    refine z_aload_n d_Mac_reset_37 rfl ?_
    refine z_iconst (v := 0) d_Mac_reset_38 (by decide) ?_
    refine z_put d_Mac_reset_39 f_Mac_47 p_1_5 (by omega) rfl (Nat.le_of_ble_eq_true rfl) rfl rfl (hp_pi 5 rfl) ?_
    exact z_vret d_Mac_reset_42 rfl (by decide) (by decide) (by simp [zrsJ, zrsG, zsh3, zu_n, va_up])
  | succ m ih =>
    intro k hm hk
    refine z_iload_n d_Mac_reset_9 rfl ?_
    refine z_iconst (v := 3) d_Mac_reset_10 (by decide) ?_
    refine z_icmp_ge d_Mac_reset_11 29 (by decide) (fun h9 => absurd h9 (nI_ge (show k < 3 by omega) (by decide))) (fun _ => ?_)
    refine z_aload_n d_Mac_reset_14 rfl ?_
    refine z_get d_Mac_reset_15 f_Mac_43 (by omega) rfl rfl ?_
    refine z_iload_n d_Mac_reset_18 rfl ?_
    refine z_aald d_Mac_reset_19 (by omega) rfl rfl (show zin (nI k) k 3 from ⟨rfl, by omega, by decide⟩) (zc_at (show k < 3 by omega)) ?_
    refine z_callV0 d_Mac_reset_20 g_Mac_77 (c_Cur_shut X (show k < 3 by omega) _ _) (by omega) (zc_c (show k < 3 by omega) _ _) rfl rfl ⟨by decide, by decide, by decide, by decide⟩ rfl (Nat.le_of_ble_eq_true rfl) ?_
    refine z_iinc (lv' := [(0, _), (1, _)]) d_Mac_reset_23 (by decide) rfl (show _ + Int32.ofInt 1 = nI (k + 1) from nI_1 _) rfl ?_
    refine z_goto d_Mac_reset_26 9 (by decide) ?_
    refine z_heq (h' := (hp (zsh3 (va_up J 24 (zcl (J 24) 16)) (k + 1)) (zrsG G))) ?_ (ih (k + 1) (by omega) (by omega))
    rw [zsh3_s]
set_option maxRecDepth 100000 in
set_option maxHeartbeats 4000000 in
theorem c_Mac_reset (X : zX) (J : zJT) (G : zGT) : zK X 2 m_Mac_reset [.ref 1] J G none (zrsJ J) (zrsG G) := by
  refine zC_of (by decide) (Nat.le_of_ble_eq_true rfl) ?_
  refine z_aload_n d_Mac_reset_0 rfl ?_
  refine z_get d_Mac_reset_1 f_Mac_37 (by omega) rfl rfl ?_
  refine z_callV0 d_Mac_reset_4 g_Mac_74 (c_Val_clearAll X J G) (by omega) rfl rfl rfl ⟨by decide, by decide, by decide, by decide⟩ rfl (Nat.le_of_ble_eq_true rfl) ?_
  refine z_iconst (v := 0) d_Mac_reset_7 (by decide) ?_
  refine z_istore_n (lv' := [(0, _), (1, _)]) d_Mac_reset_8 (by decide) rfl ?_
  exact z_loc (lv' := [(0, .ref 1), (1, .int (nI 0))]) (by simp [nI_0]) (z_heq (by rw [zsh3_0]; rfl) (l_Mac_reset X J G 3 0 (by omega) (by omega)))
def zNd (o : Nat) : Bool := decide (¬ nI o = 1) && decide (zKinds.getD (3 * o) 0 = 1)
/-- one instruction: from number a to number a1 -/
def zSp (X : zX) (N a : Nat) (J : zJT) (G : zGT) (a1 : Nat) (J1 : zJT) (G1 : zGT) : Prop := ∃ o, o < 22 ∧ J 16 (4 * a) = nI o ∧ J1 15 0 = nI N ∧ a1 ≤ 60 ∧
  (zNd o = true → zK X 4 m_Mac_useCursor [.ref 1, .int (nI o), .int (nI a)] J G (some (.int (nI a1))) J1 G1) ∧ (zNd o = false → zK X 2 m_Mac_compute [.ref 1, .int (nI o), .int (nI a)] J G (some (.int (nI a1))) J1 G1)
/-- at most m instructions -/
def zEx (X : zX) (N : Nat) : Nat → Nat → zJT → zGT → Nat → zJT → zGT → Prop
  | 0, a, J, G, a', J', G' => a' = a ∧ J' = J ∧ G' = G
  | m + 1, a, J, G, a', J', G' => (N ≤ a ∧ a' = a ∧ J' = J ∧ G' = G) ∨ (a < N ∧ ∃ a1 J1 G1, zSp X N a J G a1 J1 G1 ∧ zEx X N m a1 J1 G1 a' J' G')
set_option maxRecDepth 100000 in
set_option maxHeartbeats 4000000 in
theorem l_Mac_exit (X : zX) {N F a' : Nat} (hN : N ≤ 60) (hF : F ≤ 4000) {J' : zJT} {G' : zGT} (hs' : J' 15 0 = nI N) (ha : a' ≤ 60) {i : Nat} : zJ X (zR 5 0 0) m_Mac_execute (zRet X 0 0 false (some (.int (if a' < N then 1 else J' 1 5))) (hp J' G') 60) false 0 0 (hp J' G') 60 67 [(0, .ref 1), (1, .int (nI F)), (2, .int (nI a')), (3, .int (nI i))] [] := by
  refine z_iload_n d_Mac_execute_67 rfl ?_
  refine z_aload_n d_Mac_execute_68 rfl ?_
  refine z_get d_Mac_execute_69 f_Mac_21 (by omega) rfl rfl ?_
  refine z_get d_Mac_execute_72 f_Mac_55 (by omega) rfl rfl ?_
  refine z_icmp_ge d_Mac_execute_75 82 (by decide) (fun h75 => ?_) (fun h75 => ?_)
  · refine z_aload_n d_Mac_execute_82 rfl ?_
    refine z_get d_Mac_execute_83 f_Mac_47 (by omega) rfl rfl ?_
    exact z_iret d_Mac_execute_86 rfl (by decide) (by decide) (by rw [if_neg (fun h9 => absurd (show J' 15 0 ≤ nI a' from h75) (by rw [hs']; exact nI_ge h9 (by omega)))]) rfl
  · refine z_iconst (v := 1) d_Mac_execute_78 (by decide) ?_
    refine z_goto d_Mac_execute_79 86 (by decide) ?_
    exact z_iret d_Mac_execute_86 rfl (by decide) (by decide) (by rw [if_pos (Nat.lt_of_not_le (fun h9 => h75 (by rw [hs']; exact nI_le h9 (by omega))))]) rfl
set_option maxRecDepth 100000 in
set_option maxHeartbeats 4000000 in
theorem l_Mac_execute (X : zX) {N F a' : Nat} (hN : N ≤ 60) (hF : F ≤ 4000) {J' : zJT} {G' : zGT} : ∀ m i a J G, i + m = F → a ≤ 60 → J 15 0 = nI N → zEx X N m a J G a' J' G' → zJ X (zR 5 0 0) m_Mac_execute (zRet X 0 0 false (some (.int (if a' < N then 1 else J' 1 5))) (hp J' G') 60) false 0 0 (hp J G) 60 8 [(0, .ref 1), (1, .int (nI F)), (2, .int (nI a)), (3, .int (nI i))] [] := by
  intro m
  induction m with
  | zero =>
    intro i a J G hi ha hs hx
    refine z_iload_n d_Mac_execute_8 rfl ?_
    refine z_iload_n d_Mac_execute_9 rfl ?_
    refine z_icmp_ge d_Mac_execute_10 67 (by decide) (fun _ => ?_) (fun h9 => absurd (nI_le (show F ≤ i by omega) (by omega)) h9)
    obtain ⟨rfl, rfl, rfl⟩ := hx
    exact z_loc (lv' := [(0, .ref 1), (1, .int (nI F)), (2, .int (nI a')), (3, .int (nI i))]) (by simp) (l_Mac_exit X hN hF hs ha)
  | succ m ih =>
    intro i a J G hi ha hs hx
    rcases hx with hx | ⟨hlt, a1, J1, G1, ⟨o, ho22, ho, hs1, ha1, hu, hv⟩, hx1⟩
    · refine z_iload_n d_Mac_execute_8 rfl ?_
      refine z_iload_n d_Mac_execute_9 rfl ?_
      refine z_icmp_ge d_Mac_execute_10 67 (by decide) (fun h9 => absurd h9 (nI_ge (show i < F by omega) (by omega))) (fun _ => ?_)
      refine z_iload_n d_Mac_execute_13 rfl ?_
      refine z_aload_n d_Mac_execute_14 rfl ?_
      refine z_get d_Mac_execute_15 f_Mac_21 (by omega) rfl rfl ?_
      refine z_get d_Mac_execute_18 f_Mac_55 (by omega) rfl rfl ?_
      refine z_icmp_ge d_Mac_execute_21 67 (by decide) (fun _ => ?_) (fun h9 => absurd (by rw [hs]; exact nI_le hx.1 (by omega)) h9)
      obtain ⟨-, rfl, rfl, rfl⟩ := hx
      exact z_loc (lv' := [(0, .ref 1), (1, .int (nI F)), (2, .int (nI a')), (3, .int (nI i))]) (by simp) (l_Mac_exit X hN hF hs ha)
    · cases hnd : zNd o
      · refine z_iload_n d_Mac_execute_8 rfl ?_
        refine z_iload_n d_Mac_execute_9 rfl ?_
        refine z_icmp_ge d_Mac_execute_10 67 (by decide) (fun h9 => absurd h9 (nI_ge (show i < F by omega) (by omega))) (fun _ => ?_)
        refine z_iload_n d_Mac_execute_13 rfl ?_
        refine z_aload_n d_Mac_execute_14 rfl ?_
        refine z_get d_Mac_execute_15 f_Mac_21 (by omega) rfl rfl ?_
        refine z_get d_Mac_execute_18 f_Mac_55 (by omega) rfl rfl ?_
        refine z_icmp_ge d_Mac_execute_21 67 (by decide) (fun h9 => absurd h9 (by rw [hs]; exact nI_ge hlt (by omega))) (fun _ => ?_)
        refine z_aload_n d_Mac_execute_24 rfl ?_
        refine z_get d_Mac_execute_25 f_Mac_21 (by omega) rfl rfl ?_
        refine z_iload_n d_Mac_execute_28 rfl ?_
        refine z_iconst (v := 0) d_Mac_execute_29 (by decide) ?_
        refine z_callV1 d_Mac_execute_30 g_Mac_58 (c_Pro_word (w := 0) X (show a < 60 by omega) (by decide) J G) (by omega) rfl rfl rfl ⟨by decide, by decide, by decide, by decide⟩ rfl (Nat.le_of_ble_eq_true rfl) ?_
        rw [show J 16 (4 * a + 0) = nI o from ho]
        refine z_istore (lv' := [(0, _), (1, _), (2, _), (3, _), (4, _)]) d_Mac_execute_33 (by decide) rfl ?_
        refine z_iload d_Mac_execute_35 rfl ?_
        refine z_callS1 d_Mac_execute_37 g_Mac_62 (c_Op_needs X ho22 J G) rfl ⟨by decide, by decide, by decide, by decide⟩ rfl (Nat.le_of_ble_eq_true rfl) ?_
        refine z_if_eq d_Mac_execute_40 53 (by decide) (fun _ => ?_) (fun h9 => absurd (show zb (zNd o) = 0 by rw [hnd]; rfl) h9)
        refine z_aload_n d_Mac_execute_53 rfl ?_
        refine z_iload d_Mac_execute_54 rfl ?_
        refine z_iload_n d_Mac_execute_56 rfl ?_
        refine z_callV1 d_Mac_execute_57 g_Mac_71 (hv hnd) (by omega) rfl rfl rfl ⟨by decide, by decide, by decide, by decide⟩ rfl (Nat.le_of_ble_eq_true rfl) ?_
        refine z_istore_n (lv' := [(0, _), (1, _), (3, _), (4, _), (2, _)]) d_Mac_execute_60 (by decide) rfl ?_
        refine z_iinc (lv' := [(0, _), (1, _), (4, _), (2, _), (3, _)]) d_Mac_execute_61 (by decide) rfl (show _ + Int32.ofInt 1 = nI (i + 1) from nI_1 _) rfl ?_
        refine z_goto d_Mac_execute_64 8 (by decide) ?_
        exact z_loc (lv' := [(0, .ref 1), (1, .int (nI F)), (2, .int (nI a1)), (3, .int (nI (i + 1)))]) (by simp) (ih (i + 1) a1 J1 G1 (by omega) ha1 hs1 hx1)
      · refine z_iload_n d_Mac_execute_8 rfl ?_
        refine z_iload_n d_Mac_execute_9 rfl ?_
        refine z_icmp_ge d_Mac_execute_10 67 (by decide) (fun h9 => absurd h9 (nI_ge (show i < F by omega) (by omega))) (fun _ => ?_)
        refine z_iload_n d_Mac_execute_13 rfl ?_
        refine z_aload_n d_Mac_execute_14 rfl ?_
        refine z_get d_Mac_execute_15 f_Mac_21 (by omega) rfl rfl ?_
        refine z_get d_Mac_execute_18 f_Mac_55 (by omega) rfl rfl ?_
        refine z_icmp_ge d_Mac_execute_21 67 (by decide) (fun h9 => absurd h9 (by rw [hs]; exact nI_ge hlt (by omega))) (fun _ => ?_)
        refine z_aload_n d_Mac_execute_24 rfl ?_
        refine z_get d_Mac_execute_25 f_Mac_21 (by omega) rfl rfl ?_
        refine z_iload_n d_Mac_execute_28 rfl ?_
        refine z_iconst (v := 0) d_Mac_execute_29 (by decide) ?_
        refine z_callV1 d_Mac_execute_30 g_Mac_58 (c_Pro_word (w := 0) X (show a < 60 by omega) (by decide) J G) (by omega) rfl rfl rfl ⟨by decide, by decide, by decide, by decide⟩ rfl (Nat.le_of_ble_eq_true rfl) ?_
        rw [show J 16 (4 * a + 0) = nI o from ho]
        refine z_istore (lv' := [(0, _), (1, _), (2, _), (3, _), (4, _)]) d_Mac_execute_33 (by decide) rfl ?_
        refine z_iload d_Mac_execute_35 rfl ?_
        refine z_callS1 d_Mac_execute_37 g_Mac_62 (c_Op_needs X ho22 J G) rfl ⟨by decide, by decide, by decide, by decide⟩ rfl (Nat.le_of_ble_eq_true rfl) ?_
        refine z_if_eq d_Mac_execute_40 53 (by decide) (fun h9 => absurd h9 (show ¬ zb (zNd o) = 0 by rw [hnd]; decide)) (fun _ => ?_)
        refine z_aload_n d_Mac_execute_43 rfl ?_
        refine z_iload d_Mac_execute_44 rfl ?_
        refine z_iload_n d_Mac_execute_46 rfl ?_
        refine z_callV1 d_Mac_execute_47 g_Mac_68 (hu hnd) (by omega) rfl rfl rfl ⟨by decide, by decide, by decide, by decide⟩ rfl (Nat.le_of_ble_eq_true rfl) ?_
        refine z_goto d_Mac_execute_50 60 (by decide) ?_
        refine z_istore_n (lv' := [(0, _), (1, _), (3, _), (4, _), (2, _)]) d_Mac_execute_60 (by decide) rfl ?_
        refine z_iinc (lv' := [(0, _), (1, _), (4, _), (2, _), (3, _)]) d_Mac_execute_61 (by decide) rfl (show _ + Int32.ofInt 1 = nI (i + 1) from nI_1 _) rfl ?_
        refine z_goto d_Mac_execute_64 8 (by decide) ?_
        exact z_loc (lv' := [(0, .ref 1), (1, .int (nI F)), (2, .int (nI a1)), (3, .int (nI (i + 1)))]) (by simp) (ih (i + 1) a1 J1 G1 (by omega) ha1 hs1 hx1)
set_option maxRecDepth 100000 in
set_option maxHeartbeats 4000000 in
theorem c_Mac_execute (X : zX) {N F a' : Nat} (hN : N ≤ 60) (hF : F ≤ 4000) {J' : zJT} {G' : zGT} (J : zJT) (G : zGT) (hs : zrsJ J 15 0 = nI N) (hx : zEx X N F 0 (zrsJ J) (zrsG G) a' J' G') : zK X 5 m_Mac_execute [.ref 1, .int (nI F)] J G (some (.int (if a' < N then 1 else J' 1 5))) J' G' := by
  refine zC_of (by decide) (Nat.le_of_ble_eq_true rfl) ?_
  refine z_aload_n d_Mac_execute_0 rfl ?_
  refine z_callV0 d_Mac_execute_1 g_Mac_52 (c_Mac_reset X J G) (by omega) rfl rfl rfl ⟨by decide, by decide, by decide, by decide⟩ rfl (Nat.le_of_ble_eq_true rfl) ?_
  refine z_iconst (v := 0) d_Mac_execute_4 (by decide) ?_
  refine z_istore_n (lv' := [(0, _), (1, _), (2, _)]) d_Mac_execute_5 (by decide) rfl ?_
  refine z_iconst (v := 0) d_Mac_execute_6 (by decide) ?_
  refine z_istore_n (lv' := [(0, _), (1, _), (2, _), (3, _)]) d_Mac_execute_7 (by decide) rfl ?_
  exact z_loc (lv' := [(0, .ref 1), (1, .int (nI F)), (2, .int (nI 0)), (3, .int (nI 0))]) (by simp [nI_0]) (l_Mac_execute X hN hF F 0 0 _ _ (by omega) (by omega) hs hx)
