/-! the reference: what a question is written by -/
/-- the condition k asks the key of the cursor c to be equal, above, or at least -/
def rSkP (J : zJT) (c : Int32) (k : Nat) : Bool := decide (J 58 (4 * k) = c ∧ J 58 (4 * k + 1) = -1 ∧ (J 58 (4 * k + 2) = 0 ∨ J 58 (4 * k + 2) = 4 ∨ J 58 (4 * k + 2) = 5))
def rSk (P : Nat → Bool) : Nat → Nat → Int32
  | 0, _ => -1
  | f + 1, k => if P k = true then nI k else rSk P f (k + 1)
def rLn (J : zJT) (c b : Int32) : Nat → Int32
  | 0 => b
  | k + 1 => rLn J c b k + (if J 58 (4 * k) = c then (if J 58 (4 * k + 2) < 6 then 4 else 3) else 0)
theorem rz16' {n : Nat} (hn : n < 4) : zin (4 * nI n) (4 * n) 16 := by
  have := rz16 (w := 0) hn (by decide)
  rwa [nI_0, Int32.add_zero] at this
set_option maxRecDepth 100000 in
set_option maxHeartbeats 4000000 in
theorem l_Mod_seeker (X : zX) (J : zJT) (G : zGT) (d : Nat) {n : Nat} (hn : J 40 27 = nI n) (hn4 : n ≤ 4) (c : Int32) : ∀ k, k ≤ n → zJ X (zR d 0 0) m_Mod_seeker (zRet X 0 0 false (some (.int (rSk (rSkP J c) n 0))) (hp J G) 60) false 0 0 (hp J G) 60 9 [(0, .ref 40), (1, .int c), (2, .int (rSk (rSkP J c) (n - k) k)), (3, .int (nI k - 1))] [] := by
  intro k
  induction k with
  | zero =>
    intro hk
    refine z_iload_n d_Mod_seeker_9 rfl ?_
    refine z_if_lt d_Mod_seeker_10 92 (by decide) (fun _ => ?_) (fun h9 => absurd (by decide) h9)
    refine z_iload_n d_Mod_seeker_92 rfl ?_
    exact z_iret d_Mod_seeker_93 rfl (by decide) (by decide) rfl rfl
  | succ k ih =>
    intro hk
    rw [nI_pred]
    refine z_iload_n d_Mod_seeker_9 rfl ?_
    refine z_if_lt d_Mod_seeker_10 92 (by decide) (fun h9 => absurd h9 (nI_pos (by omega))) (fun _ => ?_)
    refine z_aload_n d_Mod_seeker_13 rfl ?_
    refine z_get d_Mod_seeker_14 f_Mod_70 (by omega) rfl rfl ?_
    refine z_iconst (v := 4) d_Mod_seeker_17 (by decide) ?_
    refine z_iload_n d_Mod_seeker_18 rfl ?_
    refine z_imul d_Mod_seeker_19 ?_
    refine z_iconst (v := 2) d_Mod_seeker_20 (by decide) ?_
    refine z_iadd d_Mod_seeker_21 ?_
    refine z_iald d_Mod_seeker_22 (by omega) rfl (show zin (4 * nI k + nI 2) (4 * k + 2) 16 from rz16 (by omega) (by decide)) ?_
    refine z_istore (lv' := [(0, _), (1, _), (2, _), (3, _), (4, _)]) d_Mod_seeker_23 (by decide) rfl ?_
    refine z_aload_n d_Mod_seeker_25 rfl ?_
    refine z_get d_Mod_seeker_26 f_Mod_70 (by omega) rfl rfl ?_
    refine z_iconst (v := 4) d_Mod_seeker_29 (by decide) ?_
    refine z_iload_n d_Mod_seeker_30 rfl ?_
    refine z_imul d_Mod_seeker_31 ?_
    refine z_iald d_Mod_seeker_32 (by omega) rfl (rz16' (show k < 4 by omega)) ?_
    refine z_iload_n d_Mod_seeker_33 rfl ?_
    refine z_icmp_ne d_Mod_seeker_34 72 (by decide) (fun h34 => ?_) (fun h34 => ?_)
    · refine z_iconst (v := 0) d_Mod_seeker_72 (by decide) ?_
      refine z_istore (lv' := [(0, _), (1, _), (2, _), (3, _), (4, _), (5, _)]) d_Mod_seeker_73 (by decide) rfl ?_
      refine z_iload d_Mod_seeker_75 rfl ?_
      refine z_if_eq d_Mod_seeker_77 84 (by decide) (fun _ => ?_) (fun h9 => absurd rfl h9)
      refine z_iload_n d_Mod_seeker_84 rfl ?_
      refine z_istore_n (lv' := [(0, _), (1, _), (3, _), (4, _), (5, _), (2, _)]) d_Mod_seeker_85 (by decide) rfl ?_
      refine z_iinc (lv' := [(0, _), (1, _), (4, _), (5, _), (2, _), (3, _)]) d_Mod_seeker_86 (by decide) rfl (show _ + Int32.ofInt (-1) = nI k - 1 from (by rw [show Int32.ofInt (-1) = -1 from by decide, Int32.sub_eq_add_neg])) rfl ?_
      refine z_goto d_Mod_seeker_89 9 (by decide) ?_
      exact z_loc (lv' := [(0, .ref 40), (1, .int c), (2, .int (rSk (rSkP J c) (n - k) k)), (3, .int (nI k - 1))]) (by rw [show rSk (rSkP J c) (n - k) k = rSk (rSkP J c) (n - (k + 1)) (k + 1) from (by rw [show n - k = n - (k + 1) + 1 by omega]; exact if_neg (fun h8 => absurd (of_decide_eq_true h8) (fun h9 => h34 h9.1)))]; simp) (ih (by omega))
    · refine z_aload_n d_Mod_seeker_37 rfl ?_
      refine z_get d_Mod_seeker_38 f_Mod_70 (by omega) rfl rfl ?_
      refine z_iconst (v := 4) d_Mod_seeker_41 (by decide) ?_
      refine z_iload_n d_Mod_seeker_42 rfl ?_
      refine z_imul d_Mod_seeker_43 ?_
      refine z_iconst (v := 1) d_Mod_seeker_44 (by decide) ?_
      refine z_iadd d_Mod_seeker_45 ?_
      refine z_iald d_Mod_seeker_46 (by omega) rfl (show zin (4 * nI k + nI 1) (4 * k + 1) 16 from rz16 (by omega) (by decide)) ?_
      refine z_iconst (v := (-1)) d_Mod_seeker_47 (by decide) ?_
      refine z_icmp_ne d_Mod_seeker_48 72 (by decide) (fun h48 => ?_) (fun h48 => ?_)
      · refine z_iconst (v := 0) d_Mod_seeker_72 (by decide) ?_
        refine z_istore (lv' := [(0, _), (1, _), (2, _), (3, _), (4, _), (5, _)]) d_Mod_seeker_73 (by decide) rfl ?_
        refine z_iload d_Mod_seeker_75 rfl ?_
        refine z_if_eq d_Mod_seeker_77 84 (by decide) (fun _ => ?_) (fun h9 => absurd rfl h9)
        refine z_iload_n d_Mod_seeker_84 rfl ?_
        refine z_istore_n (lv' := [(0, _), (1, _), (3, _), (4, _), (5, _), (2, _)]) d_Mod_seeker_85 (by decide) rfl ?_
        refine z_iinc (lv' := [(0, _), (1, _), (4, _), (5, _), (2, _), (3, _)]) d_Mod_seeker_86 (by decide) rfl (show _ + Int32.ofInt (-1) = nI k - 1 from (by rw [show Int32.ofInt (-1) = -1 from by decide, Int32.sub_eq_add_neg])) rfl ?_
        refine z_goto d_Mod_seeker_89 9 (by decide) ?_
        exact z_loc (lv' := [(0, .ref 40), (1, .int c), (2, .int (rSk (rSkP J c) (n - k) k)), (3, .int (nI k - 1))]) (by rw [show rSk (rSkP J c) (n - k) k = rSk (rSkP J c) (n - (k + 1)) (k + 1) from (by rw [show n - k = n - (k + 1) + 1 by omega]; exact if_neg (fun h8 => absurd (of_decide_eq_true h8) (fun h9 => h48 h9.2.1)))]; simp) (ih (by omega))
      · refine z_iload d_Mod_seeker_51 rfl ?_
        refine z_if_eq d_Mod_seeker_53 68 (by decide) (fun h53 => ?_) (fun h53 => ?_)
        · refine z_iconst (v := 1) d_Mod_seeker_68 (by decide) ?_
          refine z_goto d_Mod_seeker_69 73 (by decide) ?_
          refine z_istore (lv' := [(0, _), (1, _), (2, _), (3, _), (4, _), (5, _)]) d_Mod_seeker_73 (by decide) rfl ?_
          refine z_iload d_Mod_seeker_75 rfl ?_
          refine z_if_eq d_Mod_seeker_77 84 (by decide) (fun h9 => absurd h9 (by decide)) (fun _ => ?_)
          refine z_iload_n d_Mod_seeker_80 rfl ?_
          refine z_goto d_Mod_seeker_81 85 (by decide) ?_
          refine z_istore_n (lv' := [(0, _), (1, _), (3, _), (4, _), (5, _), (2, _)]) d_Mod_seeker_85 (by decide) rfl ?_
          refine z_iinc (lv' := [(0, _), (1, _), (4, _), (5, _), (2, _), (3, _)]) d_Mod_seeker_86 (by decide) rfl (show _ + Int32.ofInt (-1) = nI k - 1 from (by rw [show Int32.ofInt (-1) = -1 from by decide, Int32.sub_eq_add_neg])) rfl ?_
          refine z_goto d_Mod_seeker_89 9 (by decide) ?_
          exact z_loc (lv' := [(0, .ref 40), (1, .int c), (2, .int (rSk (rSkP J c) (n - k) k)), (3, .int (nI k - 1))]) (by rw [show rSk (rSkP J c) (n - k) k = nI k from (by rw [show n - k = n - (k + 1) + 1 by omega]; exact if_pos (decide_eq_true ⟨h34, h48, Or.inl h53⟩))]; simp) (ih (by omega))
        · refine z_iload d_Mod_seeker_56 rfl ?_
          refine z_iconst (v := 4) d_Mod_seeker_58 (by decide) ?_
          refine z_icmp_eq d_Mod_seeker_59 68 (by decide) (fun h59 => ?_) (fun h59 => ?_)
          · refine z_iconst (v := 1) d_Mod_seeker_68 (by decide) ?_
            refine z_goto d_Mod_seeker_69 73 (by decide) ?_
            refine z_istore (lv' := [(0, _), (1, _), (2, _), (3, _), (4, _), (5, _)]) d_Mod_seeker_73 (by decide) rfl ?_
            refine z_iload d_Mod_seeker_75 rfl ?_
            refine z_if_eq d_Mod_seeker_77 84 (by decide) (fun h9 => absurd h9 (by decide)) (fun _ => ?_)
            refine z_iload_n d_Mod_seeker_80 rfl ?_
            refine z_goto d_Mod_seeker_81 85 (by decide) ?_
            refine z_istore_n (lv' := [(0, _), (1, _), (3, _), (4, _), (5, _), (2, _)]) d_Mod_seeker_85 (by decide) rfl ?_
            refine z_iinc (lv' := [(0, _), (1, _), (4, _), (5, _), (2, _), (3, _)]) d_Mod_seeker_86 (by decide) rfl (show _ + Int32.ofInt (-1) = nI k - 1 from (by rw [show Int32.ofInt (-1) = -1 from by decide, Int32.sub_eq_add_neg])) rfl ?_
            refine z_goto d_Mod_seeker_89 9 (by decide) ?_
            exact z_loc (lv' := [(0, .ref 40), (1, .int c), (2, .int (rSk (rSkP J c) (n - k) k)), (3, .int (nI k - 1))]) (by rw [show rSk (rSkP J c) (n - k) k = nI k from (by rw [show n - k = n - (k + 1) + 1 by omega]; exact if_pos (decide_eq_true ⟨h34, h48, Or.inr (Or.inl h59)⟩))]; simp) (ih (by omega))
          · refine z_iload d_Mod_seeker_62 rfl ?_
            refine z_iconst (v := 5) d_Mod_seeker_64 (by decide) ?_
            refine z_icmp_ne d_Mod_seeker_65 72 (by decide) (fun h65 => ?_) (fun h65 => ?_)
            · refine z_iconst (v := 0) d_Mod_seeker_72 (by decide) ?_
              refine z_istore (lv' := [(0, _), (1, _), (2, _), (3, _), (4, _), (5, _)]) d_Mod_seeker_73 (by decide) rfl ?_
              refine z_iload d_Mod_seeker_75 rfl ?_
              refine z_if_eq d_Mod_seeker_77 84 (by decide) (fun _ => ?_) (fun h9 => absurd rfl h9)
              refine z_iload_n d_Mod_seeker_84 rfl ?_
              refine z_istore_n (lv' := [(0, _), (1, _), (3, _), (4, _), (5, _), (2, _)]) d_Mod_seeker_85 (by decide) rfl ?_
              refine z_iinc (lv' := [(0, _), (1, _), (4, _), (5, _), (2, _), (3, _)]) d_Mod_seeker_86 (by decide) rfl (show _ + Int32.ofInt (-1) = nI k - 1 from (by rw [show Int32.ofInt (-1) = -1 from by decide, Int32.sub_eq_add_neg])) rfl ?_
              refine z_goto d_Mod_seeker_89 9 (by decide) ?_
              exact z_loc (lv' := [(0, .ref 40), (1, .int c), (2, .int (rSk (rSkP J c) (n - k) k)), (3, .int (nI k - 1))]) (by rw [show rSk (rSkP J c) (n - k) k = rSk (rSkP J c) (n - (k + 1)) (k + 1) from (by rw [show n - k = n - (k + 1) + 1 by omega]; exact if_neg (fun h8 => absurd (of_decide_eq_true h8) (fun h9 => h9.2.2.elim h53 (fun h8 => h8.elim h59 h65))))]; simp) (ih (by omega))
            · refine z_iconst (v := 1) d_Mod_seeker_68 (by decide) ?_
              refine z_goto d_Mod_seeker_69 73 (by decide) ?_
              refine z_istore (lv' := [(0, _), (1, _), (2, _), (3, _), (4, _), (5, _)]) d_Mod_seeker_73 (by decide) rfl ?_
              refine z_iload d_Mod_seeker_75 rfl ?_
              refine z_if_eq d_Mod_seeker_77 84 (by decide) (fun h9 => absurd h9 (by decide)) (fun _ => ?_)
              refine z_iload_n d_Mod_seeker_80 rfl ?_
              refine z_goto d_Mod_seeker_81 85 (by decide) ?_
              refine z_istore_n (lv' := [(0, _), (1, _), (3, _), (4, _), (5, _), (2, _)]) d_Mod_seeker_85 (by decide) rfl ?_
              refine z_iinc (lv' := [(0, _), (1, _), (4, _), (5, _), (2, _), (3, _)]) d_Mod_seeker_86 (by decide) rfl (show _ + Int32.ofInt (-1) = nI k - 1 from (by rw [show Int32.ofInt (-1) = -1 from by decide, Int32.sub_eq_add_neg])) rfl ?_
              refine z_goto d_Mod_seeker_89 9 (by decide) ?_
              exact z_loc (lv' := [(0, .ref 40), (1, .int c), (2, .int (rSk (rSkP J c) (n - k) k)), (3, .int (nI k - 1))]) (by rw [show rSk (rSkP J c) (n - k) k = nI k from (by rw [show n - k = n - (k + 1) + 1 by omega]; exact if_pos (decide_eq_true ⟨h34, h48, Or.inr (Or.inr h65)⟩))]; simp) (ih (by omega))
set_option maxRecDepth 100000 in
set_option maxHeartbeats 4000000 in
theorem c_Mod_seeker (X : zX) (J : zJT) (G : zGT) (d : Nat) {n : Nat} (hn : J 40 27 = nI n) (hn4 : n ≤ 4) (c : Int32) : zK X d m_Mod_seeker [.ref 40, .int c] J G (some (.int (rSk (rSkP J c) n 0))) J G := by
  refine zC_of (by decide) (Nat.le_of_ble_eq_true rfl) ?_
  refine z_iconst (v := (-1)) d_Mod_seeker_0 (by decide) ?_
  refine z_istore_n (lv' := [(0, _), (1, _), (2, _)]) d_Mod_seeker_1 (by decide) rfl ?_
  refine z_aload_n d_Mod_seeker_2 rfl ?_
  refine z_get d_Mod_seeker_3 f_Mod_174 (by omega) rfl rfl ?_
  rw [hn]
  refine z_iconst (v := 1) d_Mod_seeker_6 (by decide) ?_
  refine z_isub d_Mod_seeker_7 ?_
  refine z_istore_n (lv' := [(0, _), (1, _), (2, _), (3, _)]) d_Mod_seeker_8 (by decide) rfl ?_
  exact z_loc (lv' := [(0, .ref 40), (1, .int c), (2, .int (rSk (rSkP J c) (n - n) n)), (3, .int (nI n - 1))]) (by rw [Nat.sub_self]; simp [rSk]) (l_Mod_seeker X J G d hn hn4 c n (Nat.le_refl n))
set_option maxRecDepth 100000 in
set_option maxHeartbeats 4000000 in
theorem l_Mod_length (X : zX) (J : zJT) (G : zGT) {n : Nat} (hn : J 40 27 = nI n) (hn4 : n ≤ 4) (c : Int32) (b : Int32) : ∀ rem k, n - k = rem → k ≤ n → zJ X (zR 1 0 0) m_Mod_length (zRet X 0 0 false (some (.int (rLn J c b n))) (hp J G) 60) false 0 0 (hp J G) 60 16 [(0, .ref 40), (1, .int c), (2, .int (rLn J c b k)), (3, .int (nI k))] [] := by
  intro rem
  induction rem with
  | zero =>
    intro k hr hk
    obtain rfl : k = n := by omega
    refine z_iload_n d_Mod_length_16 rfl ?_
    refine z_aload_n d_Mod_length_17 rfl ?_
    refine z_get d_Mod_length_18 f_Mod_174 (by omega) rfl rfl ?_
    refine z_icmp_ge d_Mod_length_21 69 (by decide) (fun _ => ?_) (fun h9 => absurd (by rw [hn]; exact nI_le (Nat.le_refl _) (by omega)) h9)
    refine z_iload_n d_Mod_length_69 rfl ?_
    exact z_iret d_Mod_length_70 rfl (by decide) (by decide) rfl rfl
  | succ rem ih =>
    intro k hr hk
    refine z_iload_n d_Mod_length_16 rfl ?_
    refine z_aload_n d_Mod_length_17 rfl ?_
    refine z_get d_Mod_length_18 f_Mod_174 (by omega) rfl rfl ?_
    refine z_icmp_ge d_Mod_length_21 69 (by decide) (fun h9 => absurd h9 (by rw [hn]; exact nI_ge (show k < n by omega) (by omega))) (fun _ => ?_)
    refine z_iload_n d_Mod_length_24 rfl ?_
    refine z_aload_n d_Mod_length_25 rfl ?_
    refine z_get d_Mod_length_26 f_Mod_70 (by omega) rfl rfl ?_
    refine z_iconst (v := 4) d_Mod_length_29 (by decide) ?_
    refine z_iload_n d_Mod_length_30 rfl ?_
    refine z_imul d_Mod_length_31 ?_
    refine z_iald d_Mod_length_32 (by omega) rfl (rz16' (show k < 4 by omega)) ?_
    refine z_iload_n d_Mod_length_33 rfl ?_
    refine z_icmp_eq d_Mod_length_34 41 (by decide) (fun h34 => ?_) (fun h34 => ?_)
    · refine z_aload_n d_Mod_length_41 rfl ?_
      refine z_get d_Mod_length_42 f_Mod_70 (by omega) rfl rfl ?_
      refine z_iconst (v := 4) d_Mod_length_45 (by decide) ?_
      refine z_iload_n d_Mod_length_46 rfl ?_
      refine z_imul d_Mod_length_47 ?_
      refine z_iconst (v := 2) d_Mod_length_48 (by decide) ?_
      refine z_iadd d_Mod_length_49 ?_
      refine z_iald d_Mod_length_50 (by omega) rfl (show zin (4 * nI k + nI 2) (4 * k + 2) 16 from rz16 (by omega) (by decide)) ?_
      refine z_bipush (v := 6) d_Mod_length_51 (by decide) ?_
      refine z_icmp_ge d_Mod_length_53 60 (by decide) (fun h53 => ?_) (fun h53 => ?_)
      · refine z_iconst (v := 3) d_Mod_length_60 (by decide) ?_
        refine z_iadd d_Mod_length_61 ?_
        refine z_istore_n (lv' := [(0, _), (1, _), (3, _), (2, _)]) d_Mod_length_62 (by decide) rfl ?_
        refine z_iinc (lv' := [(0, _), (1, _), (2, _), (3, _)]) d_Mod_length_63 (by decide) rfl (show _ + Int32.ofInt 1 = nI (k + 1) from nI_1 _) rfl ?_
        refine z_goto d_Mod_length_66 16 (by decide) ?_
        exact z_loc (lv' := [(0, .ref 40), (1, .int c), (2, .int (rLn J c b (k + 1))), (3, .int (nI (k + 1)))]) (by rw [show rLn J c b (k + 1) = rLn J c b k + 3 from (by rw [rLn, if_pos h34, if_neg (Int32.not_lt.mpr h53)])]; simp) (ih (k + 1) (by omega) (by omega))
      · refine z_iconst (v := 4) d_Mod_length_56 (by decide) ?_
        refine z_goto d_Mod_length_57 61 (by decide) ?_
        refine z_iadd d_Mod_length_61 ?_
        refine z_istore_n (lv' := [(0, _), (1, _), (3, _), (2, _)]) d_Mod_length_62 (by decide) rfl ?_
        refine z_iinc (lv' := [(0, _), (1, _), (2, _), (3, _)]) d_Mod_length_63 (by decide) rfl (show _ + Int32.ofInt 1 = nI (k + 1) from nI_1 _) rfl ?_
        refine z_goto d_Mod_length_66 16 (by decide) ?_
        exact z_loc (lv' := [(0, .ref 40), (1, .int c), (2, .int (rLn J c b (k + 1))), (3, .int (nI (k + 1)))]) (by rw [show rLn J c b (k + 1) = rLn J c b k + 4 from (by rw [rLn, if_pos h34, if_pos (Int32.not_le.mp h53)])]; simp) (ih (k + 1) (by omega) (by omega))
    · refine z_iconst (v := 0) d_Mod_length_37 (by decide) ?_
      refine z_goto d_Mod_length_38 61 (by decide) ?_
      refine z_iadd d_Mod_length_61 ?_
      refine z_istore_n (lv' := [(0, _), (1, _), (3, _), (2, _)]) d_Mod_length_62 (by decide) rfl ?_
      refine z_iinc (lv' := [(0, _), (1, _), (2, _), (3, _)]) d_Mod_length_63 (by decide) rfl (show _ + Int32.ofInt 1 = nI (k + 1) from nI_1 _) rfl ?_
      refine z_goto d_Mod_length_66 16 (by decide) ?_
      exact z_loc (lv' := [(0, .ref 40), (1, .int c), (2, .int (rLn J c b (k + 1))), (3, .int (nI (k + 1)))]) (by rw [show rLn J c b (k + 1) = rLn J c b k + 0 from (by rw [rLn, if_neg h34])]; simp) (ih (k + 1) (by omega) (by omega))
set_option maxRecDepth 100000 in
set_option maxHeartbeats 4000000 in
theorem c_Mod_length (X : zX) (J : zJT) (G : zGT) {n : Nat} (hn : J 40 27 = nI n) (hn4 : n ≤ 4) (c : Int32) : zK X 1 m_Mod_length [.ref 40, .int c] J G (some (.int (rLn J c (if 0 ≤ rSk (rSkP J c) n 0 then 2 else 1) n))) J G := by
  refine zC_of (by decide) (Nat.le_of_ble_eq_true rfl) ?_
  refine z_aload_n d_Mod_length_0 rfl ?_
  refine z_iload_n d_Mod_length_1 rfl ?_
  refine z_callV1 d_Mod_length_2 g_Mod_193 (c_Mod_seeker X J G 0 hn hn4 c) (by omega) rfl rfl rfl ⟨by decide, by decide, by decide, by decide⟩ rfl (Nat.le_of_ble_eq_true rfl) ?_
  refine z_if_ge d_Mod_length_5 12 (by decide) (fun h5 => ?_) (fun h5 => ?_)
  · refine z_iconst (v := 2) d_Mod_length_12 (by decide) ?_
    refine z_istore_n (lv' := [(0, _), (1, _), (2, _)]) d_Mod_length_13 (by decide) rfl ?_
    refine z_iconst (v := 0) d_Mod_length_14 (by decide) ?_
    refine z_istore_n (lv' := [(0, _), (1, _), (2, _), (3, _)]) d_Mod_length_15 (by decide) rfl ?_
    rw [show (if 0 ≤ rSk (rSkP J c) n 0 then 2 else 1) = (2 : Int32) from (if_pos h5)]
    exact z_loc (lv' := [(0, .ref 40), (1, .int c), (2, .int (rLn J c 2 0)), (3, .int (nI 0))]) (by simp [rLn, nI_0]) (l_Mod_length X J G hn hn4 c 2 n 0 (by omega) (by omega))
  · refine z_iconst (v := 1) d_Mod_length_8 (by decide) ?_
    refine z_goto d_Mod_length_9 13 (by decide) ?_
    refine z_istore_n (lv' := [(0, _), (1, _), (2, _)]) d_Mod_length_13 (by decide) rfl ?_
    refine z_iconst (v := 0) d_Mod_length_14 (by decide) ?_
    refine z_istore_n (lv' := [(0, _), (1, _), (2, _), (3, _)]) d_Mod_length_15 (by decide) rfl ?_
    rw [show (if 0 ≤ rSk (rSkP J c) n 0 then 2 else 1) = (1 : Int32) from (if_neg h5)]
    exact z_loc (lv' := [(0, .ref 40), (1, .int c), (2, .int (rLn J c 1 0)), (3, .int (nI 0))]) (by simp [rLn, nI_0]) (l_Mod_length X J G hn hn4 c 1 n 0 (by omega) (by omega))
