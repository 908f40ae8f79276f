/-! the reference: looking rows up -/
def rOf (J : zJT) (G : zGT) (t : Int32) (key : Int64) : Nat → Int32
  | 0 => -1
  | k + 1 => if J 42 k = t ∧ G 43 k = key then nI k else rOf J G t key k
def rMin (G : zGT) (P : Nat → Bool) : Nat → Option Nat
  | 0 => none
  | k + 1 => match rMin G P k with
    | none => if P k = true then some k else none
    | some i => if P k = true ∧ G 43 k < G 43 i then some k else some i
def rI : Option Nat → Int32
  | none => -1
  | some i => nI i
section RM
variable {G : zGT} {P : Nat → Bool} {k i : Nat}
theorem rMin_n (h : ¬ P k = true) : rMin G P (k + 1) = rMin G P k := by
  rw [rMin]
  cases rMin G P k <;> simp [h]
theorem rMin_0 (h : P k = true) (h0 : rMin G P k = none) : rMin G P (k + 1) = some k := by
  rw [rMin, h0]
  simp [h]
theorem rMin_1 (h : P k = true) (h0 : rMin G P k = some i) (hl : G 43 k < G 43 i) : rMin G P (k + 1) = some k := by
  rw [rMin, h0]
  simp [h, hl]
theorem rMin_2 (h0 : rMin G P k = some i) (hl : ¬ G 43 k < G 43 i) : rMin G P (k + 1) = some i := by
  rw [rMin, h0]
  simp [hl]
theorem rMin_lt : ∀ (k i : Nat), rMin G P k = some i → i < k ∧ P i = true
  | 0, _, h => by simp [rMin] at h
  | k + 1, i, h => by
    rw [rMin] at h
    cases h0 : rMin G P k with
    | none =>
      rw [h0] at h
      by_cases hp : P k = true
      · simp [hp] at h; subst h; exact ⟨by omega, hp⟩
      · simp [hp] at h
    | some q =>
      rw [h0] at h
      have hq := rMin_lt k q h0
      by_cases hp : P k = true ∧ G 43 k < G 43 q
      · simp [hp] at h; subst h; exact ⟨by omega, hp.1⟩
      · simp only [if_neg hp] at h
        cases h
        exact ⟨by omega, hq.2⟩
end RM
/-- the row k is of the table t, and its key is at or above the key, or above it -/
def rP (J : zJT) (G : zGT) (t : Int32) (key : Int64) (o : Bool) (k : Nat) : Bool := decide (J 42 k = t ∧ (key < G 43 k ∨ (G 43 k = key ∧ o = false)))
def rT (J : zJT) (t : Int32) (k : Nat) : Bool := decide (J 42 k = t)
theorem rP_t {J : zJT} {G : zGT} {t : Int32} {key : Int64} {o : Bool} {k : Nat} (h : J 42 k = t ∧ (key < G 43 k ∨ (G 43 k = key ∧ o = false))) : rP J G t key o k = true := decide_eq_true h
theorem rP_f {J : zJT} {G : zGT} {t : Int32} {key : Int64} {o : Bool} {k : Nat} (h : ¬ (J 42 k = t ∧ (key < G 43 k ∨ (G 43 k = key ∧ o = false)))) : ¬ rP J G t key o k = true := fun h9 => h (of_decide_eq_true h9)
theorem rT_t {J : zJT} {t : Int32} {k : Nat} (h : J 42 k = t) : rT J t k = true := decide_eq_true h
theorem rT_f {J : zJT} {t : Int32} {k : Nat} (h : ¬ J 42 k = t) : ¬ rT J t k = true := fun h9 => h (of_decide_eq_true h9)
set_option maxRecDepth 100000 in
set_option maxHeartbeats 4000000 in
theorem l_Mod_rowOf (X : zX) (J : zJT) (G : zGT) (d : Nat) {n : Nat} (hn : J 40 3 = nI n) (hn9 : n ≤ 90) (t : Int32) (key : Int64) : ∀ rem k, n - k = rem → k ≤ n → zJ X (zR d 0 0) m_Mod_rowOf (zRet X 0 0 false (some (.int (rOf J G t key n))) (hp J G) 60) false 0 0 (hp J G) 60 6 [(0, .ref 40), (1, .int t), (2, .long key), (4, .int (rOf J G t key k)), (5, .int (nI k))] [] := by
  intro rem
  induction rem with
  | zero =>
    intro k hr hk
    obtain rfl : k = n := by omega
    refine z_iload d_Mod_rowOf_6 rfl ?_
    refine z_aload_n d_Mod_rowOf_8 rfl ?_
    refine z_get d_Mod_rowOf_9 f_Mod_79 (by omega) rfl rfl ?_
    refine z_icmp_ge d_Mod_rowOf_12 53 (by decide) (fun _ => ?_) (fun h9 => absurd (by rw [hn]; exact nI_le (Nat.le_refl _) (by omega)) h9)
    refine z_iload d_Mod_rowOf_53 rfl ?_
    exact z_iret d_Mod_rowOf_55 rfl (by decide) (by decide) (by first | rfl | (simp_all; done) | grind) rfl
  | succ rem ih =>
    intro k hr hk
    refine z_iload d_Mod_rowOf_6 rfl ?_
    refine z_aload_n d_Mod_rowOf_8 rfl ?_
    refine z_get d_Mod_rowOf_9 f_Mod_79 (by omega) rfl rfl ?_
    refine z_icmp_ge d_Mod_rowOf_12 53 (by decide) (fun h9 => absurd h9 (by rw [hn]; exact nI_ge (show k < n by omega) (by omega))) (fun _ => ?_)
    refine z_aload_n d_Mod_rowOf_15 rfl ?_
    refine z_get d_Mod_rowOf_16 f_Mod_13 (by omega) rfl rfl ?_
    refine z_iload d_Mod_rowOf_19 rfl ?_
    refine z_iald d_Mod_rowOf_21 (by omega) rfl (show zin (nI k) k 90 from ⟨rfl, by omega, by decide⟩) ?_
    refine z_iload_n d_Mod_rowOf_22 rfl ?_
    refine z_icmp_ne d_Mod_rowOf_23 43 (by decide) (fun h23 => ?_) (fun h23 => ?_)
    · refine z_iload d_Mod_rowOf_43 rfl ?_
      refine z_istore (lv' := [(0, _), (1, _), (2, _), (5, _), (4, _)]) d_Mod_rowOf_45 (by decide) rfl ?_
      refine z_iinc (lv' := [(0, _), (1, _), (2, _), (4, _), (5, _)]) d_Mod_rowOf_47 (by decide) rfl (show _ + Int32.ofInt 1 = nI (k + 1) from nI_1 _) rfl ?_
      refine z_goto d_Mod_rowOf_50 6 (by decide) ?_
      exact z_loc (lv' := [(0, .ref 40), (1, .int t), (2, .long key), (4, .int (rOf J G t key (k + 1))), (5, .int (nI (k + 1)))]) (by rw [show rOf J G t key (k + 1) = rOf J G t key k from (if_neg (fun h9 => h23 h9.1))]; simp) (ih (k + 1) (by omega) (by omega))
    · refine z_aload_n d_Mod_rowOf_26 rfl ?_
      refine z_get d_Mod_rowOf_27 f_Mod_16 (by omega) rfl rfl ?_
      refine z_iload d_Mod_rowOf_30 rfl ?_
      refine z_lald d_Mod_rowOf_32 (by omega) rfl (show zin (nI k) k 90 from ⟨rfl, by omega, by decide⟩) ?_
      refine z_lload_n d_Mod_rowOf_33 rfl ?_
      refine z_lcmp d_Mod_rowOf_34 ?_
      refine z_if_ne d_Mod_rowOf_35 43 (by decide) (fun h35 => ?_) (fun h35 => ?_)
      · refine z_iload d_Mod_rowOf_43 rfl ?_
        refine z_istore (lv' := [(0, _), (1, _), (2, _), (5, _), (4, _)]) d_Mod_rowOf_45 (by decide) rfl ?_
        refine z_iinc (lv' := [(0, _), (1, _), (2, _), (4, _), (5, _)]) d_Mod_rowOf_47 (by decide) rfl (show _ + Int32.ofInt 1 = nI (k + 1) from nI_1 _) rfl ?_
        refine z_goto d_Mod_rowOf_50 6 (by decide) ?_
        exact z_loc (lv' := [(0, .ref 40), (1, .int t), (2, .long key), (4, .int (rOf J G t key (k + 1))), (5, .int (nI (k + 1)))]) (by rw [show rOf J G t key (k + 1) = rOf J G t key k from (if_neg (fun h9 => h35 ((lg_cmp_eq _ _).mpr h9.2)))]; simp) (ih (k + 1) (by omega) (by omega))
      · refine z_iload d_Mod_rowOf_38 rfl ?_
        refine z_goto d_Mod_rowOf_40 45 (by decide) ?_
        refine z_istore (lv' := [(0, _), (1, _), (2, _), (5, _), (4, _)]) d_Mod_rowOf_45 (by decide) rfl ?_
        refine z_iinc (lv' := [(0, _), (1, _), (2, _), (4, _), (5, _)]) d_Mod_rowOf_47 (by decide) rfl (show _ + Int32.ofInt 1 = nI (k + 1) from nI_1 _) rfl ?_
        refine z_goto d_Mod_rowOf_50 6 (by decide) ?_
        exact z_loc (lv' := [(0, .ref 40), (1, .int t), (2, .long key), (4, .int (rOf J G t key (k + 1))), (5, .int (nI (k + 1)))]) (by rw [show rOf J G t key (k + 1) = nI k from (if_pos ⟨h23, (lg_cmp_eq _ _).mp h35⟩)]; simp) (ih (k + 1) (by omega) (by omega))
set_option maxRecDepth 100000 in
set_option maxHeartbeats 4000000 in
theorem c_Mod_rowOf (X : zX) (J : zJT) (G : zGT) (d : Nat) {n : Nat} (hn : J 40 3 = nI n) (hn9 : n ≤ 90) (t : Int32) (key : Int64) : zK X d m_Mod_rowOf [.ref 40, .int t, .long key] J G (some (.int (rOf J G t key n))) J G := by
  refine zC_of (by decide) (Nat.le_of_ble_eq_true rfl) ?_
  refine z_iconst (v := (-1)) d_Mod_rowOf_0 (by decide) ?_
  refine z_istore (lv' := [(0, _), (1, _), (2, _), (4, _)]) d_Mod_rowOf_1 (by decide) rfl ?_
  refine z_iconst (v := 0) d_Mod_rowOf_3 (by decide) ?_
  refine z_istore (lv' := [(0, _), (1, _), (2, _), (4, _), (5, _)]) d_Mod_rowOf_4 (by decide) rfl ?_
  exact z_loc (lv' := [(0, .ref 40), (1, .int t), (2, .long key), (4, .int (rOf J G t key 0)), (5, .int (nI 0))]) (by simp [rOf, nI_0]) (l_Mod_rowOf X J G d hn hn9 t key n 0 (by omega) (by omega))
set_option maxRecDepth 100000 in
set_option maxHeartbeats 4000000 in
theorem l_Mod_rowFrom (X : zX) (J : zJT) (G : zGT) (d : Nat) {n : Nat} (hn : J 40 3 = nI n) (hn9 : n ≤ 90) (t : Int32) (key : Int64) (o : Bool) : ∀ rem k, n - k = rem → k ≤ n → zJ X (zR d 0 0) m_Mod_rowFrom (zRet X 0 0 false (some (.int (rI (rMin G (rP J G t key o) n)))) (hp J G) 60) false 0 0 (hp J G) 60 6 [(0, .ref 40), (1, .int t), (2, .long key), (4, .int (zb o)), (5, .int (rI (rMin G (rP J G t key o) k))), (6, .int (nI k))] [] := by
  intro rem
  induction rem with
  | zero =>
    intro k hr hk
    obtain rfl : k = n := by omega
    refine z_iload d_Mod_rowFrom_6 rfl ?_
    refine z_aload_n d_Mod_rowFrom_8 rfl ?_
    refine z_get d_Mod_rowFrom_9 f_Mod_79 (by omega) rfl rfl ?_
    refine z_icmp_ge d_Mod_rowFrom_12 114 (by decide) (fun _ => ?_) (fun h9 => absurd (by rw [hn]; exact nI_le (Nat.le_refl _) (by omega)) h9)
    refine z_iload d_Mod_rowFrom_114 rfl ?_
    exact z_iret d_Mod_rowFrom_116 rfl (by decide) (by decide) (by first | rfl | (simp_all; done) | grind) rfl
  | succ rem ih =>
    intro k hr hk
    cases hq : rMin G (rP J G t key o) k with
    | none =>
      rw [show rI none = -1 from rfl]
      refine z_iload d_Mod_rowFrom_6 rfl ?_
      refine z_aload_n d_Mod_rowFrom_8 rfl ?_
      refine z_get d_Mod_rowFrom_9 f_Mod_79 (by omega) rfl rfl ?_
      refine z_icmp_ge d_Mod_rowFrom_12 114 (by decide) (fun h9 => absurd h9 (by rw [hn]; exact nI_ge (show k < n by omega) (by omega))) (fun _ => ?_)
      refine z_aload_n d_Mod_rowFrom_15 rfl ?_
      refine z_get d_Mod_rowFrom_16 f_Mod_13 (by omega) rfl rfl ?_
      refine z_iload d_Mod_rowFrom_19 rfl ?_
      refine z_iald d_Mod_rowFrom_21 (by omega) rfl (show zin (nI k) k 90 from ⟨rfl, by omega, by decide⟩) ?_
      refine z_iload_n d_Mod_rowFrom_22 rfl ?_
      refine z_icmp_ne d_Mod_rowFrom_23 59 (by decide) (fun h23 => ?_) (fun h23 => ?_)
      · refine z_iconst (v := 0) d_Mod_rowFrom_59 (by decide) ?_
        refine z_istore (lv' := [(0, _), (1, _), (2, _), (4, _), (5, _), (6, _), (7, _)]) d_Mod_rowFrom_60 (by decide) rfl ?_
        refine z_iload d_Mod_rowFrom_62 rfl ?_
        refine z_if_eq d_Mod_rowFrom_64 104 (by decide) (fun _ => ?_) (fun h9 => absurd rfl h9)
        refine z_iload d_Mod_rowFrom_104 rfl ?_
        refine z_istore (lv' := [(0, _), (1, _), (2, _), (4, _), (6, _), (7, _), (5, _)]) d_Mod_rowFrom_106 (by decide) rfl ?_
        refine z_iinc (lv' := [(0, _), (1, _), (2, _), (4, _), (7, _), (5, _), (6, _)]) d_Mod_rowFrom_108 (by decide) rfl (show _ + Int32.ofInt 1 = nI (k + 1) from nI_1 _) rfl ?_
        refine z_goto d_Mod_rowFrom_111 6 (by decide) ?_
        exact z_loc (lv' := [(0, .ref 40), (1, .int t), (2, .long key), (4, .int (zb o)), (5, .int (rI (rMin G (rP J G t key o) (k + 1)))), (6, .int (nI (k + 1)))]) (by rw [show rMin G (rP J G t key o) (k + 1) = none from (by rw [rMin_n (rP_f (fun h9 => h23 h9.1)), hq])]; simp [rI]) (ih (k + 1) (by omega) (by omega))
      · refine z_aload_n d_Mod_rowFrom_26 rfl ?_
        refine z_get d_Mod_rowFrom_27 f_Mod_16 (by omega) rfl rfl ?_
        refine z_iload d_Mod_rowFrom_30 rfl ?_
        refine z_lald d_Mod_rowFrom_32 (by omega) rfl (show zin (nI k) k 90 from ⟨rfl, by omega, by decide⟩) ?_
        refine z_lload_n d_Mod_rowFrom_33 rfl ?_
        refine z_lcmp d_Mod_rowFrom_34 ?_
        refine z_if_gt d_Mod_rowFrom_35 55 (by decide) (fun h35 => ?_) (fun h35 => ?_)
        · refine z_iconst (v := 1) d_Mod_rowFrom_55 (by decide) ?_
          refine z_goto d_Mod_rowFrom_56 60 (by decide) ?_
          refine z_istore (lv' := [(0, _), (1, _), (2, _), (4, _), (5, _), (6, _), (7, _)]) d_Mod_rowFrom_60 (by decide) rfl ?_
          refine z_iload d_Mod_rowFrom_62 rfl ?_
          refine z_if_eq d_Mod_rowFrom_64 104 (by decide) (fun h9 => absurd h9 (by decide)) (fun _ => ?_)
          refine z_iload d_Mod_rowFrom_67 rfl ?_
          refine z_if_lt d_Mod_rowFrom_69 99 (by decide) (fun _ => ?_) (fun h9 => absurd (by decide) h9)
          refine z_iload d_Mod_rowFrom_99 rfl ?_
          refine z_goto d_Mod_rowFrom_101 106 (by decide) ?_
          refine z_istore (lv' := [(0, _), (1, _), (2, _), (4, _), (6, _), (7, _), (5, _)]) d_Mod_rowFrom_106 (by decide) rfl ?_
          refine z_iinc (lv' := [(0, _), (1, _), (2, _), (4, _), (7, _), (5, _), (6, _)]) d_Mod_rowFrom_108 (by decide) rfl (show _ + Int32.ofInt 1 = nI (k + 1) from nI_1 _) rfl ?_
          refine z_goto d_Mod_rowFrom_111 6 (by decide) ?_
          exact z_loc (lv' := [(0, .ref 40), (1, .int t), (2, .long key), (4, .int (zb o)), (5, .int (rI (rMin G (rP J G t key o) (k + 1)))), (6, .int (nI (k + 1)))]) (by rw [show rMin G (rP J G t key o) (k + 1) = some k from (rMin_0 (rP_t ⟨h23, Or.inl ((lg_cmp_gt _ _).mp h35)⟩) hq)]; simp [rI]) (ih (k + 1) (by omega) (by omega))
        · refine z_aload_n d_Mod_rowFrom_38 rfl ?_
          refine z_get d_Mod_rowFrom_39 f_Mod_16 (by omega) rfl rfl ?_
          refine z_iload d_Mod_rowFrom_42 rfl ?_
          refine z_lald d_Mod_rowFrom_44 (by omega) rfl (show zin (nI k) k 90 from ⟨rfl, by omega, by decide⟩) ?_
          refine z_lload_n d_Mod_rowFrom_45 rfl ?_
          refine z_lcmp d_Mod_rowFrom_46 ?_
          refine z_if_ne d_Mod_rowFrom_47 59 (by decide) (fun h47 => ?_) (fun h47 => ?_)
          · refine z_iconst (v := 0) d_Mod_rowFrom_59 (by decide) ?_
            refine z_istore (lv' := [(0, _), (1, _), (2, _), (4, _), (5, _), (6, _), (7, _)]) d_Mod_rowFrom_60 (by decide) rfl ?_
            refine z_iload d_Mod_rowFrom_62 rfl ?_
            refine z_if_eq d_Mod_rowFrom_64 104 (by decide) (fun _ => ?_) (fun h9 => absurd rfl h9)
            refine z_iload d_Mod_rowFrom_104 rfl ?_
            refine z_istore (lv' := [(0, _), (1, _), (2, _), (4, _), (6, _), (7, _), (5, _)]) d_Mod_rowFrom_106 (by decide) rfl ?_
            refine z_iinc (lv' := [(0, _), (1, _), (2, _), (4, _), (7, _), (5, _), (6, _)]) d_Mod_rowFrom_108 (by decide) rfl (show _ + Int32.ofInt 1 = nI (k + 1) from nI_1 _) rfl ?_
            refine z_goto d_Mod_rowFrom_111 6 (by decide) ?_
            exact z_loc (lv' := [(0, .ref 40), (1, .int t), (2, .long key), (4, .int (zb o)), (5, .int (rI (rMin G (rP J G t key o) (k + 1)))), (6, .int (nI (k + 1)))]) (by rw [show rMin G (rP J G t key o) (k + 1) = none from (by rw [rMin_n (rP_f (fun h9 => h9.2.elim (fun h8 => h35 ((lg_cmp_gt _ _).mpr h8)) (fun h8 => h47 ((lg_cmp_eq _ _).mpr h8.1)))), hq])]; simp [rI]) (ih (k + 1) (by omega) (by omega))
          · refine z_iload d_Mod_rowFrom_50 rfl ?_
            refine z_if_ne d_Mod_rowFrom_52 59 (by decide) (fun h52 => ?_) (fun h52 => ?_)
            · refine z_iconst (v := 0) d_Mod_rowFrom_59 (by decide) ?_
              refine z_istore (lv' := [(0, _), (1, _), (2, _), (4, _), (5, _), (6, _), (7, _)]) d_Mod_rowFrom_60 (by decide) rfl ?_
              refine z_iload d_Mod_rowFrom_62 rfl ?_
              refine z_if_eq d_Mod_rowFrom_64 104 (by decide) (fun _ => ?_) (fun h9 => absurd rfl h9)
              refine z_iload d_Mod_rowFrom_104 rfl ?_
              refine z_istore (lv' := [(0, _), (1, _), (2, _), (4, _), (6, _), (7, _), (5, _)]) d_Mod_rowFrom_106 (by decide) rfl ?_
              refine z_iinc (lv' := [(0, _), (1, _), (2, _), (4, _), (7, _), (5, _), (6, _)]) d_Mod_rowFrom_108 (by decide) rfl (show _ + Int32.ofInt 1 = nI (k + 1) from nI_1 _) rfl ?_
              refine z_goto d_Mod_rowFrom_111 6 (by decide) ?_
              exact z_loc (lv' := [(0, .ref 40), (1, .int t), (2, .long key), (4, .int (zb o)), (5, .int (rI (rMin G (rP J G t key o) (k + 1)))), (6, .int (nI (k + 1)))]) (by rw [show rMin G (rP J G t key o) (k + 1) = none from (by rw [rMin_n (rP_f (fun h9 => h9.2.elim (fun h8 => h35 ((lg_cmp_gt _ _).mpr h8)) (fun h8 => h52 (by rw [h8.2]; rfl)))), hq])]; simp [rI]) (ih (k + 1) (by omega) (by omega))
            · refine z_iconst (v := 1) d_Mod_rowFrom_55 (by decide) ?_
              refine z_goto d_Mod_rowFrom_56 60 (by decide) ?_
              refine z_istore (lv' := [(0, _), (1, _), (2, _), (4, _), (5, _), (6, _), (7, _)]) d_Mod_rowFrom_60 (by decide) rfl ?_
              refine z_iload d_Mod_rowFrom_62 rfl ?_
              refine z_if_eq d_Mod_rowFrom_64 104 (by decide) (fun h9 => absurd h9 (by decide)) (fun _ => ?_)
              refine z_iload d_Mod_rowFrom_67 rfl ?_
              refine z_if_lt d_Mod_rowFrom_69 99 (by decide) (fun _ => ?_) (fun h9 => absurd (by decide) h9)
              refine z_iload d_Mod_rowFrom_99 rfl ?_
              refine z_goto d_Mod_rowFrom_101 106 (by decide) ?_
              refine z_istore (lv' := [(0, _), (1, _), (2, _), (4, _), (6, _), (7, _), (5, _)]) d_Mod_rowFrom_106 (by decide) rfl ?_
              refine z_iinc (lv' := [(0, _), (1, _), (2, _), (4, _), (7, _), (5, _), (6, _)]) d_Mod_rowFrom_108 (by decide) rfl (show _ + Int32.ofInt 1 = nI (k + 1) from nI_1 _) rfl ?_
              refine z_goto d_Mod_rowFrom_111 6 (by decide) ?_
              exact z_loc (lv' := [(0, .ref 40), (1, .int t), (2, .long key), (4, .int (zb o)), (5, .int (rI (rMin G (rP J G t key o) (k + 1)))), (6, .int (nI (k + 1)))]) (by rw [show rMin G (rP J G t key o) (k + 1) = some k from (rMin_0 (rP_t ⟨h23, Or.inr ⟨(lg_cmp_eq _ _).mp h47, zb0 h52⟩⟩) hq)]; simp [rI]) (ih (k + 1) (by omega) (by omega))
    | some i =>
      have hi := (rMin_lt k i hq).1
      rw [show rI (some i) = nI i from rfl]
      refine z_iload d_Mod_rowFrom_6 rfl ?_
      refine z_aload_n d_Mod_rowFrom_8 rfl ?_
      refine z_get d_Mod_rowFrom_9 f_Mod_79 (by omega) rfl rfl ?_
      refine z_icmp_ge d_Mod_rowFrom_12 114 (by decide) (fun h9 => absurd h9 (by rw [hn]; exact nI_ge (show k < n by omega) (by omega))) (fun _ => ?_)
      refine z_aload_n d_Mod_rowFrom_15 rfl ?_
      refine z_get d_Mod_rowFrom_16 f_Mod_13 (by omega) rfl rfl ?_
      refine z_iload d_Mod_rowFrom_19 rfl ?_
      refine z_iald d_Mod_rowFrom_21 (by omega) rfl (show zin (nI k) k 90 from ⟨rfl, by omega, by decide⟩) ?_
      refine z_iload_n d_Mod_rowFrom_22 rfl ?_
      refine z_icmp_ne d_Mod_rowFrom_23 59 (by decide) (fun h23 => ?_) (fun h23 => ?_)
      · refine z_iconst (v := 0) d_Mod_rowFrom_59 (by decide) ?_
        refine z_istore (lv' := [(0, _), (1, _), (2, _), (4, _), (5, _), (6, _), (7, _)]) d_Mod_rowFrom_60 (by decide) rfl ?_
        refine z_iload d_Mod_rowFrom_62 rfl ?_
        refine z_if_eq d_Mod_rowFrom_64 104 (by decide) (fun _ => ?_) (fun h9 => absurd rfl h9)
        refine z_iload d_Mod_rowFrom_104 rfl ?_
        refine z_istore (lv' := [(0, _), (1, _), (2, _), (4, _), (6, _), (7, _), (5, _)]) d_Mod_rowFrom_106 (by decide) rfl ?_
        refine z_iinc (lv' := [(0, _), (1, _), (2, _), (4, _), (7, _), (5, _), (6, _)]) d_Mod_rowFrom_108 (by decide) rfl (show _ + Int32.ofInt 1 = nI (k + 1) from nI_1 _) rfl ?_
        refine z_goto d_Mod_rowFrom_111 6 (by decide) ?_
        exact z_loc (lv' := [(0, .ref 40), (1, .int t), (2, .long key), (4, .int (zb o)), (5, .int (rI (rMin G (rP J G t key o) (k + 1)))), (6, .int (nI (k + 1)))]) (by rw [show rMin G (rP J G t key o) (k + 1) = some i from (by rw [rMin_n (rP_f (fun h9 => h23 h9.1)), hq])]; simp [rI]) (ih (k + 1) (by omega) (by omega))
      · refine z_aload_n d_Mod_rowFrom_26 rfl ?_
        refine z_get d_Mod_rowFrom_27 f_Mod_16 (by omega) rfl rfl ?_
        refine z_iload d_Mod_rowFrom_30 rfl ?_
        refine z_lald d_Mod_rowFrom_32 (by omega) rfl (show zin (nI k) k 90 from ⟨rfl, by omega, by decide⟩) ?_
        refine z_lload_n d_Mod_rowFrom_33 rfl ?_
        refine z_lcmp d_Mod_rowFrom_34 ?_
        refine z_if_gt d_Mod_rowFrom_35 55 (by decide) (fun h35 => ?_) (fun h35 => ?_)
        · refine z_iconst (v := 1) d_Mod_rowFrom_55 (by decide) ?_
          refine z_goto d_Mod_rowFrom_56 60 (by decide) ?_
          refine z_istore (lv' := [(0, _), (1, _), (2, _), (4, _), (5, _), (6, _), (7, _)]) d_Mod_rowFrom_60 (by decide) rfl ?_
          refine z_iload d_Mod_rowFrom_62 rfl ?_
          refine z_if_eq d_Mod_rowFrom_64 104 (by decide) (fun h9 => absurd h9 (by decide)) (fun _ => ?_)
          refine z_iload d_Mod_rowFrom_67 rfl ?_
          refine z_if_lt d_Mod_rowFrom_69 99 (by decide) (fun h9 => absurd h9 (nI_pos (by omega))) (fun _ => ?_)
          refine z_aload_n d_Mod_rowFrom_72 rfl ?_
          refine z_get d_Mod_rowFrom_73 f_Mod_16 (by omega) rfl rfl ?_
          refine z_iload d_Mod_rowFrom_76 rfl ?_
          refine z_lald d_Mod_rowFrom_78 (by omega) rfl (show zin (nI k) k 90 from ⟨rfl, by omega, by decide⟩) ?_
          refine z_aload_n d_Mod_rowFrom_79 rfl ?_
          refine z_get d_Mod_rowFrom_80 f_Mod_16 (by omega) rfl rfl ?_
          refine z_iload d_Mod_rowFrom_83 rfl ?_
          refine z_if_ge d_Mod_rowFrom_85 92 (by decide) (fun _ => ?_) (fun h9 => absurd (nI_pos' (by omega)) h9)
          refine z_iload d_Mod_rowFrom_92 rfl ?_
          refine z_lald d_Mod_rowFrom_94 (by omega) rfl (show zin (nI i) i 90 from ⟨rfl, by omega, by decide⟩) ?_
          refine z_lcmp d_Mod_rowFrom_95 ?_
          refine z_if_ge d_Mod_rowFrom_96 104 (by decide) (fun h96 => ?_) (fun h96 => ?_)
          · refine z_iload d_Mod_rowFrom_104 rfl ?_
            refine z_istore (lv' := [(0, _), (1, _), (2, _), (4, _), (6, _), (7, _), (5, _)]) d_Mod_rowFrom_106 (by decide) rfl ?_
            refine z_iinc (lv' := [(0, _), (1, _), (2, _), (4, _), (7, _), (5, _), (6, _)]) d_Mod_rowFrom_108 (by decide) rfl (show _ + Int32.ofInt 1 = nI (k + 1) from nI_1 _) rfl ?_
            refine z_goto d_Mod_rowFrom_111 6 (by decide) ?_
            exact z_loc (lv' := [(0, .ref 40), (1, .int t), (2, .long key), (4, .int (zb o)), (5, .int (rI (rMin G (rP J G t key o) (k + 1)))), (6, .int (nI (k + 1)))]) (by rw [show rMin G (rP J G t key o) (k + 1) = some i from (rMin_2 hq (Int64.not_lt.mpr ((lg_cmp_ge _ _).mp h96)))]; simp [rI]) (ih (k + 1) (by omega) (by omega))
          · refine z_iload d_Mod_rowFrom_99 rfl ?_
            refine z_goto d_Mod_rowFrom_101 106 (by decide) ?_
            refine z_istore (lv' := [(0, _), (1, _), (2, _), (4, _), (6, _), (7, _), (5, _)]) d_Mod_rowFrom_106 (by decide) rfl ?_
            refine z_iinc (lv' := [(0, _), (1, _), (2, _), (4, _), (7, _), (5, _), (6, _)]) d_Mod_rowFrom_108 (by decide) rfl (show _ + Int32.ofInt 1 = nI (k + 1) from nI_1 _) rfl ?_
            refine z_goto d_Mod_rowFrom_111 6 (by decide) ?_
            exact z_loc (lv' := [(0, .ref 40), (1, .int t), (2, .long key), (4, .int (zb o)), (5, .int (rI (rMin G (rP J G t key o) (k + 1)))), (6, .int (nI (k + 1)))]) (by rw [show rMin G (rP J G t key o) (k + 1) = some k from (rMin_1 (rP_t ⟨h23, Or.inl ((lg_cmp_gt _ _).mp h35)⟩) hq (Int64.not_le.mp (fun h9 => h96 ((lg_cmp_ge _ _).mpr h9))))]; simp [rI]) (ih (k + 1) (by omega) (by omega))
        · refine z_aload_n d_Mod_rowFrom_38 rfl ?_
          refine z_get d_Mod_rowFrom_39 f_Mod_16 (by omega) rfl rfl ?_
          refine z_iload d_Mod_rowFrom_42 rfl ?_
          refine z_lald d_Mod_rowFrom_44 (by omega) rfl (show zin (nI k) k 90 from ⟨rfl, by omega, by decide⟩) ?_
          refine z_lload_n d_Mod_rowFrom_45 rfl ?_
          refine z_lcmp d_Mod_rowFrom_46 ?_
          refine z_if_ne d_Mod_rowFrom_47 59 (by decide) (fun h47 => ?_) (fun h47 => ?_)
          · refine z_iconst (v := 0) d_Mod_rowFrom_59 (by decide) ?_
            refine z_istore (lv' := [(0, _), (1, _), (2, _), (4, _), (5, _), (6, _), (7, _)]) d_Mod_rowFrom_60 (by decide) rfl ?_
            refine z_iload d_Mod_rowFrom_62 rfl ?_
            refine z_if_eq d_Mod_rowFrom_64 104 (by decide) (fun _ => ?_) (fun h9 => absurd rfl h9)
            refine z_iload d_Mod_rowFrom_104 rfl ?_
            refine z_istore (lv' := [(0, _), (1, _), (2, _), (4, _), (6, _), (7, _), (5, _)]) d_Mod_rowFrom_106 (by decide) rfl ?_
            refine z_iinc (lv' := [(0, _), (1, _), (2, _), (4, _), (7, _), (5, _), (6, _)]) d_Mod_rowFrom_108 (by decide) rfl (show _ + Int32.ofInt 1 = nI (k + 1) from nI_1 _) rfl ?_
            refine z_goto d_Mod_rowFrom_111 6 (by decide) ?_
            exact z_loc (lv' := [(0, .ref 40), (1, .int t), (2, .long key), (4, .int (zb o)), (5, .int (rI (rMin G (rP J G t key o) (k + 1)))), (6, .int (nI (k + 1)))]) (by rw [show rMin G (rP J G t key o) (k + 1) = some i from (by rw [rMin_n (rP_f (fun h9 => h9.2.elim (fun h8 => h35 ((lg_cmp_gt _ _).mpr h8)) (fun h8 => h47 ((lg_cmp_eq _ _).mpr h8.1)))), hq])]; simp [rI]) (ih (k + 1) (by omega) (by omega))
          · refine z_iload d_Mod_rowFrom_50 rfl ?_
            refine z_if_ne d_Mod_rowFrom_52 59 (by decide) (fun h52 => ?_) (fun h52 => ?_)
            · refine z_iconst (v := 0) d_Mod_rowFrom_59 (by decide) ?_
              refine z_istore (lv' := [(0, _), (1, _), (2, _), (4, _), (5, _), (6, _), (7, _)]) d_Mod_rowFrom_60 (by decide) rfl ?_
              refine z_iload d_Mod_rowFrom_62 rfl ?_
              refine z_if_eq d_Mod_rowFrom_64 104 (by decide) (fun _ => ?_) (fun h9 => absurd rfl h9)
              refine z_iload d_Mod_rowFrom_104 rfl ?_
              refine z_istore (lv' := [(0, _), (1, _), (2, _), (4, _), (6, _), (7, _), (5, _)]) d_Mod_rowFrom_106 (by decide) rfl ?_
              refine z_iinc (lv' := [(0, _), (1, _), (2, _), (4, _), (7, _), (5, _), (6, _)]) d_Mod_rowFrom_108 (by decide) rfl (show _ + Int32.ofInt 1 = nI (k + 1) from nI_1 _) rfl ?_
              refine z_goto d_Mod_rowFrom_111 6 (by decide) ?_
              exact z_loc (lv' := [(0, .ref 40), (1, .int t), (2, .long key), (4, .int (zb o)), (5, .int (rI (rMin G (rP J G t key o) (k + 1)))), (6, .int (nI (k + 1)))]) (by rw [show rMin G (rP J G t key o) (k + 1) = some i from (by rw [rMin_n (rP_f (fun h9 => h9.2.elim (fun h8 => h35 ((lg_cmp_gt _ _).mpr h8)) (fun h8 => h52 (by rw [h8.2]; rfl)))), hq])]; simp [rI]) (ih (k + 1) (by omega) (by omega))
            · refine z_iconst (v := 1) d_Mod_rowFrom_55 (by decide) ?_
              refine z_goto d_Mod_rowFrom_56 60 (by decide) ?_
              refine z_istore (lv' := [(0, _), (1, _), (2, _), (4, _), (5, _), (6, _), (7, _)]) d_Mod_rowFrom_60 (by decide) rfl ?_
              refine z_iload d_Mod_rowFrom_62 rfl ?_
              refine z_if_eq d_Mod_rowFrom_64 104 (by decide) (fun h9 => absurd h9 (by decide)) (fun _ => ?_)
              refine z_iload d_Mod_rowFrom_67 rfl ?_
              refine z_if_lt d_Mod_rowFrom_69 99 (by decide) (fun h9 => absurd h9 (nI_pos (by omega))) (fun _ => ?_)
              refine z_aload_n d_Mod_rowFrom_72 rfl ?_
              refine z_get d_Mod_rowFrom_73 f_Mod_16 (by omega) rfl rfl ?_
              refine z_iload d_Mod_rowFrom_76 rfl ?_
              refine z_lald d_Mod_rowFrom_78 (by omega) rfl (show zin (nI k) k 90 from ⟨rfl, by omega, by decide⟩) ?_
              refine z_aload_n d_Mod_rowFrom_79 rfl ?_
              refine z_get d_Mod_rowFrom_80 f_Mod_16 (by omega) rfl rfl ?_
              refine z_iload d_Mod_rowFrom_83 rfl ?_
              refine z_if_ge d_Mod_rowFrom_85 92 (by decide) (fun _ => ?_) (fun h9 => absurd (nI_pos' (by omega)) h9)
              refine z_iload d_Mod_rowFrom_92 rfl ?_
              refine z_lald d_Mod_rowFrom_94 (by omega) rfl (show zin (nI i) i 90 from ⟨rfl, by omega, by decide⟩) ?_
              refine z_lcmp d_Mod_rowFrom_95 ?_
              refine z_if_ge d_Mod_rowFrom_96 104 (by decide) (fun h96 => ?_) (fun h96 => ?_)
              · refine z_iload d_Mod_rowFrom_104 rfl ?_
                refine z_istore (lv' := [(0, _), (1, _), (2, _), (4, _), (6, _), (7, _), (5, _)]) d_Mod_rowFrom_106 (by decide) rfl ?_
                refine z_iinc (lv' := [(0, _), (1, _), (2, _), (4, _), (7, _), (5, _), (6, _)]) d_Mod_rowFrom_108 (by decide) rfl (show _ + Int32.ofInt 1 = nI (k + 1) from nI_1 _) rfl ?_
                refine z_goto d_Mod_rowFrom_111 6 (by decide) ?_
                exact z_loc (lv' := [(0, .ref 40), (1, .int t), (2, .long key), (4, .int (zb o)), (5, .int (rI (rMin G (rP J G t key o) (k + 1)))), (6, .int (nI (k + 1)))]) (by rw [show rMin G (rP J G t key o) (k + 1) = some i from (rMin_2 hq (Int64.not_lt.mpr ((lg_cmp_ge _ _).mp h96)))]; simp [rI]) (ih (k + 1) (by omega) (by omega))
              · refine z_iload d_Mod_rowFrom_99 rfl ?_
                refine z_goto d_Mod_rowFrom_101 106 (by decide) ?_
                refine z_istore (lv' := [(0, _), (1, _), (2, _), (4, _), (6, _), (7, _), (5, _)]) d_Mod_rowFrom_106 (by decide) rfl ?_
                refine z_iinc (lv' := [(0, _), (1, _), (2, _), (4, _), (7, _), (5, _), (6, _)]) d_Mod_rowFrom_108 (by decide) rfl (show _ + Int32.ofInt 1 = nI (k + 1) from nI_1 _) rfl ?_
                refine z_goto d_Mod_rowFrom_111 6 (by decide) ?_
                exact z_loc (lv' := [(0, .ref 40), (1, .int t), (2, .long key), (4, .int (zb o)), (5, .int (rI (rMin G (rP J G t key o) (k + 1)))), (6, .int (nI (k + 1)))]) (by rw [show rMin G (rP J G t key o) (k + 1) = some k from (rMin_1 (rP_t ⟨h23, Or.inr ⟨(lg_cmp_eq _ _).mp h47, zb0 h52⟩⟩) hq (Int64.not_le.mp (fun h9 => h96 ((lg_cmp_ge _ _).mpr h9))))]; simp [rI]) (ih (k + 1) (by omega) (by omega))
set_option maxRecDepth 100000 in
set_option maxHeartbeats 4000000 in
theorem c_Mod_rowFrom (X : zX) (J : zJT) (G : zGT) (d : Nat) {n : Nat} (hn : J 40 3 = nI n) (hn9 : n ≤ 90) (t : Int32) (key : Int64) (o : Bool) : zK X d m_Mod_rowFrom [.ref 40, .int t, .long key, .int (zb o)] J G (some (.int (rI (rMin G (rP J G t key o) n)))) J G := by
  refine zC_of (by decide) (Nat.le_of_ble_eq_true rfl) ?_
  refine z_iconst (v := (-1)) d_Mod_rowFrom_0 (by decide) ?_
  refine z_istore (lv' := [(0, _), (1, _), (2, _), (4, _), (5, _)]) d_Mod_rowFrom_1 (by decide) rfl ?_
  refine z_iconst (v := 0) d_Mod_rowFrom_3 (by decide) ?_
  refine z_istore (lv' := [(0, _), (1, _), (2, _), (4, _), (5, _), (6, _)]) d_Mod_rowFrom_4 (by decide) rfl ?_
  exact z_loc (lv' := [(0, .ref 40), (1, .int t), (2, .long key), (4, .int (zb o)), (5, .int (rI (rMin G (rP J G t key o) 0))), (6, .int (nI 0))]) (by simp [rMin, rI, nI_0]) (l_Mod_rowFrom X J G d hn hn9 t key o n 0 (by omega) (by omega))
set_option maxRecDepth 100000 in
set_option maxHeartbeats 4000000 in
theorem l_Mod_firstRow (X : zX) (J : zJT) (G : zGT) (d : Nat) {n : Nat} (hn : J 40 3 = nI n) (hn9 : n ≤ 90) (t : Int32) : ∀ rem k, n - k = rem → k ≤ n → zJ X (zR d 0 0) m_Mod_firstRow (zRet X 0 0 false (some (.int (rI (rMin G (rT J t) n)))) (hp J G) 60) false 0 0 (hp J G) 60 4 [(0, .ref 40), (1, .int t), (2, .int (rI (rMin G (rT J t) k))), (3, .int (nI k))] [] := by
  intro rem
  induction rem with
  | zero =>
    intro k hr hk
    obtain rfl : k = n := by omega
    refine z_iload_n d_Mod_firstRow_4 rfl ?_
    refine z_aload_n d_Mod_firstRow_5 rfl ?_
    refine z_get d_Mod_firstRow_6 f_Mod_79 (by omega) rfl rfl ?_
    refine z_icmp_ge d_Mod_firstRow_9 62 (by decide) (fun _ => ?_) (fun h9 => absurd (by rw [hn]; exact nI_le (Nat.le_refl _) (by omega)) h9)
    refine z_iload_n d_Mod_firstRow_62 rfl ?_
    exact z_iret d_Mod_firstRow_63 rfl (by decide) (by decide) (by first | rfl | (simp_all; done) | grind) rfl
  | succ rem ih =>
    intro k hr hk
    cases hq : rMin G (rT J t) k with
    | none =>
      rw [show rI none = -1 from rfl]
      refine z_iload_n d_Mod_firstRow_4 rfl ?_
      refine z_aload_n d_Mod_firstRow_5 rfl ?_
      refine z_get d_Mod_firstRow_6 f_Mod_79 (by omega) rfl rfl ?_
      refine z_icmp_ge d_Mod_firstRow_9 62 (by decide) (fun h9 => absurd h9 (by rw [hn]; exact nI_ge (show k < n by omega) (by omega))) (fun _ => ?_)
      refine z_aload_n d_Mod_firstRow_12 rfl ?_
      refine z_get d_Mod_firstRow_13 f_Mod_13 (by omega) rfl rfl ?_
      refine z_iload_n d_Mod_firstRow_16 rfl ?_
      refine z_iald d_Mod_firstRow_17 (by omega) rfl (show zin (nI k) k 90 from ⟨rfl, by omega, by decide⟩) ?_
      refine z_iload_n d_Mod_firstRow_18 rfl ?_
      refine z_icmp_ne d_Mod_firstRow_19 54 (by decide) (fun h19 => ?_) (fun h19 => ?_)
      · refine z_iload_n d_Mod_firstRow_54 rfl ?_
        refine z_istore_n (lv' := [(0, _), (1, _), (3, _), (2, _)]) d_Mod_firstRow_55 (by decide) rfl ?_
        refine z_iinc (lv' := [(0, _), (1, _), (2, _), (3, _)]) d_Mod_firstRow_56 (by decide) rfl (show _ + Int32.ofInt 1 = nI (k + 1) from nI_1 _) rfl ?_
        refine z_goto d_Mod_firstRow_59 4 (by decide) ?_
        exact z_loc (lv' := [(0, .ref 40), (1, .int t), (2, .int (rI (rMin G (rT J t) (k + 1)))), (3, .int (nI (k + 1)))]) (by rw [show rMin G (rT J t) (k + 1) = none from (by rw [rMin_n (rT_f h19), hq])]; simp [rI]) (ih (k + 1) (by omega) (by omega))
      · refine z_iload_n d_Mod_firstRow_22 rfl ?_
        refine z_if_lt d_Mod_firstRow_23 50 (by decide) (fun _ => ?_) (fun h9 => absurd (by decide) h9)
        refine z_iload_n d_Mod_firstRow_50 rfl ?_
        refine z_goto d_Mod_firstRow_51 55 (by decide) ?_
        refine z_istore_n (lv' := [(0, _), (1, _), (3, _), (2, _)]) d_Mod_firstRow_55 (by decide) rfl ?_
        refine z_iinc (lv' := [(0, _), (1, _), (2, _), (3, _)]) d_Mod_firstRow_56 (by decide) rfl (show _ + Int32.ofInt 1 = nI (k + 1) from nI_1 _) rfl ?_
        refine z_goto d_Mod_firstRow_59 4 (by decide) ?_
        exact z_loc (lv' := [(0, .ref 40), (1, .int t), (2, .int (rI (rMin G (rT J t) (k + 1)))), (3, .int (nI (k + 1)))]) (by rw [show rMin G (rT J t) (k + 1) = some k from (rMin_0 (rT_t h19) hq)]; simp [rI]) (ih (k + 1) (by omega) (by omega))
    | some i =>
      have hi := (rMin_lt k i hq).1
      rw [show rI (some i) = nI i from rfl]
      refine z_iload_n d_Mod_firstRow_4 rfl ?_
      refine z_aload_n d_Mod_firstRow_5 rfl ?_
      refine z_get d_Mod_firstRow_6 f_Mod_79 (by omega) rfl rfl ?_
      refine z_icmp_ge d_Mod_firstRow_9 62 (by decide) (fun h9 => absurd h9 (by rw [hn]; exact nI_ge (show k < n by omega) (by omega))) (fun _ => ?_)
      refine z_aload_n d_Mod_firstRow_12 rfl ?_
      refine z_get d_Mod_firstRow_13 f_Mod_13 (by omega) rfl rfl ?_
      refine z_iload_n d_Mod_firstRow_16 rfl ?_
      refine z_iald d_Mod_firstRow_17 (by omega) rfl (show zin (nI k) k 90 from ⟨rfl, by omega, by decide⟩) ?_
      refine z_iload_n d_Mod_firstRow_18 rfl ?_
      refine z_icmp_ne d_Mod_firstRow_19 54 (by decide) (fun h19 => ?_) (fun h19 => ?_)
      · refine z_iload_n d_Mod_firstRow_54 rfl ?_
        refine z_istore_n (lv' := [(0, _), (1, _), (3, _), (2, _)]) d_Mod_firstRow_55 (by decide) rfl ?_
        refine z_iinc (lv' := [(0, _), (1, _), (2, _), (3, _)]) d_Mod_firstRow_56 (by decide) rfl (show _ + Int32.ofInt 1 = nI (k + 1) from nI_1 _) rfl ?_
        refine z_goto d_Mod_firstRow_59 4 (by decide) ?_
        exact z_loc (lv' := [(0, .ref 40), (1, .int t), (2, .int (rI (rMin G (rT J t) (k + 1)))), (3, .int (nI (k + 1)))]) (by rw [show rMin G (rT J t) (k + 1) = some i from (by rw [rMin_n (rT_f h19), hq])]; simp [rI]) (ih (k + 1) (by omega) (by omega))
      · refine z_iload_n d_Mod_firstRow_22 rfl ?_
        refine z_if_lt d_Mod_firstRow_23 50 (by decide) (fun h9 => absurd h9 (nI_pos (by omega))) (fun _ => ?_)
        refine z_aload_n d_Mod_firstRow_26 rfl ?_
        refine z_get d_Mod_firstRow_27 f_Mod_16 (by omega) rfl rfl ?_
        refine z_iload_n d_Mod_firstRow_30 rfl ?_
        refine z_lald d_Mod_firstRow_31 (by omega) rfl (show zin (nI k) k 90 from ⟨rfl, by omega, by decide⟩) ?_
        refine z_aload_n d_Mod_firstRow_32 rfl ?_
        refine z_get d_Mod_firstRow_33 f_Mod_16 (by omega) rfl rfl ?_
        refine z_iload_n d_Mod_firstRow_36 rfl ?_
        refine z_if_ge d_Mod_firstRow_37 44 (by decide) (fun _ => ?_) (fun h9 => absurd (nI_pos' (by omega)) h9)
        refine z_iload_n d_Mod_firstRow_44 rfl ?_
        refine z_lald d_Mod_firstRow_45 (by omega) rfl (show zin (nI i) i 90 from ⟨rfl, by omega, by decide⟩) ?_
        refine z_lcmp d_Mod_firstRow_46 ?_
        refine z_if_ge d_Mod_firstRow_47 54 (by decide) (fun h47 => ?_) (fun h47 => ?_)
        · refine z_iload_n d_Mod_firstRow_54 rfl ?_
          refine z_istore_n (lv' := [(0, _), (1, _), (3, _), (2, _)]) d_Mod_firstRow_55 (by decide) rfl ?_
          refine z_iinc (lv' := [(0, _), (1, _), (2, _), (3, _)]) d_Mod_firstRow_56 (by decide) rfl (show _ + Int32.ofInt 1 = nI (k + 1) from nI_1 _) rfl ?_
          refine z_goto d_Mod_firstRow_59 4 (by decide) ?_
          exact z_loc (lv' := [(0, .ref 40), (1, .int t), (2, .int (rI (rMin G (rT J t) (k + 1)))), (3, .int (nI (k + 1)))]) (by rw [show rMin G (rT J t) (k + 1) = some i from (rMin_2 hq (Int64.not_lt.mpr ((lg_cmp_ge _ _).mp h47)))]; simp [rI]) (ih (k + 1) (by omega) (by omega))
        · refine z_iload_n d_Mod_firstRow_50 rfl ?_
          refine z_goto d_Mod_firstRow_51 55 (by decide) ?_
          refine z_istore_n (lv' := [(0, _), (1, _), (3, _), (2, _)]) d_Mod_firstRow_55 (by decide) rfl ?_
          refine z_iinc (lv' := [(0, _), (1, _), (2, _), (3, _)]) d_Mod_firstRow_56 (by decide) rfl (show _ + Int32.ofInt 1 = nI (k + 1) from nI_1 _) rfl ?_
          refine z_goto d_Mod_firstRow_59 4 (by decide) ?_
          exact z_loc (lv' := [(0, .ref 40), (1, .int t), (2, .int (rI (rMin G (rT J t) (k + 1)))), (3, .int (nI (k + 1)))]) (by rw [show rMin G (rT J t) (k + 1) = some k from (rMin_1 (rT_t h19) hq (Int64.not_le.mp (fun h9 => h47 ((lg_cmp_ge _ _).mpr h9))))]; simp [rI]) (ih (k + 1) (by omega) (by omega))
set_option maxRecDepth 100000 in
set_option maxHeartbeats 4000000 in
theorem c_Mod_firstRow (X : zX) (J : zJT) (G : zGT) (d : Nat) {n : Nat} (hn : J 40 3 = nI n) (hn9 : n ≤ 90) (t : Int32) : zK X d m_Mod_firstRow [.ref 40, .int t] J G (some (.int (rI (rMin G (rT J t) n)))) J G := by
  refine zC_of (by decide) (Nat.le_of_ble_eq_true rfl) ?_
  refine z_iconst (v := (-1)) d_Mod_firstRow_0 (by decide) ?_
  refine z_istore_n (lv' := [(0, _), (1, _), (2, _)]) d_Mod_firstRow_1 (by decide) rfl ?_
  refine z_iconst (v := 0) d_Mod_firstRow_2 (by decide) ?_
  refine z_istore_n (lv' := [(0, _), (1, _), (2, _), (3, _)]) d_Mod_firstRow_3 (by decide) rfl ?_
  exact z_loc (lv' := [(0, .ref 40), (1, .int t), (2, .int (rI (rMin G (rT J t) 0))), (3, .int (nI 0))]) (by simp [rMin, rI, nI_0]) (l_Mod_firstRow X J G d hn hn9 t n 0 (by omega) (by omega))
