/-- the slot at a place of a table; the key there; whether a search passes it -/
def zsl (J : zJT) (t p : Nat) : Nat := (J (10 + 2 * t) p).toNatClampNeg
def zky (J : zJT) (G : zGT) (t p : Nat) : Int64 := G 7 (zsl J t p)
def zbl (k key : Int64) (o : Bool) : Prop := k < key ∨ (o = true ∧ k = key)
/-- table t has n rows, its slots are slots -/
def zTn (J : zJT) (t n : Nat) : Prop := t < 3 ∧ n ≤ 90 ∧ J (9 + 2 * t) 1 = nI n ∧ ∀ p, p < n → zin (J (10 + 2 * t) p) (zsl J t p) 90
def zstep (m : Nat) : Nat := if m = 0 then 0 else 2 ^ (m - 1)
theorem zstep_d {m : Nat} (h : m ≤ 6) : nI (2 ^ m) / 2 = nI (zstep m) := by
  rcases (show m = 0 ∨ m = 1 ∨ m = 2 ∨ m = 3 ∨ m = 4 ∨ m = 5 ∨ m = 6 by omega) with rfl | rfl | rfl | rfl | rfl | rfl | rfl <;> decide
theorem z_p2 {m : Nat} (h : m ≤ 6) : 2 ^ m ≤ 64 ∧ 1 ≤ 2 ^ m := ⟨Nat.le_trans (Nat.pow_le_pow_right (by decide) h) (by decide), Nat.one_le_two_pow⟩
set_option maxRecDepth 100000 in
set_option maxHeartbeats 4000000 in
theorem l_Sto_rows (X : zX) {t : Nat} (J : zJT) (G : zGT) {n r : Nat} (hT : zTn J t n) (key : Int64) (o : Bool) (hr : r ≤ n) (hb : ∀ p, p < n → (zbl (zky J G t p) key o ↔ p < r)) : ∀ m, m ≤ 7 → ∀ b, b ≤ r → r < b + 2 ^ m → zJ X (zR 0 0 0) m_Sto_rowsBelow (zRet X 0 0 false (some (.int (nI r))) (hp J G) 60) false 0 0 (hp J G) 60 15 [(0, .ref 2), (1, .int (nI t)), (2, .long key), (4, .int (zb o)), (5, .ref (9 + 2 * t)), (6, .int (nI b)), (7, .int (nI (zstep m)))] [] := by
  have ht := hT.1
  have hn := hT.2.1
  intro m
  induction m with
  | zero =>
    intro _ b hi1 hi2
    rw [Nat.pow_zero] at hi2
    rw [show zstep 0 = 0 from rfl]
    refine z_iload d_Sto_rowsBelow_15 rfl ?_
    refine z_if_le d_Sto_rowsBelow_17 89 (by decide) (fun _ => ?_) (fun h9 => absurd (by decide) h9)
    refine z_iload d_Sto_rowsBelow_89 rfl ?_
    exact z_iret d_Sto_rowsBelow_91 rfl (by decide) (by decide) (by rw [show b = r by omega]) rfl
  | succ m ih =>
    intro hm b hi1 hi2
    obtain ⟨hp2, hp1⟩ := z_p2 (show m ≤ 6 by omega)
    rw [show zstep (m + 1) = 2 ^ m from rfl]
    have ih := ih (by omega)
    have hlast : nI b + nI (2 ^ m) - 1 = nI (b + 2 ^ m - 1) := by rw [nI_add, show (1 : Int32) = nI 1 from rfl, pk_sub (by omega)]
    have hge : J (9 + 2 * t) 1 ≤ nI b + nI (2 ^ m) - 1 ↔ n ≤ b + 2 ^ m - 1 := by rw [hT.2.2.1, hlast]; exact nI_leI (by omega) (by omega)
    have hlt : ¬ J (9 + 2 * t) 1 ≤ nI b + nI (2 ^ m) - 1 → b + 2 ^ m - 1 < n := fun h9 => Nat.lt_of_not_le (fun h8 => h9 (hge.mpr h8))
    have hskip : ¬ b + 2 ^ m - 1 < r → zJ X (zR 0 0 0) m_Sto_rowsBelow (zRet X 0 0 false (some (.int (nI r))) (hp J G) 60) false 0 0 (hp J G) 60 80 [(0, .ref 2), (1, .int (nI t)), (2, .long key), (4, .int (zb o)), (5, .ref (9 + 2 * t)), (6, .int (nI b)), (7, .int (nI (2 ^ m)))] [] := by
      intro hs
      refine z_iload d_Sto_rowsBelow_80 rfl ?_
      refine z_iconst (v := 2) d_Sto_rowsBelow_82 (by decide) ?_
      refine z_idiv d_Sto_rowsBelow_83 (by decide) ?_
      refine z_istore (lv' := [(0, _), (1, _), (2, _), (4, _), (5, _), (6, _), (7, _)]) d_Sto_rowsBelow_84 (by decide) rfl ?_
      refine z_goto d_Sto_rowsBelow_86 15 (by decide) ?_
      rw [zstep_d (show m ≤ 6 by omega)]
      exact z_loc (lv' := [(0, .ref 2), (1, .int (nI t)), (2, .long key), (4, .int (zb o)), (5, .ref (9 + 2 * t)), (6, .int (nI b)), (7, .int (nI (zstep m)))]) (by simp) (ih b (by omega) (by omega))
    have hadd : b + 2 ^ m - 1 < r → zJ X (zR 0 0 0) m_Sto_rowsBelow (zRet X 0 0 false (some (.int (nI r))) (hp J G) 60) false 0 0 (hp J G) 60 73 [(0, .ref 2), (1, .int (nI t)), (2, .long key), (4, .int (zb o)), (5, .ref (9 + 2 * t)), (6, .int (nI b)), (7, .int (nI (2 ^ m)))] [] := by
      intro hs
      refine z_iload d_Sto_rowsBelow_73 rfl ?_
      refine z_iload d_Sto_rowsBelow_75 rfl ?_
      refine z_iadd d_Sto_rowsBelow_77 ?_
      refine z_istore (lv' := [(0, _), (1, _), (2, _), (4, _), (5, _), (7, _), (6, _)]) d_Sto_rowsBelow_78 (by decide) rfl ?_
      refine z_iload d_Sto_rowsBelow_80 rfl ?_
      refine z_iconst (v := 2) d_Sto_rowsBelow_82 (by decide) ?_
      refine z_idiv d_Sto_rowsBelow_83 (by decide) ?_
      refine z_istore (lv' := [(0, _), (1, _), (2, _), (4, _), (5, _), (6, _), (7, _)]) d_Sto_rowsBelow_84 (by decide) rfl ?_
      refine z_goto d_Sto_rowsBelow_86 15 (by decide) ?_
      rw [nI_add]
      rw [zstep_d (show m ≤ 6 by omega)]
      exact z_loc (lv' := [(0, .ref 2), (1, .int (nI t)), (2, .long key), (4, .int (zb o)), (5, .ref (9 + 2 * t)), (6, .int (nI (b + 2 ^ m))), (7, .int (nI (zstep m)))]) (by simp) (ih (b + 2 ^ m) (by omega) (by rw [Nat.pow_succ] at hi2; omega))
    refine z_iload d_Sto_rowsBelow_15 rfl ?_
    refine z_if_le d_Sto_rowsBelow_17 89 (by decide) (fun h9 => absurd h9 (nI_nle (show 0 < 2 ^ m by omega) (by omega))) (fun _ => ?_)
    refine z_iload d_Sto_rowsBelow_20 rfl ?_
    refine z_iload d_Sto_rowsBelow_22 rfl ?_
    refine z_iadd d_Sto_rowsBelow_24 ?_
    refine z_iconst (v := 1) d_Sto_rowsBelow_25 (by decide) ?_
    refine z_isub d_Sto_rowsBelow_26 ?_
    refine z_istore (lv' := [(0, _), (1, _), (2, _), (4, _), (5, _), (6, _), (7, _), (8, _)]) d_Sto_rowsBelow_27 (by decide) rfl ?_
    refine z_iload d_Sto_rowsBelow_29 rfl ?_
    refine z_aload d_Sto_rowsBelow_31 rfl ?_
    refine z_get d_Sto_rowsBelow_33 f_Sto_53 (by omega) (zt_c ht _ _) rfl ?_
    refine z_icmp_ge d_Sto_rowsBelow_36 80 (by decide) (fun h36 => ?_) (fun h36 => ?_)
    · refine z_loc (lv' := [(0, .ref 2), (1, .int (nI t)), (2, .long key), (4, .int (zb o)), (5, .ref (9 + 2 * t)), (6, .int (nI b)), (7, .int (nI (2 ^ m)))]) (by simp) (hskip (by have := hge.mp h36; omega))
    · refine z_aload_n d_Sto_rowsBelow_39 rfl ?_
      refine z_get d_Sto_rowsBelow_40 f_Sto_30 (by omega) rfl rfl ?_
      refine z_aload d_Sto_rowsBelow_43 rfl ?_
      refine z_get d_Sto_rowsBelow_45 f_Sto_56 (by omega) (zt_c ht _ _) rfl ?_
      refine z_iload d_Sto_rowsBelow_48 rfl ?_
      refine z_iald d_Sto_rowsBelow_50 (by omega) (zt_s ht _ _) (show zin _ (b + 2 ^ m - 1) 90 from ⟨hlast, by have := hlt h36; omega, by decide⟩) ?_
      refine z_lald d_Sto_rowsBelow_51 (by omega) rfl (hT.2.2.2 (b + 2 ^ m - 1) (hlt h36)) ?_
      refine z_lstore (lv' := [(0, _), (1, _), (2, _), (4, _), (5, _), (6, _), (7, _), (8, _), (9, _)]) d_Sto_rowsBelow_52 (by decide) rfl ?_
      refine z_lload d_Sto_rowsBelow_54 rfl ?_
      refine z_lload_n d_Sto_rowsBelow_56 rfl ?_
      refine z_lcmp d_Sto_rowsBelow_57 ?_
      refine z_if_lt d_Sto_rowsBelow_58 73 (by decide) (fun h58 => ?_) (fun h58 => ?_)
      · refine z_loc (lv' := [(0, .ref 2), (1, .int (nI t)), (2, .long key), (4, .int (zb o)), (5, .ref (9 + 2 * t)), (6, .int (nI b)), (7, .int (nI (2 ^ m)))]) (by simp) (hadd ((hb _ (hlt h36)).mp (Or.inl ((lg_cmp_lt _ _).mp h58))))
      · refine z_iload d_Sto_rowsBelow_61 rfl ?_
        refine z_if_eq d_Sto_rowsBelow_63 80 (by decide) (fun h63 => ?_) (fun h63 => ?_)
        · refine z_loc (lv' := [(0, .ref 2), (1, .int (nI t)), (2, .long key), (4, .int (zb o)), (5, .ref (9 + 2 * t)), (6, .int (nI b)), (7, .int (nI (2 ^ m)))]) (by simp) (hskip (fun h7 => ((hb _ (hlt h36)).mpr h7).elim (fun h6 => h58 ((lg_cmp_lt _ _).mpr h6)) (fun h6 => absurd h63 (by rw [h6.1]; decide))))
        · refine z_lload d_Sto_rowsBelow_66 rfl ?_
          refine z_lload_n d_Sto_rowsBelow_68 rfl ?_
          refine z_lcmp d_Sto_rowsBelow_69 ?_
          refine z_if_ne d_Sto_rowsBelow_70 80 (by decide) (fun h70 => ?_) (fun h70 => ?_)
          · refine z_loc (lv' := [(0, .ref 2), (1, .int (nI t)), (2, .long key), (4, .int (zb o)), (5, .ref (9 + 2 * t)), (6, .int (nI b)), (7, .int (nI (2 ^ m)))]) (by simp) (hskip (fun h7 => ((hb _ (hlt h36)).mpr h7).elim (fun h6 => h58 ((lg_cmp_lt _ _).mpr h6)) (fun h6 => h70 ((lg_cmp_eq _ _).mpr h6.2))))
          · refine z_loc (lv' := [(0, .ref 2), (1, .int (nI t)), (2, .long key), (4, .int (zb o)), (5, .ref (9 + 2 * t)), (6, .int (nI b)), (7, .int (nI (2 ^ m)))]) (by simp) (hadd ((hb _ (hlt h36)).mp (Or.inr ⟨by cases o; exact absurd rfl h63; rfl, (lg_cmp_eq _ _).mp h70⟩)))
set_option maxRecDepth 100000 in
set_option maxHeartbeats 4000000 in
theorem c_Sto_rows (X : zX) {t : Nat} (J : zJT) (G : zGT) {n r : Nat} (hT : zTn J t n) (key : Int64) (o : Bool) (hr : r ≤ n) (hb : ∀ p, p < n → (zbl (zky J G t p) key o ↔ p < r)) : zK X 0 m_Sto_rowsBelow [.ref 2, .int (nI t), .long key, .int (zb o)] J G (some (.int (nI r))) J G := by
  have ht := hT.1
  have hn := hT.2.1
  refine zC_of (by decide) (Nat.le_of_ble_eq_true rfl) ?_
  refine z_aload_n d_Sto_rowsBelow_0 rfl ?_
  refine z_get d_Sto_rowsBelow_1 f_Sto_11 (by omega) rfl rfl ?_
  refine z_iload_n d_Sto_rowsBelow_4 rfl ?_
  refine z_aald d_Sto_rowsBelow_5 (by omega) rfl rfl (show zin (nI t) t 3 from ⟨rfl, ht, by decide⟩) (zt_at ht) ?_
  refine z_astore (lv' := [(0, _), (1, _), (2, _), (4, _), (5, _)]) d_Sto_rowsBelow_6 (by decide) rfl ?_
  refine z_iconst (v := 0) d_Sto_rowsBelow_8 (by decide) ?_
  refine z_istore (lv' := [(0, _), (1, _), (2, _), (4, _), (5, _), (6, _)]) d_Sto_rowsBelow_9 (by decide) rfl ?_
  refine z_bipush (v := 64) d_Sto_rowsBelow_11 (by decide) ?_
  refine z_istore (lv' := [(0, _), (1, _), (2, _), (4, _), (5, _), (6, _), (7, _)]) d_Sto_rowsBelow_13 (by decide) rfl ?_
  exact l_Sto_rows X J G hT key o hr hb 7 (by decide) 0 (by omega) (by omega)
set_option maxRecDepth 100000 in
set_option maxHeartbeats 4000000 in
theorem c_Sto_isAt (X : zX) {t : Nat} (J : zJT) (G : zGT) {n p : Nat} (hT : zTn J t n) (hp : p ≤ 90) (key : Int64) : zK X 0 m_Sto_isAt [.ref 2, .int (nI t), .int (nI p), .long key] J G (some (.int (zb (decide (p < n) && decide (zky J G t p = key))))) J G := by
  have ht := hT.1
  have hn := hT.2.1
  have hge : J (9 + 2 * t) 1 ≤ nI p ↔ n ≤ p := by rw [hT.2.2.1]; exact nI_leI (by omega) (by omega)
  have hlt : ¬ J (9 + 2 * t) 1 ≤ nI p → p < n := fun h9 => Nat.lt_of_not_le (fun h8 => h9 (hge.mpr h8))
  refine zC_of (by decide) (Nat.le_of_ble_eq_true rfl) ?_
  refine z_aload_n d_Sto_isAt_0 rfl ?_
  refine z_get d_Sto_isAt_1 f_Sto_11 (by omega) rfl rfl ?_
  refine z_iload_n d_Sto_isAt_4 rfl ?_
  refine z_aald d_Sto_isAt_5 (by omega) rfl rfl (show zin (nI t) t 3 from ⟨rfl, ht, by decide⟩) (zt_at ht) ?_
  refine z_astore (lv' := [(0, _), (1, _), (2, _), (3, _), (5, _)]) d_Sto_isAt_6 (by decide) rfl ?_
  refine z_iload_n d_Sto_isAt_8 rfl ?_
  refine z_aload d_Sto_isAt_9 rfl ?_
  refine z_get d_Sto_isAt_11 f_Sto_53 (by omega) (zt_c ht _ _) rfl ?_
  refine z_icmp_ge d_Sto_isAt_14 38 (by decide) (fun h14 => ?_) (fun h14 => ?_)
  · refine z_iconst (v := 0) d_Sto_isAt_38 (by decide) ?_
    exact z_zret d_Sto_isAt_39 rfl (by decide) (by decide) (by decide) (by rw [decide_eq_false (by have := hge.mp h14; omega)]; rfl) rfl
  · refine z_aload_n d_Sto_isAt_17 rfl ?_
    refine z_get d_Sto_isAt_18 f_Sto_30 (by omega) rfl rfl ?_
    refine z_aload d_Sto_isAt_21 rfl ?_
    refine z_get d_Sto_isAt_23 f_Sto_56 (by omega) (zt_c ht _ _) rfl ?_
    refine z_iload_n d_Sto_isAt_26 rfl ?_
    refine z_iald d_Sto_isAt_27 (by omega) (zt_s ht _ _) (show zin _ p 90 from ⟨rfl, by have := hlt h14; omega, by decide⟩) ?_
    refine z_lald d_Sto_isAt_28 (by omega) rfl (hT.2.2.2 p (hlt h14)) ?_
    refine z_lload_n d_Sto_isAt_29 rfl ?_
    refine z_lcmp d_Sto_isAt_30 ?_
    refine z_if_ne d_Sto_isAt_31 38 (by decide) (fun h31 => ?_) (fun h31 => ?_)
    · refine z_iconst (v := 0) d_Sto_isAt_38 (by decide) ?_
      exact z_zret d_Sto_isAt_39 rfl (by decide) (by decide) (by decide) (by rw [decide_eq_false (show ¬ zky J G t p = key from fun h9 => h31 ((lg_cmp_eq _ _).mpr h9)), Bool.and_false]; rfl) rfl
    · refine z_iconst (v := 1) d_Sto_isAt_34 (by decide) ?_
      refine z_goto d_Sto_isAt_35 39 (by decide) ?_
      exact z_zret d_Sto_isAt_39 rfl (by decide) (by decide) (by decide) (by rw [decide_eq_true (hlt h14), decide_eq_true (show zky J G t p = key from (lg_cmp_eq _ _).mp h31)]; rfl) rfl
