/-! the reference: sound programs -/
def rGn : List Nat := [0, 0, 2, 2, 0, 0, 0, 0, 2, 2, 2, 2, 2, 2, 2, 2, 2, 0, 0, 1, 2, 0]
theorem rGn_ok : ∀ o, o < 22 → rGoal.getD o 0 = nI (rGn.getD o 0) ∧ rGn.getD o 0 < 3 := by
  intro o ho
  match o, ho with
  | 0, _ => exact ⟨by decide, by decide⟩
  | 1, _ => exact ⟨by decide, by decide⟩
  | 2, _ => exact ⟨by decide, by decide⟩
  | 3, _ => exact ⟨by decide, by decide⟩
  | 4, _ => exact ⟨by decide, by decide⟩
  | 5, _ => exact ⟨by decide, by decide⟩
  | 6, _ => exact ⟨by decide, by decide⟩
  | 7, _ => exact ⟨by decide, by decide⟩
  | 8, _ => exact ⟨by decide, by decide⟩
  | 9, _ => exact ⟨by decide, by decide⟩
  | 10, _ => exact ⟨by decide, by decide⟩
  | 11, _ => exact ⟨by decide, by decide⟩
  | 12, _ => exact ⟨by decide, by decide⟩
  | 13, _ => exact ⟨by decide, by decide⟩
  | 14, _ => exact ⟨by decide, by decide⟩
  | 15, _ => exact ⟨by decide, by decide⟩
  | 16, _ => exact ⟨by decide, by decide⟩
  | 17, _ => exact ⟨by decide, by decide⟩
  | 18, _ => exact ⟨by decide, by decide⟩
  | 19, _ => exact ⟨by decide, by decide⟩
  | 20, _ => exact ⟨by decide, by decide⟩
  | 21, _ => exact ⟨by decide, by decide⟩
  | _ + 22, h9 => exact absurd h9 (by omega)
/-- what the instruction k names is there -/
def rS (J : zJT) (n k : Nat) : Prop := ∀ o, o < 22 → J 48 (4 * k) = nI o → (o = 1 → (decide (0 ≤ J 48 (4 * k + 2)) && decide (J 48 (4 * k + 2) < J 40 1)) = true) ∧ (rGn.getD o 0 ≠ 0 → J 48 (4 * k + rGn.getD o 0) ≤ nI n)
set_option maxRecDepth 100000 in
set_option maxHeartbeats 4000000 in
theorem l_Mod_sound (X : zX) (J : zJT) (G : zGT) {n : Nat} (hn : J 40 10 = nI n) (hn6 : n ≤ 60) (hop : ∀ k, k < n → ∃ o, o < 22 ∧ J 48 (4 * k) = nI o) (b : Bool) (hb : b = true ↔ ∀ k, k < n → rS J n k) : ∀ rem k, n - k = rem → k ≤ n → ∀ a : Bool, (a = true ↔ ∀ q, q < k → rS J n q) → zJ X (zR 1 0 0) m_Mod_sound (zRet X 0 0 false (some (.int (zb b))) (hp J G) 60) false 0 0 (hp J G) 60 4 [(0, .ref 40), (1, .int (zb a)), (2, .int (nI k))] [] := by
  intro rem
  induction rem with
  | zero =>
    intro k hr hk a ha
    obtain rfl : k = n := by omega
    refine z_iload_n d_Mod_sound_4 rfl ?_
    refine z_aload_n d_Mod_sound_5 rfl ?_
    refine z_get d_Mod_sound_6 f_Mod_110 (by omega) rfl rfl ?_
    refine z_icmp_ge d_Mod_sound_9 96 (by decide) (fun _ => ?_) (fun h9 => absurd (by rw [hn]; exact nI_le (Nat.le_refl _) (by omega)) h9)
    refine z_iload_n d_Mod_sound_96 rfl ?_
    exact z_zret d_Mod_sound_97 rfl (by decide) (by decide) (zb_n _) (by rw [show a = b from Bool.eq_iff_iff.mpr (ha.trans hb.symm)]) rfl
  | succ rem ih =>
    intro k hr hk a ha
    obtain ⟨o, ho, hJ⟩ := hop k (by omega)
    have hg := rGn_ok o ho
    refine z_iload_n d_Mod_sound_4 rfl ?_
    refine z_aload_n d_Mod_sound_5 rfl ?_
    refine z_get d_Mod_sound_6 f_Mod_110 (by omega) rfl rfl ?_
    refine z_icmp_ge d_Mod_sound_9 96 (by decide) (fun h9 => absurd h9 (by rw [hn]; exact nI_ge (show k < n by omega) (by omega))) (fun _ => ?_)
    refine z_aload_n d_Mod_sound_12 rfl ?_
    refine z_get d_Mod_sound_13 f_Mod_33 (by omega) rfl rfl ?_
    refine z_iconst (v := 4) d_Mod_sound_16 (by decide) ?_
    refine z_iload_n d_Mod_sound_17 rfl ?_
    refine z_imul d_Mod_sound_18 ?_
    refine z_iald d_Mod_sound_19 (by omega) rfl (show zin (4 * nI k) (4 * k) 240 by have := rz4 (w := 0) (show k < 60 by omega) (by decide); rwa [nI_0, Int32.add_zero] at this) ?_
    rw [hJ]
    refine z_istore_n (lv' := [(0, _), (1, _), (2, _), (3, _)]) d_Mod_sound_20 (by decide) rfl ?_
    refine z_iload_n d_Mod_sound_21 rfl ?_
    refine z_if_eq d_Mod_sound_22 51 (by decide) (fun h22 => ?_) (fun h22 => ?_)
    · refine z_iconst (v := 0) d_Mod_sound_51 (by decide) ?_
      refine z_istore_n (lv' := [(0, _), (2, _), (3, _), (1, _)]) d_Mod_sound_52 (by decide) rfl ?_
      refine z_iload_n d_Mod_sound_53 rfl ?_
      refine z_if_eq d_Mod_sound_54 88 (by decide) (fun _ => ?_) (fun h9 => absurd rfl h9)
      refine z_iconst (v := 0) d_Mod_sound_88 (by decide) ?_
      refine z_istore_n (lv' := [(0, _), (2, _), (3, _), (1, _)]) d_Mod_sound_89 (by decide) rfl ?_
      refine z_iinc (lv' := [(0, _), (3, _), (1, _), (2, _)]) d_Mod_sound_90 (by decide) rfl (show _ + Int32.ofInt 1 = nI (k + 1) from nI_1 _) rfl ?_
      refine z_goto d_Mod_sound_93 4 (by decide) ?_
      exact z_loc (lv' := [(0, .ref 40), (1, .int (zb false)), (2, .int (nI (k + 1)))]) (by simp [zb]) (ih (k + 1) (by omega) (by omega) false ⟨fun h9 => absurd h9 (by decide), fun h9 => absurd h9 (fun h9 => by rw [ha.mpr (fun q hq => h9 q (by omega))] at h22; exact absurd h22 (by decide))⟩)
    · refine z_iload_n d_Mod_sound_25 rfl ?_
      refine z_iconst (v := 1) d_Mod_sound_26 (by decide) ?_
      refine z_icmp_ne d_Mod_sound_27 47 (by decide) (fun h27 => ?_) (fun h27 => ?_)
      · refine z_iconst (v := 1) d_Mod_sound_47 (by decide) ?_
        refine z_goto d_Mod_sound_48 52 (by decide) ?_
        refine z_istore_n (lv' := [(0, _), (2, _), (3, _), (1, _)]) d_Mod_sound_52 (by decide) rfl ?_
        refine z_iload_n d_Mod_sound_53 rfl ?_
        refine z_if_eq d_Mod_sound_54 88 (by decide) (fun h9 => absurd h9 (by decide)) (fun _ => ?_)
        refine z_iload_n d_Mod_sound_57 rfl ?_
        refine z_callS1 d_Mod_sound_58 g_Mod_125 (c_Mod_goal X 0 ho _ _) rfl ⟨by decide, by decide, by decide, by decide⟩ rfl (Nat.le_of_ble_eq_true rfl) ?_
        rw [hg.1]
        refine z_if_eq d_Mod_sound_61 84 (by decide) (fun h61 => ?_) (fun h61 => ?_)
        · refine z_iconst (v := 1) d_Mod_sound_84 (by decide) ?_
          refine z_goto d_Mod_sound_85 89 (by decide) ?_
          refine z_istore_n (lv' := [(0, _), (2, _), (3, _), (1, _)]) d_Mod_sound_89 (by decide) rfl ?_
          refine z_iinc (lv' := [(0, _), (3, _), (1, _), (2, _)]) d_Mod_sound_90 (by decide) rfl (show _ + Int32.ofInt 1 = nI (k + 1) from nI_1 _) rfl ?_
          refine z_goto d_Mod_sound_93 4 (by decide) ?_
          exact z_loc (lv' := [(0, .ref 40), (1, .int (zb true)), (2, .int (nI (k + 1)))]) (by simp [zb]) (ih (k + 1) (by omega) (by omega) true ⟨fun _ => (fun q hq => (Nat.lt_succ_iff_lt_or_eq.mp hq).elim (ha.mp (zb1' h22) q) (fun e => by subst e; intro o' h22' ho'; have e2 : o' = o := (nI_eq (by omega) (by omega)).mp (ho'.symm.trans hJ); rw [e2]; exact ⟨(fun h8 => absurd (by rw [h8]; rfl) h27), (fun h8 => absurd ((nI_eq (show rGn.getD o 0 < 2 ^ 31 by omega) (show 0 < 2 ^ 31 by decide)).mp h61) h8)⟩)), fun _ => rfl⟩)
        · refine z_aload_n d_Mod_sound_64 rfl ?_
          refine z_get d_Mod_sound_65 f_Mod_33 (by omega) rfl rfl ?_
          refine z_iconst (v := 4) d_Mod_sound_68 (by decide) ?_
          refine z_iload_n d_Mod_sound_69 rfl ?_
          refine z_imul d_Mod_sound_70 ?_
          refine z_iload_n d_Mod_sound_71 rfl ?_
          refine z_callS1 d_Mod_sound_72 g_Mod_125 (c_Mod_goal X 0 ho _ _) rfl ⟨by decide, by decide, by decide, by decide⟩ rfl (Nat.le_of_ble_eq_true rfl) ?_
          rw [hg.1]
          refine z_iadd d_Mod_sound_75 ?_
          refine z_iald d_Mod_sound_76 (by omega) rfl (show zin (4 * nI k + nI (rGn.getD o 0)) (4 * k + rGn.getD o 0) 240 from rz4 (by omega) (by omega)) ?_
          refine z_aload_n d_Mod_sound_77 rfl ?_
          refine z_get d_Mod_sound_78 f_Mod_110 (by omega) rfl rfl ?_
          refine z_icmp_gt d_Mod_sound_81 88 (by decide) (fun h81 => ?_) (fun h81 => ?_)
          · refine z_iconst (v := 0) d_Mod_sound_88 (by decide) ?_
            refine z_istore_n (lv' := [(0, _), (2, _), (3, _), (1, _)]) d_Mod_sound_89 (by decide) rfl ?_
            refine z_iinc (lv' := [(0, _), (3, _), (1, _), (2, _)]) d_Mod_sound_90 (by decide) rfl (show _ + Int32.ofInt 1 = nI (k + 1) from nI_1 _) rfl ?_
            refine z_goto d_Mod_sound_93 4 (by decide) ?_
            exact z_loc (lv' := [(0, .ref 40), (1, .int (zb false)), (2, .int (nI (k + 1)))]) (by simp [zb]) (ih (k + 1) (by omega) (by omega) false ⟨fun h9 => absurd h9 (by decide), fun h9 => absurd h9 (fun h9 => absurd (((h9 k (by omega)) o ho hJ).2 (fun h8 => h61 (by rw [h8]; rfl))) (by rw [← hn]; exact Int32.not_le.mpr h81))⟩)
          · refine z_iconst (v := 1) d_Mod_sound_84 (by decide) ?_
            refine z_goto d_Mod_sound_85 89 (by decide) ?_
            refine z_istore_n (lv' := [(0, _), (2, _), (3, _), (1, _)]) d_Mod_sound_89 (by decide) rfl ?_
            refine z_iinc (lv' := [(0, _), (3, _), (1, _), (2, _)]) d_Mod_sound_90 (by decide) rfl (show _ + Int32.ofInt 1 = nI (k + 1) from nI_1 _) rfl ?_
            refine z_goto d_Mod_sound_93 4 (by decide) ?_
            exact z_loc (lv' := [(0, .ref 40), (1, .int (zb true)), (2, .int (nI (k + 1)))]) (by simp [zb]) (ih (k + 1) (by omega) (by omega) true ⟨fun _ => (fun q hq => (Nat.lt_succ_iff_lt_or_eq.mp hq).elim (ha.mp (zb1' h22) q) (fun e => by subst e; intro o' h22' ho'; have e2 : o' = o := (nI_eq (by omega) (by omega)).mp (ho'.symm.trans hJ); rw [e2]; exact ⟨(fun h8 => absurd (by rw [h8]; rfl) h27), (fun _ => by rw [← hn]; exact Int32.not_lt.mp h81)⟩)), fun _ => rfl⟩)
      · refine z_aload_n d_Mod_sound_30 rfl ?_
        refine z_aload_n d_Mod_sound_31 rfl ?_
        refine z_get d_Mod_sound_32 f_Mod_33 (by omega) rfl rfl ?_
        refine z_iconst (v := 4) d_Mod_sound_35 (by decide) ?_
        refine z_iload_n d_Mod_sound_36 rfl ?_
        refine z_imul d_Mod_sound_37 ?_
        refine z_iconst (v := 2) d_Mod_sound_38 (by decide) ?_
        refine z_iadd d_Mod_sound_39 ?_
        refine z_iald d_Mod_sound_40 (by omega) rfl (show zin (4 * nI k + nI 2) (4 * k + 2) 240 from rz4 (by omega) (by decide)) ?_
        refine z_callV1 d_Mod_sound_41 g_Mod_82 (c_Mod_isTable X J G 0 _) (by omega) rfl rfl rfl ⟨by decide, by decide, by decide, by decide⟩ rfl (Nat.le_of_ble_eq_true rfl) ?_
        refine z_if_eq d_Mod_sound_44 51 (by decide) (fun h44 => ?_) (fun h44 => ?_)
        · refine z_iconst (v := 0) d_Mod_sound_51 (by decide) ?_
          refine z_istore_n (lv' := [(0, _), (2, _), (3, _), (1, _)]) d_Mod_sound_52 (by decide) rfl ?_
          refine z_iload_n d_Mod_sound_53 rfl ?_
          refine z_if_eq d_Mod_sound_54 88 (by decide) (fun _ => ?_) (fun h9 => absurd rfl h9)
          refine z_iconst (v := 0) d_Mod_sound_88 (by decide) ?_
          refine z_istore_n (lv' := [(0, _), (2, _), (3, _), (1, _)]) d_Mod_sound_89 (by decide) rfl ?_
          refine z_iinc (lv' := [(0, _), (3, _), (1, _), (2, _)]) d_Mod_sound_90 (by decide) rfl (show _ + Int32.ofInt 1 = nI (k + 1) from nI_1 _) rfl ?_
          refine z_goto d_Mod_sound_93 4 (by decide) ?_
          exact z_loc (lv' := [(0, .ref 40), (1, .int (zb false)), (2, .int (nI (k + 1)))]) (by simp [zb]) (ih (k + 1) (by omega) (by omega) false ⟨fun h9 => absurd h9 (by decide), fun h9 => absurd h9 (fun h9 => by rw [((h9 k (by omega)) o ho hJ).1 ((nI_eq (show o < 2 ^ 31 by omega) (show 1 < 2 ^ 31 by decide)).mp h27)] at h44; exact absurd h44 (by decide))⟩)
        · refine z_iconst (v := 1) d_Mod_sound_47 (by decide) ?_
          refine z_goto d_Mod_sound_48 52 (by decide) ?_
          refine z_istore_n (lv' := [(0, _), (2, _), (3, _), (1, _)]) d_Mod_sound_52 (by decide) rfl ?_
          refine z_iload_n d_Mod_sound_53 rfl ?_
          refine z_if_eq d_Mod_sound_54 88 (by decide) (fun h9 => absurd h9 (by decide)) (fun _ => ?_)
          refine z_iload_n d_Mod_sound_57 rfl ?_
          refine z_callS1 d_Mod_sound_58 g_Mod_125 (c_Mod_goal X 0 ho _ _) rfl ⟨by decide, by decide, by decide, by decide⟩ rfl (Nat.le_of_ble_eq_true rfl) ?_
          rw [hg.1]
          refine z_if_eq d_Mod_sound_61 84 (by decide) (fun h61 => ?_) (fun h61 => ?_)
          · refine z_iconst (v := 1) d_Mod_sound_84 (by decide) ?_
            refine z_goto d_Mod_sound_85 89 (by decide) ?_
            refine z_istore_n (lv' := [(0, _), (2, _), (3, _), (1, _)]) d_Mod_sound_89 (by decide) rfl ?_
            refine z_iinc (lv' := [(0, _), (3, _), (1, _), (2, _)]) d_Mod_sound_90 (by decide) rfl (show _ + Int32.ofInt 1 = nI (k + 1) from nI_1 _) rfl ?_
            refine z_goto d_Mod_sound_93 4 (by decide) ?_
            exact z_loc (lv' := [(0, .ref 40), (1, .int (zb true)), (2, .int (nI (k + 1)))]) (by simp [zb]) (ih (k + 1) (by omega) (by omega) true ⟨fun _ => (fun q hq => (Nat.lt_succ_iff_lt_or_eq.mp hq).elim (ha.mp (zb1' h22) q) (fun e => by subst e; intro o' h22' ho'; have e2 : o' = o := (nI_eq (by omega) (by omega)).mp (ho'.symm.trans hJ); rw [e2]; exact ⟨(fun _ => zb1' h44), (fun h8 => absurd ((nI_eq (show rGn.getD o 0 < 2 ^ 31 by omega) (show 0 < 2 ^ 31 by decide)).mp h61) h8)⟩)), fun _ => rfl⟩)
          · refine z_aload_n d_Mod_sound_64 rfl ?_
            refine z_get d_Mod_sound_65 f_Mod_33 (by omega) rfl rfl ?_
            refine z_iconst (v := 4) d_Mod_sound_68 (by decide) ?_
            refine z_iload_n d_Mod_sound_69 rfl ?_
            refine z_imul d_Mod_sound_70 ?_
            refine z_iload_n d_Mod_sound_71 rfl ?_
            refine z_callS1 d_Mod_sound_72 g_Mod_125 (c_Mod_goal X 0 ho _ _) rfl ⟨by decide, by decide, by decide, by decide⟩ rfl (Nat.le_of_ble_eq_true rfl) ?_
            rw [hg.1]
            refine z_iadd d_Mod_sound_75 ?_
            refine z_iald d_Mod_sound_76 (by omega) rfl (show zin (4 * nI k + nI (rGn.getD o 0)) (4 * k + rGn.getD o 0) 240 from rz4 (by omega) (by omega)) ?_
            refine z_aload_n d_Mod_sound_77 rfl ?_
            refine z_get d_Mod_sound_78 f_Mod_110 (by omega) rfl rfl ?_
            refine z_icmp_gt d_Mod_sound_81 88 (by decide) (fun h81 => ?_) (fun h81 => ?_)
            · refine z_iconst (v := 0) d_Mod_sound_88 (by decide) ?_
              refine z_istore_n (lv' := [(0, _), (2, _), (3, _), (1, _)]) d_Mod_sound_89 (by decide) rfl ?_
              refine z_iinc (lv' := [(0, _), (3, _), (1, _), (2, _)]) d_Mod_sound_90 (by decide) rfl (show _ + Int32.ofInt 1 = nI (k + 1) from nI_1 _) rfl ?_
              refine z_goto d_Mod_sound_93 4 (by decide) ?_
              exact z_loc (lv' := [(0, .ref 40), (1, .int (zb false)), (2, .int (nI (k + 1)))]) (by simp [zb]) (ih (k + 1) (by omega) (by omega) false ⟨fun h9 => absurd h9 (by decide), fun h9 => absurd h9 (fun h9 => absurd (((h9 k (by omega)) o ho hJ).2 (fun h8 => h61 (by rw [h8]; rfl))) (by rw [← hn]; exact Int32.not_le.mpr h81))⟩)
            · refine z_iconst (v := 1) d_Mod_sound_84 (by decide) ?_
              refine z_goto d_Mod_sound_85 89 (by decide) ?_
              refine z_istore_n (lv' := [(0, _), (2, _), (3, _), (1, _)]) d_Mod_sound_89 (by decide) rfl ?_
              refine z_iinc (lv' := [(0, _), (3, _), (1, _), (2, _)]) d_Mod_sound_90 (by decide) rfl (show _ + Int32.ofInt 1 = nI (k + 1) from nI_1 _) rfl ?_
              refine z_goto d_Mod_sound_93 4 (by decide) ?_
              exact z_loc (lv' := [(0, .ref 40), (1, .int (zb true)), (2, .int (nI (k + 1)))]) (by simp [zb]) (ih (k + 1) (by omega) (by omega) true ⟨fun _ => (fun q hq => (Nat.lt_succ_iff_lt_or_eq.mp hq).elim (ha.mp (zb1' h22) q) (fun e => by subst e; intro o' h22' ho'; have e2 : o' = o := (nI_eq (by omega) (by omega)).mp (ho'.symm.trans hJ); rw [e2]; exact ⟨(fun _ => zb1' h44), (fun _ => by rw [← hn]; exact Int32.not_lt.mp h81)⟩)), fun _ => rfl⟩)
set_option maxRecDepth 100000 in
set_option maxHeartbeats 4000000 in
theorem c_Mod_sound (X : zX) (J : zJT) (G : zGT) {n : Nat} (hn : J 40 10 = nI n) (hn6 : n ≤ 60) (hop : ∀ k, k < n → ∃ o, o < 22 ∧ J 48 (4 * k) = nI o) (b : Bool) (hb : b = true ↔ ∀ k, k < n → rS J n k) : zK X 1 m_Mod_sound [.ref 40] J G (some (.int (zb b))) J G := by
  refine zC_of (by decide) (Nat.le_of_ble_eq_true rfl) ?_
  refine z_iconst (v := 1) d_Mod_sound_0 (by decide) ?_
  refine z_istore_n (lv' := [(0, _), (1, _)]) d_Mod_sound_1 (by decide) rfl ?_
  refine z_iconst (v := 0) d_Mod_sound_2 (by decide) ?_
  refine z_istore_n (lv' := [(0, _), (1, _), (2, _)]) d_Mod_sound_3 (by decide) rfl ?_
  exact z_loc (lv' := [(0, .ref 40), (1, .int (zb true)), (2, .int (nI 0))]) (by simp [zb, nI_0]) (l_Mod_sound X J G hn hn6 hop b hb n 0 (by omega) (by omega) true ⟨fun _ q hq => absurd hq (Nat.not_lt_zero _), fun _ => rfl⟩)
