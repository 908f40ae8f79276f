/-! the reference: outputs and their row -/
def rOu (J : zJT) : Nat → List rI4
  | 0 => []
  | k + 1 => rOu J k ++ [rRd (J 57 (2 * k)) (J 57 (2 * k + 1)) (nI (2 + k))]
theorem rOu_len (J : zJT) : ∀ k, (rOu J k).length = k
  | 0 => rfl
  | k + 1 => by rw [rOu, List.length_append, rOu_len J k]; rfl
set_option maxRecDepth 100000 in
set_option maxHeartbeats 4000000 in
theorem l_Mod_outs (X : zX) (J : zJT) (G : zGT) {m mo : Nat} (hm : J 40 10 = nI m) (hmo : J 40 25 = nI mo) (hmo4 : mo ≤ 4) (hm6 : m + mo < 60) : ∀ rem k, mo - k = rem → k ≤ mo → zJ X (zR 3 0 0) m_Mod_outputsAndResult (zRet X 0 0 false none (hp (rwr J m (rOu J mo ++ [(18, 2, nI mo, 0)])) G) 60) false 0 0 (hp (rwr J m (rOu J k)) G) 60 2 [(0, .ref 40), (1, .int (nI k))] [] := by
  intro rem
  induction rem with
  | zero =>
    intro k hr hk
    obtain rfl : k = mo := by omega
    refine z_iload_n d_Mod_outputsAndResult_2 rfl ?_
    refine z_aload_n d_Mod_outputsAndResult_3 rfl ?_
    refine z_get d_Mod_outputsAndResult_4 f_Mod_171 (by omega) rfl rfl ?_
    refine z_icmp_ge d_Mod_outputsAndResult_7 41 (by decide) (fun _ => ?_) (fun h9 => absurd (by rw [rwr_f (i := 25) J m (rOu J k) (by decide), hmo]; exact nI_le (Nat.le_refl _) (by omega)) h9)
    refine z_aload_n d_Mod_outputsAndResult_41 rfl ?_
    refine z_bipush (v := 18) d_Mod_outputsAndResult_42 (by decide) ?_
    refine z_iconst (v := 2) d_Mod_outputsAndResult_44 (by decide) ?_
    refine z_aload_n d_Mod_outputsAndResult_45 rfl ?_
    refine z_get d_Mod_outputsAndResult_46 f_Mod_171 (by omega) rfl rfl ?_
    refine z_iconst (v := 0) d_Mod_outputsAndResult_49 (by decide) ?_
    rw [rwr_f (i := 25) J m (rOu J k) (by decide), hmo]
    refine z_callV0 d_Mod_outputsAndResult_50 g_Mod_121 (c_Mod_put (o := 18) X (rwr J m (rOu J k)) G (by decide) (show rwr J m (rOu J k) 40 10 = nI (m + k) by rw [rwr_sz J m _ hm, rOu_len]) (by omega) 2 (nI k) 0) (by omega) rfl rfl rfl ⟨by decide, by decide, by decide, by decide⟩ rfl (Nat.le_of_ble_eq_true rfl) ?_
    exact z_vret d_Mod_outputsAndResult_53 rfl (by decide) (by decide) (by rw [rwr_app, rOu_len]; rfl)
  | succ rem ih =>
    intro k hr hk
    refine z_iload_n d_Mod_outputsAndResult_2 rfl ?_
    refine z_aload_n d_Mod_outputsAndResult_3 rfl ?_
    refine z_get d_Mod_outputsAndResult_4 f_Mod_171 (by omega) rfl rfl ?_
    refine z_icmp_ge d_Mod_outputsAndResult_7 41 (by decide) (fun h9 => absurd h9 (by rw [rwr_f (i := 25) J m (rOu J k) (by decide), hmo]; exact nI_ge (show k < mo by omega) (by omega))) (fun _ => ?_)
    refine z_aload_n d_Mod_outputsAndResult_10 rfl ?_
    refine z_aload_n d_Mod_outputsAndResult_11 rfl ?_
    refine z_get d_Mod_outputsAndResult_12 f_Mod_67 (by omega) rfl rfl ?_
    refine z_iconst (v := 2) d_Mod_outputsAndResult_15 (by decide) ?_
    refine z_iload_n d_Mod_outputsAndResult_16 rfl ?_
    refine z_imul d_Mod_outputsAndResult_17 ?_
    refine z_iald d_Mod_outputsAndResult_18 (by omega) rfl (show zin (2 * nI k) (2 * k) 8 by have := rz2 (n := k) (w := 0) (by omega) (by decide); rwa [nI_0, Int32.add_zero] at this) ?_
    refine z_aload_n d_Mod_outputsAndResult_19 rfl ?_
    refine z_get d_Mod_outputsAndResult_20 f_Mod_67 (by omega) rfl rfl ?_
    refine z_iconst (v := 2) d_Mod_outputsAndResult_23 (by decide) ?_
    refine z_iload_n d_Mod_outputsAndResult_24 rfl ?_
    refine z_imul d_Mod_outputsAndResult_25 ?_
    refine z_iconst (v := 1) d_Mod_outputsAndResult_26 (by decide) ?_
    refine z_iadd d_Mod_outputsAndResult_27 ?_
    refine z_iald d_Mod_outputsAndResult_28 (by omega) rfl (show zin (2 * nI k + nI 1) (2 * k + 1) 8 from rz2 (by omega) (by decide)) ?_
    refine z_iconst (v := 2) d_Mod_outputsAndResult_29 (by decide) ?_
    refine z_iload_n d_Mod_outputsAndResult_30 rfl ?_
    refine z_iadd d_Mod_outputsAndResult_31 ?_
    rw [rwr_n (a := 57) J m (rOu J k) (by decide) (by decide), show (2 : Int32) + nI k = nI (2 + k) from nI_add 2 k]
    refine z_callV0 d_Mod_outputsAndResult_32 g_Mod_196 (c_Mod_read X (rwr J m (rOu J k)) G (show rwr J m (rOu J k) 40 10 = nI (m + k) by rw [rwr_sz J m _ hm, rOu_len]) (by omega) (J 57 (2 * k)) (J 57 (2 * k + 1)) (nI (2 + k))) (by omega) rfl rfl rfl ⟨by decide, by decide, by decide, by decide⟩ rfl (Nat.le_of_ble_eq_true rfl) ?_
    refine z_iinc (lv' := [(0, _), (1, _)]) d_Mod_outputsAndResult_35 (by decide) rfl (show _ + Int32.ofInt 1 = nI (k + 1) from nI_1 _) rfl ?_
    refine z_goto d_Mod_outputsAndResult_38 2 (by decide) ?_
    have e : rwr (rwr J m (rOu J k)) (m + k) [rRd (J 57 (2 * k)) (J 57 (2 * k + 1)) (nI (2 + k))] = rwr J m (rOu J (k + 1)) := by rw [rOu, rwr_app, rOu_len]
    rw [e]
    exact z_loc (lv' := [(0, .ref 40), (1, .int (nI (k + 1)))]) (by simp) (ih (k + 1) (by omega) (by omega))
set_option maxRecDepth 100000 in
set_option maxHeartbeats 4000000 in
theorem c_Mod_outs (X : zX) (J : zJT) (G : zGT) {m mo : Nat} (hm : J 40 10 = nI m) (hmo : J 40 25 = nI mo) (hmo4 : mo ≤ 4) (hm6 : m + mo < 60) : zK X 3 m_Mod_outputsAndResult [.ref 40] J G none (rwr J m (rOu J mo ++ [(18, 2, nI mo, 0)])) G := by
  refine zC_of (by decide) (Nat.le_of_ble_eq_true rfl) ?_
  refine z_iconst (v := 0) d_Mod_outputsAndResult_0 (by decide) ?_
  refine z_istore_n (lv' := [(0, _), (1, _)]) d_Mod_outputsAndResult_1 (by decide) rfl ?_
  exact z_loc (lv' := [(0, .ref 40), (1, .int (nI 0))]) (by simp [nI_0]) (l_Mod_outs X J G hm hmo hmo4 hm6 mo 0 (by omega) (by omega))
