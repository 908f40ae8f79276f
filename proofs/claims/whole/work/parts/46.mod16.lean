/-! the reference: the loop over a cursor -/
def rHw (J : zJT) (k : Nat) : Nat := (J 58 (4 * k + 2)).toNatClampNeg
/-- what the condition k becomes at the place pos -/
def rC1 (J : zJT) (c nx : Int32) (k pos : Nat) : List rI4 :=
  if rHw J k < 6 then [rRd c (J 58 (4 * k + 1)) 0, (6, J 58 (4 * k + 3), 1, 0), (9 + rHw J k, 0, nI (pos + 2) + 2, 1), (19, nx, 0, 0)]
  else [rRd c (J 58 (4 * k + 1)) 0, (9 + rHw J k, 0, nI (pos + 1) + 2, 1), (19, nx, 0, 0)]
def rCo (J : zJT) (c nx : Int32) (m : Nat) : Nat → List rI4
  | 0 => []
  | k + 1 => rCo J c nx m k ++ (if J 58 (4 * k) = c then rC1 J c nx k (m + (rCo J c nx m k).length) else [])
theorem rC1_len (J : zJT) (c nx : Int32) (k pos : Nat) : (rC1 J c nx k pos).length ≤ 4 := by
  unfold rC1
  split <;> simp
theorem rCo_len (J : zJT) (c nx : Int32) (m : Nat) : ∀ k, (rCo J c nx m k).length ≤ 4 * k
  | 0 => Nat.le_refl _
  | k + 1 => by
    have h1 := rCo_len J c nx m k
    have h2 := rC1_len J c nx k (m + (rCo J c nx m k).length)
    rw [rCo, List.length_append]
    split
    · omega
    · simp only [List.length_nil]; omega
/-- the heap J1 has the conditions and the size wanted -/
def rAg (J J1 : zJT) (p : Nat) : Prop := J1 58 = J 58 ∧ J1 40 10 = nI p ∧ J1 40 27 = J 40 27
theorem rAg_wr {J J1 : zJT} {p : Nat} (h : rAg J J1 p) (L : List rI4) : rAg J (rwr J1 p L) (p + L.length) :=
  ⟨(rwr_n (a := 58) J1 p L (by decide) (by decide)).trans h.1, rwr_sz J1 p L h.2.1, (rwr_f (i := 27) J1 p L (by decide)).trans h.2.2⟩
theorem c_Mod_putR (X : zX) (J : zJT) (G : zGT) {o m : Nat} (ho : o < 22) (hm : J 40 10 = nI m) (hm6 : m < 60) (p q s : Int32) : zK X 1 m_Mod_put [.ref 40, .int (nI o), .int p, .int q, .int s] J G none (rwr J m [(o, p, q, s)]) G := c_Mod_put X J G ho hm hm6 p q s
set_option maxRecDepth 100000 in
set_option maxHeartbeats 4000000 in
theorem l_Mod_loop (X : zX) (J : zJT) (G : zGT) {m n : Nat} (hm : J 40 10 = nI m) (hn : J 40 27 = nI n) (hn4 : n ≤ 4) (hm6 : m + 4 * n ≤ 60) (hh : ∀ k, k < n → rHw J k < 8 ∧ J 58 (4 * k + 2) = nI (rHw J k)) (c pa nx : Int32) : ∀ rem k J1, n - k = rem → k ≤ n → J1 = rwr J m (rCo J c nx m k) → zJ X (zR 3 0 0) m_Mod_loop (zRet X 0 0 false (some (.int (nI m))) (hp (rwr J m (rCo J c nx m n)) G) 60) false 0 0 (hp J1 G) 60 60 [(0, .ref 40), (1, .int c), (2, .int pa), (3, .int nx), (5, .int (nI m)), (6, .int (nI k))] [] := by
  intro rem
  induction rem with
  | zero =>
    intro k J1 hr hk hJ
    obtain rfl : k = n := by omega
    subst hJ
    refine z_iload d_Mod_loop_60 rfl ?_
    refine z_aload_n d_Mod_loop_62 rfl ?_
    refine z_get d_Mod_loop_63 f_Mod_174 (by omega) rfl rfl ?_
    refine z_icmp_ge d_Mod_loop_66 170 (by decide) (fun _ => ?_) (fun h9 => absurd (by rw [rwr_f (i := 27) J m (rCo J c nx m k) (by decide), hn]; exact nI_le (Nat.le_refl _) (by omega)) h9)
    refine z_iload d_Mod_loop_170 rfl ?_
    exact z_iret d_Mod_loop_172 rfl (by decide) (by decide) rfl rfl
  | succ rem ih =>
    intro k J1 hr hk hJ
    have hA : rAg J J1 (m + (rCo J c nx m k).length) := by rw [hJ]; exact rAg_wr ⟨rfl, hm, rfl⟩ _
    have hle := rCo_len J c nx m k
    refine z_iload d_Mod_loop_60 rfl ?_
    refine z_aload_n d_Mod_loop_62 rfl ?_
    refine z_get d_Mod_loop_63 f_Mod_174 (by omega) rfl rfl ?_
    refine z_icmp_ge d_Mod_loop_66 170 (by decide) (fun h9 => absurd h9 (by rw [hA.2.2, hn]; exact nI_ge (show k < n by omega) (by omega))) (fun _ => ?_)
    refine z_aload_n d_Mod_loop_69 rfl ?_
    refine z_get d_Mod_loop_70 f_Mod_70 (by omega) rfl rfl ?_
    refine z_iconst (v := 4) d_Mod_loop_73 (by decide) ?_
    refine z_iload d_Mod_loop_74 rfl ?_
    refine z_imul d_Mod_loop_76 ?_
    refine z_iald d_Mod_loop_77 (by omega) rfl (rz16' (show k < 4 by omega)) ?_
    refine z_iload_n d_Mod_loop_78 rfl ?_
    rw [hA.1]
    refine z_icmp_ne d_Mod_loop_79 164 (by decide) (fun h79 => ?_) (fun h79 => ?_)
    · refine z_iinc (lv' := [(0, _), (1, _), (2, _), (3, _), (5, _), (6, _)]) d_Mod_loop_164 (by decide) rfl (show _ + Int32.ofInt 1 = nI (k + 1) from nI_1 _) rfl ?_
      refine z_goto d_Mod_loop_167 60 (by decide) ?_
      exact z_loc (lv' := [(0, .ref 40), (1, .int c), (2, .int pa), (3, .int nx), (5, .int (nI m)), (6, .int (nI (k + 1)))]) (by simp) (ih (k + 1) J1 (by omega) (by omega) (by rw [rCo, if_neg h79, List.append_nil]; exact hJ))
    · refine z_aload_n d_Mod_loop_82 rfl ?_
      refine z_get d_Mod_loop_83 f_Mod_70 (by omega) rfl rfl ?_
      refine z_iconst (v := 4) d_Mod_loop_86 (by decide) ?_
      refine z_iload d_Mod_loop_87 rfl ?_
      refine z_imul d_Mod_loop_89 ?_
      refine z_iconst (v := 2) d_Mod_loop_90 (by decide) ?_
      refine z_iadd d_Mod_loop_91 ?_
      refine z_iald d_Mod_loop_92 (by omega) rfl (show zin (4 * nI k + nI 2) (4 * k + 2) 16 from rz16 (by omega) (by decide)) ?_
      rw [hA.1, (hh k (by omega)).2]
      refine z_istore (lv' := [(0, _), (1, _), (2, _), (3, _), (5, _), (6, _), (7, _)]) d_Mod_loop_93 (by decide) rfl ?_
      refine z_aload_n d_Mod_loop_95 rfl ?_
      refine z_iload_n d_Mod_loop_96 rfl ?_
      refine z_aload_n d_Mod_loop_97 rfl ?_
      refine z_get d_Mod_loop_98 f_Mod_70 (by omega) rfl rfl ?_
      refine z_iconst (v := 4) d_Mod_loop_101 (by decide) ?_
      refine z_iload d_Mod_loop_102 rfl ?_
      refine z_imul d_Mod_loop_104 ?_
      refine z_iconst (v := 1) d_Mod_loop_105 (by decide) ?_
      refine z_iadd d_Mod_loop_106 ?_
      refine z_iald d_Mod_loop_107 (by omega) rfl (show zin (4 * nI k + nI 1) (4 * k + 1) 16 from rz16 (by omega) (by decide)) ?_
      refine z_iconst (v := 0) d_Mod_loop_108 (by decide) ?_
      rw [hA.1]
      refine z_callV0 d_Mod_loop_109 g_Mod_196 (c_Mod_read X J1 G hA.2.1 (by omega) c (J 58 (4 * k + 1)) 0) (by omega) rfl rfl rfl ⟨by decide, by decide, by decide, by decide⟩ rfl (Nat.le_of_ble_eq_true rfl) ?_
      generalize hJ2 : rwr J1 (m + (rCo J c nx m k).length) [rRd c (J 58 (4 * k + 1)) 0] = J2
      have hB : rAg J J2 ((m + (rCo J c nx m k).length) + 1) := by rw [← hJ2]; exact rAg_wr hA [rRd c (J 58 (4 * k + 1)) 0]
      refine z_iload d_Mod_loop_112 rfl ?_
      refine z_bipush (v := 6) d_Mod_loop_114 (by decide) ?_
      refine z_icmp_ge d_Mod_loop_116 138 (by decide) (fun h116 => ?_) (fun h116 => ?_)
      · refine z_aload_n d_Mod_loop_138 rfl ?_
        refine z_bipush (v := 9) d_Mod_loop_139 (by decide) ?_
        refine z_iload d_Mod_loop_141 rfl ?_
        refine z_iadd d_Mod_loop_143 ?_
        refine z_iconst (v := 0) d_Mod_loop_144 (by decide) ?_
        refine z_aload_n d_Mod_loop_145 rfl ?_
        refine z_get d_Mod_loop_146 f_Mod_110 (by omega) rfl rfl ?_
        refine z_iconst (v := 2) d_Mod_loop_149 (by decide) ?_
        refine z_iadd d_Mod_loop_150 ?_
        refine z_iconst (v := 1) d_Mod_loop_151 (by decide) ?_
        rw [show (9 : Int32) + nI (rHw J k) = nI (9 + rHw J k) from nI_add 9 _, hB.2.1]
        refine z_callV0 d_Mod_loop_152 g_Mod_121 (c_Mod_putR (o := 9 + rHw J k) X J2 G (by have := (hh k (by omega)).1; omega) hB.2.1 (by omega) 0 (nI ((m + (rCo J c nx m k).length) + 1) + 2) 1) (by omega) rfl rfl rfl ⟨by decide, by decide, by decide, by decide⟩ rfl (Nat.le_of_ble_eq_true rfl) ?_
        generalize hJ4 : rwr J2 ((m + (rCo J c nx m k).length) + 1) [(9 + rHw J k, 0, nI ((m + (rCo J c nx m k).length) + 1) + 2, 1)] = J4
        have hD : rAg J J4 (((m + (rCo J c nx m k).length) + 1) + 1) := by rw [← hJ4]; exact rAg_wr hB [(9 + rHw J k, 0, nI ((m + (rCo J c nx m k).length) + 1) + 2, 1)]
        refine z_aload_n d_Mod_loop_155 rfl ?_
        refine z_bipush (v := 19) d_Mod_loop_156 (by decide) ?_
        refine z_iload_n d_Mod_loop_158 rfl ?_
        refine z_iconst (v := 0) d_Mod_loop_159 (by decide) ?_
        refine z_iconst (v := 0) d_Mod_loop_160 (by decide) ?_
        refine z_callV0 d_Mod_loop_161 g_Mod_121 (c_Mod_putR (o := 19) X J4 G (by decide) hD.2.1 (by omega) nx 0 0) (by omega) rfl rfl rfl ⟨by decide, by decide, by decide, by decide⟩ rfl (Nat.le_of_ble_eq_true rfl) ?_
        refine z_iinc (lv' := [(0, _), (1, _), (2, _), (3, _), (5, _), (7, _), (6, _)]) d_Mod_loop_164 (by decide) rfl (show _ + Int32.ofInt 1 = nI (k + 1) from nI_1 _) rfl ?_
        refine z_goto d_Mod_loop_167 60 (by decide) ?_
        have h6 : ¬ rHw J k < 6 := (fun h9 => absurd (nI_lt h9 (by decide)) (Int32.not_lt.mpr h116))
        exact z_loc (lv' := [(0, .ref 40), (1, .int c), (2, .int pa), (3, .int nx), (5, .int (nI m)), (6, .int (nI (k + 1)))]) (by simp) (ih (k + 1) (rwr J4 ((m + (rCo J c nx m k).length) + 1 + 1) [(19, nx, 0, 0)]) (by omega) (by omega) (by rw [rCo, if_pos h79, rwr_app, ← hJ, rC1, if_neg h6, ← hJ4, ← hJ2]; rfl))
      · refine z_aload_n d_Mod_loop_119 rfl ?_
        refine z_bipush (v := 6) d_Mod_loop_120 (by decide) ?_
        refine z_aload_n d_Mod_loop_122 rfl ?_
        refine z_get d_Mod_loop_123 f_Mod_70 (by omega) rfl rfl ?_
        refine z_iconst (v := 4) d_Mod_loop_126 (by decide) ?_
        refine z_iload d_Mod_loop_127 rfl ?_
        refine z_imul d_Mod_loop_129 ?_
        refine z_iconst (v := 3) d_Mod_loop_130 (by decide) ?_
        refine z_iadd d_Mod_loop_131 ?_
        refine z_iald d_Mod_loop_132 (by omega) rfl (show zin (4 * nI k + nI 3) (4 * k + 3) 16 from rz16 (by omega) (by decide)) ?_
        refine z_iconst (v := 1) d_Mod_loop_133 (by decide) ?_
        refine z_iconst (v := 0) d_Mod_loop_134 (by decide) ?_
        rw [hB.1]
        refine z_callV0 d_Mod_loop_135 g_Mod_121 (c_Mod_putR (o := 6) X J2 G (by decide) hB.2.1 (by omega) (J 58 (4 * k + 3)) 1 0) (by omega) rfl rfl rfl ⟨by decide, by decide, by decide, by decide⟩ rfl (Nat.le_of_ble_eq_true rfl) ?_
        generalize hJ3 : rwr J2 ((m + (rCo J c nx m k).length) + 1) [(6, J 58 (4 * k + 3), 1, 0)] = J3
        have hC : rAg J J3 (((m + (rCo J c nx m k).length) + 1) + 1) := by rw [← hJ3]; exact rAg_wr hB [(6, J 58 (4 * k + 3), 1, 0)]
        refine z_aload_n d_Mod_loop_138 rfl ?_
        refine z_bipush (v := 9) d_Mod_loop_139 (by decide) ?_
        refine z_iload d_Mod_loop_141 rfl ?_
        refine z_iadd d_Mod_loop_143 ?_
        refine z_iconst (v := 0) d_Mod_loop_144 (by decide) ?_
        refine z_aload_n d_Mod_loop_145 rfl ?_
        refine z_get d_Mod_loop_146 f_Mod_110 (by omega) rfl rfl ?_
        refine z_iconst (v := 2) d_Mod_loop_149 (by decide) ?_
        refine z_iadd d_Mod_loop_150 ?_
        refine z_iconst (v := 1) d_Mod_loop_151 (by decide) ?_
        rw [show (9 : Int32) + nI (rHw J k) = nI (9 + rHw J k) from nI_add 9 _, hC.2.1]
        refine z_callV0 d_Mod_loop_152 g_Mod_121 (c_Mod_putR (o := 9 + rHw J k) X J3 G (by have := (hh k (by omega)).1; omega) hC.2.1 (by omega) 0 (nI ((m + (rCo J c nx m k).length) + 1 + 1) + 2) 1) (by omega) rfl rfl rfl ⟨by decide, by decide, by decide, by decide⟩ rfl (Nat.le_of_ble_eq_true rfl) ?_
        generalize hJ4 : rwr J3 ((m + (rCo J c nx m k).length) + 1 + 1) [(9 + rHw J k, 0, nI ((m + (rCo J c nx m k).length) + 1 + 1) + 2, 1)] = J4
        have hD : rAg J J4 (((m + (rCo J c nx m k).length) + 1 + 1) + 1) := by rw [← hJ4]; exact rAg_wr hC [(9 + rHw J k, 0, nI ((m + (rCo J c nx m k).length) + 1 + 1) + 2, 1)]
        refine z_aload_n d_Mod_loop_155 rfl ?_
        refine z_bipush (v := 19) d_Mod_loop_156 (by decide) ?_
        refine z_iload_n d_Mod_loop_158 rfl ?_
        refine z_iconst (v := 0) d_Mod_loop_159 (by decide) ?_
        refine z_iconst (v := 0) d_Mod_loop_160 (by decide) ?_
        refine z_callV0 d_Mod_loop_161 g_Mod_121 (c_Mod_putR (o := 19) X J4 G (by decide) hD.2.1 (by omega) nx 0 0) (by omega) rfl rfl rfl ⟨by decide, by decide, by decide, by decide⟩ rfl (Nat.le_of_ble_eq_true rfl) ?_
        refine z_iinc (lv' := [(0, _), (1, _), (2, _), (3, _), (5, _), (7, _), (6, _)]) d_Mod_loop_164 (by decide) rfl (show _ + Int32.ofInt 1 = nI (k + 1) from nI_1 _) rfl ?_
        refine z_goto d_Mod_loop_167 60 (by decide) ?_
        have h6 : rHw J k < 6 := ((nI_ltI (show rHw J k < 2 ^ 31 by have := (hh k (by omega)).1; omega) (show 6 < 2 ^ 31 by decide)).mp (Int32.not_le.mp h116))
        exact z_loc (lv' := [(0, .ref 40), (1, .int c), (2, .int pa), (3, .int nx), (5, .int (nI m)), (6, .int (nI (k + 1)))]) (by simp) (ih (k + 1) (rwr J4 ((m + (rCo J c nx m k).length) + 1 + 1 + 1) [(19, nx, 0, 0)]) (by omega) (by omega) (by rw [rCo, if_pos h79, rwr_app, ← hJ, rC1, if_pos h6, ← hJ4, ← hJ3, ← hJ2]; rfl))
