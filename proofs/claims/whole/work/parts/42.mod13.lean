/-! the reference: a run -/
def rEx (X : zX) (N : Nat) : Nat → Bool → zJT → zGT → zJT → zGT → Prop
  | _, false, J, G, J', G' => J' = J ∧ G' = G
  | 0, true, J, G, J', G' => ∃ m, J 40 18 = nI m ∧ m ≤ 60 ∧ J 40 10 = nI N ∧ ((N ≤ m ∧ J' = J ∧ G' = G) ∨ (m < N ∧ J' = va_up J 40 (va_up (J 40) 17 1) ∧ G' = G))
  | f + 1, true, J, G, J', G' => ∃ m, J 40 18 = nI m ∧ m ≤ 60 ∧ J 40 10 = nI N ∧ ((N ≤ m ∧ J' = J ∧ G' = G) ∨ (m < N ∧ ∃ (g : Bool) (J1 : zJT) (G1 : zGT), zK X 3 m_Mod_step [.ref 40] J G (some (.int (zb g))) J1 G1 ∧ rEx X N f g J1 G1 J' G'))
def rK (J : zJT) : Nat → zJT
  | 0 => J
  | k + 1 => va_up (rK J k) 50 (upd (rK J k 50) k 0)
def rKG (G : zGT) : Nat → zGT
  | 0 => G
  | k + 1 => va_up (rKG G k) 49 (vp_updL (rKG G k 49) k 0)
def rC (J : zJT) : Nat → zJT
  | 0 => J
  | k + 1 => va_up (va_up (rC J k) 51 (upd (rC J k 51) k (-1))) 52 (upd (rC J k 52) k 0)
def rRs (J : zJT) : zJT := va_up (rC (rK (rTh J 0) 16) 3) 40 (va_up (va_up (va_up (rC (rK (rTh J 0) 16) 3 40) 19 0) 17 0) 18 0)
set_option maxRecDepth 100000 in
set_option maxHeartbeats 4000000 in
theorem l_Mod_run (X : zX) {N F : Nat} (hN : N ≤ 60) (hF : F ≤ 4000) {J' : zJT} {G' : zGT} : ∀ f i g J G, F - i = f → i ≤ F → rEx X N f g J G J' G' → zJ X (zR 4 0 0) m_Mod_run (zRet X 0 0 false (some (.int (J' 40 17))) (hp J' G') 60) false 0 0 (hp J G) 60 103 [(0, .ref 40), (1, .int (nI F)), (2, .int (nI i)), (3, .int (zb g))] [] := by
  intro f
  induction f with
  | zero =>
    intro i g J G hf hi hx
    cases g with
    | false =>
      rw [rEx] at hx
      obtain ⟨rfl, rfl⟩ := hx
      refine z_iload_n d_Mod_run_103 rfl ?_
      refine z_if_eq d_Mod_run_104 144 (by decide) (fun _ => ?_) (fun h9 => absurd rfl h9)
      refine z_aload_n d_Mod_run_144 rfl ?_
      refine z_get d_Mod_run_145 f_Mod_155 (by omega) rfl rfl ?_
      exact z_iret d_Mod_run_148 rfl (by decide) (by decide) rfl rfl
    | true =>
      obtain ⟨m, h1, h2, h3, ⟨h4, rfl, rfl⟩ | ⟨h4, rfl, rfl⟩⟩ := hx
      · skip
        refine z_iload_n d_Mod_run_103 rfl ?_
        refine z_if_eq d_Mod_run_104 144 (by decide) (fun h9 => absurd h9 (by decide)) (fun _ => ?_)
        refine z_aload_n d_Mod_run_107 rfl ?_
        refine z_get d_Mod_run_108 f_Mod_149 (by omega) rfl rfl ?_
        refine z_aload_n d_Mod_run_111 rfl ?_
        refine z_get d_Mod_run_112 f_Mod_110 (by omega) rfl rfl ?_
        refine z_icmp_ge d_Mod_run_115 144 (by decide) (fun _ => ?_) (fun h9 => absurd (by rw [h1, h3]; exact nI_le h4 (by omega)) h9)
        refine z_aload_n d_Mod_run_144 rfl ?_
        refine z_get d_Mod_run_145 f_Mod_155 (by omega) rfl rfl ?_
        exact z_iret d_Mod_run_148 rfl (by decide) (by decide) rfl rfl
      · skip
        refine z_iload_n d_Mod_run_103 rfl ?_
        refine z_if_eq d_Mod_run_104 144 (by decide) (fun h9 => absurd h9 (by decide)) (fun _ => ?_)
        refine z_aload_n d_Mod_run_107 rfl ?_
        refine z_get d_Mod_run_108 f_Mod_149 (by omega) rfl rfl ?_
        refine z_aload_n d_Mod_run_111 rfl ?_
        refine z_get d_Mod_run_112 f_Mod_110 (by omega) rfl rfl ?_
        refine z_icmp_ge d_Mod_run_115 144 (by decide) (fun h9 => absurd h9 (by rw [h1, h3]; exact nI_ge h4 (by omega))) (fun _ => ?_)
        refine z_iload_n d_Mod_run_118 rfl ?_
        refine z_iload_n d_Mod_run_119 rfl ?_
        refine z_icmp_ne d_Mod_run_120 133 (by decide) (fun h9 => absurd h9 (fun h9 => h9 (by rw [show i = F by omega]))) (fun _ => ?_)
        refine z_aload_n d_Mod_run_123 rfl ?_
        refine z_iconst (v := 1) d_Mod_run_124 (by decide) ?_
        refine z_put d_Mod_run_125 f_Mod_155 p_9_17 (by omega) rfl (Nat.le_of_ble_eq_true rfl) rfl rfl (hp_pi 17 rfl) ?_
        refine z_aload_n d_Mod_run_128 rfl ?_
        refine z_get d_Mod_run_129 f_Mod_155 (by omega) rfl rfl ?_
        exact z_iret d_Mod_run_132 rfl (by decide) (by decide) rfl rfl
  | succ f ih =>
    intro i g J G hf hi hx
    cases g with
    | false =>
      rw [rEx] at hx
      obtain ⟨rfl, rfl⟩ := hx
      refine z_iload_n d_Mod_run_103 rfl ?_
      refine z_if_eq d_Mod_run_104 144 (by decide) (fun _ => ?_) (fun h9 => absurd rfl h9)
      refine z_aload_n d_Mod_run_144 rfl ?_
      refine z_get d_Mod_run_145 f_Mod_155 (by omega) rfl rfl ?_
      exact z_iret d_Mod_run_148 rfl (by decide) (by decide) rfl rfl
    | true =>
      obtain ⟨m, h1, h2, h3, ⟨h4, rfl, rfl⟩ | ⟨h4, g, J1, G1, hs, hx⟩⟩ := hx
      · skip
        refine z_iload_n d_Mod_run_103 rfl ?_
        refine z_if_eq d_Mod_run_104 144 (by decide) (fun h9 => absurd h9 (by decide)) (fun _ => ?_)
        refine z_aload_n d_Mod_run_107 rfl ?_
        refine z_get d_Mod_run_108 f_Mod_149 (by omega) rfl rfl ?_
        refine z_aload_n d_Mod_run_111 rfl ?_
        refine z_get d_Mod_run_112 f_Mod_110 (by omega) rfl rfl ?_
        refine z_icmp_ge d_Mod_run_115 144 (by decide) (fun _ => ?_) (fun h9 => absurd (by rw [h1, h3]; exact nI_le h4 (by omega)) h9)
        refine z_aload_n d_Mod_run_144 rfl ?_
        refine z_get d_Mod_run_145 f_Mod_155 (by omega) rfl rfl ?_
        exact z_iret d_Mod_run_148 rfl (by decide) (by decide) rfl rfl
      · skip
        refine z_iload_n d_Mod_run_103 rfl ?_
        refine z_if_eq d_Mod_run_104 144 (by decide) (fun h9 => absurd h9 (by decide)) (fun _ => ?_)
        refine z_aload_n d_Mod_run_107 rfl ?_
        refine z_get d_Mod_run_108 f_Mod_149 (by omega) rfl rfl ?_
        refine z_aload_n d_Mod_run_111 rfl ?_
        refine z_get d_Mod_run_112 f_Mod_110 (by omega) rfl rfl ?_
        refine z_icmp_ge d_Mod_run_115 144 (by decide) (fun h9 => absurd h9 (by rw [h1, h3]; exact nI_ge h4 (by omega))) (fun _ => ?_)
        refine z_iload_n d_Mod_run_118 rfl ?_
        refine z_iload_n d_Mod_run_119 rfl ?_
        refine z_icmp_ne d_Mod_run_120 133 (by decide) (fun _ => ?_) (fun h9 => absurd h9 (fun h9 => absurd ((nI_eq (by omega) (by omega)).mp h9) (by omega)))
        refine z_aload_n d_Mod_run_133 rfl ?_
        refine z_callV1 d_Mod_run_134 g_Mod_168 (hs) (by omega) rfl rfl rfl ⟨by decide, by decide, by decide, by decide⟩ rfl (Nat.le_of_ble_eq_true rfl) ?_
        refine z_istore_n (lv' := [(0, _), (1, _), (2, _), (3, _)]) d_Mod_run_137 (by decide) rfl ?_
        refine z_iinc (lv' := [(0, _), (1, _), (3, _), (2, _)]) d_Mod_run_138 (by decide) rfl (show _ + Int32.ofInt 1 = nI (i + 1) from nI_1 _) rfl ?_
        refine z_goto d_Mod_run_141 103 (by decide) ?_
        exact z_loc (lv' := [(0, .ref 40), (1, .int (nI F)), (2, .int (nI (i + 1))), (3, .int (zb g))]) (by simp) (ih (i + 1) g J1 G1 (by omega) (by omega) hx)
