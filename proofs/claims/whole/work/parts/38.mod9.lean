/-! the reference: a row of results; a row brought in by a program -/
def rRJ (J : zJT) (m a : Nat) : Nat → zJT
  | 0 => J
  | k + 1 => va_up (rRJ J m a k) 56 (upd (rRJ J m a k 56) (4 * m + k) (rRJ J m a k 50 (a + k)))
def rRG (G : zGT) (m a : Nat) : Nat → zGT
  | 0 => G
  | k + 1 => va_up (rRG G m a k) 55 (vp_updL (rRG G m a k 55) (4 * m + k) (rRG G m a k 49 (a + k)))
theorem rRJ_o {J : zJT} {m a b : Nat} (h : b ≠ 56) : ∀ k, rRJ J m a k b = J b
  | 0 => rfl
  | k + 1 => by rw [rRJ, zu_n h, rRJ_o h k]
theorem rRG_o {G : zGT} {m a b : Nat} (h : b ≠ 55) : ∀ k, rRG G m a k b = G b
  | 0 => rfl
  | k + 1 => by rw [rRG, zu_n h, rRG_o h k]
set_option maxRecDepth 100000 in
set_option maxHeartbeats 4000000 in
theorem l_Mod_wres (X : zX) (J : zJT) (G : zGT) {m a w : Nat} (hm : J 40 19 = nI m) (hm6 : m < 64) (hw : w ≤ 4) (haw : a + w ≤ 16) (s : Int32) (hz : ∀ i, vp_nar .boolean (J 50 i) = J 50 i) : ∀ rem k, w - k = rem → k ≤ w → zJ X (zR 1 0 0) m_Mod_without (zRet X 0 0 false (some (.int 0)) (hp (va_up (rRJ J m a w) 40 (va_up (J 40) 19 (nI m + 1))) (rRG G m a w)) 60) false 0 0 (hp (rRJ J m a k) (rRG G m a k)) 60 125 [(0, .ref 40), (1, .int 18), (2, .int (nI a)), (3, .int (nI w)), (4, .int s), (5, .int (nI k))] [] := by
  intro rem
  induction rem with
  | zero =>
    intro k hr hk
    obtain rfl : k = w := by omega
    refine z_iload d_Mod_without_125 rfl ?_
    refine z_iload_n d_Mod_without_127 rfl ?_
    refine z_icmp_ge d_Mod_without_128 183 (by decide) (fun _ => ?_) (fun h9 => absurd (nI_le (Nat.le_refl _) (by omega)) h9)
    refine z_aload_n d_Mod_without_183 rfl ?_
    refine z_dup d_Mod_without_184 rfl ?_
    refine z_get d_Mod_without_185 f_Mod_142 (by omega) rfl rfl ?_
    refine z_iconst (v := 1) d_Mod_without_188 (by decide) ?_
    refine z_iadd d_Mod_without_189 ?_
    refine z_put d_Mod_without_190 f_Mod_142 p_9_19 (by omega) rfl (Nat.le_of_ble_eq_true rfl) rfl rfl (hp_pi 19 rfl) ?_
    refine z_goto d_Mod_without_193 292 (by decide) ?_
    refine z_iload_n d_Mod_without_292 rfl ?_
    refine z_bipush (v := 19) d_Mod_without_293 (by decide) ?_
    refine z_icmp_ne d_Mod_without_295 302 (by decide) (fun _ => ?_) (fun h9 => absurd h9 (by decide))
    refine z_iconst (v := 0) d_Mod_without_302 (by decide) ?_
    exact z_zret d_Mod_without_303 rfl (by decide) (by decide) (by decide) rfl (by rw [rRJ_o (b := 40) (by decide), hm])
  | succ rem ih =>
    intro k hr hk
    refine z_iload d_Mod_without_125 rfl ?_
    refine z_iload_n d_Mod_without_127 rfl ?_
    refine z_icmp_ge d_Mod_without_128 183 (by decide) (fun h9 => absurd h9 (nI_ge (show k < w by omega) (by omega))) (fun _ => ?_)
    refine z_aload_n d_Mod_without_131 rfl ?_
    refine z_get d_Mod_without_132 f_Mod_54 (by omega) rfl rfl ?_
    refine z_iconst (v := 4) d_Mod_without_135 (by decide) ?_
    refine z_aload_n d_Mod_without_136 rfl ?_
    refine z_get d_Mod_without_137 f_Mod_142 (by omega) rfl rfl ?_
    refine z_imul d_Mod_without_140 ?_
    refine z_iload d_Mod_without_141 rfl ?_
    refine z_iadd d_Mod_without_143 ?_
    refine z_aload_n d_Mod_without_144 rfl ?_
    refine z_get d_Mod_without_145 f_Mod_36 (by omega) rfl rfl ?_
    refine z_iload_n d_Mod_without_148 rfl ?_
    refine z_iload d_Mod_without_149 rfl ?_
    refine z_iadd d_Mod_without_151 ?_
    refine z_lald d_Mod_without_152 (by omega) rfl (show zin (nI a + nI k) (a + k) 16 from ⟨nI_add a k, by omega, by decide⟩) ?_
    refine z_last d_Mod_without_153 (by omega) rfl (show zin (4 * rRJ J m a k 40 19 + nI k) (4 * m + k) 256 by rw [rRJ_o (b := 40) (by decide), hm]; exact rz256 hm6 (by omega)) (hp_al rfl) ?_
    refine z_aload_n d_Mod_without_154 rfl ?_
    refine z_get d_Mod_without_155 f_Mod_57 (by omega) rfl rfl ?_
    refine z_iconst (v := 4) d_Mod_without_158 (by decide) ?_
    refine z_aload_n d_Mod_without_159 rfl ?_
    refine z_get d_Mod_without_160 f_Mod_142 (by omega) rfl rfl ?_
    refine z_imul d_Mod_without_163 ?_
    refine z_iload d_Mod_without_164 rfl ?_
    refine z_iadd d_Mod_without_166 ?_
    refine z_aload_n d_Mod_without_167 rfl ?_
    refine z_get d_Mod_without_168 f_Mod_39 (by omega) rfl rfl ?_
    refine z_iload_n d_Mod_without_171 rfl ?_
    refine z_iload d_Mod_without_172 rfl ?_
    refine z_iadd d_Mod_without_174 ?_
    refine z_zald d_Mod_without_175 (by omega) rfl (show zin (nI a + nI k) (a + k) 16 from ⟨nI_add a k, by omega, by decide⟩) ?_
    refine z_zast d_Mod_without_176 (by omega) rfl (show zin (4 * rRJ J m a k 40 19 + nI k) (4 * m + k) 256 by rw [rRJ_o (b := 40) (by decide), hm]; exact rz256 hm6 (by omega)) (show vp_nar .boolean (rRJ J m a k 50 (a + k)) = rRJ J m a k 50 (a + k) by rw [rRJ_o (b := 50) (by decide)]; exact hz _) (hp_ai rfl) ?_
    refine z_iinc (lv' := [(0, _), (1, _), (2, _), (3, _), (4, _), (5, _)]) d_Mod_without_177 (by decide) rfl (show _ + Int32.ofInt 1 = nI (k + 1) from nI_1 _) rfl ?_
    refine z_goto d_Mod_without_180 125 (by decide) ?_
    exact z_loc (lv' := [(0, .ref 40), (1, .int 18), (2, .int (nI a)), (3, .int (nI w)), (4, .int s), (5, .int (nI (k + 1)))]) (by simp) (ih (k + 1) (by omega) (by omega))
set_option maxRecDepth 100000 in
set_option maxHeartbeats 4000000 in
theorem c_Mod_wres (X : zX) (J : zJT) (G : zGT) {m a w : Nat} (hm : J 40 19 = nI m) (hm6 : m < 64) (hw : w ≤ 4) (haw : a + w ≤ 16) (s : Int32) (hz : ∀ i, vp_nar .boolean (J 50 i) = J 50 i) : zK X 1 m_Mod_without [.ref 40, .int 18, .int (nI a), .int (nI w), .int s] J G (some (.int 0)) (va_up (rRJ (va_up J 54 (upd (J 54) m (nI w))) m a w) 40 (va_up (J 40) 19 (nI m + 1))) (rRG G m a w) := by
  refine zC_of (by decide) (Nat.le_of_ble_eq_true rfl) ?_
  refine z_iload_n d_Mod_without_0 rfl ?_
  refine z_iconst (v := 1) d_Mod_without_1 (by decide) ?_
  refine z_icmp_ne d_Mod_without_2 22 (by decide) (fun _ => ?_) (fun h9 => absurd h9 (by decide))
  refine z_iload_n d_Mod_without_22 rfl ?_
  refine z_bipush (v := 6) d_Mod_without_23 (by decide) ?_
  refine z_icmp_ne d_Mod_without_25 39 (by decide) (fun _ => ?_) (fun h9 => absurd h9 (by decide))
  refine z_iload_n d_Mod_without_39 rfl ?_
  refine z_bipush (v := 7) d_Mod_without_40 (by decide) ?_
  refine z_icmp_ne d_Mod_without_42 55 (by decide) (fun _ => ?_) (fun h9 => absurd h9 (by decide))
  refine z_iload_n d_Mod_without_55 rfl ?_
  refine z_bipush (v := 17) d_Mod_without_56 (by decide) ?_
  refine z_icmp_ne d_Mod_without_58 106 (by decide) (fun _ => ?_) (fun h9 => absurd h9 (by decide))
  refine z_iload_n d_Mod_without_106 rfl ?_
  refine z_bipush (v := 18) d_Mod_without_107 (by decide) ?_
  refine z_icmp_ne d_Mod_without_109 196 (by decide) (fun h9 => absurd h9 (by decide)) (fun _ => ?_)
  refine z_aload_n d_Mod_without_112 rfl ?_
  refine z_get d_Mod_without_113 f_Mod_51 (by omega) rfl rfl ?_
  refine z_aload_n d_Mod_without_116 rfl ?_
  refine z_get d_Mod_without_117 f_Mod_142 (by omega) rfl rfl ?_
  refine z_iload_n d_Mod_without_120 rfl ?_
  refine z_iast d_Mod_without_121 (by omega) rfl (show zin (J 40 19) m 64 from ⟨hm, hm6, by decide⟩) (hp_ai rfl) ?_
  refine z_iconst (v := 0) d_Mod_without_122 (by decide) ?_
  refine z_istore (lv' := [(0, _), (1, _), (2, _), (3, _), (4, _), (5, _)]) d_Mod_without_123 (by decide) rfl ?_
  exact z_loc (lv' := [(0, .ref 40), (1, .int 18), (2, .int (nI a)), (3, .int (nI w)), (4, .int s), (5, .int (nI 0))]) (by simp [nI_0]) (l_Mod_wres X (va_up J 54 (upd (J 54) m (nI w))) G hm hm6 hw haw s hz w 0 (by omega) (by omega))
set_option maxRecDepth 100000 in
set_option maxHeartbeats 4000000 in
theorem l_Mod_cins (X : zX) (J : zJT) (G : zGT) {c t cc a n : Nat} (hc : c < 3) (ht : J 51 c = nI t) (ht3 : t < 3) (hcc : J 41 t = nI cc) (hcc4 : cc ≤ 4) (ha : a < 12) (q : Int32) (b : Nat → Bool) (hb : ∀ k, k < 4 → J 50 (a + 1 + k) = zb (b k)) (hn : J 40 3 = nI n) (hn9 : n < 90) : ∀ rem k, cc - k = rem → k ≤ cc → zJ X (zR 2 0 0) m_Mod_withCursor (zRet X 0 0 false (some (.int 0)) (hp (va_up (rLJ J n (nI t) b cc) 40 (va_up (J 40) 3 (nI n + 1))) (rLG G n (G 49 a) b (fun k => G 49 (a + 1 + k)) cc)) 60) false 0 0 (hp (rLJ J n (nI t) b k) (rLG G n (G 49 a) b (fun k => G 49 (a + 1 + k)) k)) 60 195 [(0, .ref 40), (1, .int 20), (2, .int (nI c)), (3, .int q), (4, .int (nI a)), (5, .int (nI t)), (6, .int (nI k))] [] := by
  intro rem
  induction rem with
  | zero =>
    intro k hr hk
    obtain rfl : k = cc := by omega
    refine z_iload d_Mod_withCursor_195 rfl ?_
    refine z_aload_n d_Mod_withCursor_197 rfl ?_
    refine z_get d_Mod_withCursor_198 f_Mod_7 (by omega) rfl rfl ?_
    refine z_iload d_Mod_withCursor_201 rfl ?_
    refine z_iald d_Mod_withCursor_203 (by omega) rfl (show zin (nI t) t 3 from ⟨rfl, ht3, by decide⟩) ?_
    refine z_icmp_ge d_Mod_withCursor_204 252 (by decide) (fun _ => ?_) (fun h9 => absurd (by rw [rLJ_o (a := 41) (by decide) (by decide), hcc]; exact nI_le (Nat.le_refl _) (by omega)) h9)
    refine z_aload_n d_Mod_withCursor_252 rfl ?_
    refine z_dup d_Mod_withCursor_253 rfl ?_
    refine z_get d_Mod_withCursor_254 f_Mod_79 (by omega) rfl rfl ?_
    refine z_iconst (v := 1) d_Mod_withCursor_257 (by decide) ?_
    refine z_iadd d_Mod_withCursor_258 ?_
    refine z_put d_Mod_withCursor_259 f_Mod_79 p_9_3 (by omega) rfl (Nat.le_of_ble_eq_true rfl) rfl rfl (hp_pi 3 rfl) ?_
    refine z_iconst (v := 0) d_Mod_withCursor_262 (by decide) ?_
    exact z_zret d_Mod_withCursor_263 rfl (by decide) (by decide) (by decide) rfl (by rw [rLJ_o (a := 40) (by decide) (by decide), hn])
  | succ rem ih =>
    intro k hr hk
    refine z_iload d_Mod_withCursor_195 rfl ?_
    refine z_aload_n d_Mod_withCursor_197 rfl ?_
    refine z_get d_Mod_withCursor_198 f_Mod_7 (by omega) rfl rfl ?_
    refine z_iload d_Mod_withCursor_201 rfl ?_
    refine z_iald d_Mod_withCursor_203 (by omega) rfl (show zin (nI t) t 3 from ⟨rfl, ht3, by decide⟩) ?_
    refine z_icmp_ge d_Mod_withCursor_204 252 (by decide) (fun h9 => absurd h9 (by rw [rLJ_o (a := 41) (by decide) (by decide), hcc]; exact nI_ge (show k < cc by omega) (by omega))) (fun _ => ?_)
    refine z_aload_n d_Mod_withCursor_207 rfl ?_
    refine z_iload d_Mod_withCursor_208 rfl ?_
    refine z_aload_n d_Mod_withCursor_210 rfl ?_
    refine z_get d_Mod_withCursor_211 f_Mod_36 (by omega) rfl rfl ?_
    refine z_iload d_Mod_withCursor_214 rfl ?_
    refine z_lald d_Mod_withCursor_216 (by omega) rfl (show zin (nI a) a 16 from ⟨rfl, by omega, by decide⟩) ?_
    refine z_iload d_Mod_withCursor_217 rfl ?_
    refine z_aload_n d_Mod_withCursor_219 rfl ?_
    refine z_get d_Mod_withCursor_220 f_Mod_39 (by omega) rfl rfl ?_
    refine z_iload d_Mod_withCursor_223 rfl ?_
    refine z_iconst (v := 1) d_Mod_withCursor_225 (by decide) ?_
    refine z_iadd d_Mod_withCursor_226 ?_
    refine z_iload d_Mod_withCursor_227 rfl ?_
    refine z_iadd d_Mod_withCursor_229 ?_
    refine z_zald d_Mod_withCursor_230 (by omega) rfl (show zin (nI a + 1 + nI k) (a + 1 + k) 16 from ⟨by rw [nI_1, nI_add], by omega, by decide⟩) ?_
    refine z_aload_n d_Mod_withCursor_231 rfl ?_
    refine z_get d_Mod_withCursor_232 f_Mod_36 (by omega) rfl rfl ?_
    refine z_iload d_Mod_withCursor_235 rfl ?_
    refine z_iconst (v := 1) d_Mod_withCursor_237 (by decide) ?_
    refine z_iadd d_Mod_withCursor_238 ?_
    refine z_iload d_Mod_withCursor_239 rfl ?_
    refine z_iadd d_Mod_withCursor_241 ?_
    refine z_lald d_Mod_withCursor_242 (by omega) rfl (show zin (nI a + 1 + nI k) (a + 1 + k) 16 from ⟨by rw [nI_1, nI_add], by omega, by decide⟩) ?_
    rw [rLJ_o (a := 50) (by decide) (by decide), hb k (by omega), rLG_o (a := 49) (by decide) (by decide)]
    refine z_callV0 d_Mod_withCursor_243 g_Mod_90 (c_Mod_lay X _ _ 0 (show rLJ J n (nI t) b k 40 3 = nI n by rw [rLJ_o (a := 40) (by decide) (by decide), hn]) hn9 (show k < 4 by omega) (nI t) (G 49 a) (b k) (G 49 (a + 1 + k))) (by omega) rfl rfl rfl ⟨by decide, by decide, by decide, by decide⟩ rfl (Nat.le_of_ble_eq_true rfl) ?_
    refine z_iinc (lv' := [(0, _), (1, _), (2, _), (3, _), (4, _), (5, _), (6, _)]) d_Mod_withCursor_246 (by decide) rfl (show _ + Int32.ofInt 1 = nI (k + 1) from nI_1 _) rfl ?_
    refine z_goto d_Mod_withCursor_249 195 (by decide) ?_
    exact z_loc (lv' := [(0, .ref 40), (1, .int 20), (2, .int (nI c)), (3, .int q), (4, .int (nI a)), (5, .int (nI t)), (6, .int (nI (k + 1)))]) (by simp) (ih (k + 1) (by omega) (by omega))
set_option maxRecDepth 100000 in
set_option maxHeartbeats 4000000 in
theorem c_Mod_cinsN (X : zX) (J : zJT) (G : zGT) {c a : Nat} (hc : c < 3) (ha : a < 12) (q : Int32) (h : J 50 a = 0) : zK X 2 m_Mod_withCursor [.ref 40, .int 20, .int (nI c), .int q, .int (nI a)] J G (some (.int 1)) J G := by
  refine zC_of (by decide) (Nat.le_of_ble_eq_true rfl) ?_
  refine z_aload_n d_Mod_withCursor_0 rfl ?_
  refine z_get d_Mod_withCursor_1 f_Mod_42 (by omega) rfl rfl ?_
  refine z_iload_n d_Mod_withCursor_4 rfl ?_
  refine z_iald d_Mod_withCursor_5 (by omega) rfl (show zin (nI c) c 3 from ⟨rfl, hc, by decide⟩) ?_
  refine z_istore (lv' := [(0, _), (1, _), (2, _), (3, _), (4, _), (5, _)]) d_Mod_withCursor_6 (by decide) rfl ?_
  refine z_iload_n d_Mod_withCursor_8 rfl ?_
  refine z_iconst (v := 2) d_Mod_withCursor_9 (by decide) ?_
  refine z_icmp_ne d_Mod_withCursor_10 39 (by decide) (fun _ => ?_) (fun h9 => absurd h9 (by decide))
  refine z_iload_n d_Mod_withCursor_39 rfl ?_
  refine z_iconst (v := 3) d_Mod_withCursor_40 (by decide) ?_
  refine z_icmp_ne d_Mod_withCursor_41 95 (by decide) (fun _ => ?_) (fun h9 => absurd h9 (by decide))
  refine z_iload_n d_Mod_withCursor_95 rfl ?_
  refine z_bipush (v := 8) d_Mod_withCursor_96 (by decide) ?_
  refine z_icmp_ne d_Mod_withCursor_98 149 (by decide) (fun _ => ?_) (fun h9 => absurd h9 (by decide))
  refine z_iload_n d_Mod_withCursor_149 rfl ?_
  refine z_bipush (v := 20) d_Mod_withCursor_150 (by decide) ?_
  refine z_icmp_ne d_Mod_withCursor_152 264 (by decide) (fun h9 => absurd h9 (by decide)) (fun _ => ?_)
  refine z_aload_n d_Mod_withCursor_155 rfl ?_
  refine z_get d_Mod_withCursor_156 f_Mod_39 (by omega) rfl rfl ?_
  refine z_iload d_Mod_withCursor_159 rfl ?_
  refine z_zald d_Mod_withCursor_161 (by omega) rfl (show zin (nI a) a 16 from ⟨rfl, by omega, by decide⟩) ?_
  refine z_if_eq d_Mod_withCursor_162 190 (by decide) (fun _ => ?_) (fun h9 => absurd h h9)
  refine z_iconst (v := 1) d_Mod_withCursor_190 (by decide) ?_
  exact z_zret d_Mod_withCursor_191 rfl (by decide) (by decide) (by decide) rfl rfl
set_option maxRecDepth 100000 in
set_option maxHeartbeats 4000000 in
theorem c_Mod_cinsF (X : zX) (J : zJT) (G : zGT) {c a : Nat} (hc : c < 3) (ha : a < 12) (q : Int32) (h : ¬ J 50 a = 0) (hf : J 40 3 = 90) : zK X 2 m_Mod_withCursor [.ref 40, .int 20, .int (nI c), .int q, .int (nI a)] J G (some (.int 1)) J G := by
  refine zC_of (by decide) (Nat.le_of_ble_eq_true rfl) ?_
  refine z_aload_n d_Mod_withCursor_0 rfl ?_
  refine z_get d_Mod_withCursor_1 f_Mod_42 (by omega) rfl rfl ?_
  refine z_iload_n d_Mod_withCursor_4 rfl ?_
  refine z_iald d_Mod_withCursor_5 (by omega) rfl (show zin (nI c) c 3 from ⟨rfl, hc, by decide⟩) ?_
  refine z_istore (lv' := [(0, _), (1, _), (2, _), (3, _), (4, _), (5, _)]) d_Mod_withCursor_6 (by decide) rfl ?_
  refine z_iload_n d_Mod_withCursor_8 rfl ?_
  refine z_iconst (v := 2) d_Mod_withCursor_9 (by decide) ?_
  refine z_icmp_ne d_Mod_withCursor_10 39 (by decide) (fun _ => ?_) (fun h9 => absurd h9 (by decide))
  refine z_iload_n d_Mod_withCursor_39 rfl ?_
  refine z_iconst (v := 3) d_Mod_withCursor_40 (by decide) ?_
  refine z_icmp_ne d_Mod_withCursor_41 95 (by decide) (fun _ => ?_) (fun h9 => absurd h9 (by decide))
  refine z_iload_n d_Mod_withCursor_95 rfl ?_
  refine z_bipush (v := 8) d_Mod_withCursor_96 (by decide) ?_
  refine z_icmp_ne d_Mod_withCursor_98 149 (by decide) (fun _ => ?_) (fun h9 => absurd h9 (by decide))
  refine z_iload_n d_Mod_withCursor_149 rfl ?_
  refine z_bipush (v := 20) d_Mod_withCursor_150 (by decide) ?_
  refine z_icmp_ne d_Mod_withCursor_152 264 (by decide) (fun h9 => absurd h9 (by decide)) (fun _ => ?_)
  refine z_aload_n d_Mod_withCursor_155 rfl ?_
  refine z_get d_Mod_withCursor_156 f_Mod_39 (by omega) rfl rfl ?_
  refine z_iload d_Mod_withCursor_159 rfl ?_
  refine z_zald d_Mod_withCursor_161 (by omega) rfl (show zin (nI a) a 16 from ⟨rfl, by omega, by decide⟩) ?_
  refine z_if_eq d_Mod_withCursor_162 190 (by decide) (fun h9 => absurd h9 h) (fun _ => ?_)
  refine z_aload_n d_Mod_withCursor_165 rfl ?_
  refine z_get d_Mod_withCursor_166 f_Mod_79 (by omega) rfl rfl ?_
  refine z_bipush (v := 90) d_Mod_withCursor_169 (by decide) ?_
  refine z_icmp_eq d_Mod_withCursor_171 190 (by decide) (fun _ => ?_) (fun h9 => absurd hf h9)
  refine z_iconst (v := 1) d_Mod_withCursor_190 (by decide) ?_
  exact z_zret d_Mod_withCursor_191 rfl (by decide) (by decide) (by decide) rfl rfl
set_option maxRecDepth 100000 in
set_option maxHeartbeats 4000000 in
theorem c_Mod_cinsX (X : zX) (J : zJT) (G : zGT) {c a : Nat} (hc : c < 3) (ha : a < 12) (q : Int32) (h : ¬ J 50 a = 0) {n : Nat} (hn : J 40 3 = nI n) (hn9 : n < 90) (hx : ¬ rOf J G (J 51 c) (G 49 a) n < 0) : zK X 2 m_Mod_withCursor [.ref 40, .int 20, .int (nI c), .int q, .int (nI a)] J G (some (.int 1)) J G := by
  refine zC_of (by decide) (Nat.le_of_ble_eq_true rfl) ?_
  refine z_aload_n d_Mod_withCursor_0 rfl ?_
  refine z_get d_Mod_withCursor_1 f_Mod_42 (by omega) rfl rfl ?_
  refine z_iload_n d_Mod_withCursor_4 rfl ?_
  refine z_iald d_Mod_withCursor_5 (by omega) rfl (show zin (nI c) c 3 from ⟨rfl, hc, by decide⟩) ?_
  refine z_istore (lv' := [(0, _), (1, _), (2, _), (3, _), (4, _), (5, _)]) d_Mod_withCursor_6 (by decide) rfl ?_
  refine z_iload_n d_Mod_withCursor_8 rfl ?_
  refine z_iconst (v := 2) d_Mod_withCursor_9 (by decide) ?_
  refine z_icmp_ne d_Mod_withCursor_10 39 (by decide) (fun _ => ?_) (fun h9 => absurd h9 (by decide))
  refine z_iload_n d_Mod_withCursor_39 rfl ?_
  refine z_iconst (v := 3) d_Mod_withCursor_40 (by decide) ?_
  refine z_icmp_ne d_Mod_withCursor_41 95 (by decide) (fun _ => ?_) (fun h9 => absurd h9 (by decide))
  refine z_iload_n d_Mod_withCursor_95 rfl ?_
  refine z_bipush (v := 8) d_Mod_withCursor_96 (by decide) ?_
  refine z_icmp_ne d_Mod_withCursor_98 149 (by decide) (fun _ => ?_) (fun h9 => absurd h9 (by decide))
  refine z_iload_n d_Mod_withCursor_149 rfl ?_
  refine z_bipush (v := 20) d_Mod_withCursor_150 (by decide) ?_
  refine z_icmp_ne d_Mod_withCursor_152 264 (by decide) (fun h9 => absurd h9 (by decide)) (fun _ => ?_)
  refine z_aload_n d_Mod_withCursor_155 rfl ?_
  refine z_get d_Mod_withCursor_156 f_Mod_39 (by omega) rfl rfl ?_
  refine z_iload d_Mod_withCursor_159 rfl ?_
  refine z_zald d_Mod_withCursor_161 (by omega) rfl (show zin (nI a) a 16 from ⟨rfl, by omega, by decide⟩) ?_
  refine z_if_eq d_Mod_withCursor_162 190 (by decide) (fun h9 => absurd h9 h) (fun _ => ?_)
  refine z_aload_n d_Mod_withCursor_165 rfl ?_
  refine z_get d_Mod_withCursor_166 f_Mod_79 (by omega) rfl rfl ?_
  refine z_bipush (v := 90) d_Mod_withCursor_169 (by decide) ?_
  refine z_icmp_eq d_Mod_withCursor_171 190 (by decide) (fun h9 => absurd h9 (by rw [hn]; exact fun h9 => absurd ((nI_eq (by omega) (by decide)).mp (show nI n = nI 90 from h9)) (by omega))) (fun _ => ?_)
  refine z_aload_n d_Mod_withCursor_174 rfl ?_
  refine z_iload d_Mod_withCursor_175 rfl ?_
  refine z_aload_n d_Mod_withCursor_177 rfl ?_
  refine z_get d_Mod_withCursor_178 f_Mod_36 (by omega) rfl rfl ?_
  refine z_iload d_Mod_withCursor_181 rfl ?_
  refine z_lald d_Mod_withCursor_183 (by omega) rfl (show zin (nI a) a 16 from ⟨rfl, by omega, by decide⟩) ?_
  refine z_callV1 d_Mod_withCursor_184 g_Mod_86 (c_Mod_rowOf X J G 0 hn (by omega) (J 51 c) (G 49 a)) (by omega) rfl rfl rfl ⟨by decide, by decide, by decide, by decide⟩ rfl (Nat.le_of_ble_eq_true rfl) ?_
  refine z_if_lt d_Mod_withCursor_187 192 (by decide) (fun h9 => absurd h9 hx) (fun _ => ?_)
  refine z_iconst (v := 1) d_Mod_withCursor_190 (by decide) ?_
  exact z_zret d_Mod_withCursor_191 rfl (by decide) (by decide) (by decide) rfl rfl
set_option maxRecDepth 100000 in
set_option maxHeartbeats 4000000 in
theorem c_Mod_cins (X : zX) (J : zJT) (G : zGT) {c t cc a n : Nat} (hc : c < 3) (ht : J 51 c = nI t) (ht3 : t < 3) (hcc : J 41 t = nI cc) (hcc4 : cc ≤ 4) (ha : a < 12) (q : Int32) (b : Nat → Bool) (hb : ∀ k, k < 4 → J 50 (a + 1 + k) = zb (b k)) (hn : J 40 3 = nI n) (hn9 : n < 90) (h : ¬ J 50 a = 0) (hx : rOf J G (nI t) (G 49 a) n < 0) : zK X 2 m_Mod_withCursor [.ref 40, .int 20, .int (nI c), .int q, .int (nI a)] J G (some (.int 0)) (va_up (rLJ J n (nI t) b cc) 40 (va_up (J 40) 3 (nI n + 1))) (rLG G n (G 49 a) b (fun k => G 49 (a + 1 + k)) cc) := by
  refine zC_of (by decide) (Nat.le_of_ble_eq_true rfl) ?_
  refine z_aload_n d_Mod_withCursor_0 rfl ?_
  refine z_get d_Mod_withCursor_1 f_Mod_42 (by omega) rfl rfl ?_
  refine z_iload_n d_Mod_withCursor_4 rfl ?_
  refine z_iald d_Mod_withCursor_5 (by omega) rfl (show zin (nI c) c 3 from ⟨rfl, hc, by decide⟩) ?_
  rw [ht]
  refine z_istore (lv' := [(0, _), (1, _), (2, _), (3, _), (4, _), (5, _)]) d_Mod_withCursor_6 (by decide) rfl ?_
  refine z_iload_n d_Mod_withCursor_8 rfl ?_
  refine z_iconst (v := 2) d_Mod_withCursor_9 (by decide) ?_
  refine z_icmp_ne d_Mod_withCursor_10 39 (by decide) (fun _ => ?_) (fun h9 => absurd h9 (by decide))
  refine z_iload_n d_Mod_withCursor_39 rfl ?_
  refine z_iconst (v := 3) d_Mod_withCursor_40 (by decide) ?_
  refine z_icmp_ne d_Mod_withCursor_41 95 (by decide) (fun _ => ?_) (fun h9 => absurd h9 (by decide))
  refine z_iload_n d_Mod_withCursor_95 rfl ?_
  refine z_bipush (v := 8) d_Mod_withCursor_96 (by decide) ?_
  refine z_icmp_ne d_Mod_withCursor_98 149 (by decide) (fun _ => ?_) (fun h9 => absurd h9 (by decide))
  refine z_iload_n d_Mod_withCursor_149 rfl ?_
  refine z_bipush (v := 20) d_Mod_withCursor_150 (by decide) ?_
  refine z_icmp_ne d_Mod_withCursor_152 264 (by decide) (fun h9 => absurd h9 (by decide)) (fun _ => ?_)
  refine z_aload_n d_Mod_withCursor_155 rfl ?_
  refine z_get d_Mod_withCursor_156 f_Mod_39 (by omega) rfl rfl ?_
  refine z_iload d_Mod_withCursor_159 rfl ?_
  refine z_zald d_Mod_withCursor_161 (by omega) rfl (show zin (nI a) a 16 from ⟨rfl, by omega, by decide⟩) ?_
  refine z_if_eq d_Mod_withCursor_162 190 (by decide) (fun h9 => absurd h9 h) (fun _ => ?_)
  refine z_aload_n d_Mod_withCursor_165 rfl ?_
  refine z_get d_Mod_withCursor_166 f_Mod_79 (by omega) rfl rfl ?_
  refine z_bipush (v := 90) d_Mod_withCursor_169 (by decide) ?_
  refine z_icmp_eq d_Mod_withCursor_171 190 (by decide) (fun h9 => absurd h9 (by rw [hn]; exact fun h9 => absurd ((nI_eq (by omega) (by decide)).mp (show nI n = nI 90 from h9)) (by omega))) (fun _ => ?_)
  refine z_aload_n d_Mod_withCursor_174 rfl ?_
  refine z_iload d_Mod_withCursor_175 rfl ?_
  refine z_aload_n d_Mod_withCursor_177 rfl ?_
  refine z_get d_Mod_withCursor_178 f_Mod_36 (by omega) rfl rfl ?_
  refine z_iload d_Mod_withCursor_181 rfl ?_
  refine z_lald d_Mod_withCursor_183 (by omega) rfl (show zin (nI a) a 16 from ⟨rfl, by omega, by decide⟩) ?_
  refine z_callV1 d_Mod_withCursor_184 g_Mod_86 (c_Mod_rowOf X J G 0 hn (by omega) (nI t) (G 49 a)) (by omega) rfl rfl rfl ⟨by decide, by decide, by decide, by decide⟩ rfl (Nat.le_of_ble_eq_true rfl) ?_
  refine z_if_lt d_Mod_withCursor_187 192 (by decide) (fun _ => ?_) (fun h9 => absurd hx h9)
  refine z_iconst (v := 0) d_Mod_withCursor_192 (by decide) ?_
  refine z_istore (lv' := [(0, _), (1, _), (2, _), (3, _), (4, _), (5, _), (6, _)]) d_Mod_withCursor_193 (by decide) rfl ?_
  exact z_loc (lv' := [(0, .ref 40), (1, .int 20), (2, .int (nI c)), (3, .int q), (4, .int (nI a)), (5, .int (nI t)), (6, .int (nI 0))]) (by simp [nI_0]) (l_Mod_cins X J G hc ht ht3 hcc hcc4 ha q b hb hn hn9 cc 0 (by omega) (by omega))
