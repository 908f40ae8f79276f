set_option maxRecDepth 100000 in
set_option maxHeartbeats 4000000 in
theorem c_Mod_loopN (X : zX) (J : zJT) (G : zGT) {m n : Nat} (hm : J 40 10 = nI m) (hn : J 40 27 = nI n) (hn4 : n ≤ 4) (hm6 : m + 2 + 4 * n ≤ 60) (hh : rHh J n) (c pa nx : Int32) (hb : rSo (rSkP J c) n 0 = none) : zK X 3 m_Mod_loop [.ref 40, .int c, .int pa, .int nx] J G (some (.int (nI (m + 1)))) (rwr (rwr J m [(2, c, pa, 0)]) (m + 1) (rCo (rwr J m [(2, c, pa, 0)]) c nx (m + 1) n)) G := by
  have a10 := hm
  have a27 := hn
  have a58 : J 58 = J 58 := rfl
  have hK := c_Mod_seeker X J G 0 hn hn4 c
  rw [rSk_o, hb, show rI none = -1 from rfl] at hK
  refine zC_of (by decide) (Nat.le_of_ble_eq_true rfl) ?_
  refine z_aload_n d_Mod_loop_0 rfl ?_
  refine z_iload_n d_Mod_loop_1 rfl ?_
  refine z_callV1 d_Mod_loop_2 g_Mod_193 (hK) (by omega) rfl rfl rfl ⟨by decide, by decide, by decide, by decide⟩ rfl (Nat.le_of_ble_eq_true rfl) ?_
  refine z_istore (lv' := [(0, _), (1, _), (2, _), (3, _), (4, _)]) d_Mod_loop_5 (by decide) rfl ?_
  refine z_iload d_Mod_loop_7 rfl ?_
  refine z_if_ge d_Mod_loop_9 23 (by decide) (fun h9 => absurd h9 (by decide)) (fun _ => ?_)
  refine z_aload_n d_Mod_loop_12 rfl ?_
  refine z_iconst (v := 2) d_Mod_loop_13 (by decide) ?_
  refine z_iload_n d_Mod_loop_14 rfl ?_
  refine z_iload_n d_Mod_loop_15 rfl ?_
  refine z_iconst (v := 0) d_Mod_loop_16 (by decide) ?_
  refine z_callV0 d_Mod_loop_17 g_Mod_121 (c_Mod_putR (o := 2) X J G (by decide) hm (by omega) c pa 0) (by omega) rfl rfl rfl ⟨by decide, by decide, by decide, by decide⟩ rfl (Nat.le_of_ble_eq_true rfl) ?_
  refine z_goto d_Mod_loop_20 51 (by decide) ?_
  generalize hJ2 : rwr J m [(2, c, pa, 0)] = J2
  have b10 : J2 40 10 = nI (m + 1) := by rw [← hJ2]; exact rwr_sz J m [(2, c, pa, 0)] a10
  have b27 : J2 40 27 = nI n := by rw [← hJ2, rwr_f _ _ _ (by decide)]; exact a27
  have b58 : J2 58 = J 58 := by rw [← hJ2]; exact (rwr_n _ _ _ (by decide) (by decide)).trans a58
  refine z_aload_n d_Mod_loop_51 rfl ?_
  refine z_get d_Mod_loop_52 f_Mod_110 (by omega) rfl rfl ?_
  rw [b10]
  refine z_istore (lv' := [(0, _), (1, _), (2, _), (3, _), (4, _), (5, _)]) d_Mod_loop_55 (by decide) rfl ?_
  refine z_iconst (v := 0) d_Mod_loop_57 (by decide) ?_
  refine z_istore (lv' := [(0, _), (1, _), (2, _), (3, _), (4, _), (5, _), (6, _)]) d_Mod_loop_58 (by decide) rfl ?_
  exact z_loc (lv' := [(0, .ref 40), (1, .int c), (2, .int pa), (3, .int nx), (5, .int (nI (m + 1))), (6, .int (nI 0))]) (by simp [nI_0]) (l_Mod_loop X J2 G (m := m + 1) b10 b27 hn4 (by omega) (fun k hk => by rw [rHw, b58]; exact hh k hk) c pa nx n 0 J2 (by omega) (by omega) rfl)
set_option maxRecDepth 100000 in
set_option maxHeartbeats 4000000 in
theorem c_Mod_loopS (X : zX) (J : zJT) (G : zGT) {m n : Nat} (hm : J 40 10 = nI m) (hn : J 40 27 = nI n) (hn4 : n ≤ 4) (hm6 : m + 2 + 4 * n ≤ 60) (hh : rHh J n) (c pa nx : Int32) {i : Nat} (hb : rSo (rSkP J c) n 0 = some i) : zK X 3 m_Mod_loop [.ref 40, .int c, .int pa, .int nx] J G (some (.int (nI (m + 1 + 1)))) (rwr (rwr (rwr J m [(6, J 58 (4 * i + 3), 0, 0)]) (m + 1) [(8, c, pa, 0)]) (m + 1 + 1) (rCo (rwr (rwr J m [(6, J 58 (4 * i + 3), 0, 0)]) (m + 1) [(8, c, pa, 0)]) c nx (m + 1 + 1) n)) G := by
  have a10 := hm
  have a27 := hn
  have a58 : J 58 = J 58 := rfl
  have hi := rSo_lt _ _ _ _ hb
  have hK := c_Mod_seeker X J G 0 hn hn4 c
  rw [rSk_o, hb, show rI (some i) = nI i from rfl] at hK
  refine zC_of (by decide) (Nat.le_of_ble_eq_true rfl) ?_
  refine z_aload_n d_Mod_loop_0 rfl ?_
  refine z_iload_n d_Mod_loop_1 rfl ?_
  refine z_callV1 d_Mod_loop_2 g_Mod_193 (hK) (by omega) rfl rfl rfl ⟨by decide, by decide, by decide, by decide⟩ rfl (Nat.le_of_ble_eq_true rfl) ?_
  refine z_istore (lv' := [(0, _), (1, _), (2, _), (3, _), (4, _)]) d_Mod_loop_5 (by decide) rfl ?_
  refine z_iload d_Mod_loop_7 rfl ?_
  refine z_if_ge d_Mod_loop_9 23 (by decide) (fun _ => ?_) (fun h9 => absurd (nI_pos' (by omega)) h9)
  refine z_aload_n d_Mod_loop_23 rfl ?_
  refine z_bipush (v := 6) d_Mod_loop_24 (by decide) ?_
  refine z_aload_n d_Mod_loop_26 rfl ?_
  refine z_get d_Mod_loop_27 f_Mod_70 (by omega) rfl rfl ?_
  refine z_iconst (v := 4) d_Mod_loop_30 (by decide) ?_
  refine z_iload d_Mod_loop_31 rfl ?_
  refine z_imul d_Mod_loop_33 ?_
  refine z_iconst (v := 3) d_Mod_loop_34 (by decide) ?_
  refine z_iadd d_Mod_loop_35 ?_
  refine z_iald d_Mod_loop_36 (by omega) rfl (show zin (4 * nI i + nI 3) (4 * i + 3) 16 from rz16 (by omega) (by decide)) ?_
  refine z_iconst (v := 0) d_Mod_loop_37 (by decide) ?_
  refine z_iconst (v := 0) d_Mod_loop_38 (by decide) ?_
  refine z_callV0 d_Mod_loop_39 g_Mod_121 (c_Mod_putR (o := 6) X J G (by decide) hm (by omega) (J 58 (4 * i + 3)) 0 0) (by omega) rfl rfl rfl ⟨by decide, by decide, by decide, by decide⟩ rfl (Nat.le_of_ble_eq_true rfl) ?_
  generalize hJ2 : rwr J m [(6, J 58 (4 * i + 3), 0, 0)] = J2
  have b10 : J2 40 10 = nI (m + 1) := by rw [← hJ2]; exact rwr_sz J m [(6, J 58 (4 * i + 3), 0, 0)] a10
  have b27 : J2 40 27 = nI n := by rw [← hJ2, rwr_f _ _ _ (by decide)]; exact a27
  have b58 : J2 58 = J 58 := by rw [← hJ2]; exact (rwr_n _ _ _ (by decide) (by decide)).trans a58
  refine z_aload_n d_Mod_loop_42 rfl ?_
  refine z_bipush (v := 8) d_Mod_loop_43 (by decide) ?_
  refine z_iload_n d_Mod_loop_45 rfl ?_
  refine z_iload_n d_Mod_loop_46 rfl ?_
  refine z_iconst (v := 0) d_Mod_loop_47 (by decide) ?_
  refine z_callV0 d_Mod_loop_48 g_Mod_121 (c_Mod_putR (o := 8) X J2 G (by decide) b10 (by omega) c pa 0) (by omega) rfl rfl rfl ⟨by decide, by decide, by decide, by decide⟩ rfl (Nat.le_of_ble_eq_true rfl) ?_
  generalize hJ3 : rwr J2 (m + 1) [(8, c, pa, 0)] = J3
  have d10 : J3 40 10 = nI ((m + 1) + 1) := by rw [← hJ3]; exact rwr_sz J2 (m + 1) [(8, c, pa, 0)] b10
  have d27 : J3 40 27 = nI n := by rw [← hJ3, rwr_f _ _ _ (by decide)]; exact b27
  have d58 : J3 58 = J 58 := by rw [← hJ3]; exact (rwr_n _ _ _ (by decide) (by decide)).trans b58
  refine z_aload_n d_Mod_loop_51 rfl ?_
  refine z_get d_Mod_loop_52 f_Mod_110 (by omega) rfl rfl ?_
  rw [d10]
  refine z_istore (lv' := [(0, _), (1, _), (2, _), (3, _), (4, _), (5, _)]) d_Mod_loop_55 (by decide) rfl ?_
  refine z_iconst (v := 0) d_Mod_loop_57 (by decide) ?_
  refine z_istore (lv' := [(0, _), (1, _), (2, _), (3, _), (4, _), (5, _), (6, _)]) d_Mod_loop_58 (by decide) rfl ?_
  exact z_loc (lv' := [(0, .ref 40), (1, .int c), (2, .int pa), (3, .int nx), (5, .int (nI (m + 1 + 1))), (6, .int (nI 0))]) (by simp [nI_0]) (l_Mod_loop X J3 G (m := m + 1 + 1) d10 d27 hn4 (by omega) (fun k hk => by rw [rHw, d58]; exact hh k hk) c pa nx n 0 J3 (by omega) (by omega) rfl)
theorem c_Mod_loop (X : zX) (J : zJT) (G : zGT) {m n : Nat} (hm : J 40 10 = nI m) (hn : J 40 27 = nI n) (hn4 : n ≤ 4) (hm6 : m + 2 + 4 * n ≤ 60) (hh : rHh J n) (c pa nx : Int32) : zK X 3 m_Mod_loop [.ref 40, .int c, .int pa, .int nx] J G (some (.int (nI (rTp J c m n)))) (rwr J m (rLp J c pa nx m n)) G := by
  cases hb : rSo (rSkP J c) n 0 with
  | none =>
    have h := c_Mod_loopN X J G hm hn hn4 hm6 hh c pa nx hb
    rw [rCo_c (J := J) (rwr_n _ _ _ (by decide) (by decide))] at h
    rw [rTp, rLp, hb, rwr_app]
    exact h
  | some i =>
    have h := c_Mod_loopS X J G hm hn hn4 hm6 hh c pa nx hb
    rw [rCo_c (J := J) ((rwr_n _ _ _ (by decide) (by decide)).trans (rwr_n _ _ _ (by decide) (by decide)))] at h
    rw [rTp, rLp, hb, rwr_app]
    exact h
def rZ (J : zJT) : zJT := va_up (rTh J 0) 40 (va_up (rTh J 0 40) 10 0)
def rQ (X : zX) (G : zGT) (Z : zJT) (L : List rI4) : zQT := zRet X 0 0 false (some (.int (nI L.length))) (hp (rwr Z 0 L) G) 60
theorem rwr_z (Z : zJT) (L L' : List rI4) : rwr Z 0 (L ++ L') = rwr (rwr Z 0 L) L.length L' := by rw [rwr_app, Nat.zero_add]
/-- what the heap J1 has, with the list L written -/
def rAh (Z J1 : zJT) (L : List rI4) : Prop := J1 = rwr Z 0 L ∧ J1 40 10 = nI L.length ∧ (∀ i, i ≠ 10 → J1 40 i = Z 40 i) ∧ J1 57 = Z 57 ∧ J1 58 = Z 58
theorem rAh_0 {Z : zJT} (hZ : Z 40 10 = nI 0) (L : List rI4) : rAh Z (rwr Z 0 L) L :=
  ⟨rfl, by have := rwr_sz Z 0 L hZ; rwa [Nat.zero_add] at this, fun i hi => rwr_f Z 0 L hi, rwr_n Z 0 L (by decide) (by decide), rwr_n Z 0 L (by decide) (by decide)⟩
theorem rAh_a {Z J1 J2 : zJT} (hZ : Z 40 10 = nI 0) {L L' : List rI4} (h : rAh Z J1 L) (e : rwr J1 L.length L' = J2) : rAh Z J2 (L ++ L') := by
  have : J2 = rwr Z 0 (L ++ L') := by rw [rwr_z, ← h.1, e]
  rw [this]
  exact rAh_0 hZ _
set_option maxRecDepth 100000 in
set_option maxHeartbeats 4000000 in
theorem l_cmpE (X : zX) (G : zGT) {Z : zJT} (hZ : Z 40 10 = nI 0) {L Lf : List rI4} {J1 : zJT} (h : rAh Z J1 L) (t5 : Int32) (hl : L.length + 2 ≤ 60) (hLf : Lf = L ++ [(3, 0, t5, 0)] ++ [(0, 0, 0, 0)]) : zJ X (zR 4 0 0) m_Mod_compile (rQ X G Z Lf) false 0 0 (hp J1 G) 60 233 [(0, .ref 40), (5, .int t5)] [] := by
  refine z_aload_n d_Mod_compile_233 rfl ?_
  refine z_iconst (v := 3) d_Mod_compile_234 (by decide) ?_
  refine z_iconst (v := 0) d_Mod_compile_235 (by decide) ?_
  refine z_iload d_Mod_compile_236 rfl ?_
  refine z_iconst (v := 0) d_Mod_compile_238 (by decide) ?_
  refine z_callV0 d_Mod_compile_239 g_Mod_121 (c_Mod_putR (o := 3) X J1 G (by decide) h.2.1 (by omega) 0 t5 0) (by omega) rfl rfl rfl ⟨by decide, by decide, by decide, by decide⟩ rfl (Nat.le_of_ble_eq_true rfl) ?_
  generalize eJ2 : rwr J1 L.length [(3, 0, t5, 0)] = J2
  have h2 := rAh_a hZ h eJ2
  refine z_aload_n d_Mod_compile_242 rfl ?_
  refine z_iconst (v := 0) d_Mod_compile_243 (by decide) ?_
  refine z_iconst (v := 0) d_Mod_compile_244 (by decide) ?_
  refine z_iconst (v := 0) d_Mod_compile_245 (by decide) ?_
  refine z_iconst (v := 0) d_Mod_compile_246 (by decide) ?_
  refine z_callV0 d_Mod_compile_247 g_Mod_121 (c_Mod_putR (o := 0) X J2 G (by decide) h2.2.1 (by simp only [List.length_append, List.length_cons, List.length_nil]; omega) 0 0 0) (by omega) rfl rfl rfl ⟨by decide, by decide, by decide, by decide⟩ rfl (Nat.le_of_ble_eq_true rfl) ?_
  generalize eJ3 : rwr J2 (L ++ [(3, 0, t5, 0)]).length [(0, 0, 0, 0)] = J3
  have h3 := rAh_a hZ h2 eJ3
  refine z_aload_n d_Mod_compile_250 rfl ?_
  refine z_get d_Mod_compile_251 f_Mod_110 (by omega) rfl rfl ?_
  exact z_iret d_Mod_compile_254 rfl (by decide) (by decide) (by rw [h3.2.1, hLf]) (by rw [h3.1, hLf])
theorem c_Mod_outsZ (X : zX) (G : zGT) {Z J1 : zJT} {L : List rI4} (h : rAh Z J1 L) {mo : Nat} (hmo : Z 40 25 = nI mo) (hmo4 : mo ≤ 4) (hl : L.length + mo < 60) : zK X 3 m_Mod_outputsAndResult [.ref 40] J1 G none (rwr J1 L.length (rTl Z mo)) G := by
  have := c_Mod_outs X J1 G h.2.1 (by rw [h.2.2.1 25 (by decide)]; exact hmo) hmo4 hl
  rwa [rOu_c h.2.2.2.1] at this
theorem rTl_l (Z : zJT) (mo : Nat) : (rTl Z mo).length = mo + 1 := by rw [rTl, List.length_append, rOu_len]; rfl
set_option maxRecDepth 100000 in
set_option maxHeartbeats 4000000 in
theorem l_cmpN (X : zX) (G : zGT) {Z : zJT} (hZ : Z 40 10 = nI 0) {L Lf : List rI4} {J1 : zJT} (h : rAh Z J1 L) {mo : Nat} (hmo : Z 40 25 = nI mo) (hmo4 : mo ≤ 4) (t5 : Int32) (hl : L.length + mo + 4 ≤ 60) (hLf : Lf = L ++ rTl Z mo ++ [(3, 0, t5, 0)] ++ [(0, 0, 0, 0)]) : zJ X (zR 4 0 0) m_Mod_compile (rQ X G Z Lf) false 0 0 (hp J1 G) 60 229 [(0, .ref 40), (5, .int t5)] [] := by
  refine z_aload_n d_Mod_compile_229 rfl ?_
  refine z_callV0 d_Mod_compile_230 g_Mod_207 (c_Mod_outsZ X G h hmo hmo4 (by omega)) (by omega) rfl rfl rfl ⟨by decide, by decide, by decide, by decide⟩ rfl (Nat.le_of_ble_eq_true rfl) ?_
  generalize eJ2 : rwr J1 L.length (rTl Z mo) = J2
  have h2 := rAh_a hZ h eJ2
  exact z_loc (lv' := [(0, .ref 40), (5, .int t5)]) (by simp) (l_cmpE X G hZ h2 t5 (by rw [List.length_append, rTl_l]; omega) hLf)
set_option maxRecDepth 100000 in
set_option maxHeartbeats 4000000 in
theorem l_cmpF (X : zX) (G : zGT) {Z : zJT} (hZ : Z 40 10 = nI 0) {L Lf : List rI4} {J1 : zJT} (h : rAh Z J1 L) {mo : Nat} (hmo : Z 40 25 = nI mo) (hmo4 : mo ≤ 4) (t5 t6 : Int32) (hl : L.length + mo + 5 ≤ 60) (hLf : Lf = L ++ rTl Z mo ++ [(3, 1, t6, 0)] ++ [(3, 0, t5, 0)] ++ [(0, 0, 0, 0)]) : zJ X (zR 4 0 0) m_Mod_compile (rQ X G Z Lf) false 0 0 (hp J1 G) 60 213 [(0, .ref 40), (5, .int t5), (6, .int t6)] [] := by
  refine z_aload_n d_Mod_compile_213 rfl ?_
  refine z_callV0 d_Mod_compile_214 g_Mod_207 (c_Mod_outsZ X G h hmo hmo4 (by omega)) (by omega) rfl rfl rfl ⟨by decide, by decide, by decide, by decide⟩ rfl (Nat.le_of_ble_eq_true rfl) ?_
  generalize eJ2 : rwr J1 L.length (rTl Z mo) = J2
  have h2 := rAh_a hZ h eJ2
  refine z_aload_n d_Mod_compile_217 rfl ?_
  refine z_iconst (v := 3) d_Mod_compile_218 (by decide) ?_
  refine z_iconst (v := 1) d_Mod_compile_219 (by decide) ?_
  refine z_iload d_Mod_compile_220 rfl ?_
  refine z_iconst (v := 0) d_Mod_compile_222 (by decide) ?_
  refine z_callV0 d_Mod_compile_223 g_Mod_121 (c_Mod_putR (o := 3) X J2 G (by decide) h2.2.1 (by rw [List.length_append, rTl_l]; omega) 1 t6 0) (by omega) rfl rfl rfl ⟨by decide, by decide, by decide, by decide⟩ rfl (Nat.le_of_ble_eq_true rfl) ?_
  generalize eJ3 : rwr J2 (L ++ rTl Z mo).length [(3, 1, t6, 0)] = J3
  have h3 := rAh_a hZ h2 eJ3
  refine z_goto d_Mod_compile_226 233 (by decide) ?_
  exact z_loc (lv' := [(0, .ref 40), (5, .int t5)]) (by simp) (l_cmpE X G hZ h3 t5 (by rw [List.length_append, List.length_append, rTl_l, List.length_singleton]; omega) hLf)
set_option maxRecDepth 100000 in
set_option maxHeartbeats 4000000 in
theorem l_cmpD0 (X : zX) (G : zGT) {Z : zJT} (hZ : Z 40 10 = nI 0) {L Lf : List rI4} {J1 : zJT} (h : rAh Z J1 L) {mo : Nat} (hmo : Z 40 25 = nI mo) (hmo4 : mo ≤ 4) (hj : Z 40 29 = zb false) (n1 t5 t6 : Int32) (hl : L.length + mo + 5 ≤ 60) (hLf : Lf = L ++ rTl Z mo ++ [(3, 1, t6, 0)] ++ [(3, 0, t5, 0)] ++ [(0, 0, 0, 0)]) : zJ X (zR 4 0 0) m_Mod_compile (rQ X G Z Lf) false 0 0 (hp J1 G) 60 163 [(0, .ref 40), (3, .int n1), (5, .int t5), (6, .int t6)] [] := by
  refine z_aload_n d_Mod_compile_163 rfl ?_
  refine z_get d_Mod_compile_164 f_Mod_177 (by omega) rfl rfl ?_
  refine z_if_eq d_Mod_compile_167 213 (by decide) (fun _ => ?_) (fun h9 => absurd (by rw [h.2.2.1 29 (by decide), hj]; rfl) h9)
  exact z_loc (lv' := [(0, .ref 40), (5, .int t5), (6, .int t6)]) (by simp) (l_cmpF X G hZ h hmo hmo4 t5 t6 (by omega) hLf)
set_option maxRecDepth 100000 in
set_option maxHeartbeats 4000000 in
theorem l_cmpD1 (X : zX) (G : zGT) {Z : zJT} (hZ : Z 40 10 = nI 0) {L Lf : List rI4} {J1 : zJT} (h : rAh Z J1 L) {mo : Nat} (hmo : Z 40 25 = nI mo) (hmo4 : mo ≤ 4) (hj : Z 40 29 = zb true) (n1 t5 t6 : Int32) (hl : L.length + mo + 9 ≤ 60) (hLf : Lf = L ++ rJn Z n1 L.length ++ rTl Z mo ++ [(3, 1, t6, 0)] ++ [(3, 0, t5, 0)] ++ [(0, 0, 0, 0)]) : zJ X (zR 4 0 0) m_Mod_compile (rQ X G Z Lf) false 0 0 (hp J1 G) 60 163 [(0, .ref 40), (3, .int n1), (5, .int t5), (6, .int t6)] [] := by
  refine z_aload_n d_Mod_compile_163 rfl ?_
  refine z_get d_Mod_compile_164 f_Mod_177 (by omega) rfl rfl ?_
  refine z_if_eq d_Mod_compile_167 213 (by decide) (fun h9 => absurd h9 (by rw [h.2.2.1 29 (by decide), hj]; decide)) (fun _ => ?_)
  refine z_aload_n d_Mod_compile_170 rfl ?_
  refine z_iconst (v := 0) d_Mod_compile_171 (by decide) ?_
  refine z_aload_n d_Mod_compile_172 rfl ?_
  refine z_get d_Mod_compile_173 f_Mod_187 (by omega) rfl rfl ?_
  refine z_iconst (v := 0) d_Mod_compile_176 (by decide) ?_
  rw [h.2.2.1 30 (by decide)]
  refine z_callV0 d_Mod_compile_177 g_Mod_196 (c_Mod_read X J1 G h.2.1 (by omega) 0 (Z 40 30) 0) (by omega) rfl rfl rfl ⟨by decide, by decide, by decide, by decide⟩ rfl (Nat.le_of_ble_eq_true rfl) ?_
  generalize eJ2 : rwr J1 L.length [rRd 0 (Z 40 30) 0] = J2
  have h2 := rAh_a hZ h eJ2
  refine z_aload_n d_Mod_compile_180 rfl ?_
  refine z_iconst (v := 1) d_Mod_compile_181 (by decide) ?_
  refine z_aload_n d_Mod_compile_182 rfl ?_
  refine z_get d_Mod_compile_183 f_Mod_190 (by omega) rfl rfl ?_
  refine z_iconst (v := 1) d_Mod_compile_186 (by decide) ?_
  rw [h2.2.2.1 31 (by decide)]
  refine z_callV0 d_Mod_compile_187 g_Mod_196 (c_Mod_read X J2 G h2.2.1 (by simp only [List.length_append, List.length_cons, List.length_nil]; omega) 1 (Z 40 31) 1) (by omega) rfl rfl rfl ⟨by decide, by decide, by decide, by decide⟩ rfl (Nat.le_of_ble_eq_true rfl) ?_
  generalize eJ3 : rwr J2 (L ++ [rRd 0 (Z 40 30) 0]).length [rRd 1 (Z 40 31) 1] = J3
  have h3 := rAh_a hZ h2 eJ3
  refine z_aload_n d_Mod_compile_190 rfl ?_
  refine z_bipush (v := 9) d_Mod_compile_191 (by decide) ?_
  refine z_iconst (v := 0) d_Mod_compile_193 (by decide) ?_
  refine z_aload_n d_Mod_compile_194 rfl ?_
  refine z_get d_Mod_compile_195 f_Mod_110 (by omega) rfl rfl ?_
  refine z_iconst (v := 2) d_Mod_compile_198 (by decide) ?_
  refine z_iadd d_Mod_compile_199 ?_
  refine z_iconst (v := 1) d_Mod_compile_200 (by decide) ?_
  rw [h3.2.1, show (L ++ [rRd 0 (Z 40 30) 0] ++ [rRd 1 (Z 40 31) 1]).length = L.length + 2 by simp]
  refine z_callV0 d_Mod_compile_201 g_Mod_121 (c_Mod_putR (o := 9) X J3 G (by decide) h3.2.1 (by simp only [List.length_append, List.length_cons, List.length_nil]; omega) 0 (nI (L.length + 2) + 2) 1) (by omega) rfl rfl rfl ⟨by decide, by decide, by decide, by decide⟩ rfl (Nat.le_of_ble_eq_true rfl) ?_
  generalize eJ4 : rwr J3 (L ++ [rRd 0 (Z 40 30) 0] ++ [rRd 1 (Z 40 31) 1]).length [(9, 0, nI (L.length + 2) + 2, 1)] = J4
  have h4 := rAh_a hZ h3 eJ4
  refine z_aload_n d_Mod_compile_204 rfl ?_
  refine z_bipush (v := 19) d_Mod_compile_205 (by decide) ?_
  refine z_iload_n d_Mod_compile_207 rfl ?_
  refine z_iconst (v := 0) d_Mod_compile_208 (by decide) ?_
  refine z_iconst (v := 0) d_Mod_compile_209 (by decide) ?_
  refine z_callV0 d_Mod_compile_210 g_Mod_121 (c_Mod_putR (o := 19) X J4 G (by decide) h4.2.1 (by simp only [List.length_append, List.length_cons, List.length_nil]; omega) n1 0 0) (by omega) rfl rfl rfl ⟨by decide, by decide, by decide, by decide⟩ rfl (Nat.le_of_ble_eq_true rfl) ?_
  generalize eJ5 : rwr J4 (L ++ [rRd 0 (Z 40 30) 0] ++ [rRd 1 (Z 40 31) 1] ++ [(9, 0, nI (L.length + 2) + 2, 1)]).length [(19, n1, 0, 0)] = J5
  have h5 := rAh_a hZ h4 eJ5
  exact z_loc (lv' := [(0, .ref 40), (5, .int t5), (6, .int t6)]) (by simp) (l_cmpF X G hZ h5 hmo hmo4 t5 t6 (by simp only [List.length_append, List.length_cons, List.length_nil]; omega) (by rw [hLf, rJn]; simp only [List.append_assoc, List.cons_append, List.nil_append]))
theorem c_Mod_loopZ (X : zX) (G : zGT) {Z J1 : zJT} {L : List rI4} (h : rAh Z J1 L) {n : Nat} (hn : Z 40 27 = nI n) (hn4 : n ≤ 4) (hh : rHh Z n) (hl : L.length + 2 + 4 * n ≤ 60) (c pa nx : Int32) : zK X 3 m_Mod_loop [.ref 40, .int c, .int pa, .int nx] J1 G (some (.int (nI (rTp Z c L.length n)))) (rwr J1 L.length (rLp Z c pa nx L.length n)) G := by
  have := c_Mod_loop X J1 G h.2.1 (by rw [h.2.2.1 27 (by decide)]; exact hn) hn4 hl (fun k hk => by rw [rHw, h.2.2.2.2]; exact hh k hk) c pa nx
  rwa [rTp, rSkP_c h.2.2.2.2, rSt_c h.2.2.2.2, rLp_c h.2.2.2.2, ← rTp] at this
set_option maxRecDepth 100000 in
set_option maxHeartbeats 4000000 in
theorem l_cmpC0 (X : zX) (G : zGT) {Z : zJT} (hZ : Z 40 10 = nI 0) {L Lf : List rI4} {J1 : zJT} (h : rAh Z J1 L) {n mo : Nat} (hn : Z 40 27 = nI n) (hn4 : n ≤ 4) (hh : rHh Z n) (hmo : Z 40 25 = nI mo) (hmo4 : mo ≤ 4) (n0 n1 : Nat) (hl : L.length ≤ 2) (hLf : Lf = L ++ (rLp Z 0 (nI n0 + 1) (nI n0) L.length n) ++ rTl Z mo ++ [(3, 0, nI (rTp Z 0 L.length n), 0)] ++ [(0, 0, 0, 0)]) : zJ X (zR 4 0 0) m_Mod_compile (rQ X G Z Lf) false 0 0 (hp J1 G) 60 136 [(0, .ref 40), (1, .int (zb false)), (3, .int (nI n1)), (4, .int (nI n0))] [] := by
  refine z_aload_n d_Mod_compile_136 rfl ?_
  refine z_iconst (v := 0) d_Mod_compile_137 (by decide) ?_
  refine z_iload d_Mod_compile_138 rfl ?_
  refine z_iconst (v := 1) d_Mod_compile_140 (by decide) ?_
  refine z_iadd d_Mod_compile_141 ?_
  refine z_iload d_Mod_compile_142 rfl ?_
  refine z_callV1 d_Mod_compile_144 g_Mod_203 (c_Mod_loopZ X G h hn hn4 hh (by omega) 0 (nI n0 + 1) (nI n0)) (by omega) rfl rfl rfl ⟨by decide, by decide, by decide, by decide⟩ rfl (Nat.le_of_ble_eq_true rfl) ?_
  generalize eJ2 : rwr J1 L.length (rLp Z 0 (nI n0 + 1) (nI n0) L.length n) = J2
  have h2 := rAh_a hZ h eJ2
  refine z_istore (lv' := [(0, _), (1, _), (3, _), (4, _), (5, _)]) d_Mod_compile_147 (by decide) rfl ?_
  refine z_iload_n d_Mod_compile_149 rfl ?_
  refine z_if_eq d_Mod_compile_150 229 (by decide) (fun _ => ?_) (fun h9 => absurd rfl h9)
  exact z_loc (lv' := [(0, .ref 40), (5, .int (nI (rTp Z 0 L.length n)))]) (by simp) (l_cmpN X G hZ h2 hmo hmo4 _ (by rw [List.length_append, rLp_l hh]; have := rCl_le Z 0 n; have := rSl_le (rSo (rSkP Z 0) n 0); omega) hLf)
set_option maxRecDepth 100000 in
set_option maxHeartbeats 4000000 in
theorem l_cmpC1 (X : zX) (G : zGT) {Z : zJT} (hZ : Z 40 10 = nI 0) {L Lf : List rI4} {J1 : zJT} (h : rAh Z J1 L) {n mo : Nat} (hn : Z 40 27 = nI n) (hn4 : n ≤ 4) (hh : rHh Z n) (hmo : Z 40 25 = nI mo) (hmo4 : mo ≤ 4) (hj : Z 40 29 = zb false) (n0 n1 : Nat) (hl : L.length ≤ 2) (hLf : Lf = L ++ (rLp Z 0 (nI n0 + 1) (nI n0) L.length n) ++ (rLp Z 1 (nI n0) (nI n1) (L ++ (rLp Z 0 (nI n0 + 1) (nI n0) L.length n)).length n) ++ rTl Z mo ++ [(3, 1, nI (rTp Z 1 (L ++ (rLp Z 0 (nI n0 + 1) (nI n0) L.length n)).length n), 0)] ++ [(3, 0, nI (rTp Z 0 L.length n), 0)] ++ [(0, 0, 0, 0)]) : zJ X (zR 4 0 0) m_Mod_compile (rQ X G Z Lf) false 0 0 (hp J1 G) 60 136 [(0, .ref 40), (1, .int (zb true)), (3, .int (nI n1)), (4, .int (nI n0))] [] := by
  refine z_aload_n d_Mod_compile_136 rfl ?_
  refine z_iconst (v := 0) d_Mod_compile_137 (by decide) ?_
  refine z_iload d_Mod_compile_138 rfl ?_
  refine z_iconst (v := 1) d_Mod_compile_140 (by decide) ?_
  refine z_iadd d_Mod_compile_141 ?_
  refine z_iload d_Mod_compile_142 rfl ?_
  refine z_callV1 d_Mod_compile_144 g_Mod_203 (c_Mod_loopZ X G h hn hn4 hh (by omega) 0 (nI n0 + 1) (nI n0)) (by omega) rfl rfl rfl ⟨by decide, by decide, by decide, by decide⟩ rfl (Nat.le_of_ble_eq_true rfl) ?_
  generalize eJ2 : rwr J1 L.length (rLp Z 0 (nI n0 + 1) (nI n0) L.length n) = J2
  have h2 := rAh_a hZ h eJ2
  have hb0 := rCl_le Z 0 n
  have hs0 := rSl_le (rSo (rSkP Z 0) n 0)
  have hb1 := rCl_le Z 1 n
  have hs1 := rSl_le (rSo (rSkP Z 1) n 0)
  refine z_istore (lv' := [(0, _), (1, _), (3, _), (4, _), (5, _)]) d_Mod_compile_147 (by decide) rfl ?_
  refine z_iload_n d_Mod_compile_149 rfl ?_
  refine z_if_eq d_Mod_compile_150 229 (by decide) (fun h9 => absurd h9 (by decide)) (fun _ => ?_)
  refine z_aload_n d_Mod_compile_153 rfl ?_
  refine z_iconst (v := 1) d_Mod_compile_154 (by decide) ?_
  refine z_iload d_Mod_compile_155 rfl ?_
  refine z_iload_n d_Mod_compile_157 rfl ?_
  refine z_callV1 d_Mod_compile_158 g_Mod_203 (c_Mod_loopZ X G h2 hn hn4 hh (by rw [List.length_append, rLp_l hh]; omega) 1 (nI n0) (nI n1)) (by omega) rfl rfl rfl ⟨by decide, by decide, by decide, by decide⟩ rfl (Nat.le_of_ble_eq_true rfl) ?_
  generalize eJ3 : rwr J2 (L ++ (rLp Z 0 (nI n0 + 1) (nI n0) L.length n)).length (rLp Z 1 (nI n0) (nI n1) (L ++ (rLp Z 0 (nI n0 + 1) (nI n0) L.length n)).length n) = J3
  have h3 := rAh_a hZ h2 eJ3
  refine z_istore (lv' := [(0, _), (1, _), (3, _), (4, _), (5, _), (6, _)]) d_Mod_compile_161 (by decide) rfl ?_
  exact z_loc (lv' := [(0, .ref 40), (3, .int (nI n1)), (5, .int (nI (rTp Z 0 L.length n))), (6, .int (nI (rTp Z 1 (L ++ (rLp Z 0 (nI n0 + 1) (nI n0) L.length n)).length n)))]) (by simp) (l_cmpD0 X G hZ h3 hmo hmo4 hj _ _ _ (by rw [List.length_append, List.length_append, rLp_l hh, rLp_l hh]; omega) hLf)
set_option maxRecDepth 100000 in
set_option maxHeartbeats 4000000 in
theorem l_cmpC2 (X : zX) (G : zGT) {Z : zJT} (hZ : Z 40 10 = nI 0) {L Lf : List rI4} {J1 : zJT} (h : rAh Z J1 L) {n mo : Nat} (hn : Z 40 27 = nI n) (hn4 : n ≤ 4) (hh : rHh Z n) (hmo : Z 40 25 = nI mo) (hmo4 : mo ≤ 4) (hj : Z 40 29 = zb true) (n0 n1 : Nat) (hl : L.length ≤ 2) (hLf : Lf = L ++ (rLp Z 0 (nI n0 + 1) (nI n0) L.length n) ++ (rLp Z 1 (nI n0) (nI n1) (L ++ (rLp Z 0 (nI n0 + 1) (nI n0) L.length n)).length n) ++ rJn Z (nI n1) (L ++ (rLp Z 0 (nI n0 + 1) (nI n0) L.length n) ++ (rLp Z 1 (nI n0) (nI n1) (L ++ (rLp Z 0 (nI n0 + 1) (nI n0) L.length n)).length n)).length ++ rTl Z mo ++ [(3, 1, nI (rTp Z 1 (L ++ (rLp Z 0 (nI n0 + 1) (nI n0) L.length n)).length n), 0)] ++ [(3, 0, nI (rTp Z 0 L.length n), 0)] ++ [(0, 0, 0, 0)]) : zJ X (zR 4 0 0) m_Mod_compile (rQ X G Z Lf) false 0 0 (hp J1 G) 60 136 [(0, .ref 40), (1, .int (zb true)), (3, .int (nI n1)), (4, .int (nI n0))] [] := by
  refine z_aload_n d_Mod_compile_136 rfl ?_
  refine z_iconst (v := 0) d_Mod_compile_137 (by decide) ?_
  refine z_iload d_Mod_compile_138 rfl ?_
  refine z_iconst (v := 1) d_Mod_compile_140 (by decide) ?_
  refine z_iadd d_Mod_compile_141 ?_
  refine z_iload d_Mod_compile_142 rfl ?_
  refine z_callV1 d_Mod_compile_144 g_Mod_203 (c_Mod_loopZ X G h hn hn4 hh (by omega) 0 (nI n0 + 1) (nI n0)) (by omega) rfl rfl rfl ⟨by decide, by decide, by decide, by decide⟩ rfl (Nat.le_of_ble_eq_true rfl) ?_
  generalize eJ2 : rwr J1 L.length (rLp Z 0 (nI n0 + 1) (nI n0) L.length n) = J2
  have h2 := rAh_a hZ h eJ2
  have hb0 := rCl_le Z 0 n
  have hs0 := rSl_le (rSo (rSkP Z 0) n 0)
  have hb1 := rCl_le Z 1 n
  have hs1 := rSl_le (rSo (rSkP Z 1) n 0)
  refine z_istore (lv' := [(0, _), (1, _), (3, _), (4, _), (5, _)]) d_Mod_compile_147 (by decide) rfl ?_
  refine z_iload_n d_Mod_compile_149 rfl ?_
  refine z_if_eq d_Mod_compile_150 229 (by decide) (fun h9 => absurd h9 (by decide)) (fun _ => ?_)
  refine z_aload_n d_Mod_compile_153 rfl ?_
  refine z_iconst (v := 1) d_Mod_compile_154 (by decide) ?_
  refine z_iload d_Mod_compile_155 rfl ?_
  refine z_iload_n d_Mod_compile_157 rfl ?_
  refine z_callV1 d_Mod_compile_158 g_Mod_203 (c_Mod_loopZ X G h2 hn hn4 hh (by rw [List.length_append, rLp_l hh]; omega) 1 (nI n0) (nI n1)) (by omega) rfl rfl rfl ⟨by decide, by decide, by decide, by decide⟩ rfl (Nat.le_of_ble_eq_true rfl) ?_
  generalize eJ3 : rwr J2 (L ++ (rLp Z 0 (nI n0 + 1) (nI n0) L.length n)).length (rLp Z 1 (nI n0) (nI n1) (L ++ (rLp Z 0 (nI n0 + 1) (nI n0) L.length n)).length n) = J3
  have h3 := rAh_a hZ h2 eJ3
  refine z_istore (lv' := [(0, _), (1, _), (3, _), (4, _), (5, _), (6, _)]) d_Mod_compile_161 (by decide) rfl ?_
  exact z_loc (lv' := [(0, .ref 40), (3, .int (nI n1)), (5, .int (nI (rTp Z 0 L.length n))), (6, .int (nI (rTp Z 1 (L ++ (rLp Z 0 (nI n0 + 1) (nI n0) L.length n)).length n)))]) (by simp) (l_cmpD1 X G hZ h3 hmo hmo4 hj _ _ _ (by rw [List.length_append, List.length_append, rLp_l hh, rLp_l hh]; omega) hLf)
theorem c_Mod_lengthZ (X : zX) (G : zGT) {Z J1 : zJT} {L : List rI4} (h : rAh Z J1 L) {n : Nat} (hn : Z 40 27 = nI n) (hn4 : n ≤ 4) (c : Int32) : zK X 1 m_Mod_length [.ref 40, .int c] J1 G (some (.int (nI (rSl (rSo (rSkP Z c) n 0) + rCl Z c n)))) J1 G := by
  have := c_Mod_length X J1 G (by rw [h.2.2.1 27 (by decide)]; exact hn) hn4 c
  rwa [rSl_i _ hn4, rLn_n, rSkP_c h.2.2.2.2, rCl_c h.2.2.2.2] at this
set_option maxRecDepth 100000 in
set_option maxHeartbeats 4000000 in
theorem l_cmpB0 (X : zX) (G : zGT) {Z : zJT} (hZ : Z 40 10 = nI 0) {L Lf : List rI4} {J1 : zJT} (h : rAh Z J1 L) {n mo : Nat} (hn : Z 40 27 = nI n) (hn4 : n ≤ 4) (hh : rHh Z n) (hmo : Z 40 25 = nI mo) (hmo4 : mo ≤ 4) (hl : L.length ≤ 2) (hLf : Lf = L ++ (rLp Z 0 (nI (L.length + (rSl (rSo (rSkP Z 0) n 0) + rCl Z 0 n) + 0 + mo + 1) + 1) (nI (L.length + (rSl (rSo (rSkP Z 0) n 0) + rCl Z 0 n) + 0 + mo + 1)) L.length n) ++ rTl Z mo ++ [(3, 0, nI (rTp Z 0 L.length n), 0)] ++ [(0, 0, 0, 0)]) : zJ X (zR 4 0 0) m_Mod_compile (rQ X G Z Lf) false 0 0 (hp J1 G) 60 76 [(0, .ref 40), (1, .int (zb false))] [] := by
  refine z_aload_n d_Mod_compile_76 rfl ?_
  refine z_get d_Mod_compile_77 f_Mod_110 (by omega) rfl rfl ?_
  refine z_aload_n d_Mod_compile_80 rfl ?_
  refine z_iconst (v := 0) d_Mod_compile_81 (by decide) ?_
  refine z_callV1 d_Mod_compile_82 g_Mod_200 (c_Mod_lengthZ X G h hn hn4 0) (by omega) rfl rfl rfl ⟨by decide, by decide, by decide, by decide⟩ rfl (Nat.le_of_ble_eq_true rfl) ?_
  refine z_iadd d_Mod_compile_85 ?_
  rw [h.2.1, nI_sum]
  refine z_istore_n (lv' := [(0, _), (1, _), (2, _)]) d_Mod_compile_86 (by decide) rfl ?_
  refine z_iload_n d_Mod_compile_87 rfl ?_
  refine z_iload_n d_Mod_compile_88 rfl ?_
  refine z_if_eq d_Mod_compile_89 113 (by decide) (fun _ => ?_) (fun h9 => absurd rfl h9)
  refine z_iconst (v := 0) d_Mod_compile_113 (by decide) ?_
  refine z_iadd d_Mod_compile_114 ?_
  refine z_aload_n d_Mod_compile_115 rfl ?_
  refine z_get d_Mod_compile_116 f_Mod_171 (by omega) rfl rfl ?_
  rw [h.2.2.1 25 (by decide), hmo]
  refine z_iadd d_Mod_compile_119 ?_
  refine z_iconst (v := 1) d_Mod_compile_120 (by decide) ?_
  refine z_iadd d_Mod_compile_121 ?_
  rw [show nI (L.length + (rSl (rSo (rSkP Z 0) n 0) + rCl Z 0 n)) + 0 + nI mo + 1 = nI (L.length + (rSl (rSo (rSkP Z 0) n 0) + rCl Z 0 n) + 0 + mo + 1) from by rw [← nI_0, nI_sum, nI_sum, nIa]]
  refine z_istore_n (lv' := [(0, _), (1, _), (2, _), (3, _)]) d_Mod_compile_122 (by decide) rfl ?_
  refine z_iload_n d_Mod_compile_123 rfl ?_
  refine z_if_eq d_Mod_compile_124 133 (by decide) (fun _ => ?_) (fun h9 => absurd rfl h9)
  refine z_iload_n d_Mod_compile_133 rfl ?_
  refine z_istore (lv' := [(0, _), (1, _), (2, _), (3, _), (4, _)]) d_Mod_compile_134 (by decide) rfl ?_
  exact z_loc (lv' := [(0, .ref 40), (1, .int (zb false)), (3, .int (nI (L.length + (rSl (rSo (rSkP Z 0) n 0) + rCl Z 0 n) + 0 + mo + 1))), (4, .int (nI (L.length + (rSl (rSo (rSkP Z 0) n 0) + rCl Z 0 n) + 0 + mo + 1)))]) (by simp) (l_cmpC0 X G hZ h hn hn4 hh hmo hmo4 (L.length + (rSl (rSo (rSkP Z 0) n 0) + rCl Z 0 n) + 0 + mo + 1) (L.length + (rSl (rSo (rSkP Z 0) n 0) + rCl Z 0 n) + 0 + mo + 1) hl hLf)
set_option maxRecDepth 100000 in
set_option maxHeartbeats 4000000 in
theorem l_cmpB1 (X : zX) (G : zGT) {Z : zJT} (hZ : Z 40 10 = nI 0) {L Lf : List rI4} {J1 : zJT} (h : rAh Z J1 L) {n mo : Nat} (hn : Z 40 27 = nI n) (hn4 : n ≤ 4) (hh : rHh Z n) (hmo : Z 40 25 = nI mo) (hmo4 : mo ≤ 4) (hj : Z 40 29 = zb false) (hl : L.length ≤ 2) (hLf : Lf = L ++ (rLp Z 0 (nI ((L.length + (rSl (rSo (rSkP Z 0) n 0) + rCl Z 0 n) + ((rSl (rSo (rSkP Z 1) n 0) + rCl Z 1 n) + 0) + mo + 1) + 1) + 1) (nI ((L.length + (rSl (rSo (rSkP Z 0) n 0) + rCl Z 0 n) + ((rSl (rSo (rSkP Z 1) n 0) + rCl Z 1 n) + 0) + mo + 1) + 1)) L.length n) ++ (rLp Z 1 (nI ((L.length + (rSl (rSo (rSkP Z 0) n 0) + rCl Z 0 n) + ((rSl (rSo (rSkP Z 1) n 0) + rCl Z 1 n) + 0) + mo + 1) + 1)) (nI (L.length + (rSl (rSo (rSkP Z 0) n 0) + rCl Z 0 n) + ((rSl (rSo (rSkP Z 1) n 0) + rCl Z 1 n) + 0) + mo + 1)) (L ++ (rLp Z 0 (nI ((L.length + (rSl (rSo (rSkP Z 0) n 0) + rCl Z 0 n) + ((rSl (rSo (rSkP Z 1) n 0) + rCl Z 1 n) + 0) + mo + 1) + 1) + 1) (nI ((L.length + (rSl (rSo (rSkP Z 0) n 0) + rCl Z 0 n) + ((rSl (rSo (rSkP Z 1) n 0) + rCl Z 1 n) + 0) + mo + 1) + 1)) L.length n)).length n) ++ rTl Z mo ++ [(3, 1, nI (rTp Z 1 (L ++ (rLp Z 0 (nI ((L.length + (rSl (rSo (rSkP Z 0) n 0) + rCl Z 0 n) + ((rSl (rSo (rSkP Z 1) n 0) + rCl Z 1 n) + 0) + mo + 1) + 1) + 1) (nI ((L.length + (rSl (rSo (rSkP Z 0) n 0) + rCl Z 0 n) + ((rSl (rSo (rSkP Z 1) n 0) + rCl Z 1 n) + 0) + mo + 1) + 1)) L.length n)).length n), 0)] ++ [(3, 0, nI (rTp Z 0 L.length n), 0)] ++ [(0, 0, 0, 0)]) : zJ X (zR 4 0 0) m_Mod_compile (rQ X G Z Lf) false 0 0 (hp J1 G) 60 76 [(0, .ref 40), (1, .int (zb true))] [] := by
  refine z_aload_n d_Mod_compile_76 rfl ?_
  refine z_get d_Mod_compile_77 f_Mod_110 (by omega) rfl rfl ?_
  refine z_aload_n d_Mod_compile_80 rfl ?_
  refine z_iconst (v := 0) d_Mod_compile_81 (by decide) ?_
  refine z_callV1 d_Mod_compile_82 g_Mod_200 (c_Mod_lengthZ X G h hn hn4 0) (by omega) rfl rfl rfl ⟨by decide, by decide, by decide, by decide⟩ rfl (Nat.le_of_ble_eq_true rfl) ?_
  refine z_iadd d_Mod_compile_85 ?_
  rw [h.2.1, nI_sum]
  refine z_istore_n (lv' := [(0, _), (1, _), (2, _)]) d_Mod_compile_86 (by decide) rfl ?_
  refine z_iload_n d_Mod_compile_87 rfl ?_
  refine z_iload_n d_Mod_compile_88 rfl ?_
  refine z_if_eq d_Mod_compile_89 113 (by decide) (fun h9 => absurd h9 (by decide)) (fun _ => ?_)
  refine z_aload_n d_Mod_compile_92 rfl ?_
  refine z_iconst (v := 1) d_Mod_compile_93 (by decide) ?_
  refine z_callV1 d_Mod_compile_94 g_Mod_200 (c_Mod_lengthZ X G h hn hn4 1) (by omega) rfl rfl rfl ⟨by decide, by decide, by decide, by decide⟩ rfl (Nat.le_of_ble_eq_true rfl) ?_
  refine z_aload_n d_Mod_compile_97 rfl ?_
  refine z_get d_Mod_compile_98 f_Mod_177 (by omega) rfl rfl ?_
  refine z_if_eq d_Mod_compile_101 108 (by decide) (fun _ => ?_) (fun h9 => absurd (by rw [h.2.2.1 29 (by decide), hj]; rfl) h9)
  refine z_iconst (v := 0) d_Mod_compile_108 (by decide) ?_
  refine z_iadd d_Mod_compile_109 ?_
  refine z_goto d_Mod_compile_110 114 (by decide) ?_
  refine z_iadd d_Mod_compile_114 ?_
  refine z_aload_n d_Mod_compile_115 rfl ?_
  refine z_get d_Mod_compile_116 f_Mod_171 (by omega) rfl rfl ?_
  rw [h.2.2.1 25 (by decide), hmo]
  refine z_iadd d_Mod_compile_119 ?_
  refine z_iconst (v := 1) d_Mod_compile_120 (by decide) ?_
  refine z_iadd d_Mod_compile_121 ?_
  rw [show nI (L.length + (rSl (rSo (rSkP Z 0) n 0) + rCl Z 0 n)) + (nI (rSl (rSo (rSkP Z 1) n 0) + rCl Z 1 n) + 0) + nI mo + 1 = nI (L.length + (rSl (rSo (rSkP Z 0) n 0) + rCl Z 0 n) + ((rSl (rSo (rSkP Z 1) n 0) + rCl Z 1 n) + 0) + mo + 1) from by rw [← nI_0, nI_sum, nI_sum, nI_sum, nIa]]
  refine z_istore_n (lv' := [(0, _), (1, _), (2, _), (3, _)]) d_Mod_compile_122 (by decide) rfl ?_
  refine z_iload_n d_Mod_compile_123 rfl ?_
  refine z_if_eq d_Mod_compile_124 133 (by decide) (fun h9 => absurd h9 (by decide)) (fun _ => ?_)
  refine z_iload_n d_Mod_compile_127 rfl ?_
  refine z_iconst (v := 1) d_Mod_compile_128 (by decide) ?_
  refine z_iadd d_Mod_compile_129 ?_
  refine z_goto d_Mod_compile_130 134 (by decide) ?_
  rw [nIa]
  refine z_istore (lv' := [(0, _), (1, _), (2, _), (3, _), (4, _)]) d_Mod_compile_134 (by decide) rfl ?_
  exact z_loc (lv' := [(0, .ref 40), (1, .int (zb true)), (3, .int (nI (L.length + (rSl (rSo (rSkP Z 0) n 0) + rCl Z 0 n) + ((rSl (rSo (rSkP Z 1) n 0) + rCl Z 1 n) + 0) + mo + 1))), (4, .int (nI ((L.length + (rSl (rSo (rSkP Z 0) n 0) + rCl Z 0 n) + ((rSl (rSo (rSkP Z 1) n 0) + rCl Z 1 n) + 0) + mo + 1) + 1)))]) (by simp) (l_cmpC1 X G hZ h hn hn4 hh hmo hmo4 hj ((L.length + (rSl (rSo (rSkP Z 0) n 0) + rCl Z 0 n) + ((rSl (rSo (rSkP Z 1) n 0) + rCl Z 1 n) + 0) + mo + 1) + 1) (L.length + (rSl (rSo (rSkP Z 0) n 0) + rCl Z 0 n) + ((rSl (rSo (rSkP Z 1) n 0) + rCl Z 1 n) + 0) + mo + 1) hl hLf)
set_option maxRecDepth 100000 in
set_option maxHeartbeats 4000000 in
theorem l_cmpB2 (X : zX) (G : zGT) {Z : zJT} (hZ : Z 40 10 = nI 0) {L Lf : List rI4} {J1 : zJT} (h : rAh Z J1 L) {n mo : Nat} (hn : Z 40 27 = nI n) (hn4 : n ≤ 4) (hh : rHh Z n) (hmo : Z 40 25 = nI mo) (hmo4 : mo ≤ 4) (hj : Z 40 29 = zb true) (hl : L.length ≤ 2) (hLf : Lf = L ++ (rLp Z 0 (nI ((L.length + (rSl (rSo (rSkP Z 0) n 0) + rCl Z 0 n) + ((rSl (rSo (rSkP Z 1) n 0) + rCl Z 1 n) + 4) + mo + 1) + 1) + 1) (nI ((L.length + (rSl (rSo (rSkP Z 0) n 0) + rCl Z 0 n) + ((rSl (rSo (rSkP Z 1) n 0) + rCl Z 1 n) + 4) + mo + 1) + 1)) L.length n) ++ (rLp Z 1 (nI ((L.length + (rSl (rSo (rSkP Z 0) n 0) + rCl Z 0 n) + ((rSl (rSo (rSkP Z 1) n 0) + rCl Z 1 n) + 4) + mo + 1) + 1)) (nI (L.length + (rSl (rSo (rSkP Z 0) n 0) + rCl Z 0 n) + ((rSl (rSo (rSkP Z 1) n 0) + rCl Z 1 n) + 4) + mo + 1)) (L ++ (rLp Z 0 (nI ((L.length + (rSl (rSo (rSkP Z 0) n 0) + rCl Z 0 n) + ((rSl (rSo (rSkP Z 1) n 0) + rCl Z 1 n) + 4) + mo + 1) + 1) + 1) (nI ((L.length + (rSl (rSo (rSkP Z 0) n 0) + rCl Z 0 n) + ((rSl (rSo (rSkP Z 1) n 0) + rCl Z 1 n) + 4) + mo + 1) + 1)) L.length n)).length n) ++ rJn Z (nI (L.length + (rSl (rSo (rSkP Z 0) n 0) + rCl Z 0 n) + ((rSl (rSo (rSkP Z 1) n 0) + rCl Z 1 n) + 4) + mo + 1)) (L ++ (rLp Z 0 (nI ((L.length + (rSl (rSo (rSkP Z 0) n 0) + rCl Z 0 n) + ((rSl (rSo (rSkP Z 1) n 0) + rCl Z 1 n) + 4) + mo + 1) + 1) + 1) (nI ((L.length + (rSl (rSo (rSkP Z 0) n 0) + rCl Z 0 n) + ((rSl (rSo (rSkP Z 1) n 0) + rCl Z 1 n) + 4) + mo + 1) + 1)) L.length n) ++ (rLp Z 1 (nI ((L.length + (rSl (rSo (rSkP Z 0) n 0) + rCl Z 0 n) + ((rSl (rSo (rSkP Z 1) n 0) + rCl Z 1 n) + 4) + mo + 1) + 1)) (nI (L.length + (rSl (rSo (rSkP Z 0) n 0) + rCl Z 0 n) + ((rSl (rSo (rSkP Z 1) n 0) + rCl Z 1 n) + 4) + mo + 1)) (L ++ (rLp Z 0 (nI ((L.length + (rSl (rSo (rSkP Z 0) n 0) + rCl Z 0 n) + ((rSl (rSo (rSkP Z 1) n 0) + rCl Z 1 n) + 4) + mo + 1) + 1) + 1) (nI ((L.length + (rSl (rSo (rSkP Z 0) n 0) + rCl Z 0 n) + ((rSl (rSo (rSkP Z 1) n 0) + rCl Z 1 n) + 4) + mo + 1) + 1)) L.length n)).length n)).length ++ rTl Z mo ++ [(3, 1, nI (rTp Z 1 (L ++ (rLp Z 0 (nI ((L.length + (rSl (rSo (rSkP Z 0) n 0) + rCl Z 0 n) + ((rSl (rSo (rSkP Z 1) n 0) + rCl Z 1 n) + 4) + mo + 1) + 1) + 1) (nI ((L.length + (rSl (rSo (rSkP Z 0) n 0) + rCl Z 0 n) + ((rSl (rSo (rSkP Z 1) n 0) + rCl Z 1 n) + 4) + mo + 1) + 1)) L.length n)).length n), 0)] ++ [(3, 0, nI (rTp Z 0 L.length n), 0)] ++ [(0, 0, 0, 0)]) : zJ X (zR 4 0 0) m_Mod_compile (rQ X G Z Lf) false 0 0 (hp J1 G) 60 76 [(0, .ref 40), (1, .int (zb true))] [] := by
  refine z_aload_n d_Mod_compile_76 rfl ?_
  refine z_get d_Mod_compile_77 f_Mod_110 (by omega) rfl rfl ?_
  refine z_aload_n d_Mod_compile_80 rfl ?_
  refine z_iconst (v := 0) d_Mod_compile_81 (by decide) ?_
  refine z_callV1 d_Mod_compile_82 g_Mod_200 (c_Mod_lengthZ X G h hn hn4 0) (by omega) rfl rfl rfl ⟨by decide, by decide, by decide, by decide⟩ rfl (Nat.le_of_ble_eq_true rfl) ?_
  refine z_iadd d_Mod_compile_85 ?_
  rw [h.2.1, nI_sum]
  refine z_istore_n (lv' := [(0, _), (1, _), (2, _)]) d_Mod_compile_86 (by decide) rfl ?_
  refine z_iload_n d_Mod_compile_87 rfl ?_
  refine z_iload_n d_Mod_compile_88 rfl ?_
  refine z_if_eq d_Mod_compile_89 113 (by decide) (fun h9 => absurd h9 (by decide)) (fun _ => ?_)
  refine z_aload_n d_Mod_compile_92 rfl ?_
  refine z_iconst (v := 1) d_Mod_compile_93 (by decide) ?_
  refine z_callV1 d_Mod_compile_94 g_Mod_200 (c_Mod_lengthZ X G h hn hn4 1) (by omega) rfl rfl rfl ⟨by decide, by decide, by decide, by decide⟩ rfl (Nat.le_of_ble_eq_true rfl) ?_
  refine z_aload_n d_Mod_compile_97 rfl ?_
  refine z_get d_Mod_compile_98 f_Mod_177 (by omega) rfl rfl ?_
  refine z_if_eq d_Mod_compile_101 108 (by decide) (fun h9 => absurd h9 (by rw [h.2.2.1 29 (by decide), hj]; decide)) (fun _ => ?_)
  refine z_iconst (v := 4) d_Mod_compile_104 (by decide) ?_
  refine z_goto d_Mod_compile_105 109 (by decide) ?_
  refine z_iadd d_Mod_compile_109 ?_
  refine z_goto d_Mod_compile_110 114 (by decide) ?_
  refine z_iadd d_Mod_compile_114 ?_
  refine z_aload_n d_Mod_compile_115 rfl ?_
  refine z_get d_Mod_compile_116 f_Mod_171 (by omega) rfl rfl ?_
  rw [h.2.2.1 25 (by decide), hmo]
  refine z_iadd d_Mod_compile_119 ?_
  refine z_iconst (v := 1) d_Mod_compile_120 (by decide) ?_
  refine z_iadd d_Mod_compile_121 ?_
  rw [show nI (L.length + (rSl (rSo (rSkP Z 0) n 0) + rCl Z 0 n)) + (nI (rSl (rSo (rSkP Z 1) n 0) + rCl Z 1 n) + 4) + nI mo + 1 = nI (L.length + (rSl (rSo (rSkP Z 0) n 0) + rCl Z 0 n) + ((rSl (rSo (rSkP Z 1) n 0) + rCl Z 1 n) + 4) + mo + 1) from by rw [show (4 : Int32) = nI 4 from rfl, nI_sum, nI_sum, nI_sum, nIa]]
  refine z_istore_n (lv' := [(0, _), (1, _), (2, _), (3, _)]) d_Mod_compile_122 (by decide) rfl ?_
  refine z_iload_n d_Mod_compile_123 rfl ?_
  refine z_if_eq d_Mod_compile_124 133 (by decide) (fun h9 => absurd h9 (by decide)) (fun _ => ?_)
  refine z_iload_n d_Mod_compile_127 rfl ?_
  refine z_iconst (v := 1) d_Mod_compile_128 (by decide) ?_
  refine z_iadd d_Mod_compile_129 ?_
  refine z_goto d_Mod_compile_130 134 (by decide) ?_
  rw [nIa]
  refine z_istore (lv' := [(0, _), (1, _), (2, _), (3, _), (4, _)]) d_Mod_compile_134 (by decide) rfl ?_
  exact z_loc (lv' := [(0, .ref 40), (1, .int (zb true)), (3, .int (nI (L.length + (rSl (rSo (rSkP Z 0) n 0) + rCl Z 0 n) + ((rSl (rSo (rSkP Z 1) n 0) + rCl Z 1 n) + 4) + mo + 1))), (4, .int (nI ((L.length + (rSl (rSo (rSkP Z 0) n 0) + rCl Z 0 n) + ((rSl (rSo (rSkP Z 1) n 0) + rCl Z 1 n) + 4) + mo + 1) + 1)))]) (by simp) (l_cmpC2 X G hZ h hn hn4 hh hmo hmo4 hj ((L.length + (rSl (rSo (rSkP Z 0) n 0) + rCl Z 0 n) + ((rSl (rSo (rSkP Z 1) n 0) + rCl Z 1 n) + 4) + mo + 1) + 1) (L.length + (rSl (rSo (rSkP Z 0) n 0) + rCl Z 0 n) + ((rSl (rSo (rSkP Z 1) n 0) + rCl Z 1 n) + 4) + mo + 1) hl hLf)
set_option maxRecDepth 100000 in
set_option maxHeartbeats 4000000 in
theorem c_cmpA0 (X : zX) (J : zJT) (G : zGT) {Z : zJT} (hZd : rZ J = Z) (hZ : Z 40 10 = nI 0) {n mo : Nat} (hn : Z 40 27 = nI n) (hn4 : n ≤ 4) (hh : rHh Z n) (hmo : Z 40 25 = nI mo) (hmo4 : mo ≤ 4) (hf : ¬ J 40 23 < 0) (ho : ¬ J 40 25 = 0) (hs : J 40 24 < 0) {L Lf : List rI4} (hL : L = [(1, 0, Z 40 23, 0)]) (hLf : Lf = L ++ (rLp Z 0 (nI (L.length + (rSl (rSo (rSkP Z 0) n 0) + rCl Z 0 n) + 0 + mo + 1) + 1) (nI (L.length + (rSl (rSo (rSkP Z 0) n 0) + rCl Z 0 n) + 0 + mo + 1)) L.length n) ++ rTl Z mo ++ [(3, 0, nI (rTp Z 0 L.length n), 0)] ++ [(0, 0, 0, 0)]) : zK X 4 m_Mod_compile [.ref 40] J G (some (.int (nI Lf.length))) (rwr Z 0 Lf) G := by
  refine zC_of (by decide) (Nat.le_of_ble_eq_true rfl) ?_
  refine z_aload_n d_Mod_compile_0 rfl ?_
  refine z_aload_n d_Mod_compile_1 rfl ?_
  refine z_get d_Mod_compile_2 f_Mod_60 (by omega) rfl rfl ?_
  refine z_if_lt d_Mod_compile_5 15 (by decide) (fun h9 => absurd h9 hf) (fun _ => ?_)
  refine z_aload_n d_Mod_compile_8 rfl ?_
  refine z_get d_Mod_compile_9 f_Mod_171 (by omega) rfl rfl ?_
  refine z_if_ne d_Mod_compile_12 19 (by decide) (fun _ => ?_) (fun h9 => absurd h9 ho)
  refine z_iconst (v := 0) d_Mod_compile_19 (by decide) ?_
  refine z_put d_Mod_compile_20 f_Mod_73 p_9_0 (by omega) rfl (Nat.le_of_ble_eq_true rfl) rfl rfl (hp_pi 0 rfl) ?_
  refine z_aload_n d_Mod_compile_23 rfl ?_
  refine z_get d_Mod_compile_24 f_Mod_73 (by omega) rfl rfl ?_
  refine z_if_le d_Mod_compile_27 32 (by decide) (fun _ => ?_) (fun h9 => absurd (show (0 : Int32) ≤ 0 by decide) h9)
  refine z_aload_n d_Mod_compile_32 rfl ?_
  refine z_get d_Mod_compile_33 f_Mod_64 (by omega) rfl rfl ?_
  refine z_if_lt d_Mod_compile_36 43 (by decide) (fun _ => ?_) (fun h9 => absurd (show J 40 24 < 0 from hs) h9)
  refine z_iconst (v := 0) d_Mod_compile_43 (by decide) ?_
  refine z_istore_n (lv' := [(0, _), (1, _)]) d_Mod_compile_44 (by decide) rfl ?_
  refine z_aload_n d_Mod_compile_45 rfl ?_
  refine z_iconst (v := 0) d_Mod_compile_46 (by decide) ?_
  refine z_put d_Mod_compile_47 f_Mod_110 p_9_10 (by omega) rfl (Nat.le_of_ble_eq_true rfl) rfl rfl (hp_pi 10 rfl) ?_
  refine z_heq (h' := hp Z G) (by rw [← hZd]; rfl) ?_
  have h0 : rAh Z Z [] := ⟨rfl, hZ, fun _ _ => rfl, rfl, rfl⟩
  refine z_aload_n d_Mod_compile_50 rfl ?_
  refine z_iconst (v := 1) d_Mod_compile_51 (by decide) ?_
  refine z_iconst (v := 0) d_Mod_compile_52 (by decide) ?_
  refine z_aload_n d_Mod_compile_53 rfl ?_
  refine z_get d_Mod_compile_54 f_Mod_60 (by omega) rfl rfl ?_
  refine z_iconst (v := 0) d_Mod_compile_57 (by decide) ?_
  refine z_callV0 d_Mod_compile_58 g_Mod_121 (c_Mod_putR (o := 1) X Z G (by decide) hZ (by omega) 0 (Z 40 23) 0) (by omega) rfl rfl rfl ⟨by decide, by decide, by decide, by decide⟩ rfl (Nat.le_of_ble_eq_true rfl) ?_
  generalize eJ2 : rwr Z 0 [(1, 0, Z 40 23, 0)] = J2
  have h2 : rAh Z J2 [(1, 0, Z 40 23, 0)] := rAh_a hZ h0 eJ2
  refine z_iload_n d_Mod_compile_61 rfl ?_
  refine z_if_eq d_Mod_compile_62 76 (by decide) (fun _ => ?_) (fun h9 => absurd rfl h9)
  rw [← hL] at h2
  exact z_loc (lv' := [(0, .ref 40), (1, .int (zb false))]) (by simp [zb]) (l_cmpB0 X G hZ h2 hn hn4 hh hmo hmo4 (by rw [hL]; simp) hLf)
set_option maxRecDepth 100000 in
set_option maxHeartbeats 4000000 in
theorem c_cmpA1 (X : zX) (J : zJT) (G : zGT) {Z : zJT} (hZd : rZ J = Z) (hZ : Z 40 10 = nI 0) {n mo : Nat} (hn : Z 40 27 = nI n) (hn4 : n ≤ 4) (hh : rHh Z n) (hmo : Z 40 25 = nI mo) (hmo4 : mo ≤ 4) (hj : Z 40 29 = zb false) (hf : ¬ J 40 23 < 0) (ho : ¬ J 40 25 = 0) (hs : ¬ J 40 24 < 0) {L Lf : List rI4} (hL : L = ([(1, 0, Z 40 23, 0)] ++ [(1, 1, Z 40 24, 0)])) (hLf : Lf = L ++ (rLp Z 0 (nI ((L.length + (rSl (rSo (rSkP Z 0) n 0) + rCl Z 0 n) + ((rSl (rSo (rSkP Z 1) n 0) + rCl Z 1 n) + 0) + mo + 1) + 1) + 1) (nI ((L.length + (rSl (rSo (rSkP Z 0) n 0) + rCl Z 0 n) + ((rSl (rSo (rSkP Z 1) n 0) + rCl Z 1 n) + 0) + mo + 1) + 1)) L.length n) ++ (rLp Z 1 (nI ((L.length + (rSl (rSo (rSkP Z 0) n 0) + rCl Z 0 n) + ((rSl (rSo (rSkP Z 1) n 0) + rCl Z 1 n) + 0) + mo + 1) + 1)) (nI (L.length + (rSl (rSo (rSkP Z 0) n 0) + rCl Z 0 n) + ((rSl (rSo (rSkP Z 1) n 0) + rCl Z 1 n) + 0) + mo + 1)) (L ++ (rLp Z 0 (nI ((L.length + (rSl (rSo (rSkP Z 0) n 0) + rCl Z 0 n) + ((rSl (rSo (rSkP Z 1) n 0) + rCl Z 1 n) + 0) + mo + 1) + 1) + 1) (nI ((L.length + (rSl (rSo (rSkP Z 0) n 0) + rCl Z 0 n) + ((rSl (rSo (rSkP Z 1) n 0) + rCl Z 1 n) + 0) + mo + 1) + 1)) L.length n)).length n) ++ rTl Z mo ++ [(3, 1, nI (rTp Z 1 (L ++ (rLp Z 0 (nI ((L.length + (rSl (rSo (rSkP Z 0) n 0) + rCl Z 0 n) + ((rSl (rSo (rSkP Z 1) n 0) + rCl Z 1 n) + 0) + mo + 1) + 1) + 1) (nI ((L.length + (rSl (rSo (rSkP Z 0) n 0) + rCl Z 0 n) + ((rSl (rSo (rSkP Z 1) n 0) + rCl Z 1 n) + 0) + mo + 1) + 1)) L.length n)).length n), 0)] ++ [(3, 0, nI (rTp Z 0 L.length n), 0)] ++ [(0, 0, 0, 0)]) : zK X 4 m_Mod_compile [.ref 40] J G (some (.int (nI Lf.length))) (rwr Z 0 Lf) G := by
  refine zC_of (by decide) (Nat.le_of_ble_eq_true rfl) ?_
  refine z_aload_n d_Mod_compile_0 rfl ?_
  refine z_aload_n d_Mod_compile_1 rfl ?_
  refine z_get d_Mod_compile_2 f_Mod_60 (by omega) rfl rfl ?_
  refine z_if_lt d_Mod_compile_5 15 (by decide) (fun h9 => absurd h9 hf) (fun _ => ?_)
  refine z_aload_n d_Mod_compile_8 rfl ?_
  refine z_get d_Mod_compile_9 f_Mod_171 (by omega) rfl rfl ?_
  refine z_if_ne d_Mod_compile_12 19 (by decide) (fun _ => ?_) (fun h9 => absurd h9 ho)
  refine z_iconst (v := 0) d_Mod_compile_19 (by decide) ?_
  refine z_put d_Mod_compile_20 f_Mod_73 p_9_0 (by omega) rfl (Nat.le_of_ble_eq_true rfl) rfl rfl (hp_pi 0 rfl) ?_
  refine z_aload_n d_Mod_compile_23 rfl ?_
  refine z_get d_Mod_compile_24 f_Mod_73 (by omega) rfl rfl ?_
  refine z_if_le d_Mod_compile_27 32 (by decide) (fun _ => ?_) (fun h9 => absurd (show (0 : Int32) ≤ 0 by decide) h9)
  refine z_aload_n d_Mod_compile_32 rfl ?_
  refine z_get d_Mod_compile_33 f_Mod_64 (by omega) rfl rfl ?_
  refine z_if_lt d_Mod_compile_36 43 (by decide) (fun h9 => absurd h9 (show ¬ J 40 24 < 0 from hs)) (fun _ => ?_)
  refine z_iconst (v := 1) d_Mod_compile_39 (by decide) ?_
  refine z_goto d_Mod_compile_40 44 (by decide) ?_
  refine z_istore_n (lv' := [(0, _), (1, _)]) d_Mod_compile_44 (by decide) rfl ?_
  refine z_aload_n d_Mod_compile_45 rfl ?_
  refine z_iconst (v := 0) d_Mod_compile_46 (by decide) ?_
  refine z_put d_Mod_compile_47 f_Mod_110 p_9_10 (by omega) rfl (Nat.le_of_ble_eq_true rfl) rfl rfl (hp_pi 10 rfl) ?_
  refine z_heq (h' := hp Z G) (by rw [← hZd]; rfl) ?_
  have h0 : rAh Z Z [] := ⟨rfl, hZ, fun _ _ => rfl, rfl, rfl⟩
  refine z_aload_n d_Mod_compile_50 rfl ?_
  refine z_iconst (v := 1) d_Mod_compile_51 (by decide) ?_
  refine z_iconst (v := 0) d_Mod_compile_52 (by decide) ?_
  refine z_aload_n d_Mod_compile_53 rfl ?_
  refine z_get d_Mod_compile_54 f_Mod_60 (by omega) rfl rfl ?_
  refine z_iconst (v := 0) d_Mod_compile_57 (by decide) ?_
  refine z_callV0 d_Mod_compile_58 g_Mod_121 (c_Mod_putR (o := 1) X Z G (by decide) hZ (by omega) 0 (Z 40 23) 0) (by omega) rfl rfl rfl ⟨by decide, by decide, by decide, by decide⟩ rfl (Nat.le_of_ble_eq_true rfl) ?_
  generalize eJ2 : rwr Z 0 [(1, 0, Z 40 23, 0)] = J2
  have h2 : rAh Z J2 [(1, 0, Z 40 23, 0)] := rAh_a hZ h0 eJ2
  refine z_iload_n d_Mod_compile_61 rfl ?_
  refine z_if_eq d_Mod_compile_62 76 (by decide) (fun h9 => absurd h9 (by decide)) (fun _ => ?_)
  refine z_aload_n d_Mod_compile_65 rfl ?_
  refine z_iconst (v := 1) d_Mod_compile_66 (by decide) ?_
  refine z_iconst (v := 1) d_Mod_compile_67 (by decide) ?_
  refine z_aload_n d_Mod_compile_68 rfl ?_
  refine z_get d_Mod_compile_69 f_Mod_64 (by omega) rfl rfl ?_
  refine z_iconst (v := 0) d_Mod_compile_72 (by decide) ?_
  rw [h2.2.2.1 24 (by decide)]
  refine z_callV0 d_Mod_compile_73 g_Mod_121 (c_Mod_putR (o := 1) X J2 G (by decide) h2.2.1 (by simp) 1 (Z 40 24) 0) (by omega) rfl rfl rfl ⟨by decide, by decide, by decide, by decide⟩ rfl (Nat.le_of_ble_eq_true rfl) ?_
  generalize eJ3 : rwr J2 [(1, 0, Z 40 23, 0)].length [(1, 1, Z 40 24, 0)] = J3
  have h3 := rAh_a hZ h2 eJ3
  rw [← hL] at h3
  exact z_loc (lv' := [(0, .ref 40), (1, .int (zb true))]) (by simp [zb]) (l_cmpB1 X G hZ h3 hn hn4 hh hmo hmo4 hj (by rw [hL]; simp) hLf)
set_option maxRecDepth 100000 in
set_option maxHeartbeats 4000000 in
theorem c_cmpA2 (X : zX) (J : zJT) (G : zGT) {Z : zJT} (hZd : rZ J = Z) (hZ : Z 40 10 = nI 0) {n mo : Nat} (hn : Z 40 27 = nI n) (hn4 : n ≤ 4) (hh : rHh Z n) (hmo : Z 40 25 = nI mo) (hmo4 : mo ≤ 4) (hj : Z 40 29 = zb true) (hf : ¬ J 40 23 < 0) (ho : ¬ J 40 25 = 0) (hs : ¬ J 40 24 < 0) {L Lf : List rI4} (hL : L = ([(1, 0, Z 40 23, 0)] ++ [(1, 1, Z 40 24, 0)])) (hLf : Lf = L ++ (rLp Z 0 (nI ((L.length + (rSl (rSo (rSkP Z 0) n 0) + rCl Z 0 n) + ((rSl (rSo (rSkP Z 1) n 0) + rCl Z 1 n) + 4) + mo + 1) + 1) + 1) (nI ((L.length + (rSl (rSo (rSkP Z 0) n 0) + rCl Z 0 n) + ((rSl (rSo (rSkP Z 1) n 0) + rCl Z 1 n) + 4) + mo + 1) + 1)) L.length n) ++ (rLp Z 1 (nI ((L.length + (rSl (rSo (rSkP Z 0) n 0) + rCl Z 0 n) + ((rSl (rSo (rSkP Z 1) n 0) + rCl Z 1 n) + 4) + mo + 1) + 1)) (nI (L.length + (rSl (rSo (rSkP Z 0) n 0) + rCl Z 0 n) + ((rSl (rSo (rSkP Z 1) n 0) + rCl Z 1 n) + 4) + mo + 1)) (L ++ (rLp Z 0 (nI ((L.length + (rSl (rSo (rSkP Z 0) n 0) + rCl Z 0 n) + ((rSl (rSo (rSkP Z 1) n 0) + rCl Z 1 n) + 4) + mo + 1) + 1) + 1) (nI ((L.length + (rSl (rSo (rSkP Z 0) n 0) + rCl Z 0 n) + ((rSl (rSo (rSkP Z 1) n 0) + rCl Z 1 n) + 4) + mo + 1) + 1)) L.length n)).length n) ++ rJn Z (nI (L.length + (rSl (rSo (rSkP Z 0) n 0) + rCl Z 0 n) + ((rSl (rSo (rSkP Z 1) n 0) + rCl Z 1 n) + 4) + mo + 1)) (L ++ (rLp Z 0 (nI ((L.length + (rSl (rSo (rSkP Z 0) n 0) + rCl Z 0 n) + ((rSl (rSo (rSkP Z 1) n 0) + rCl Z 1 n) + 4) + mo + 1) + 1) + 1) (nI ((L.length + (rSl (rSo (rSkP Z 0) n 0) + rCl Z 0 n) + ((rSl (rSo (rSkP Z 1) n 0) + rCl Z 1 n) + 4) + mo + 1) + 1)) L.length n) ++ (rLp Z 1 (nI ((L.length + (rSl (rSo (rSkP Z 0) n 0) + rCl Z 0 n) + ((rSl (rSo (rSkP Z 1) n 0) + rCl Z 1 n) + 4) + mo + 1) + 1)) (nI (L.length + (rSl (rSo (rSkP Z 0) n 0) + rCl Z 0 n) + ((rSl (rSo (rSkP Z 1) n 0) + rCl Z 1 n) + 4) + mo + 1)) (L ++ (rLp Z 0 (nI ((L.length + (rSl (rSo (rSkP Z 0) n 0) + rCl Z 0 n) + ((rSl (rSo (rSkP Z 1) n 0) + rCl Z 1 n) + 4) + mo + 1) + 1) + 1) (nI ((L.length + (rSl (rSo (rSkP Z 0) n 0) + rCl Z 0 n) + ((rSl (rSo (rSkP Z 1) n 0) + rCl Z 1 n) + 4) + mo + 1) + 1)) L.length n)).length n)).length ++ rTl Z mo ++ [(3, 1, nI (rTp Z 1 (L ++ (rLp Z 0 (nI ((L.length + (rSl (rSo (rSkP Z 0) n 0) + rCl Z 0 n) + ((rSl (rSo (rSkP Z 1) n 0) + rCl Z 1 n) + 4) + mo + 1) + 1) + 1) (nI ((L.length + (rSl (rSo (rSkP Z 0) n 0) + rCl Z 0 n) + ((rSl (rSo (rSkP Z 1) n 0) + rCl Z 1 n) + 4) + mo + 1) + 1)) L.length n)).length n), 0)] ++ [(3, 0, nI (rTp Z 0 L.length n), 0)] ++ [(0, 0, 0, 0)]) : zK X 4 m_Mod_compile [.ref 40] J G (some (.int (nI Lf.length))) (rwr Z 0 Lf) G := by
  refine zC_of (by decide) (Nat.le_of_ble_eq_true rfl) ?_
  refine z_aload_n d_Mod_compile_0 rfl ?_
  refine z_aload_n d_Mod_compile_1 rfl ?_
  refine z_get d_Mod_compile_2 f_Mod_60 (by omega) rfl rfl ?_
  refine z_if_lt d_Mod_compile_5 15 (by decide) (fun h9 => absurd h9 hf) (fun _ => ?_)
  refine z_aload_n d_Mod_compile_8 rfl ?_
  refine z_get d_Mod_compile_9 f_Mod_171 (by omega) rfl rfl ?_
  refine z_if_ne d_Mod_compile_12 19 (by decide) (fun _ => ?_) (fun h9 => absurd h9 ho)
  refine z_iconst (v := 0) d_Mod_compile_19 (by decide) ?_
  refine z_put d_Mod_compile_20 f_Mod_73 p_9_0 (by omega) rfl (Nat.le_of_ble_eq_true rfl) rfl rfl (hp_pi 0 rfl) ?_
  refine z_aload_n d_Mod_compile_23 rfl ?_
  refine z_get d_Mod_compile_24 f_Mod_73 (by omega) rfl rfl ?_
  refine z_if_le d_Mod_compile_27 32 (by decide) (fun _ => ?_) (fun h9 => absurd (show (0 : Int32) ≤ 0 by decide) h9)
  refine z_aload_n d_Mod_compile_32 rfl ?_
  refine z_get d_Mod_compile_33 f_Mod_64 (by omega) rfl rfl ?_
  refine z_if_lt d_Mod_compile_36 43 (by decide) (fun h9 => absurd h9 (show ¬ J 40 24 < 0 from hs)) (fun _ => ?_)
  refine z_iconst (v := 1) d_Mod_compile_39 (by decide) ?_
  refine z_goto d_Mod_compile_40 44 (by decide) ?_
  refine z_istore_n (lv' := [(0, _), (1, _)]) d_Mod_compile_44 (by decide) rfl ?_
  refine z_aload_n d_Mod_compile_45 rfl ?_
  refine z_iconst (v := 0) d_Mod_compile_46 (by decide) ?_
  refine z_put d_Mod_compile_47 f_Mod_110 p_9_10 (by omega) rfl (Nat.le_of_ble_eq_true rfl) rfl rfl (hp_pi 10 rfl) ?_
  refine z_heq (h' := hp Z G) (by rw [← hZd]; rfl) ?_
  have h0 : rAh Z Z [] := ⟨rfl, hZ, fun _ _ => rfl, rfl, rfl⟩
  refine z_aload_n d_Mod_compile_50 rfl ?_
  refine z_iconst (v := 1) d_Mod_compile_51 (by decide) ?_
  refine z_iconst (v := 0) d_Mod_compile_52 (by decide) ?_
  refine z_aload_n d_Mod_compile_53 rfl ?_
  refine z_get d_Mod_compile_54 f_Mod_60 (by omega) rfl rfl ?_
  refine z_iconst (v := 0) d_Mod_compile_57 (by decide) ?_
  refine z_callV0 d_Mod_compile_58 g_Mod_121 (c_Mod_putR (o := 1) X Z G (by decide) hZ (by omega) 0 (Z 40 23) 0) (by omega) rfl rfl rfl ⟨by decide, by decide, by decide, by decide⟩ rfl (Nat.le_of_ble_eq_true rfl) ?_
  generalize eJ2 : rwr Z 0 [(1, 0, Z 40 23, 0)] = J2
  have h2 : rAh Z J2 [(1, 0, Z 40 23, 0)] := rAh_a hZ h0 eJ2
  refine z_iload_n d_Mod_compile_61 rfl ?_
  refine z_if_eq d_Mod_compile_62 76 (by decide) (fun h9 => absurd h9 (by decide)) (fun _ => ?_)
  refine z_aload_n d_Mod_compile_65 rfl ?_
  refine z_iconst (v := 1) d_Mod_compile_66 (by decide) ?_
  refine z_iconst (v := 1) d_Mod_compile_67 (by decide) ?_
  refine z_aload_n d_Mod_compile_68 rfl ?_
  refine z_get d_Mod_compile_69 f_Mod_64 (by omega) rfl rfl ?_
  refine z_iconst (v := 0) d_Mod_compile_72 (by decide) ?_
  rw [h2.2.2.1 24 (by decide)]
  refine z_callV0 d_Mod_compile_73 g_Mod_121 (c_Mod_putR (o := 1) X J2 G (by decide) h2.2.1 (by simp) 1 (Z 40 24) 0) (by omega) rfl rfl rfl ⟨by decide, by decide, by decide, by decide⟩ rfl (Nat.le_of_ble_eq_true rfl) ?_
  generalize eJ3 : rwr J2 [(1, 0, Z 40 23, 0)].length [(1, 1, Z 40 24, 0)] = J3
  have h3 := rAh_a hZ h2 eJ3
  rw [← hL] at h3
  exact z_loc (lv' := [(0, .ref 40), (1, .int (zb true))]) (by simp [zb]) (l_cmpB2 X G hZ h3 hn hn4 hh hmo hmo4 hj (by rw [hL]; simp) hLf)
set_option maxRecDepth 100000 in
set_option maxHeartbeats 4000000 in
theorem c_cmpT1 (X : zX) (J : zJT) (G : zGT) (hf : J 40 23 < 0) : zK X 4 m_Mod_compile [.ref 40] J G (some (.int 0)) (rTh J 1) G := by
  refine zC_of (by decide) (Nat.le_of_ble_eq_true rfl) ?_
  refine z_aload_n d_Mod_compile_0 rfl ?_
  refine z_aload_n d_Mod_compile_1 rfl ?_
  refine z_get d_Mod_compile_2 f_Mod_60 (by omega) rfl rfl ?_
  refine z_if_lt d_Mod_compile_5 15 (by decide) (fun _ => ?_) (fun h9 => absurd hf h9)
  refine z_iconst (v := 1) d_Mod_compile_15 (by decide) ?_
  refine z_goto d_Mod_compile_16 20 (by decide) ?_
  refine z_put d_Mod_compile_20 f_Mod_73 p_9_0 (by omega) rfl (Nat.le_of_ble_eq_true rfl) rfl rfl (hp_pi 0 rfl) ?_
  refine z_aload_n d_Mod_compile_23 rfl ?_
  refine z_get d_Mod_compile_24 f_Mod_73 (by omega) rfl rfl ?_
  refine z_if_le d_Mod_compile_27 32 (by decide) (fun h9 => absurd h9 (show ¬ (1 : Int32) ≤ 0 by decide)) (fun _ => ?_)
  refine z_iconst (v := 0) d_Mod_compile_30 (by decide) ?_
  exact z_iret d_Mod_compile_31 rfl (by decide) (by decide) (by first | rfl | (simp_all; done) | grind) rfl
set_option maxRecDepth 100000 in
set_option maxHeartbeats 4000000 in
theorem c_cmpT2 (X : zX) (J : zJT) (G : zGT) (hf : ¬ J 40 23 < 0) (ho : J 40 25 = 0) : zK X 4 m_Mod_compile [.ref 40] J G (some (.int 0)) (rTh J 1) G := by
  refine zC_of (by decide) (Nat.le_of_ble_eq_true rfl) ?_
  refine z_aload_n d_Mod_compile_0 rfl ?_
  refine z_aload_n d_Mod_compile_1 rfl ?_
  refine z_get d_Mod_compile_2 f_Mod_60 (by omega) rfl rfl ?_
  refine z_if_lt d_Mod_compile_5 15 (by decide) (fun h9 => absurd h9 hf) (fun _ => ?_)
  refine z_aload_n d_Mod_compile_8 rfl ?_
  refine z_get d_Mod_compile_9 f_Mod_171 (by omega) rfl rfl ?_
  refine z_if_ne d_Mod_compile_12 19 (by decide) (fun h9 => absurd h9 (fun h9 => h9 ho)) (fun _ => ?_)
  refine z_iconst (v := 1) d_Mod_compile_15 (by decide) ?_
  refine z_goto d_Mod_compile_16 20 (by decide) ?_
  refine z_put d_Mod_compile_20 f_Mod_73 p_9_0 (by omega) rfl (Nat.le_of_ble_eq_true rfl) rfl rfl (hp_pi 0 rfl) ?_
  refine z_aload_n d_Mod_compile_23 rfl ?_
  refine z_get d_Mod_compile_24 f_Mod_73 (by omega) rfl rfl ?_
  refine z_if_le d_Mod_compile_27 32 (by decide) (fun h9 => absurd h9 (show ¬ (1 : Int32) ≤ 0 by decide)) (fun _ => ?_)
  refine z_iconst (v := 0) d_Mod_compile_30 (by decide) ?_
  exact z_iret d_Mod_compile_31 rfl (by decide) (by decide) (by first | rfl | (simp_all; done) | grind) rfl
theorem c_Mod_compile0 (X : zX) (J : zJT) (G : zGT) (h : J 40 23 < 0 ∨ J 40 25 = 0) : zK X 4 m_Mod_compile [.ref 40] J G (some (.int 0)) (rTh J 1) G := by
  by_cases hf : J 40 23 < 0
  · exact c_cmpT1 X J G hf
  · exact c_cmpT2 X J G hf (h.resolve_left hf)
theorem rZ_n {J : zJT} {a : Nat} (h : a ≠ 40) : rZ J a = J a := by rw [rZ, zu_n h, rTh_n h]
theorem rZ_i {J : zJT} {i : Nat} (h0 : i ≠ 0) (h1 : i ≠ 10) : rZ J 40 i = J 40 i := by rw [rZ, zu_e, zu_n h1, rTh_i h0]
theorem c_Mod_compile (X : zX) (J : zJT) (G : zGT) {n mo : Nat} (two jo : Bool) (hn : J 40 27 = nI n) (hn4 : n ≤ 4) (hmo : J 40 25 = nI mo) (h1 : 0 < mo) (h4 : mo ≤ 4) (hh : rHh J n) (hf : ¬ J 40 23 < 0) (h2 : two = true ↔ ¬ J 40 24 < 0) (hj : J 40 29 = zb jo) : zK X 4 m_Mod_compile [.ref 40] J G (some (.int (nI (rNz J two jo n mo + 2)))) (rwr (rZ J) 0 (rPg J two jo n mo (nI (rNz J two jo n mo) + 1) (nI (rNz J two jo n mo)) (nI (rNz J two jo n mo)) (nI (rNx J two jo n mo)))) G := by
  have e8 : rZ J 58 = J 58 := rZ_n (by decide)
  have hhZ : rHh (rZ J) n := fun k hk => by rw [rHw, e8]; exact hh k hk
  have hlen := rPg_l hh two jo mo (nI (rNz J two jo n mo) + 1) (nI (rNz J two jo n mo)) (nI (rNz J two jo n mo)) (nI (rNx J two jo n mo))
  have hpg := rPg_c (J := J) (J' := rZ J) e8 (rZ_n (by decide)) (fun i hi => rZ_i (by omega) (by omega)) two jo n mo (nI (rNz J two jo n mo) + 1) (nI (rNz J two jo n mo)) (nI (rNz J two jo n mo)) (nI (rNx J two jo n mo))
  have ez := rNz_c (J := J) (J' := rZ J) e8 two jo n mo
  have ex := rNx_c (J := J) (J' := rZ J) e8 two jo n mo
  have ho : ¬ J 40 25 = 0 := by rw [hmo]; exact nI_ne0 h1 (by omega)
  have a0 : rZ J 40 10 = nI 0 := by rw [rZ, zu_e, zu_e]; rfl
  have a27 : rZ J 40 27 = nI n := by rw [rZ_i (by decide) (by decide)]; exact hn
  have a25 : rZ J 40 25 = nI mo := by rw [rZ_i (by decide) (by decide)]; exact hmo
  have a29 : rZ J 40 29 = zb jo := by rw [rZ_i (by decide) (by decide)]; exact hj
  rw [← hlen, ← hpg, ← ez, ← ex]
  generalize hZd : rZ J = Z at *
  cases two with
  | false =>
    have hs : J 40 24 < 0 := Decidable.byContradiction (fun h9 => by cases h2.2 h9)
    refine c_cmpA0 X J G hZd a0 a27 hn4 hhZ a25 h4 hf ho hs (L := rP0 Z false) rfl ?_
    rw [rPg, rP1, if_neg (by decide), rNz, rNx, if_neg (by decide), if_neg (by decide)]
    simp only [List.append_assoc, List.cons_append, List.nil_append]
  | true =>
    have hs := h2.1 rfl
    cases jo with
    | false =>
      refine c_cmpA1 X J G hZd a0 a27 hn4 hhZ a25 h4 a29 hf ho hs (L := rP0 Z true) rfl ?_
      rw [rPg, rP1, if_pos rfl, rIn1, if_neg (by decide), rNz, if_pos rfl, rNx, if_pos rfl, if_neg (by decide)]
      simp only [List.append_assoc, List.cons_append, List.nil_append, List.append_nil]
    | true =>
      refine c_cmpA2 X J G hZd a0 a27 hn4 hhZ a25 h4 a29 hf ho hs (L := rP0 Z true) rfl ?_
      rw [rPg, rP1, if_pos rfl, rIn1, if_pos rfl, rNz, if_pos rfl, rNx, if_pos rfl, if_pos rfl]
      simp only [List.append_assoc, List.cons_append, List.nil_append, List.length_append, Nat.add_assoc]
