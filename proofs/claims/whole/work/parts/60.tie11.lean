section
variable (X : zX) {J : zJT} {G : zGT} {N T a m sp R : Nat} {n : Nat → Nat}
theorem zFc_cur {x : Nat → Int32} {c : Nat} (hc : c < 3) : zFc J (va_up J (26 + c) x) G G := ⟨fun y hy => zu_n (by omega), fun _ _ => rfl⟩
theorem zFc_curG {x : Nat → Int32} {y : Nat → Int64} {c : Nat} (hc : c < 3) : zFc J (va_up J (26 + c) x) G (va_up G (26 + c) y) := ⟨fun y hy => zu_n (by omega), fun _ _ => zu_n (by omega)⟩
theorem zFc_reg {x : Nat → Int32} {y : Nat → Int64} : zFc J (va_up J 24 x) G (va_up G 23 y) := ⟨fun y hy => zu_n (by omega), fun _ _ => zu_n (by omega)⟩
theorem zFc_rfl : zFc J J G G := ⟨fun _ _ => rfl, fun _ _ => rfl⟩
theorem zFr_rfl {Jr : zJT} {Gr : zGT} : zFr Jr Jr Gr Gr := ⟨fun _ _ => rfl, fun _ _ _ _ _ => rfl, fun _ _ => rfl⟩
theorem zFr_cur {Jr : zJT} {Gr : zGT} {x : Nat → Int32} {y : Nat → Int64} : zFr Jr (va_up Jr 52 x) Gr (va_up Gr 53 y) := ⟨fun z hz => zu_n (by omega), fun i _ _ _ _ => by rw [zu_n (by decide)], fun z hz => zu_n (by omega)⟩
theorem zFr_reg {Jr : zJT} {Gr : zGT} {x : Nat → Int32} {y : Nat → Int64} : zFr Jr (va_up Jr 50 x) Gr (va_up Gr 49 y) := ⟨fun z hz => zu_n (by omega), fun i _ _ _ _ => by rw [zu_n (by decide)], fun z hz => zu_n (by omega)⟩
theorem iRv_cur {Jr : zJT} {Gr : zGT} (h : iRv J G Jr Gr T m sp n R) {c : Nat} (hc : c < 3) (b : Bool) {g : Nat → Int64} {y : Nat → Int64} (hk : b = true → y c = g 2) (hy : ∀ x, x ≠ c → y x = Gr 53 x) : iRv (va_up J (26 + c) (va_up (J (26 + c)) 1 (zb b))) (va_up G (26 + c) g) (va_up Jr 52 (upd (Jr 52) c (zb b))) (va_up Gr 53 y) T m sp n R := by
  obtain ⟨h1, h2, h3, h4⟩ := h
  refine ⟨iH_c h1 ?_ ?_ (fun a _ _ => zu_n (by omega)) (zu_n (by omega)) (zu_n (by omega)) rfl rfl rfl rfl rfl rfl rfl, iRs_c h2 ?_ (zu_n (by omega)) (zu_n (by omega)) (zu_n (by omega)) rfl rfl rfl rfl, iRg_c h3 (zu_n (by omega)) (zu_n (by omega)) rfl rfl, iCu_set h4 b ?_ ?_ (fun a _ _ h9 => zu_n h9) (fun a _ _ h9 => zu_n h9) rfl rfl (fun x hx => ?_) (fun hb => ?_)⟩
  · rw [zu_n (by omega)]
  · rw [zu_n (by omega)]
  · rw [zu_n (by omega)]
  · rw [zu_e, zu_n (by decide)]
  · rw [zu_e, zu_e]
  · rw [zu_e]; exact hy x hx
  · rw [zu_e, zu_e]; exact hk hb
theorem iRv_cur0 {Jr : zJT} {Gr : zGT} (h : iRv J G Jr Gr T m sp n R) {c : Nat} (hc : c < 3) : iRv (va_up J (26 + c) (va_up (J (26 + c)) 1 (zb false))) G (va_up Jr 52 (upd (Jr 52) c 0)) (va_up Gr 53 (vp_updL (Gr 53) c 0)) T m sp n R := by
  have := iRv_cur h hc false (g := G (26 + c)) (y := vp_updL (Gr 53) c 0) (fun h9 => by cases h9) (fun x hx => vu_n hx)
  rwa [zu_self] at this
theorem iRv_reg {Jr : zJT} {Gr : zGT} (h : iRv J G Jr Gr T m sp n R) {i : Nat} (b : Bool) (x : Int64) (hx : b = false → x = 0) : iRv (va_up J 24 (upd (J 24) i (zb b))) (va_up G 23 (vp_updL (G 23) i x)) (va_up Jr 50 (upd (Jr 50) i (zb b))) (va_up Gr 49 (vp_updL (Gr 49) i x)) T m sp n R := by
  obtain ⟨h1, h2, h3, h4⟩ := h
  exact ⟨iH_c h1 rfl rfl (fun a _ _ => zu_n (by omega)) rfl rfl rfl rfl rfl rfl rfl rfl rfl, iRs_c h2 rfl rfl rfl rfl rfl rfl rfl rfl, iRg_set h3 b x hx rfl rfl rfl rfl, iCu_c h4 (fun a _ _ => zu_n (by omega)) (fun a _ _ => zu_n (by omega)) rfl rfl rfl⟩
def iAt (J : zJT) (N a o c t : Nat) : Prop := N ≤ 60 ∧ a < N ∧ J 16 (4 * a) = nI o ∧ J 15 0 = nI N ∧ J 16 (4 * a + 1) = nI c ∧ c < 3 ∧ t < 3 ∧ J (26 + c) 0 = nI t
theorem iAt_r {Jr : zJT} {Gr : zGT} {o c t : Nat} (h : iAt J N a o c t) (hv : iRv J G Jr Gr T m sp n R) : t < T ∧ Jr 51 c = nI t ∧ ∃ b : Bool, J (26 + c) 1 = zb b ∧ Jr 52 c = zb b ∧ (b = true → Gr 53 c = G (26 + c) 2) := by
  obtain ⟨_, _, _, _, _, hc, ht, e⟩ := h
  obtain ⟨h1, h2⟩ := hv.2.2.2 c hc
  rcases h1 with ⟨h9, _⟩ | ⟨t2, g1, g2, g3⟩
  · rw [e] at h9; exact absurd h9 (nI_m1 (by omega))
  · have := nI_inj (by omega) (by have := hv.1.1.1; omega) (e.symm.trans g2)
    subst this
    exact ⟨g1, g3, h2⟩
theorem iRv_m9 {Jr : zJT} {Gr : zGT} (hv : iRv J G Jr Gr T m sp n R) : m + sp = 90 := (iH_n hv.1 (show 0 < 3 by omega)).2.2
theorem nIa {a : Nat} : nI a + 1 = nI (a + 1) := (nI_succ a).symm
theorem st_rewind {Jr0 : zJT} {Gr0 : zGT} {c t g : Nat} (h : iAt J N a 2 c t) (hv0 : iRv J G Jr0 Gr0 T m sp n R) (hq : J 16 (4 * a + 2) = nI g) (hg : g ≤ N) : zSt X N T a J G m sp n R := by
  obtain ⟨hN, ha, hop, hs, hp1, hc, ht, e⟩ := id h
  have hTn := iH_Tn hv0.1 ht
  have hop2 : ¬ J (26 + c) 0 = -1 := by rw [e]; exact nI_m1 (by omega)
  by_cases h0 : 0 < n t
  · have hm := c_Mac_moveTo1 X hc J G hTn e h0
    rw [nI_0] at hm
    have hK := c_use_rewind X hc (by omega) J G hp1 hop2 true hm
    rw [if_pos rfl, nIa] at hK
    refine zSt_C X (R1 := R) (m1 := m) (sp1 := sp) (n1 := n) hN ha (by omega) (by omega) (by decide) (by decide) (by decide) (by omega) hop hs hp1 hc hK (by omega) (zFc_curG hc) (by rw [zu_n (by omega)]) ⟨t, ht, e⟩ (fun Jr Gr hv => ?_)
    obtain ⟨r1, r2, r3⟩ := iAt_r h hv
    rw [hp1]
    rcases x_rew hv.1.2.2.2.2.1 hv.1.2.2.2.2.2.1 hv.1.1.1 r1 with ⟨h9, _⟩ | ⟨_, i, h1, h2, h3⟩
    · omega
    · exact ⟨false, _, _, c_Mod_crew1 X Jr Gr hc _ _ hv.1.2.2.2.1.2 (by have := iRv_m9 hv; omega) (i := i) (by rw [r2]; exact h2), zFr_cur, rfl, rfl, iRv_cur hv hc true (fun _ => by rw [vu_e, zu_e]; exact h3) (fun x hx => vu_n hx), by simp [nIa]⟩
  · have hm := c_Mac_moveTo0 X hc J G hTn e (p := 0) (by omega)
    rw [nI_0] at hm
    have hK := c_use_rewind X hc (by omega) J G hp1 hop2 false hm
    rw [if_neg (by decide), hq] at hK
    refine zSt_C X (R1 := R) (m1 := m) (sp1 := sp) (n1 := n) hN ha (by omega) (by omega) (by decide) (by decide) (by decide) (by omega) hop hs hp1 hc hK hg (zFc_cur hc) (by rw [zu_n (by omega)]) ⟨t, ht, e⟩ (fun Jr Gr hv => ?_)
    obtain ⟨r1, r2, r3⟩ := iAt_r h hv
    rw [hp1]
    rcases x_rew hv.1.2.2.2.2.1 hv.1.2.2.2.2.2.1 hv.1.1.1 r1 with ⟨_, h2⟩ | ⟨h9, _⟩
    · exact ⟨true, _, _, c_Mod_crew0 X Jr Gr hc _ _ hv.1.2.2.2.1.2 (by have := iRv_m9 hv; omega) (by rw [r2]; exact h2), zFr_cur, rfl, rfl, iRv_cur0 hv hc, by simp [hq]⟩
    · omega
theorem st_next {Jr0 : zJT} {Gr0 : zGT} {c t g : Nat} (h : iAt J N a 3 c t) (hv0 : iRv J G Jr0 Gr0 T m sp n R) (hq : J 16 (4 * a + 2) = nI g) (hg : g ≤ N) : zSt X N T a J G m sp n R := by
  obtain ⟨hN, ha, hop, hs, hp1, hc, ht, e⟩ := id h
  have hTn := iH_Tn hv0.1 ht
  have hop2 : ¬ J (26 + c) 0 = -1 := by rw [e]; exact nI_m1 (by omega)
  obtain ⟨_, _, b, hb, _, _⟩ := iAt_r h hv0
  cases b
  · have hK := c_use_next X hc (by omega) J G hp1 hop2 false (c_Mac_advance0 X hc J G hb)
    rw [if_neg (by decide), nIa] at hK
    refine zSt_C X (R1 := R) (m1 := m) (sp1 := sp) (n1 := n) hN ha (by omega) (by omega) (by decide) (by decide) (by decide) (by omega) hop hs hp1 hc hK (by omega) zFc_rfl rfl ⟨t, ht, e⟩ (fun Jr Gr hv => ?_)
    obtain ⟨r1, r2, b2, r3, r4, r5⟩ := iAt_r h hv
    rw [hp1]
    exact ⟨false, _, _, c_Mod_cnxtU X Jr Gr hc _ _ (by rw [r4, ← r3]; exact hb), zFr_rfl, rfl, rfl, hv, by simp [nIa]⟩
  · obtain ⟨r, hr, hbl⟩ := iSl_cut hv0.1.2.2.2.2.1 ht (G (26 + c) 2) true
    by_cases h0 : r < n t
    · have hK := c_use_next X hc (by omega) J G hp1 hop2 true (c_Mac_advance1 X hc J G hTn e hb hr hbl h0)
      rw [if_pos rfl, hq] at hK
      refine zSt_C X (R1 := R) (m1 := m) (sp1 := sp) (n1 := n) hN ha (by omega) (by omega) (by decide) (by decide) (by decide) (by omega) hop hs hp1 hc hK hg (zFc_curG hc) (by rw [zu_n (by omega)]) ⟨t, ht, e⟩ (fun Jr Gr hv => ?_)
      obtain ⟨r1, r2, b2, r3, r4, r5⟩ := iAt_r h hv
      have hk : Gr 53 c = G (26 + c) 2 := r5 (by rw [hb] at r3; cases b2; exact absurd r3 (by decide); rfl)
      rw [hp1]
      rcases x_next hv.1.2.2.2.2.1 hv.1.2.2.2.2.2.1 hv.1.1.1 r1 hr hbl with ⟨h9, _⟩ | ⟨_, i, h1, h2, h3⟩
      · omega
      · exact ⟨true, _, _, c_Mod_cnxt1 X Jr Gr hc _ _ (by rw [r4, ← r3, hb]; decide) hv.1.2.2.2.1.2 (by have := iRv_m9 hv; omega) (i := i) (by rw [r2, hk]; exact h2), zFr_cur, rfl, rfl, iRv_cur hv hc true (fun _ => by rw [vu_e, zu_e]; exact h3) (fun x hx => vu_n hx), by simp [hq]⟩
    · have hK := c_use_next X hc (by omega) J G hp1 hop2 false (c_Mac_advance2 X hc J G hTn e hb hr hbl (by omega))
      rw [if_neg (by decide), nIa] at hK
      refine zSt_C X (R1 := R) (m1 := m) (sp1 := sp) (n1 := n) hN ha (by omega) (by omega) (by decide) (by decide) (by decide) (by omega) hop hs hp1 hc hK (by omega) zFc_rfl rfl ⟨t, ht, e⟩ (fun Jr Gr hv => ?_)
      obtain ⟨r1, r2, b2, r3, r4, r5⟩ := iAt_r h hv
      have hk : Gr 53 c = G (26 + c) 2 := r5 (by rw [hb] at r3; cases b2; exact absurd r3 (by decide); rfl)
      rw [hp1]
      rcases x_next hv.1.2.2.2.2.1 hv.1.2.2.2.2.2.1 hv.1.1.1 r1 hr hbl with ⟨_, h2⟩ | ⟨h9, _⟩
      · exact ⟨false, _, _, c_Mod_cnxt0 X Jr Gr hc _ _ (by rw [r4, ← r3, hb]; decide) hv.1.2.2.2.1.2 (by have := iRv_m9 hv; omega) (by rw [r2, hk]; exact h2), zFr_rfl, rfl, rfl, hv, by simp [nIa]⟩
      · omega
theorem st_seek {Jr0 : zJT} {Gr0 : zGT} {c t g i : Nat} (h : iAt J N a 8 c t) (hv0 : iRv J G Jr0 Gr0 T m sp n R) (hq : J 16 (4 * a + 2) = nI g) (hg : g ≤ N) (hs3 : J 16 (4 * a + 3) = nI i) (hi : i < 16) : zSt X N T a J G m sp n R := by
  obtain ⟨hN, ha, hop, hs, hp1, hc, ht, e⟩ := id h
  have hTn := iH_Tn hv0.1 ht
  have hop2 : ¬ J (26 + c) 0 = -1 := by rw [e]; exact nI_m1 (by omega)
  obtain ⟨b, hb⟩ := iNl_b hv0.2.2.1.2.1 i
  have hU := fun (b : Bool) (J' : zJT) (G' : zGT) => c_use_seek X hc (k := a) (by omega) J G hp1 hop2 b (J' := J') (G' := G')
  rw [hs3] at hU
  cases b
  · have hK := hU false _ _ (c_Mac_seek0 X hc J G hi hb)
    rw [if_neg (by decide), hq] at hK
    refine zSt_C X (R1 := R) (m1 := m) (sp1 := sp) (n1 := n) hN ha (by omega) (by omega) (by decide) (by decide) (by decide) (by omega) hop hs hp1 hc hK hg (zFc_cur hc) (by rw [zu_n (by omega)]) ⟨t, ht, e⟩ (fun Jr Gr hv => ?_)
    rw [hp1, hs3]
    exact ⟨true, _, _, c_Mod_cskN X Jr Gr hc hi _ (by rw [(hv.2.2.1.1 i hi).1]; exact hb), zFr_cur, rfl, rfl, iRv_cur0 hv hc, by simp [hq]⟩
  · obtain ⟨r, hr, hbl⟩ := iSl_cut hv0.1.2.2.2.2.1 ht (G 23 i) false
    by_cases h0 : r < n t
    · have hK := hU true _ _ (c_Mac_seek1_1 X hc J G hTn e hi hb hr hbl h0)
      rw [if_pos rfl, nIa] at hK
      refine zSt_C X (R1 := R) (m1 := m) (sp1 := sp) (n1 := n) hN ha (by omega) (by omega) (by decide) (by decide) (by decide) (by omega) hop hs hp1 hc hK (by omega) (zFc_curG hc) (by rw [zu_n (by omega)]) ⟨t, ht, e⟩ (fun Jr Gr hv => ?_)
      obtain ⟨r1, r2, _⟩ := iAt_r h hv
      rw [hp1, hs3]
      rcases x_next hv.1.2.2.2.2.1 hv.1.2.2.2.2.2.1 hv.1.1.1 r1 hr hbl with ⟨h9, _⟩ | ⟨_, i2, h1, h2, h3⟩
      · omega
      · exact ⟨false, _, _, c_Mod_csk1 X Jr Gr hc hi _ (by rw [(hv.2.2.1.1 i hi).1, hb]; decide) hv.1.2.2.2.1.2 (by have := iRv_m9 hv; omega) (i := i2) (by rw [r2, (hv.2.2.1.1 i hi).2]; exact h2), zFr_cur, rfl, rfl, iRv_cur hv hc true (fun _ => by rw [vu_e, zu_e]; exact h3) (fun x hx => vu_n hx), by simp [nIa]⟩
    · have hK := hU false _ _ (c_Mac_seek1_0 X hc J G hTn e hi hb hr hbl (by omega))
      rw [if_neg (by decide), hq] at hK
      refine zSt_C X (R1 := R) (m1 := m) (sp1 := sp) (n1 := n) hN ha (by omega) (by omega) (by decide) (by decide) (by decide) (by omega) hop hs hp1 hc hK hg (zFc_cur hc) (by rw [zu_n (by omega)]) ⟨t, ht, e⟩ (fun Jr Gr hv => ?_)
      obtain ⟨r1, r2, _⟩ := iAt_r h hv
      rw [hp1, hs3]
      rcases x_next hv.1.2.2.2.2.1 hv.1.2.2.2.2.2.1 hv.1.1.1 r1 hr hbl with ⟨_, h2⟩ | ⟨h9, _⟩
      · exact ⟨true, _, _, c_Mod_csk0 X Jr Gr hc hi _ (by rw [(hv.2.2.1.1 i hi).1, hb]; decide) hv.1.2.2.2.1.2 (by have := iRv_m9 hv; omega) (by rw [r2, (hv.2.2.1.1 i hi).2]; exact h2), zFr_cur, rfl, rfl, iRv_cur0 hv hc, by simp [hq]⟩
      · omega
theorem st_row {Jr0 : zJT} {Gr0 : zGT} {o c t : Nat} (h : iAt J N a o c t) (hv0 : iRv J G Jr0 Gr0 T m sp n R) :
    (zK X 2 m_Mac_slotAt [.ref 1, .ref (26 + c)] J G (some (.int (-1))) J G ∧ ∀ Jr Gr, iRv J G Jr Gr T m sp n R → zK X 1 m_Mod_rowAt [.ref 40, .int (nI c)] Jr Gr (some (.int (-1))) Jr Gr) ∨
    ∃ r, r < n t ∧ J (26 + c) 1 = 1 ∧ zky J G t r = G (26 + c) 2 ∧ (∀ p, p < n t → (zbl (zky J G t p) (G (26 + c) 2) false ↔ p < r)) ∧ zK X 2 m_Mac_slotAt [.ref 1, .ref (26 + c)] J G (some (.int (nI (xs (xSl J) t r)))) J G ∧
      ∀ Jr Gr, iRv J G Jr Gr T m sp n R → Gr 53 c = G (26 + c) 2 ∧ ∃ k, k < m ∧ zK X 1 m_Mod_rowAt [.ref 40, .int (nI c)] Jr Gr (some (.int (nI k))) Jr Gr ∧ Jr 42 k = nI t ∧ Gr 43 k = zky J G t r ∧ ∀ i, i < xC J t → Jr 45 (4 * k + i) = J 6 (4 * xs (xSl J) t r + i) ∧ Gr 44 (4 * k + i) = G 5 (4 * xs (xSl J) t r + i) := by
  obtain ⟨hN, ha, hop, hs, hp1, hc, ht, e⟩ := id h
  have hTn := iH_Tn hv0.1 ht
  obtain ⟨_, _, b, hb, _, _⟩ := iAt_r h hv0
  cases b
  · left
    refine ⟨c_Mac_slotAt0 X hc J G hb, fun Jr Gr hv => ?_⟩
    obtain ⟨r1, r2, b2, r3, r4, r5⟩ := iAt_r h hv
    exact c_Mod_rowAt0 X Jr Gr hc (by rw [r4, ← r3]; exact hb)
  · obtain ⟨r, hr, hbl⟩ := iSl_cut hv0.1.2.2.2.2.1 ht (G (26 + c) 2) false
    have hS := c_Mac_slotAt1 X hc J G hTn e hb hr hbl
    have hR : ∀ Jr Gr, iRv J G Jr Gr T m sp n R → Gr 53 c = G (26 + c) 2 ∧ zK X 1 m_Mod_rowAt [.ref 40, .int (nI c)] Jr Gr (some (.int (rOf Jr Gr (nI t) (G (26 + c) 2) m))) Jr Gr := by
      intro Jr Gr hv
      obtain ⟨r1, r2, b2, r3, r4, r5⟩ := iAt_r h hv
      have hk : Gr 53 c = G (26 + c) 2 := r5 (by rw [hb] at r3; cases b2; exact absurd r3 (by decide); rfl)
      refine ⟨hk, ?_⟩
      have := c_Mod_rowAt1 X Jr Gr hc (by rw [r4, ← r3, hb]; decide) hv.1.2.2.2.1.2 (by have := iRv_m9 hv; omega)
      rwa [r2, hk] at this
    by_cases hf : r < n t ∧ zky J G t r = G (26 + c) 2
    · right
      rw [if_pos hf, show J (10 + 2 * t) r = nI (xs (xSl J) t r) from (iSl_xs hv0.1.2.2.2.2.1 ht hf.1).2] at hS
      refine ⟨r, hf.1, hb, hf.2, hbl, hS, fun Jr Gr hv => ?_⟩
      obtain ⟨r1, _⟩ := iAt_r h hv
      obtain ⟨hk, hA⟩ := hR Jr Gr hv
      refine ⟨hk, ?_⟩
      rcases x_find hv.1.2.2.2.2.1 hv.1.2.2.2.2.2.1 hv.1.1.1 r1 hr hbl with ⟨h9, _⟩ | ⟨f1, f2, k, f3, f4, f5, f6, f7⟩
      · exact absurd hf h9
      · rw [f4] at hA
        exact ⟨k, f3, hA, f5, f6.trans f2.symm, f7⟩
    · left
      rw [if_neg hf] at hS
      refine ⟨hS, fun Jr Gr hv => ?_⟩
      obtain ⟨r1, _⟩ := iAt_r h hv
      obtain ⟨hk, hA⟩ := hR Jr Gr hv
      rcases x_find hv.1.2.2.2.2.1 hv.1.2.2.2.2.2.1 hv.1.1.1 r1 hr hbl with ⟨_, f2⟩ | ⟨f1, f2, _⟩
      · rw [f2] at hA; exact hA
      · exact absurd ⟨f1, f2⟩ hf
theorem st_column {Jr0 : zJT} {Gr0 : zGT} {c t k i : Nat} (h : iAt J N a 4 c t) (hv0 : iRv J G Jr0 Gr0 T m sp n R) (hq : J 16 (4 * a + 2) = nI k) (hk4 : k < 4) (hs3 : J 16 (4 * a + 3) = nI i) (hi : i < 16) : zSt X N T a J G m sp n R := by
  obtain ⟨hN, ha, hop, hs, hp1, hc, ht, e⟩ := id h
  have hop2 : ¬ J (26 + c) 0 = -1 := by rw [e]; exact nI_m1 (by omega)
  have hU := fun (J' : zJT) (G' : zGT) => c_use_column X hc (k := a) (by omega) J G hp1 hop2 (J' := J') (G' := G')
  rw [hs3, hq, nIa] at hU
  obtain ⟨cl, c4, c1, cc, cr, cx⟩ := iH_C hv0.1 ht
  have htT := (iAt_r h hv0).1
  have hyes : (decide (0 ≤ nI t) && decide (nI t < J 2 1)) = true := by
    rw [hv0.1.1.2.1, Bool.and_eq_true, decide_eq_true_iff, decide_eq_true_iff]
    exact ⟨nI_pos' (by omega), nI_lt htT (by have := hv0.1.1.1; omega)⟩
  rcases st_row X h hv0 with ⟨hS, hR⟩ | ⟨r, h1, h2, h3, h4, hS, hR⟩
  · have hK := hU _ _ (c_Mac_readColumn0 X hc J G hi _ hS)
    refine zSt_C X (R1 := R) (m1 := m) (sp1 := sp) (n1 := n) hN ha (by omega) (by omega) (by decide) (by decide) (by decide) (by omega) hop hs hp1 hc hK (by omega) zFc_reg rfl ⟨t, ht, e⟩ (fun Jr Gr hv => ?_)
    rw [hp1, hs3]
    exact ⟨false, _, _, c_Mod_ccol0 X Jr Gr hc hi _ (hR Jr Gr hv), zFr_reg, rfl, rfl, iRv_reg hv false 0 (fun _ => rfl), by simp [nIa]⟩
  · have hxs := iSl_xs hv0.1.2.2.2.2.1 ht h1
    by_cases hkc : k < cl
    · obtain ⟨b, hb, hb0⟩ := hv0.1.2.2.2.2.2.2.1 (4 * xs (xSl J) t r + k)
      have hcol : (decide (0 ≤ nI k) && decide (nI k < J (9 + 2 * t) 0)) = true := by
        rw [cc, Bool.and_eq_true, decide_eq_true_iff, decide_eq_true_iff]
        exact ⟨nI_pos' (by omega), nI_lt hkc (by omega)⟩
      have hK := hU _ _ (c_Mac_readColumn2 X hc J G hi ht e hxs.1 hk4 hS hyes hcol (by rw [hb, zb_v]))
      rw [hb] at hK
      refine zSt_C X (R1 := R) (m1 := m) (sp1 := sp) (n1 := n) hN ha (by omega) (by omega) (by decide) (by decide) (by decide) (by omega) hop hs hp1 hc hK (by omega) zFc_reg rfl ⟨t, ht, e⟩ (fun Jr Gr hv => ?_)
      obtain ⟨g1, k0, g2, g3, g4, g5, g6⟩ := hR Jr Gr hv
      obtain ⟨r1, r2, _⟩ := iAt_r h hv
      obtain ⟨_, _, _, cc2, cr2, _⟩ := iH_C hv.1 ht
      rw [hp1, hs3, hq]
      have hM := c_Mod_ccol2 X Jr Gr hc hi (r := k0) (by have := iRv_m9 hv; omega) r2 ht hk4 (by rw [cr2, ← cc2, cc]; exact nI_lt hkc (by omega)) b (((g6 k (by omega)).1).trans hb) g3
      rw [show (if b = true then Gr 44 (4 * k0 + k) else 0) = G 5 (4 * xs (xSl J) t r + k) by
        cases b
        · simp [hb0 rfl]
        · simp [(g6 k (by omega)).2]] at hM
      exact ⟨false, _, _, hM, zFr_reg, rfl, rfl, iRv_reg hv b _ hb0, by simp [nIa]⟩
    · have hcol : (decide (0 ≤ nI k) && decide (nI k < J (9 + 2 * t) 0)) = false := by
        rw [cc, Bool.eq_false_iff, ne_eq, Bool.and_eq_true, decide_eq_true_iff, decide_eq_true_iff]
        exact fun h9 => nI_nlt (by omega) (by omega) h9.2
      have hK := hU _ _ (c_Mac_readColumn1 X hc J G hi _ (nI (xs (xSl J) t r)) ht e (nI_m1 (by omega)) hS hyes hcol)
      refine zSt_C X (R1 := R) (m1 := m) (sp1 := sp) (n1 := n) hN ha (by omega) (by omega) (by decide) (by decide) (by decide) (by omega) hop hs hp1 hc hK (by omega) zFc_reg rfl ⟨t, ht, e⟩ (fun Jr Gr hv => ?_)
      obtain ⟨g1, k0, g2, g3, g4, g5, g6⟩ := hR Jr Gr hv
      obtain ⟨r1, r2, _⟩ := iAt_r h hv
      obtain ⟨_, _, _, cc2, cr2, _⟩ := iH_C hv.1 ht
      rw [hp1, hs3, hq]
      exact ⟨false, _, _, c_Mod_ccol1 X Jr Gr hc hi (r := k0) (by have := iRv_m9 hv; omega) r2 ht _ (by rw [cr2, ← cc2, cc]; exact nI_nlt (by omega) (by omega)) g3, zFr_reg, rfl, rfl, iRv_reg hv false 0 (fun _ => rfl), by simp [nIa]⟩
theorem st_rowid {Jr0 : zJT} {Gr0 : zGT} {c t i : Nat} (h : iAt J N a 5 c t) (hv0 : iRv J G Jr0 Gr0 T m sp n R) (hq : J 16 (4 * a + 2) = nI i) (hi : i < 16) : zSt X N T a J G m sp n R := by
  obtain ⟨hN, ha, hop, hs, hp1, hc, ht, e⟩ := id h
  have hop2 : ¬ J (26 + c) 0 = -1 := by rw [e]; exact nI_m1 (by omega)
  have hU := fun (J' : zJT) (G' : zGT) => c_use_rowid X hc (k := a) (by omega) J G hp1 hop2 (J' := J') (G' := G')
  rw [hq, nIa] at hU
  rcases st_row X h hv0 with ⟨hS, hR⟩ | ⟨r, h1, h2, h3, h4, hS, hR⟩
  · have hK := hU _ _ (c_Mac_readKey0 X hc J G hi hS)
    refine zSt_C X (R1 := R) (m1 := m) (sp1 := sp) (n1 := n) hN ha (by omega) (by omega) (by decide) (by decide) (by decide) (by omega) hop hs hp1 hc hK (by omega) zFc_reg rfl ⟨t, ht, e⟩ (fun Jr Gr hv => ?_)
    rw [hp1, hq]
    exact ⟨false, _, _, c_Mod_crow0 X Jr Gr hc hi _ (hR Jr Gr hv), zFr_reg, rfl, rfl, iRv_reg hv false 0 (fun _ => rfl), by simp [nIa]⟩
  · have hxs := iSl_xs hv0.1.2.2.2.2.1 ht h1
    have hK := hU _ _ (c_Mac_readKey1 X hc J G hi (nI (xs (xSl J) t r)) (nI_m1 (by omega)) hS)
    refine zSt_C X (R1 := R) (m1 := m) (sp1 := sp) (n1 := n) hN ha (by omega) (by omega) (by decide) (by decide) (by decide) (by omega) hop hs hp1 hc hK (by omega) zFc_reg rfl ⟨t, ht, e⟩ (fun Jr Gr hv => ?_)
    obtain ⟨g1, k0, g2, g3, g4, g5, g6⟩ := hR Jr Gr hv
    rw [hp1, hq]
    have hM := c_Mod_crow1 X Jr Gr hc hi (r := k0) (by have := iRv_m9 hv; omega) (J 16 (4 * a + 3)) g3
    rw [g1] at hM
    exact ⟨false, _, _, hM, zFr_reg, rfl, rfl, iRv_reg hv true _ (fun h9 => by cases h9), by simp [nIa]⟩
end
