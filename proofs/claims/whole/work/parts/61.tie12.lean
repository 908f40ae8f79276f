section
variable (X : zX) {J : zJT} {G : zGT} {N T a m sp R : Nat} {n : Nat → Nat}
theorem st_delete {Jr0 : zJT} {Gr0 : zGT} {c t : Nat} (h : iAt J N a 21 c t) (hv0 : iRv J G Jr0 Gr0 T m sp n R) : zSt X N T a J G m sp n R := by
  obtain ⟨hN, ha, hop, hs, hp1, hc, ht, e⟩ := id h
  have hop2 : ¬ J (26 + c) 0 = -1 := by rw [e]; exact nI_m1 (by omega)
  have hU := fun (J' : zJT) (G' : zGT) => c_use_delete X hc (k := a) (by omega) J G hp1 hop2 (J' := J') (G' := G')
  rw [nIa] at hU
  have hTn := iH_Tn hv0.1 ht
  have htT := (iAt_r h hv0).1
  obtain ⟨_, _, b, hb, _, _⟩ := iAt_r h hv0
  have hms := iH_n hv0.1 ht
  cases b
  · have hK := hU _ _ (c_Mac_dropRow0 X hc J G hb)
    refine zSt_C X (R1 := R) (m1 := m) (sp1 := sp) (n1 := n) hN ha (by omega) (by omega) (by decide) (by decide) (by decide) (by omega) hop hs hp1 hc hK (by omega) zFc_rfl rfl ⟨t, ht, e⟩ (fun Jr Gr hv => ?_)
    obtain ⟨r1, r2, b2, r3, r4, r5⟩ := iAt_r h hv
    rw [hp1]
    exact ⟨false, _, _, c_Mod_cdel0 X Jr Gr hc _ _ (c_Mod_rowAt0 X Jr Gr hc (by rw [r4, ← r3]; exact hb)), zFr_rfl, rfl, rfl, hv, by simp [nIa]⟩
  · obtain ⟨r, hr, hbl⟩ := iSl_cut hv0.1.2.2.2.2.1 ht (G (26 + c) 2) false
    have hR : ∀ Jr Gr, iRv J G Jr Gr T m sp n R → zK X 1 m_Mod_rowAt [.ref 40, .int (nI c)] Jr Gr (some (.int (rOf Jr Gr (nI t) (G (26 + c) 2) m))) Jr Gr := by
      intro Jr Gr hv
      obtain ⟨r1, r2, b2, r3, r4, r5⟩ := iAt_r h hv
      have hk : Gr 53 c = G (26 + c) 2 := r5 (by rw [hb] at r3; cases b2; exact absurd r3 (by decide); rfl)
      have := c_Mod_rowAt1 X Jr Gr hc (by rw [r4, ← r3, hb]; decide) hv.1.2.2.2.1.2 (by have := iRv_m9 hv; omega)
      rwa [r2, hk] at this
    by_cases hf : r < n t ∧ zky J G t r = G (26 + c) 2
    · obtain ⟨n1, hn1⟩ : ∃ n1, n t = n1 + 1 := ⟨n t - 1, by omega⟩
      obtain ⟨m1, hm1⟩ : ∃ m1, m = m1 + 1 := ⟨m - 1, by omega⟩
      subst hm1
      have hr' := hr
      have hbl' := hbl
      have hf' := hf
      rw [hn1] at hTn hr' hbl' hf'
      have hD := c_Sto_drop1 X J G hTn _ hr' hbl' hv0.1.2.2.2.1.1 (by omega) hf'.1 hf'.2
      have hK := hU _ _ (c_Mac_dropRow1 X hc J G e hb 1 hD)
      have Z : ∀ x, 15 ≤ x → zdrJ J t r n1 sp x = J x := fun x hx => zdrJ_o (by omega) (by omega) (by omega) (by omega)
      refine zSt_C X (R1 := R) (m1 := m1) (sp1 := sp + 1) (n1 := xn n t n1) hN ha (by omega) (by omega) (by decide) (by decide) (by decide) (by omega) hop hs hp1 hc hK (by omega) ⟨fun x hx => Z x (by omega), fun _ _ => rfl⟩ (by rw [zdrJ_o (by omega) (by omega) (by omega) (by omega)]) ⟨t, ht, e⟩ (fun Jr Gr hv => ?_)
      obtain ⟨r1, _⟩ := iAt_r h hv
      have hA := hR Jr Gr hv
      rw [hp1]
      rcases x_find hv.1.2.2.2.2.1 hv.1.2.2.2.2.2.1 hv.1.1.1 r1 hr hbl with ⟨h9, _⟩ | ⟨f1, f2, k, f3, f4, f5, f6, f7⟩
      · exact absurd hf h9
      · rw [f4] at hA
        refine ⟨false, _, _, c_Mod_cdel1 X Jr Gr hc _ _ hA hv.1.2.2.2.1.2 (by omega) (by omega) (fun i => iNl_v hv.1.2.2.2.2.2.2.2 i), ⟨fun x hx => rTJ_o (by omega) (by omega) (by omega) 4, fun i i1 i2 i3 i4 => by rw [rTJ_40, zu_n i1], fun x hx => rTG_o (by omega) (by omega) 4⟩, by rw [rTJ_40, zu_n (by omega)], by rw [rTJ_40, zu_n (by omega)], ⟨iH_drop hv.1 r1 hn1 hf'.1 f3 f5 (f6.trans f2.symm) rfl rfl rfl rfl rfl rfl, iRs_c hv.2.1 ?_ (Z _ (by omega)) (Z _ (by omega)) rfl ?_ ?_ ?_ ?_, iRg_c hv.2.2.1 (Z _ (by omega)) rfl ?_ ?_, iCu_c hv.2.2.2 (fun x _ _ => Z x (by omega)) (fun _ _ _ => rfl) ?_ ?_ ?_⟩, by simp [nIa]⟩
        · rw [Z _ (by omega)]
        · rw [rTJ_40, zu_n (by omega)]
        · exact rTJ_o (by omega) (by omega) (by omega) 4
        · exact rTJ_o (by omega) (by omega) (by omega) 4
        · exact rTG_o (by omega) (by omega) 4
        · exact rTJ_o (by omega) (by omega) (by omega) 4
        · exact rTG_o (by omega) (by omega) 4
        · exact rTJ_o (by omega) (by omega) (by omega) 4
        · exact rTJ_o (by omega) (by omega) (by omega) 4
        · exact rTG_o (by omega) (by omega) 4
    · have hK := hU _ _ (c_Mac_dropRow1 X hc J G e hb 0 (c_Sto_drop0 X J G hTn _ hr hbl hf))
      refine zSt_C X (R1 := R) (m1 := m) (sp1 := sp) (n1 := n) hN ha (by omega) (by omega) (by decide) (by decide) (by decide) (by omega) hop hs hp1 hc hK (by omega) zFc_rfl rfl ⟨t, ht, e⟩ (fun Jr Gr hv => ?_)
      obtain ⟨r1, _⟩ := iAt_r h hv
      have hA := hR Jr Gr hv
      rw [hp1]
      rcases x_find hv.1.2.2.2.2.1 hv.1.2.2.2.2.2.1 hv.1.1.1 r1 hr hbl with ⟨_, f2⟩ | ⟨f1, f2, _⟩
      · rw [f2] at hA
        exact ⟨false, _, _, c_Mod_cdel0 X Jr Gr hc _ _ hA, zFr_rfl, rfl, rfl, hv, by simp [nIa]⟩
      · exact absurd ⟨f1, f2⟩ hf
theorem st_insert {Jr0 : zJT} {Gr0 : zGT} {c t g i : Nat} (h : iAt J N a 20 c t) (hv0 : iRv J G Jr0 Gr0 T m sp n R) (hq : J 16 (4 * a + 2) = nI g) (hg : g ≤ N) (hs3 : J 16 (4 * a + 3) = nI i) (hi : i < 12) : zSt X N T a J G m sp n R := by
  obtain ⟨hN, ha, hop, hs, hp1, hc, ht, e⟩ := id h
  have hop2 : ¬ J (26 + c) 0 = -1 := by rw [e]; exact nI_m1 (by omega)
  have hU := fun (b : Bool) (J' : zJT) (G' : zGT) => c_use_insert X hc (k := a) (by omega) J G hp1 hop2 b (J' := J') (G' := G')
  rw [hs3] at hU
  have hTn := iH_Tn hv0.1 ht
  have htT := (iAt_r h hv0).1
  have hms := iH_n hv0.1 ht
  obtain ⟨b, hb⟩ := iNl_b hv0.2.2.1.2.1 i
  cases b
  · have hK := hU false _ _ (c_Mac_bringRow0 X hc J G (by omega) hb)
    rw [if_neg (by decide), hq] at hK
    refine zSt_C X (R1 := R) (m1 := m) (sp1 := sp) (n1 := n) hN ha (by omega) (by omega) (by decide) (by decide) (by decide) (by omega) hop hs hp1 hc hK hg zFc_rfl rfl ⟨t, ht, e⟩ (fun Jr Gr hv => ?_)
    rw [hp1, hs3]
    exact ⟨true, _, _, c_Mod_cinsN X Jr Gr hc hi _ (by rw [(hv.2.2.1.1 i (by omega)).1]; exact hb), zFr_rfl, rfl, rfl, hv, by simp [hq]⟩
  · obtain ⟨r, hr, hbl⟩ := iSl_cut hv0.1.2.2.2.2.1 ht (G 23 i) false
    have full : ∀ Jr Gr, iRv J G Jr Gr T m sp n R → ¬ Jr 50 i = 0 := fun Jr Gr hv => by rw [(hv.2.2.1.1 i (by omega)).1, hb]; decide
    by_cases hno : J 2 5 = 0 ∨ (r < n t ∧ zky J G t r = G 23 i)
    · have hK := hU false _ _ (c_Mac_bringRow1 X hc J G e (by omega) hb false (c_Sto_bring0 X J G hTn _ hr hbl 22 _ hno))
      rw [if_neg (by decide), hq] at hK
      refine zSt_C X (R1 := R) (m1 := m) (sp1 := sp) (n1 := n) hN ha (by omega) (by omega) (by decide) (by decide) (by decide) (by omega) hop hs hp1 hc hK hg zFc_rfl rfl ⟨t, ht, e⟩ (fun Jr Gr hv => ?_)
      obtain ⟨r1, r2, _⟩ := iAt_r h hv
      rw [hp1, hs3]
      by_cases h90 : m = 90
      · exact ⟨true, _, _, c_Mod_cinsF X Jr Gr hc hi _ (full Jr Gr hv) (by rw [hv.1.2.2.2.1.2, h90]; rfl), zFr_rfl, rfl, rfl, hv, by simp [hq]⟩
      · have hf : r < n t ∧ zky J G t r = G 23 i := by
          rcases hno with h9 | h9
          · rw [hv.1.2.2.2.1.1] at h9
            exact absurd h9 (nI_ne0 (by omega) (by omega))
          · exact h9
        rcases x_find hv.1.2.2.2.2.1 hv.1.2.2.2.2.2.1 hv.1.1.1 r1 hr hbl with ⟨h9, _⟩ | ⟨f1, f2, k, f3, f4, _⟩
        · exact absurd hf h9
        · exact ⟨true, _, _, c_Mod_cinsX X Jr Gr hc hi _ (full Jr Gr hv) hv.1.2.2.2.1.2 (by omega) (by rw [r2, (hv.2.2.1.1 i (by omega)).2, f4]; exact nI_pos (by omega)), zFr_rfl, rfl, rfl, hv, by simp [hq]⟩
    · have hno2 : ¬ (r < n t ∧ zky J G t r = G 23 i) := fun h9 => hno (Or.inr h9)
      cases sp with
      | zero => exact absurd (Or.inl hv0.1.2.2.2.1.1) hno
      | succ sp =>
      obtain ⟨cl, c4, c1, cc, cr, cx⟩ := iH_C hv0.1 ht
      obtain ⟨u, hu9, hu⟩ := hv0.1.2.2.2.2.1.2.2.2.1 sp (by omega)
      have hB := c_Sto_bring1 X J G (f := i + 1) hTn (G 23 i) hr zVal22 (by omega) cc c4 (by omega) (by omega) hu9 (by omega) (fun j _ => iNl_v hv0.2.2.1.2.1 j) hbl hno2 hv0.1.2.2.2.1.1 (by omega) hu
      have hK := hU true _ _ (c_Mac_bringRow1 X hc J G e (by omega) hb true hB)
      rw [if_pos rfl, nIa] at hK
      have Z : ∀ x, 15 ≤ x → zbrT J t 22 (i + 1) u cl sp r (n t) x = J x := fun x hx => zbrT_o (by omega) (by omega) (by omega) (by omega)
      have ZG : ∀ x, 15 ≤ x → zbrG G 22 (i + 1) u cl (G 23 i) x = G x := fun x hx => zbrG_o (by omega) (by omega)
      refine zSt_C X (R1 := R) (m1 := m + 1) (sp1 := sp) (n1 := xn n t (n t + 1)) hN ha (by omega) (by omega) (by decide) (by decide) (by decide) (by omega) hop hs hp1 hc hK (by omega) ⟨fun x hx => Z x (by omega), fun x hx => ZG x (by omega)⟩ (by rw [zbrT_o (by omega) (by omega) (by omega) (by omega)]) ⟨t, ht, e⟩ (fun Jr Gr hv => ?_)
      obtain ⟨r1, r2, _⟩ := iAt_r h hv
      obtain ⟨cl2, _, _, cc2, cr2, _⟩ := iH_C hv.1 ht
      have hcl : Jr 41 t = nI cl := by rw [cr2, ← cc2, cc]
      rw [hp1, hs3]
      have hnl := hv.2.2.1.2.1
      obtain ⟨bb, hbb⟩ : ∃ bb : Nat → Bool, ∀ k, J 24 k = zb (bb k) ∧ (bb k = false → G 23 k = 0) := ⟨fun k => Classical.choose (hnl k), fun k => Classical.choose_spec (hnl k)⟩
      rcases x_find hv.1.2.2.2.2.1 hv.1.2.2.2.2.2.1 hv.1.1.1 r1 hr hbl with ⟨_, hof⟩ | ⟨f1, f2, _⟩
      case inr => exact absurd ⟨f1, f2⟩ hno2
      have hM := c_Mod_cins X Jr Gr hc r2 ht hcl c4 hi (J 16 (4 * a + 2)) (fun k => bb (i + 1 + k)) (fun k hk => by rw [(hv.2.2.1.1 _ (by omega)).1]; exact (hbb _).1) hv.1.2.2.2.1.2 (by omega) (full Jr Gr hv) (by rw [(hv.2.2.1.1 i (by omega)).2, hof]; exact m1_lt0)
      rw [(hv.2.2.1.1 i (by omega)).2] at hM
      refine ⟨false, _, _, hM, ⟨fun x hx => ?_, fun x x1 x2 x3 x4 => ?_, fun x hx => ?_⟩, ?_, ?_, ⟨iH_bring hv.1 (b := 22) (f := i + 1) r1 cc c4 hr hu9 hu hbl hno2 hnl rfl rfl rfl rfl rfl rfl (fun k hk => ⟨(hbb _).1, ?_⟩) (zu_n (by omega)) zu_e, iRs_c hv.2.1 ?_ (Z _ (by omega)) (Z _ (by omega)) (ZG _ (by omega)) ?_ ?_ ?_ ?_, iRg_c hv.2.2.1 (Z _ (by omega)) (ZG _ (by omega)) ?_ ?_, iCu_c hv.2.2.2 (fun x _ _ => Z x (by omega)) (fun x _ _ => ZG x (by omega)) ?_ ?_ ?_⟩, by simp [nIa]⟩
      · rw [zu_n (by omega), rLJ_o (by omega) (by omega)]
      · rw [zu_e, zu_n x1]
      · rw [rLG_o (by omega) (by omega)]
      · rw [zu_e, zu_n (by omega)]
      · rw [zu_e, zu_n (by omega)]
      · show G 23 (i + 1 + k) = if bb (i + 1 + k) = true then Gr 49 (i + 1 + k) else 0
        rw [(hv.2.2.1.1 _ (by omega)).2]
        cases hq2 : bb (i + 1 + k)
        · simp; exact (hbb _).2 hq2
        · simp
      · rw [Z _ (by omega)]
      · rw [zu_e, zu_n (by omega)]
      · rw [zu_n (by omega), rLJ_o (by omega) (by omega)]
      · rw [zu_n (by omega), rLJ_o (by omega) (by omega)]
      · rw [rLG_o (by omega) (by omega)]
      · rw [zu_n (by omega), rLJ_o (by omega) (by omega)]
      · rw [rLG_o (by omega) (by omega)]
      · rw [zu_n (by omega), rLJ_o (by omega) (by omega)]
      · rw [zu_n (by omega), rLJ_o (by omega) (by omega)]
      · rw [rLG_o (by omega) (by omega)]
def iAo (J : zJT) (N a o : Nat) : Prop := N ≤ 60 ∧ a < N ∧ J 16 (4 * a) = nI o ∧ J 15 0 = nI N
theorem st_open {c t : Nat} (h : iAo J N a 1) (hp1 : J 16 (4 * a + 1) = nI c) (hc : c < 3) (hq : J 16 (4 * a + 2) = nI t) (ht : t < T) : zSt X N T a J G m sp n R := by
  obtain ⟨hN, ha, hop, hs⟩ := h
  have hK := c_com_open X (k := a) (by omega) J G hc hp1
  rw [nIa] at hK
  refine zSt_W X (R1 := R) (m1 := m) (sp1 := sp) (n1 := n) hN ha (by omega) (by omega) (by decide) (by decide) (by omega) hop hs hK (by omega) ⟨fun x hx => zu_n (by omega), fun _ _ => rfl⟩ (by rw [zu_n (by omega)]) (fun Jr Gr hv => ?_)
  obtain ⟨v1, v2, v3, v4⟩ := hv
  rw [hp1]
  refine ⟨false, _, _, c_Mod_wopen X Jr Gr hc _ _, ⟨fun x hx => by rw [zu_n (by omega), zu_n (by omega)], fun x _ _ _ _ => by rw [zu_n (by omega), zu_n (by omega)], fun _ _ => rfl⟩, rfl, rfl, ⟨iH_c v1 ?_ ?_ (fun x _ _ => zu_n (by omega)) rfl rfl rfl rfl rfl rfl rfl rfl rfl, iRs_c v2 ?_ (zu_n (by omega)) (zu_n (by omega)) rfl rfl rfl rfl rfl, iRg_c v3 (zu_n (by omega)) rfl rfl rfl, fun x hx => ?_⟩, by simp [nIa]⟩
  · rw [zu_n (by omega)]
  · rw [zu_n (by omega)]
  · rw [zu_n (by omega)]
  · rw [show va_up (va_up Jr 51 (upd (Jr 51) c (J 16 (4 * a + 2)))) 52 (upd (Jr 52) c 0) 51 = upd (Jr 51) c (J 16 (4 * a + 2)) from rfl, show va_up (va_up Jr 51 (upd (Jr 51) c (J 16 (4 * a + 2)))) 52 (upd (Jr 52) c 0) 52 = upd (Jr 52) c 0 from rfl]
    by_cases ex : x = c
    · subst ex
      rw [zu_e, up_e, up_e, zu_n (by decide), zu_e, zu_e]
      exact ⟨Or.inr ⟨t, ht, hq, hq⟩, false, rfl, rfl, fun h9 => by cases h9⟩
    · rw [zu_n (by omega), up_n ex, up_n ex]
      exact v4 x hx
theorem st_integer {i : Nat} (h : iAo J N a 6) (hq : J 16 (4 * a + 2) = nI i) (hi : i < 16) : zSt X N T a J G m sp n R := by
  obtain ⟨hN, ha, hop, hs⟩ := h
  have hK := c_com_integer X (k := a) (by omega) J G hi hq
  rw [nIa] at hK
  refine zSt_W X (R1 := R) (m1 := m) (sp1 := sp) (n1 := n) hN ha (by omega) (by omega) (by decide) (by decide) (by omega) hop hs hK (by omega) zFc_reg rfl (fun Jr Gr hv => ?_)
  rw [hq]
  exact ⟨false, _, _, c_Mod_wint X Jr Gr hi _ _, zFr_reg, rfl, rfl, iRv_reg hv true _ (fun h9 => by cases h9), by simp [nIa]⟩
theorem st_null {i : Nat} (h : iAo J N a 7) (hp : J 16 (4 * a + 1) = nI i) (hi : i < 16) : zSt X N T a J G m sp n R := by
  obtain ⟨hN, ha, hop, hs⟩ := h
  have hK := c_com_null X (k := a) (by omega) J G hi hp
  rw [nIa] at hK
  refine zSt_W X (R1 := R) (m1 := m) (sp1 := sp) (n1 := n) hN ha (by omega) (by omega) (by decide) (by decide) (by omega) hop hs hK (by omega) zFc_reg rfl (fun Jr Gr hv => ?_)
  rw [hp]
  exact ⟨false, _, _, c_Mod_wnull X Jr Gr hi _ _, zFr_reg, rfl, rfl, iRv_reg hv false 0 (fun _ => rfl), by simp [nIa]⟩
theorem zb_d0 {b : Bool} : decide (zb b = 0) = !b := by cases b <;> decide
theorem zb_d1 {b : Bool} : decide (zb b = 1) = b := by cases b <;> decide
theorem st_isnull {Jr0 : zJT} {Gr0 : zGT} {i g : Nat} (h : iAo J N a 15) (hv0 : iRv J G Jr0 Gr0 T m sp n R) (hp : J 16 (4 * a + 1) = nI i) (hi : i < 16) (hq : J 16 (4 * a + 2) = nI g) (hg : g ≤ N) : zSt X N T a J G m sp n R := by
  obtain ⟨hN, ha, hop, hs⟩ := h
  obtain ⟨b, hb⟩ := iNl_b hv0.2.2.1.2.1 i
  have hK := c_com_isnull X (k := a) (by omega) J G hi hp b hb
  have hM : ∀ Jr Gr, iRv J G Jr Gr T m sp n R → zK X 1 m_Mod_without [.ref 40, .int (nI 15), .int (J 16 (4 * a + 1)), .int (J 16 (4 * a + 2)), .int (J 16 (4 * a + 3))] Jr Gr (some (.int (zb (!b)))) Jr Gr := fun Jr Gr hv => by
    have := c_Mod_wisnull X Jr Gr hi (J 16 (4 * a + 2)) (J 16 (4 * a + 3))
    rw [(hv.2.2.1.1 i hi).1, hb, zb_d0] at this
    rw [hp]; exact this
  cases b
  · rw [if_neg (by decide), hq] at hK
    exact zSt_W X (R1 := R) (m1 := m) (sp1 := sp) (n1 := n) hN ha (by omega) (by omega) (by decide) (by decide) (by omega) hop hs hK hg zFc_rfl rfl (fun Jr Gr hv => ⟨true, _, _, hM Jr Gr hv, zFr_rfl, rfl, rfl, hv, by rw [if_pos rfl, if_neg (by decide), hq]⟩)
  · rw [if_pos rfl, nIa] at hK
    exact zSt_W X (R1 := R) (m1 := m) (sp1 := sp) (n1 := n) hN ha (by omega) (by omega) (by decide) (by decide) (by omega) hop hs hK (by omega) zFc_rfl rfl (fun Jr Gr hv => ⟨false, _, _, hM Jr Gr hv, zFr_rfl, rfl, rfl, hv, by simp [nIa]⟩)
theorem st_notnull {Jr0 : zJT} {Gr0 : zGT} {i g : Nat} (h : iAo J N a 16) (hv0 : iRv J G Jr0 Gr0 T m sp n R) (hp : J 16 (4 * a + 1) = nI i) (hi : i < 16) (hq : J 16 (4 * a + 2) = nI g) (hg : g ≤ N) : zSt X N T a J G m sp n R := by
  obtain ⟨hN, ha, hop, hs⟩ := h
  obtain ⟨b, hb⟩ := iNl_b hv0.2.2.1.2.1 i
  have hK := c_com_notnull X (k := a) (by omega) J G hi hp b hb
  have hM : ∀ Jr Gr, iRv J G Jr Gr T m sp n R → zK X 1 m_Mod_without [.ref 40, .int (nI 16), .int (J 16 (4 * a + 1)), .int (J 16 (4 * a + 2)), .int (J 16 (4 * a + 3))] Jr Gr (some (.int (zb b))) Jr Gr := fun Jr Gr hv => by
    have := c_Mod_wnotnull X Jr Gr hi (J 16 (4 * a + 2)) (J 16 (4 * a + 3))
    rw [(hv.2.2.1.1 i hi).1, hb, zb_d1] at this
    rw [hp]; exact this
  cases b
  · rw [if_neg (by decide), nIa] at hK
    exact zSt_W X (R1 := R) (m1 := m) (sp1 := sp) (n1 := n) hN ha (by omega) (by omega) (by decide) (by decide) (by omega) hop hs hK (by omega) zFc_rfl rfl (fun Jr Gr hv => ⟨false, _, _, hM Jr Gr hv, zFr_rfl, rfl, rfl, hv, by simp [nIa]⟩)
  · rw [if_pos rfl, hq] at hK
    exact zSt_W X (R1 := R) (m1 := m) (sp1 := sp) (n1 := n) hN ha (by omega) (by omega) (by decide) (by decide) (by omega) hop hs hK hg zFc_rfl rfl (fun Jr Gr hv => ⟨true, _, _, hM Jr Gr hv, zFr_rfl, rfl, rfl, hv, by rw [if_pos rfl, if_neg (by decide), hq]⟩)
theorem st_add {Jr0 : zJT} {Gr0 : zGT} {i j k : Nat} (h : iAo J N a 17) (hv0 : iRv J G Jr0 Gr0 T m sp n R) (hp : J 16 (4 * a + 1) = nI i) (hi : i < 16) (hq : J 16 (4 * a + 2) = nI j) (hj : j < 16) (hs3 : J 16 (4 * a + 3) = nI k) (hk : k < 16) : zSt X N T a J G m sp n R := by
  obtain ⟨hN, ha, hop, hs⟩ := h
  obtain ⟨x, hx⟩ := iNl_b hv0.2.2.1.2.1 i
  obtain ⟨y, hy⟩ := iNl_b hv0.2.2.1.2.1 j
  have hU := fun (J' : zJT) (G' : zGT) => c_com_add X (k := a) (by omega) J G (J' := J') (G' := G')
  rw [hp, hq, hs3, nIa] at hU
  have hM : ∀ Jr Gr, iRv J G Jr Gr T m sp n R → zK X 1 m_Mod_without [.ref 40, .int (nI 17), .int (J 16 (4 * a + 1)), .int (J 16 (4 * a + 2)), .int (J 16 (4 * a + 3))] Jr Gr (some (.int 0)) (va_up Jr 50 (upd (Jr 50) k (zb (x && y)))) (va_up Gr 49 (vp_updL (Gr 49) k (if x && y then G 23 i + G 23 j else 0))) := fun Jr Gr hv => by
    have := c_Mod_wadd X Jr Gr hi hj hk x y ((hv.2.2.1.1 i hi).1.trans hx) ((hv.2.2.1.1 j hj).1.trans hy)
    rw [(hv.2.2.1.1 i hi).2, (hv.2.2.1.1 j hj).2] at this
    rw [hp, hq, hs3]; exact this
  cases x
  · exact zSt_W X (R1 := R) (m1 := m) (sp1 := sp) (n1 := n) hN ha (by omega) (by omega) (by decide) (by decide) (by omega) hop hs (hU _ _ (c_Mac_sum0 X J G hi hj hk hx)) (by omega) zFc_reg rfl (fun Jr Gr hv => ⟨false, _, _, hM Jr Gr hv, zFr_reg, rfl, rfl, iRv_reg hv false 0 (fun _ => rfl), by simp [nIa]⟩)
  · cases y
    · exact zSt_W X (R1 := R) (m1 := m) (sp1 := sp) (n1 := n) hN ha (by omega) (by omega) (by decide) (by decide) (by omega) hop hs (hU _ _ (c_Mac_sum2 X J G hi hj hk hx hy)) (by omega) zFc_reg rfl (fun Jr Gr hv => ⟨false, _, _, hM Jr Gr hv, zFr_reg, rfl, rfl, iRv_reg hv false 0 (fun _ => rfl), by simp [nIa]⟩)
    · exact zSt_W X (R1 := R) (m1 := m) (sp1 := sp) (n1 := n) hN ha (by omega) (by omega) (by decide) (by decide) (by omega) hop hs (hU _ _ (c_Mac_sum1 X J G hi hj hk hx hy)) (by omega) zFc_reg rfl (fun Jr Gr hv => ⟨false, _, _, hM Jr Gr hv, zFr_reg, rfl, rfl, iRv_reg hv true _ (fun h9 => by cases h9), by simp [nIa]⟩)
theorem st_goto {g : Nat} (h : iAo J N a 19) (hp : J 16 (4 * a + 1) = nI g) (hg : g ≤ N) : zSt X N T a J G m sp n R := by
  obtain ⟨hN, ha, hop, hs⟩ := h
  have hK := c_com_goto X (k := a) (by omega) J G
  rw [hp] at hK
  exact zSt_W X (R1 := R) (m1 := m) (sp1 := sp) (n1 := n) hN ha (by omega) (by omega) (by decide) (by decide) (by omega) hop hs hK hg zFc_rfl rfl (fun Jr Gr hv => ⟨true, _, _, c_Mod_wgoto X Jr Gr _ _ _, zFr_rfl, rfl, rfl, hv, by rw [if_pos rfl, if_pos (by decide), hp]⟩)
end
