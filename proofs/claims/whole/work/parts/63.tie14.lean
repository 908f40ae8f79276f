theorem zFc_tr {J J1 J2 : zJT} {G G1 G2 : zGT} (h : zFc J J1 G G1) (h2 : zFc J1 J2 G1 G2) : zFc J J2 G G2 := ⟨fun a ha => (h2.1 a ha).trans (h.1 a ha), fun a ha => (h2.2 a ha).trans (h.2 a ha)⟩
theorem zFr_tr {J J1 J2 : zJT} {G G1 G2 : zGT} (h : zFr J J1 G G1) (h2 : zFr J1 J2 G1 G2) : zFr J J2 G G2 := ⟨fun a ha => (h2.1 a ha).trans (h.1 a ha), fun i i1 i2 i3 i4 => (h2.2.1 i i1 i2 i3 i4).trans (h.2.1 i i1 i2 i3 i4), fun a ha => (h2.2.2 a ha).trans (h.2.2 a ha)⟩
theorem iPr_F {J J1 Jr Jr1 : zJT} {G G1 Gr Gr1 : zGT} {N : Nat} (h : iPr J Jr N) (hF : zFc J J1 G G1) (hR : zFr Jr Jr1 Gr Gr1) : iPr J1 Jr1 N :=
  iPr_c h (by rw [hF.1 15 (by omega)]) (hF.1 16 (by omega)) (hR.2.1 10 (by omega) (by omega) (by omega) (by omega)) (hR.1 48 (by omega))
theorem iSd_F {J J1 : zJT} {G G1 : zGT} {T N : Nat} (h : iSd J T N) (hF : zFc J J1 G G1) : iSd J1 T N := by
  rw [iSd, hF.1 16 (by omega)]; exact h
theorem zEx_end (X : zX) {N : Nat} {J : zJT} {G : zGT} {a : Nat} (ha : N ≤ a) : ∀ F, zEx X N F a J G a J G
  | 0 => ⟨rfl, rfl, rfl⟩
  | F + 1 => Or.inl ⟨ha, rfl, rfl, rfl⟩
theorem rEx_end (X : zX) {N : Nat} {J : zJT} {G : zGT} {a : Nat} (h18 : J 40 18 = nI a) (ha60 : a ≤ 60) (h10 : J 40 10 = nI N) (ha : N ≤ a) : ∀ F, rEx X N F true J G J G
  | 0 => ⟨a, h18, ha60, h10, Or.inl ⟨ha, rfl, rfl⟩⟩
  | F + 1 => ⟨a, h18, ha60, h10, Or.inl ⟨ha, rfl, rfl⟩⟩
theorem rEx_f (X : zX) {N : Nat} {J : zJT} {G : zGT} : ∀ F, rEx X N F false J G J G
  | 0 => ⟨rfl, rfl⟩
  | F + 1 => ⟨rfl, rfl⟩
theorem i_chain (X : zX) {N T : Nat} (hN : N ≤ 60) : ∀ (F a : Nat) (J : zJT) (G : zGT) (m sp : Nat) (n : Nat → Nat) (R : Nat), (∃ Jr0 Gr0, iRu J G Jr0 Gr0 T a m sp n R ∧ iPr J Jr0 N) → iSd J T N → a ≤ N →
    ∃ a' J' G', zEx X N F a J G a' J' G' ∧ zFc J J' G G' ∧ ∀ Jr Gr, iRu J G Jr Gr T a m sp n R → iPr J Jr N → ∃ Jr' Gr', rEx X N F true Jr Gr Jr' Gr' ∧ zFr Jr Jr' Gr Gr' ∧ (∃ m' sp' n' R', iRv J' G' Jr' Gr' T m' sp' n' R') ∧ Jr' 40 17 = (if a' < N then 1 else J' 1 5) := by
  intro F
  induction F with
  | zero =>
    intro a J G m sp n R _ _ ha
    refine ⟨a, J, G, ⟨rfl, rfl, rfl⟩, zFc_rfl, fun Jr Gr hu hp => ?_⟩
    obtain ⟨hv, u1, u2, u3⟩ := hu
    by_cases h : a < N
    · refine ⟨_, _, ⟨a, u1, by omega, hp.2.2.1, Or.inr ⟨h, rfl, rfl⟩⟩, ⟨fun x hx => zu_n (by omega), fun i i1 i2 i3 i4 => by rw [zu_e, zu_n i2], fun _ _ => rfl⟩, ⟨m, sp, n, R, iRv_c hv (fun _ _ _ => rfl) (fun _ _ _ => rfl) (fun i i1 i2 => by rw [zu_e, zu_n i1]) (fun x x1 x2 => zu_n (by omega)) (fun _ _ _ => rfl)⟩, ?_⟩
      rw [if_pos h, zu_e, zu_e]
    · exact ⟨Jr, Gr, rEx_end X u1 (by omega) hp.2.2.1 (by omega) 0, zFr_rfl, ⟨m, sp, n, R, hv⟩, by rw [if_neg h, u2, u3]⟩
  | succ F ih =>
    intro a J G m sp n R hex hSd ha
    by_cases h : a < N
    case neg =>
      refine ⟨a, J, G, zEx_end X (by omega) _, zFc_rfl, fun Jr Gr hu hp => ?_⟩
      obtain ⟨hv, u1, u2, u3⟩ := hu
      exact ⟨Jr, Gr, rEx_end X u1 (by omega) hp.2.2.1 (by omega) _, zFr_rfl, ⟨m, sp, n, R, hv⟩, by rw [if_neg h, u2, u3]⟩
    obtain ⟨Jr0, Gr0, hu0, hp0⟩ := hex
    obtain ⟨o, ho, hop, hacc⟩ := (hp0.2.2.2 a h).2
    obtain ⟨a1, J1, G1, m1, sp1, n1, R1, hSp, ha1, hF, hS⟩ := so_all X hN h hp0.2.1 hu0.1 hSd o ho hop hacc
    by_cases h1 : a1 < N
    · obtain ⟨g0, Jr1, Gr1, _, hFr0, hv1, hor⟩ := hS Jr0 Gr0 hu0 hp0
      have hu1 : iRu J1 G1 Jr1 Gr1 T a1 m1 sp1 n1 R1 := by
        rcases hor with ⟨_, e1, e2, e3⟩ | ⟨_, e1, _⟩
        · exact ⟨hv1, e1, e2, e3⟩
        · omega
      obtain ⟨a', J', G', hE, hF', hR'⟩ := ih a1 J1 G1 m1 sp1 n1 R1 ⟨Jr1, Gr1, hu1, iPr_F hp0 hF hFr0⟩ (iSd_F hSd hF) ha1
      refine ⟨a', J', G', Or.inr ⟨h, a1, J1, G1, hSp, hE⟩, zFc_tr hF hF', fun Jr Gr hu hp => ?_⟩
      obtain ⟨g, Jr2, Gr2, k1, k2, k3, k4⟩ := hS Jr Gr hu hp
      rcases k4 with ⟨e0, e1, e2, e3⟩ | ⟨_, e1, _⟩
      case inr => omega
      subst e0
      obtain ⟨Jr', Gr', q1, q2, q3, q4⟩ := hR' Jr2 Gr2 ⟨k3, e1, e2, e3⟩ (iPr_F hp hF k2)
      exact ⟨Jr', Gr', ⟨a, hu.2.1, by omega, hp.2.2.1, Or.inr ⟨h, true, Jr2, Gr2, k1, q1⟩⟩, zFr_tr k2 q2, q3, q4⟩
    · have hN1 : a1 = N := by omega
      subst hN1
      refine ⟨a1, J1, G1, Or.inr ⟨h, a1, J1, G1, hSp, zEx_end X (Nat.le_refl _) F⟩, hF, fun Jr Gr hu hp => ?_⟩
      obtain ⟨g, Jr2, Gr2, k1, k2, k3, k4⟩ := hS Jr Gr hu hp
      rcases k4 with ⟨e0, e1, e2, e3⟩ | ⟨e0, _, e1⟩
      · subst e0
        exact ⟨Jr2, Gr2, ⟨a, hu.2.1, by omega, hp.2.2.1, Or.inr ⟨h, true, Jr2, Gr2, k1, rEx_end X e1 (by omega) (iPr_F hp hF k2).2.2.1 (Nat.le_refl _) F⟩⟩, k2, ⟨_, _, _, _, k3⟩, by rw [if_neg h1, e2, e3]⟩
      · subst e0
        exact ⟨Jr2, Gr2, ⟨a, hu.2.1, by omega, hp.2.2.1, Or.inr ⟨h, false, Jr2, Gr2, k1, rEx_f X F⟩⟩, k2, ⟨_, _, _, _, k3⟩, by rw [if_neg h1, e1]⟩
theorem x_k2 : ∀ o, o < 22 → ∀ w, w < 3 → (zkn (3 * o + w) = 2 ↔ (o = 1 ∧ w = 1)) := by decide
theorem x_k3 : ∀ o, o < 22 → ∀ w, w < 3 → (zkn (3 * o + w) = 3 ↔ rGn.getD o 0 = w + 1) := by decide
theorem zAcc_k {f : Nat → Int32} {k o : Nat} (h : zAcc o (f (4 * k + 1)) (f (4 * k + 2)) (f (4 * k + 3)) = true) : ∀ w, w < 3 → zTk (zkn (3 * o + w)) (f (4 * k + (w + 1))) = true := by
  obtain ⟨h1, h2, h3, _⟩ := zAcc_w h
  intro w hw
  have : w = 0 ∨ w = 1 ∨ w = 2 := by omega
  rcases this with h9 | h9 | h9 <;> subst h9
  · exact h1
  · exact h2
  · exact h3
theorem i_sd {J Jr : zJT} {N T : Nat} (hp : iPr J Jr N) (hT : T ≤ 3) (h2 : J 2 1 = nI T) (h : ∀ k, k < N → ∀ w, w < 3 → zok J N (J 2 1) k w) : iSd J T N := by
  intro k hk o ho hop w hw
  obtain ⟨o2, ho2, hop2, hacc⟩ := (hp.2.2.2 k hk).2
  have := nI_inj (by omega) (by omega) (hop.symm.trans hop2)
  subst this
  have hz := zAcc_k hacc w hw
  have hok := h k hk w hw o ho hop
  refine ⟨fun e => ?_, fun e => ?_⟩
  · rw [e] at hz
    obtain ⟨i, hi, hv⟩ := zTk2 hz
    have := hok.1 e
    rw [hv, h2, i32_lt, nI_toInt (by omega), nI_toInt (by omega)] at this
    exact ⟨i, by omega, hv⟩
  · rw [e] at hz
    obtain ⟨i, hi, hv⟩ := zTk3 hz
    have := hok.2 e
    have hN := hp.1
    rw [hv, i32_le, nI_toInt (by omega), nI_toInt (by omega)] at this
    exact ⟨i, by omega, hv⟩
theorem i_sound {J Jr : zJT} {N T : Nat} (hp : iPr J Jr N) (hT : T ≤ 3) (h2 : J 2 1 = nI T) (hr : Jr 40 1 = nI T) : (∀ k, k < N → ∀ w, w < 3 → zok J N (J 2 1) k w) ↔ ∀ k, k < N → rS Jr N k := by
  have hN := hp.1
  constructor
  · intro h k hk o ho hop
    obtain ⟨W, o2, ho2, hop2, hacc⟩ := hp.2.2.2 k hk
    have hop' : J 16 (4 * k) = nI o := (W 0 (by omega)).symm.trans hop
    have sd := i_sd hp hT h2 h k hk o ho hop'
    refine ⟨fun e => ?_, fun e => ?_⟩
    · subst e
      obtain ⟨t, ht, hv⟩ := (sd 1 (by omega)).1 (by decide)
      rw [W 2 (by omega), hv, hr, Bool.and_eq_true, decide_eq_true_iff, decide_eq_true_iff]
      exact ⟨nI_pos' (by omega), nI_lt ht (by omega)⟩
    · have hg := (rGn_ok o ho).2
      obtain ⟨w, hw⟩ : ∃ w, rGn.getD o 0 = w + 1 := ⟨rGn.getD o 0 - 1, by omega⟩
      obtain ⟨g, hg2, hv⟩ := (sd w (by omega)).2 ((x_k3 o ho w (by omega)).2 hw)
      rw [hw, W (w + 1) (by omega), hv]
      exact nI_le hg2 (by omega)
  · intro h k hk w hw o ho hop
    obtain ⟨W, o2, ho2, hop2, hacc⟩ := hp.2.2.2 k hk
    have hr2 := h k hk o ho ((W 0 (by omega)).trans hop)
    refine ⟨fun e => ?_, fun e => ?_⟩
    · obtain ⟨e1, e2⟩ := (x_k2 o ho w hw).1 e
      subst e2
      have := hr2.1 e1
      rw [W 2 (by omega), hr, Bool.and_eq_true, decide_eq_true_iff, decide_eq_true_iff] at this
      rw [h2]; exact this.2
    · have e1 := (x_k3 o ho w hw).1 e
      have := hr2.2 (by omega)
      rw [e1, W (w + 1) (by omega)] at this
      exact this
theorem rK_50 {J : zJT} : ∀ k i, rK J k 50 i = if i < k then 0 else J 50 i
  | 0, i => by rw [rK, if_neg (by omega)]
  | k + 1, i => by
    rw [rK, zu_e, upd]
    by_cases e : i = k
    · rw [if_pos e, if_pos (by omega)]
    · rw [if_neg e, rK_50 k i]
      by_cases e2 : i < k
      · rw [if_pos e2, if_pos (by omega)]
      · rw [if_neg e2, if_neg (by omega)]
theorem rK_o {J : zJT} {a : Nat} (h : a ≠ 50) : ∀ k, rK J k a = J a
  | 0 => rfl
  | k + 1 => by rw [rK, zu_n h, rK_o h k]
theorem rKG_49 {G : zGT} : ∀ k i, rKG G k 49 i = if i < k then 0 else G 49 i
  | 0, i => by rw [rKG, if_neg (by omega)]
  | k + 1, i => by
    rw [rKG, zu_e, vp_updL]
    by_cases e : i = k
    · rw [if_pos e, if_pos (by omega)]
    · rw [if_neg e, rKG_49 k i]
      by_cases e2 : i < k
      · rw [if_pos e2, if_pos (by omega)]
      · rw [if_neg e2, if_neg (by omega)]
theorem rKG_o {G : zGT} {a : Nat} (h : a ≠ 49) : ∀ k, rKG G k a = G a
  | 0 => rfl
  | k + 1 => by rw [rKG, zu_n h, rKG_o h k]
theorem rC_o {J : zJT} {a : Nat} (h : a ≠ 51) (h2 : a ≠ 52) : ∀ k, rC J k a = J a
  | 0 => rfl
  | k + 1 => by rw [rC, zu_n h2, zu_n h, rC_o h h2 k]
theorem rC_51 {J : zJT} : ∀ k i, i < k → rC J k 51 i = -1 ∧ rC J k 52 i = 0
  | 0, i, h => absurd h (by omega)
  | k + 1, i, h => by
    rw [rC, zu_e, zu_n (by decide), zu_e, upd, upd]
    by_cases e : i = k
    · rw [if_pos e, if_pos e]; exact ⟨rfl, rfl⟩
    · rw [if_neg e, if_neg e]; exact rC_51 k i (by omega)
theorem rRs_o {J : zJT} {a : Nat} (h : a ≠ 40) (h2 : a ≠ 50) (h3 : a ≠ 51) (h4 : a ≠ 52) : rRs J a = J a := by
  rw [rRs, zu_n h, rC_o h3 h4, rK_o h2, rTh_n h]
theorem rRs_40 {J : zJT} : rRs J 40 = va_up (va_up (va_up (rTh J 0 40) 19 0) 17 0) 18 0 := by
  rw [rRs, zu_e, rC_o (by decide) (by decide), rK_o (by decide)]
theorem rRs_50 {J : zJT} {i : Nat} : rRs J 50 i = if i < 16 then 0 else J 50 i := by
  rw [rRs, zu_n (by decide), rC_o (by decide) (by decide), rK_50, rTh_n (by decide)]
theorem zrsJ_o {J : zJT} {a : Nat} (h1 : a ≠ 1) (h17 : a ≠ 17) (h24 : a ≠ 24) (h : ¬ (26 ≤ a ∧ a < 29)) : zrsJ J a = J a := by
  rw [zrsJ, zu_n h1, zu_n h17]
  simp only [zsh3]
  rw [if_neg h, zu_n h24]
theorem i_rst {J Jr : zJT} {G Gr : zGT} {T m sp R : Nat} {n : Nat → Nat} (hH : iH J G Jr Gr T m sp n) (hS : iRs J G Jr Gr R) (hR : iRg J G Jr Gr) : iRu (zrsJ J) (zrsG G) (rRs Jr) (rKG Gr 16) T 0 m sp n 0 := by
  refine ⟨⟨iH_c hH ?_ ?_ (fun a _ _ => zrsJ_o (by omega) (by omega) (by omega) (by omega)) rfl rfl ?_ ?_ ?_ ?_ ?_ ?_ ?_, ⟨by omega, rfl, ?_, fun i hi => absurd hi (by omega), ?_⟩, ⟨fun k hk => ?_, fun i => ?_, fun i => ?_⟩, fun c hc => ?_⟩, ?_, rfl, ?_⟩
  · rw [zrsJ_o (by omega) (by omega) (by omega) (by omega)]
  · rw [zrsJ_o (by omega) (by omega) (by omega) (by omega)]
  · rw [rRs_40, zu_n (by omega), zu_n (by omega), zu_n (by omega), rTh_i (by omega)]
  · rw [rRs_40, zu_n (by omega), zu_n (by omega), zu_n (by omega), rTh_i (by omega)]
  · exact rRs_o (by omega) (by omega) (by omega) (by omega)
  · exact rRs_o (by omega) (by omega) (by omega) (by omega)
  · exact rRs_o (by omega) (by omega) (by omega) (by omega)
  · exact rKG_o (by omega) 16
  · exact rKG_o (by omega) 16
  · rw [rRs_40, zu_n (by omega), zu_n (by omega), zu_e]; rfl
  · rw [zrsJ_o (by omega) (by omega) (by omega) (by omega)]; exact hS.2.2.2.2
  · rw [rRs_50, rKG_49, if_pos hk, if_pos hk]
    have e1 : zrsJ J 24 k = 0 := by
      rw [zrsJ, zu_n (by omega), zu_n (by omega)]
      simp only [zsh3]
      rw [if_neg (by omega), zu_e, zcl, if_pos hk]
    have e2 : zrsG G 23 k = 0 := by rw [zrsG, zu_e, zclL, if_pos hk]
    exact ⟨e1.symm, e2.symm⟩
  · have e1 : zrsJ J 24 i = if i < 16 then 0 else J 24 i := by
      rw [zrsJ, zu_n (by omega), zu_n (by omega)]
      simp only [zsh3]
      rw [if_neg (by omega), zu_e, zcl]
    have e2 : zrsG G 23 i = if i < 16 then 0 else G 23 i := by rw [zrsG, zu_e, zclL]
    rw [e1, e2]
    by_cases h : i < 16
    · rw [if_pos h, if_pos h]; exact ⟨false, rfl, fun _ => rfl⟩
    · rw [if_neg h, if_neg h]; exact hR.2.1 i
  · rw [rRs_50]
    by_cases h : i < 16
    · rw [if_pos h]; exact ⟨false, rfl⟩
    · rw [if_neg h]; exact hR.2.2 i
  · have e1 : zrsJ J (26 + c) = va_up (va_up (J (26 + c)) 0 (-1)) 1 0 := by
      rw [zrsJ, zu_n (by omega), zu_n (by omega)]
      simp only [zsh3]
      rw [if_pos (by omega), zu_n (by omega)]
    have e2 : rRs Jr 51 c = -1 := by rw [rRs, zu_n (by decide)]; exact (rC_51 3 c hc).1
    have e3 : rRs Jr 52 c = 0 := by rw [rRs, zu_n (by decide)]; exact (rC_51 3 c hc).2
    rw [e1, e2, e3, zu_e, zu_n (by decide), zu_e]
    exact ⟨Or.inl ⟨rfl, rfl⟩, false, rfl, rfl, fun h9 => by cases h9⟩
  · rw [rRs_40, zu_e]; rfl
  · rw [rRs_40, zu_n (by omega), zu_e]
theorem i_run (X : zX) (J : zJT) (G : zGT) (h : zIv J G) (v : Int32) : zCallI X m_Law_run h_Law_run [.ref 0, .int v, .ref 59] m_Mod_run [.ref 40, .int v] J G := by
  obtain ⟨T, m, sp, n, hH, N, R, nc, mo, mc, jo, h1, h2, h3, h4, h5⟩ := id h
  obtain ⟨a1, a2, a3⟩ := hH.1
  by_cases hv0 : v < 0
  · exact ⟨1, 1, 6, J, G, 0, 4, _, _, by omega, by omega, by omega, w_run_A X J G v (by omega) (t_TM_run1 X J G v hv0), c_Mod_run1 X J G v hv0, rTh_0, fun h9 => absurd h9 (by decide), zIv_t h 1⟩
  by_cases hv4 : v ≤ 4000
  case neg => exact ⟨1, 1, 6, J, G, 0, 4, _, _, by omega, by omega, by omega, w_run_A X J G v (by omega) (t_TM_run2 X J G v hv0 hv4), c_Mod_run2 X J G v hv0 hv4, rTh_0, fun h9 => absurd h9 (by decide), zIv_t h 1⟩
  have hopJ : ∀ k, k < N → ∃ o, o < 22 ∧ J 16 (4 * k) = nI o := fun k hk => by
    obtain ⟨o, ho, e, _⟩ := (h1.2.2.2 k hk).2
    exact ⟨o, ho, e⟩
  have hsiff := fun (Jr : zJT) (hp : iPr J Jr N) (hr : Jr 40 1 = nI T) => i_sound hp a1 a2 hr
  have hopR : ∀ (Jr : zJT), iPr J Jr N → ∀ k, k < N → ∃ o, o < 22 ∧ Jr 48 (4 * k) = nI o := fun Jr hp k hk => by
    obtain ⟨W, o, ho, e, _⟩ := hp.2.2.2 k hk
    exact ⟨o, ho, (W 0 (by omega)).trans e⟩
  by_cases hsd : ∀ k, k < N → ∀ w, w < 3 → zok J N (J 2 1) k w
  case neg =>
    have hs := c_Pro_sound X J G h1.2.1 h1.1 hopJ (J 2 1) false ⟨fun h9 => (by cases h9), fun h9 => absurd h9 hsd⟩
    have hr := c_Mod_sound X J G h1.2.2.1 h1.1 (hopR J h1) false ⟨fun h9 => (by cases h9), fun h9 => absurd ((hsiff J h1 a3).2 h9) hsd⟩
    exact ⟨1, 1, 6, J, G, 0, 4, _, _, by omega, by omega, by omega, w_run_A X J G v (by omega) (t_TM_run3 X J G v hv0 hv4 hs), c_Mod_run3 X J G v hv0 hv4 hr, rTh_0, fun h9 => absurd h9 (by decide), zIv_t h 1⟩
  have hs := c_Pro_sound X J G h1.2.1 h1.1 hopJ (J 2 1) true ⟨fun _ => hsd, fun _ => rfl⟩
  obtain ⟨F, hF0, hF, hvF⟩ : ∃ F, 0 ≤ F ∧ F ≤ 4000 ∧ v = nI F := by
    rw [i32_lt] at hv0
    rw [i32_le] at hv4
    have e0 : (0 : Int32).toInt = 0 := by decide
    have e4 : (4000 : Int32).toInt = 4000 := by decide
    exact i32_lit (by omega) (by omega)
  subst hvF
  have hFc0 : zFc J (zrsJ J) G (zrsG G) := ⟨fun x hx => zrsJ_o (by omega) (by omega) (by omega) (by omega), fun x hx => by rw [zrsG, zu_n (by omega)]⟩
  have hPr0 : ∀ Jr, iPr J Jr N → iPr (zrsJ J) (rRs Jr) N := fun Jr hp => iPr_c hp (by rw [hFc0.1 15 (by omega)]) (hFc0.1 16 (by omega)) (by rw [rRs_40, zu_n (by omega), zu_n (by omega), zu_n (by omega), rTh_i (by omega)]) (rRs_o (by omega) (by omega) (by omega) (by omega))
  have hSd := iSd_F (i_sd h1 a1 a2 hsd) hFc0
  obtain ⟨a', J', G', hE, hF', hR'⟩ := i_chain X h1.1 F 0 (zrsJ J) (zrsG G) m sp n 0 ⟨rRs J, rKG G 16, i_rst hH h2 h5, hPr0 J h1⟩ hSd (by omega)
  have hC := zFc_tr hFc0 hF'
  have key : ∀ g59, ∃ J2 G2, rEx X N F true (rRs J') (rKG (va_up G' 59 g59) 16) J2 G2 ∧ zFr (rRs J') J2 (rKG (va_up G' 59 g59) 16) G2 ∧ (∃ m' sp' n' R', iRv J' G' J2 G2 T m' sp' n' R') ∧ J2 40 17 = (if a' < N then 1 else J' 1 5) := by
    intro g59
    have E : ∀ x, 40 ≤ x → J' x = J x := fun x hx => hC.1 x (by omega)
    have EG : ∀ x, 40 ≤ x → x ≤ 58 → va_up G' 59 g59 x = G x := fun x hx hx2 => by rw [zu_n (by omega), hC.2 x (by omega)]
    refine hR' _ _ (i_rst (iH_c hH rfl rfl (fun _ _ _ => rfl) rfl rfl (by rw [E 40 (by omega)]) (by rw [E 40 (by omega)]) (E _ (by omega)) (E _ (by omega)) (E _ (by omega)) (EG _ (by omega) (by omega)) (EG _ (by omega) (by omega))) (iRs_c h2 rfl rfl rfl rfl (by rw [E 40 (by omega)]) (E _ (by omega)) (E _ (by omega)) (EG _ (by omega) (by omega))) (iRg_c h5 rfl rfl (E _ (by omega)) (EG _ (by omega) (by omega)))) (hPr0 J' (iPr_c h1 rfl rfl (by rw [E 40 (by omega)]) (E _ (by omega))))
  have hsR : ∀ G1, zK X 1 m_Mod_sound [.ref 40] J' G1 (some (.int 1)) J' G1 := fun G1 => by
    have E : ∀ x, 40 ≤ x → J' x = J x := fun x hx => hC.1 x (by omega)
    have hp : iPr J J' N := iPr_c h1 rfl rfl (by rw [E 40 (by omega)]) (E _ (by omega))
    exact c_Mod_sound X J' G1 hp.2.2.1 h1.1 (hopR J' hp) true ⟨fun _ => (hsiff J' hp (by rw [E 40 (by omega)]; exact a3)).1 hsd, fun _ => rfl⟩
  have hTM := c_TM_run X J G (nI F) hv0 hv4 hs (c_Mac_execute X h1.1 hF J G (by rw [hFc0.1 15 (by omega)]; exact h1.2.1) hE)
  obtain ⟨J2, G2, q1, q2, ⟨m', sp', n', R', q3⟩, q4⟩ := key (vp_updL (G' 59) 0 (Int32.toInt64 (if a' < N then 1 else J' 1 5)))
  refine ⟨0, 0, 0, _, _, _, 4, _, _, by omega, by omega, by omega, w_run X J G _ (by omega) _ hTM, c_Mod_run X J' _ h1.1 hF (hsR _) q1, ?_, fun _ => ?_, T, m', sp', n', ?_, N, R', nc, mo, mc, jo, ?_, ?_, ?_, ?_, ?_⟩
  · rw [q2.2.1 0 (by omega) (by omega) (by omega) (by omega), rRs_40, zu_n (by omega), zu_n (by omega), zu_n (by omega), rTh_0]
  · rw [q2.2.2 59 (by omega), rKG_o (by omega), zu_e, vu_e, q4]
  all_goals
    have A1 : ∀ x, x < 40 → J2 x = J' x := fun x hx => by rw [q2.1 x (by omega), rRs_o (by omega) (by omega) (by omega) (by omega)]
    have A2 : ∀ x, x < 40 → G2 x = G' x := fun x hx => by rw [q2.2.2 x (by omega), rKG_o (by omega), zu_n (by omega)]
    have A3 : ∀ x, x = 46 ∨ x = 47 ∨ x = 48 ∨ (57 ≤ x ∧ x ≤ 58) → J2 x = J x := fun x hx => by rw [q2.1 x (by omega), rRs_o (by omega) (by omega) (by omega) (by omega), hC.1 x (by omega)]
    have A4 : ∀ x, x = 46 ∨ x = 47 ∨ x = 48 ∨ (57 ≤ x ∧ x ≤ 58) → G2 x = G x := fun x hx => by rw [q2.2.2 x (by omega), rKG_o (by omega), zu_n (by omega), hC.2 x (by omega)]
    have A5 : ∀ i, i ≠ 0 → i ≠ 3 → i ≠ 17 → i ≠ 18 → i ≠ 19 → J2 40 i = J 40 i := fun i i0 i1 i2 i3 i4 => by rw [q2.2.1 i i1 i2 i3 i4, rRs_40, zu_n i3, zu_n i2, zu_n i4, rTh_i i0, hC.1 40 (by omega)]
  · exact iH_c q3.1 (by rw [A1 2 (by omega)]) (by rw [A1 2 (by omega)]) (fun a _ _ => A1 a (by omega)) (A2 _ (by omega)) (A2 _ (by omega)) rfl rfl rfl rfl rfl rfl rfl
  · exact iPr_c h1 (by rw [A1 15 (by omega), hC.1 15 (by omega)]) (by rw [A1 16 (by omega), hC.1 16 (by omega)]) (A5 10 (by omega) (by omega) (by omega) (by omega) (by omega)) (A3 48 (by omega))
  · exact iRs_c q3.2.1 (by rw [A1 17 (by omega)]) (A1 _ (by omega)) (A1 _ (by omega)) (A2 _ (by omega)) rfl rfl rfl rfl
  · exact iCm_c h3 (by rw [A1 31 (by omega), hC.1 31 (by omega)]) (by rw [A2 30 (by omega), hC.2 30 (by omega)]) (A3 47 (by omega)) (A4 46 (by omega))
  · exact iQu_c h4 (Nat.le_refl _) (fun a _ _ => by rw [A1 a (by omega), hC.1 a (by omega)]) (fun i _ _ => A5 i (by omega) (by omega) (by omega) (by omega) (by omega)) (A3 57 (by omega)) (A3 58 (by omega))
  · exact iRg_c q3.2.2.1 (A1 _ (by omega)) (A2 _ (by omega)) rfl rfl
