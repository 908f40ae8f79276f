def iCu (J : zJT) (G : zGT) (Jr : zJT) (Gr : zGT) (T : Nat) : Prop := ∀ c, c < 3 → ((J (26 + c) 0 = -1 ∧ Jr 51 c = -1) ∨ ∃ t, t < T ∧ J (26 + c) 0 = nI t ∧ Jr 51 c = nI t) ∧ ∃ b : Bool, J (26 + c) 1 = zb b ∧ Jr 52 c = zb b ∧ (b = true → Gr 53 c = G (26 + c) 2)
def iRv (J : zJT) (G : zGT) (Jr : zJT) (Gr : zGT) (T m sp : Nat) (n : Nat → Nat) (R : Nat) : Prop := iH J G Jr Gr T m sp n ∧ iRs J G Jr Gr R ∧ iRg J G Jr Gr ∧ iCu J G Jr Gr T
def iRu (J : zJT) (G : zGT) (Jr : zJT) (Gr : zGT) (T a m sp : Nat) (n : Nat → Nat) (R : Nat) : Prop := iRv J G Jr Gr T m sp n R ∧ Jr 40 18 = nI a ∧ J 1 5 = 0 ∧ Jr 40 17 = 0
def zFc (J J1 : zJT) (G G1 : zGT) : Prop := (∀ a, a = 15 ∨ a = 16 ∨ 29 ≤ a → J1 a = J a) ∧ (∀ a, 29 ≤ a → G1 a = G a)
def zFr (Jr Jr1 : zJT) (Gr Gr1 : zGT) : Prop := (∀ a, a < 40 ∨ a = 46 ∨ a = 47 ∨ a = 48 ∨ 57 ≤ a → Jr1 a = Jr a) ∧ (∀ i, i ≠ 3 → i ≠ 17 → i ≠ 18 → i ≠ 19 → Jr1 40 i = Jr 40 i) ∧ (∀ a, a < 40 ∨ a = 46 ∨ a = 47 ∨ a = 48 ∨ 57 ≤ a → Gr1 a = Gr a)
def iSd (J : zJT) (T N : Nat) : Prop := ∀ k, k < N → ∀ o, o < 22 → J 16 (4 * k) = nI o → ∀ w, w < 3 → (zkn (3 * o + w) = 2 → ∃ t, t < T ∧ J 16 (4 * k + (w + 1)) = nI t) ∧ (zkn (3 * o + w) = 3 → ∃ g, g ≤ N ∧ J 16 (4 * k + (w + 1)) = nI g)
def zSt (X : zX) (N T a : Nat) (J : zJT) (G : zGT) (m sp : Nat) (n : Nat → Nat) (R : Nat) : Prop :=
  ∃ (a1 : Nat) (J1 : zJT) (G1 : zGT) (m1 sp1 : Nat) (n1 : Nat → Nat) (R1 : Nat), zSp X N a J G a1 J1 G1 ∧ a1 ≤ N ∧ zFc J J1 G G1 ∧
    ∀ Jr Gr, iRu J G Jr Gr T a m sp n R → iPr J Jr N → ∃ (g : Bool) (Jr1 : zJT) (Gr1 : zGT), zK X 3 m_Mod_step [.ref 40] Jr Gr (some (.int (zb g))) Jr1 Gr1 ∧ zFr Jr Jr1 Gr Gr1 ∧ iRv J1 G1 Jr1 Gr1 T m1 sp1 n1 R1 ∧ ((g = true ∧ Jr1 40 18 = nI a1 ∧ J1 1 5 = 0 ∧ Jr1 40 17 = 0) ∨ (g = false ∧ a1 = N ∧ Jr1 40 17 = J1 1 5))
section
variable {J Jr J' Jr' : zJT} {G Gr G' Gr' : zGT} {T m sp R : Nat} {n : Nat → Nat}
theorem iCu_c (h : iCu J G Jr Gr T) (e1 : ∀ a, 26 ≤ a → a ≤ 28 → J' a = J a) (e2 : ∀ a, 26 ≤ a → a ≤ 28 → G' a = G a) (r1 : Jr' 51 = Jr 51) (r2 : Jr' 52 = Jr 52) (r3 : Gr' 53 = Gr 53) : iCu J' G' Jr' Gr' T := by
  intro c hc
  rw [e1 _ (by omega) (by omega), e2 _ (by omega) (by omega), r1, r2, r3]; exact h c hc
theorem iRv_c (h : iRv J G Jr Gr T m sp n R) (e1 : ∀ a, 2 ≤ a → a ≤ 28 → J' a = J a) (e2 : ∀ a, 2 ≤ a → a ≤ 28 → G' a = G a) (r0 : ∀ i, i ≠ 17 → i ≠ 18 → Jr' 40 i = Jr 40 i) (r1 : ∀ a, 41 ≤ a → a ≤ 58 → Jr' a = Jr a) (r2 : ∀ a, 41 ≤ a → a ≤ 58 → Gr' a = Gr a) : iRv J' G' Jr' Gr' T m sp n R := by
  obtain ⟨h1, h2, h3, h4⟩ := h
  refine ⟨iH_c h1 ?_ ?_ (fun a _ _ => e1 a (by omega) (by omega)) ?_ ?_ ?_ ?_ ?_ ?_ ?_ ?_ ?_, iRs_c h2 ?_ ?_ ?_ ?_ ?_ ?_ ?_ ?_, iRg_c h3 ?_ ?_ ?_ ?_, iCu_c h4 (fun a _ _ => e1 a (by omega) (by omega)) (fun a _ _ => e2 a (by omega) (by omega)) ?_ ?_ ?_⟩
  all_goals first
    | exact e1 _ (by omega) (by omega)
    | exact e2 _ (by omega) (by omega)
    | exact r0 _ (by omega) (by omega)
    | exact r1 _ (by omega) (by omega)
    | exact r2 _ (by omega) (by omega)
    | exact congrFun (e1 _ (by omega) (by omega)) _
theorem iCu_set (h : iCu J G Jr Gr T) {c : Nat} (b : Bool) (e0 : J' (26 + c) 0 = J (26 + c) 0) (e3 : J' (26 + c) 1 = zb b) (e1 : ∀ a, 26 ≤ a → a ≤ 28 → a ≠ 26 + c → J' a = J a) (e2 : ∀ a, 26 ≤ a → a ≤ 28 → a ≠ 26 + c → G' a = G a)
    (r1 : Jr' 51 = Jr 51) (r2 : Jr' 52 = upd (Jr 52) c (zb b)) (r3 : ∀ x, x ≠ c → Gr' 53 x = Gr 53 x) (hk : b = true → Gr' 53 c = G' (26 + c) 2) : iCu J' G' Jr' Gr' T := by
  intro x hx
  by_cases e : x = c
  · subst e
    rw [e0, e3, r1, r2, up_e]
    exact ⟨(h x hx).1, b, rfl, rfl, hk⟩
  · rw [e1 _ (by omega) (by omega) (by omega), e2 _ (by omega) (by omega) (by omega), r1, r2, up_n e, r3 x e]
    exact h x hx
theorem iRg_set (h : iRg J G Jr Gr) {i : Nat} (b : Bool) (x : Int64) (hx : b = false → x = 0) (e1 : J' 24 = upd (J 24) i (zb b)) (e2 : G' 23 = vp_updL (G 23) i x) (r1 : Jr' 50 = upd (Jr 50) i (zb b)) (r2 : Gr' 49 = vp_updL (Gr 49) i x) : iRg J' G' Jr' Gr' := by
  rw [iRg, e1, e2, r1, r2]
  refine ⟨fun k hk => ?_, iNl_upd h.2.1 i b x hx, fun k => ?_⟩
  · by_cases e : k = i
    · subst e; rw [up_e, up_e, vu_e, vu_e]; exact ⟨rfl, rfl⟩
    · rw [up_n e, up_n e, vu_n e, vu_n e]; exact h.1 k hk
  · by_cases e : k = i
    · exact ⟨b, by rw [e, up_e]⟩
    · rw [up_n e]; exact h.2.2 k
end
theorem zTk_ix {v : Int32} {b : Int32} {k : Nat} (hb : b = nI k) (hk : k < 2 ^ 31) (h : zix v b = true) : ∃ i, i < k ∧ v = nI i := by
  rcases x_ix v hb hk with ⟨_, h2⟩ | ⟨h2, _⟩
  · exact h2
  · rw [zix, h2] at h; cases h
theorem zTk1 {v : Int32} (h : zTk 1 v = true) : ∃ i, i < 3 ∧ v = nI i := zTk_ix rfl (by omega) h
theorem zTk2 {v : Int32} (h : zTk 2 v = true) : ∃ i, i < 3 ∧ v = nI i := zTk_ix rfl (by omega) h
theorem zTk3 {v : Int32} (h : zTk 3 v = true) : ∃ i, i < 61 ∧ v = nI i := zTk_ix rfl (by omega) h
theorem zTk4 {v : Int32} (h : zTk 4 v = true) : ∃ i, i < 4 ∧ v = nI i := zTk_ix rfl (by omega) h
theorem zTk5 {v : Int32} (h : zTk 5 v = true) : ∃ i, i < 16 ∧ v = nI i := zTk_ix rfl (by omega) h
theorem zTk6 {v : Int32} (h : zTk 6 v = true) : ∃ i, i < 12 ∧ v = nI i := zTk_ix rfl (by omega) h
theorem zTk7 {v : Int32} (h : zTk 7 v = true) : ∃ i, 1 ≤ i ∧ i ≤ 4 ∧ v = nI i := by
  simp only [zTk, Bool.and_eq_true, decide_eq_true_eq, i32_le] at h
  rw [show (1 : Int32).toInt = 1 by decide, show (4 : Int32).toInt = 4 by decide] at h
  exact i32_lit (by omega) (by omega)
theorem zAcc_w {o : Nat} {p q s : Int32} (h : zAcc o p q s = true) : zTk (zkn (3 * o)) p = true ∧ zTk (zkn (3 * o + 1)) q = true ∧ zTk (zkn (3 * o + 2)) s = true ∧ (o = 18 → p + q ≤ 16) := by
  simp only [zAcc, Bool.and_eq_true, Bool.or_eq_true, decide_eq_true_eq] at h
  obtain ⟨⟨⟨h1, h2⟩, h3⟩, h4⟩ := h
  exact ⟨h1, h2, h3, fun h9 => by rcases h4 with h4 | h4; exact absurd h9 h4; exact h4⟩
section
variable (X : zX) {J : zJT} {G : zGT} {N T a m sp R : Nat} {n : Nat → Nat}
theorem zSt_C {o a1 : Nat} {J1 : zJT} {G1 : zGT} {m1 sp1 R1 : Nat} {n1 : Nat → Nat} (hN : N ≤ 60) (ha : a < N) (ho : o < 22) (h0 : 0 < o) (hnd : zNd o = true) (hrn : rNeed.getD o 0 = 1) (hg : rGoal.getD o 0 = 1 → False) (h18 : o ≠ 18) (hop : J 16 (4 * a) = nI o) (hs : J 15 0 = nI N) {c : Nat} (hc : J 16 (4 * a + 1) = nI c) (hc3 : c < 3)
    (hK : zK X 4 m_Mac_useCursor [.ref 1, .int (nI o), .int (nI a)] J G (some (.int (nI a1))) J1 G1) (ha1 : a1 ≤ N) (hF : zFc J J1 G G1) (h15 : J1 1 5 = J 1 5) (hsh : ∃ t, t < 3 ∧ J (26 + c) 0 = nI t)
    (hM : ∀ Jr Gr, iRv J G Jr Gr T m sp n R → ∃ (g : Bool) (Jr1 : zJT) (Gr1 : zGT), zK X 2 m_Mod_withCursor [.ref 40, .int (nI o), .int (J 16 (4 * a + 1)), .int (J 16 (4 * a + 2)), .int (J 16 (4 * a + 3))] Jr Gr (some (.int (zb g))) Jr1 Gr1 ∧ zFr Jr Jr1 Gr Gr1 ∧ Jr1 40 17 = Jr 40 17 ∧ Jr1 40 18 = Jr 40 18 ∧ iRv J1 G1 Jr1 Gr1 T m1 sp1 n1 R1 ∧ nI a1 = (if g = true then J 16 (4 * a + 2) else nI a + 1)) : zSt X N T a J G m sp n R := by
  refine ⟨a1, J1, G1, m1, sp1, n1, R1, ⟨o, ho, hop, ?_, by omega, fun _ => hK, fun h9 => ?_⟩, ha1, hF, fun Jr Gr hu hp => ?_⟩
  · rw [hF.1 15 (by omega)]; exact hs
  · rw [hnd] at h9; cases h9
  · obtain ⟨hv, u1, u2, u3⟩ := hu
    obtain ⟨g, Jr1, Gr1, k1, k2, k3, k4, k5, k6⟩ := hM Jr Gr hv
    have W := (hp.2.2.2 a ha).1
    have e0 : Jr 48 (4 * a) = nI o := (W 0 (by omega)).trans hop
    have e1 : Jr 48 (4 * a + 1) = nI c := (W 1 (by omega)).trans hc
    rw [← W 1 (by omega), ← W 2 (by omega), ← W 3 (by omega)] at k1
    rw [← W 2 (by omega)] at k6
    have hsh2 : ¬ Jr 51 c < 0 := by
      obtain ⟨t, ht, e⟩ := hsh
      rcases (hv.2.2.2 c hc3).1 with ⟨h9, _⟩ | ⟨t2, _, _, e2⟩
      · rw [e] at h9; exact absurd h9 (nI_m1 (by omega))
      · rw [e2]; exact nI_pos (by have := hv.1.1.1; omega)
    cases g
    · refine ⟨true, _, _, c_Mod_stepC0 X Jr Gr u1 (by omega) ho e0 h0 hrn e1 hc3 hsh2 (fun h9 => absurd h9 h18) k1, ?_, ?_, Or.inl ⟨rfl, ?_, ?_, ?_⟩⟩
      · refine ⟨fun x hx => ?_, fun i i1 i2 i3 i4 => ?_, k2.2.2⟩
        · rw [zu_n (by omega)]; exact k2.1 x hx
        · rw [zu_e, zu_n i3]; exact k2.2.1 i i1 i2 i3 i4
      · exact iRv_c k5 (fun _ _ _ => rfl) (fun _ _ _ => rfl) (fun i i1 i2 => by rw [zu_e, zu_n i2]) (fun x x1 x2 => zu_n (by omega)) (fun _ _ _ => rfl)
      · rw [zu_e, zu_e, k4, u1, k6]; simp
      · rw [h15, u2]
      · rw [zu_e, zu_n (by omega), k3, u3]
    · refine ⟨true, _, _, c_Mod_stepC1 X Jr Gr u1 (by omega) ho e0 h0 hrn e1 hc3 hsh2 (fun h9 => absurd h9 h18) k1, ?_, ?_, Or.inl ⟨rfl, ?_, ?_, ?_⟩⟩
      · refine ⟨fun x hx => ?_, fun i i1 i2 i3 i4 => ?_, k2.2.2⟩
        · rw [zu_n (by omega)]; exact k2.1 x hx
        · rw [zu_e, zu_n i3]; exact k2.2.1 i i1 i2 i3 i4
      · exact iRv_c k5 (fun _ _ _ => rfl) (fun _ _ _ => rfl) (fun i i1 i2 => by rw [zu_e, zu_n i2]) (fun x x1 x2 => zu_n (by omega)) (fun _ _ _ => rfl)
      · rw [zu_e, zu_e, if_neg hg, k6]; simp
      · rw [h15, u2]
      · rw [zu_e, zu_n (by omega), k3, u3]
theorem zSt_W {o a1 : Nat} {J1 : zJT} {G1 : zGT} {m1 sp1 R1 : Nat} {n1 : Nat → Nat} (hN : N ≤ 60) (ha : a < N) (ho : o < 22) (h0 : 0 < o) (hnd : zNd o = false) (hrn : rNeed.getD o 0 = 0) (h18 : o = 18 → R < 64) (hop : J 16 (4 * a) = nI o) (hs : J 15 0 = nI N)
    (hK : zK X 2 m_Mac_compute [.ref 1, .int (nI o), .int (nI a)] J G (some (.int (nI a1))) J1 G1) (ha1 : a1 ≤ N) (hF : zFc J J1 G G1) (h15 : J1 1 5 = J 1 5)
    (hM : ∀ Jr Gr, iRv J G Jr Gr T m sp n R → ∃ (g : Bool) (Jr1 : zJT) (Gr1 : zGT), zK X 1 m_Mod_without [.ref 40, .int (nI o), .int (J 16 (4 * a + 1)), .int (J 16 (4 * a + 2)), .int (J 16 (4 * a + 3))] Jr Gr (some (.int (zb g))) Jr1 Gr1 ∧ zFr Jr Jr1 Gr Gr1 ∧ Jr1 40 17 = Jr 40 17 ∧ Jr1 40 18 = Jr 40 18 ∧ iRv J1 G1 Jr1 Gr1 T m1 sp1 n1 R1 ∧ nI a1 = (if g = true then (if rGoal.getD o 0 = 1 then J 16 (4 * a + 1) else J 16 (4 * a + 2)) else nI a + 1)) : zSt X N T a J G m sp n R := by
  refine ⟨a1, J1, G1, m1, sp1, n1, R1, ⟨o, ho, hop, ?_, by omega, fun h9 => ?_, fun _ => hK⟩, ha1, hF, fun Jr Gr hu hp => ?_⟩
  · rw [hF.1 15 (by omega)]; exact hs
  · rw [hnd] at h9; cases h9
  · obtain ⟨hv, u1, u2, u3⟩ := hu
    obtain ⟨g, Jr1, Gr1, k1, k2, k3, k4, k5, k6⟩ := hM Jr Gr hv
    have W := (hp.2.2.2 a ha).1
    have e0 : Jr 48 (4 * a) = nI o := (W 0 (by omega)).trans hop
    rw [← W 1 (by omega), ← W 2 (by omega), ← W 3 (by omega)] at k1
    rw [← W 2 (by omega), ← W 1 (by omega)] at k6
    have h18' : o = 18 → ¬ Jr 40 19 = 64 := fun h9 h8 => by
      have := h18 h9
      rw [hv.2.1.2.2.1] at h8
      have := nI_inj (by omega) (by omega) (h8.trans (by decide : (64 : Int32) = nI 64))
      omega
    cases g
    · refine ⟨true, _, _, c_Mod_stepW0 X Jr Gr u1 (by omega) ho e0 h0 hrn h18' k1, ?_, ?_, Or.inl ⟨rfl, ?_, ?_, ?_⟩⟩
      · refine ⟨fun x hx => ?_, fun i i1 i2 i3 i4 => ?_, k2.2.2⟩
        · rw [zu_n (by omega)]; exact k2.1 x hx
        · rw [zu_e, zu_n i3]; exact k2.2.1 i i1 i2 i3 i4
      · exact iRv_c k5 (fun _ _ _ => rfl) (fun _ _ _ => rfl) (fun i i1 i2 => by rw [zu_e, zu_n i2]) (fun x x1 x2 => zu_n (by omega)) (fun _ _ _ => rfl)
      · rw [zu_e, zu_e, k4, u1, k6]; simp
      · rw [h15, u2]
      · rw [zu_e, zu_n (by omega), k3, u3]
    · refine ⟨true, _, _, c_Mod_stepW1 X Jr Gr u1 (by omega) ho e0 h0 hrn h18' k1, ?_, ?_, Or.inl ⟨rfl, ?_, ?_, ?_⟩⟩
      · refine ⟨fun x hx => ?_, fun i i1 i2 i3 i4 => ?_, k2.2.2⟩
        · rw [zu_n (by omega)]; exact k2.1 x hx
        · rw [zu_e, zu_n i3]; exact k2.2.1 i i1 i2 i3 i4
      · exact iRv_c k5 (fun _ _ _ => rfl) (fun _ _ _ => rfl) (fun i i1 i2 => by rw [zu_e, zu_n i2]) (fun x x1 x2 => zu_n (by omega)) (fun _ _ _ => rfl)
      · rw [zu_e, zu_e, k6]; simp
      · rw [h15, u2]
      · rw [zu_e, zu_n (by omega), k3, u3]
theorem st_halt (hN : N ≤ 60) (ha : a < N) (hop : J 16 (4 * a) = nI 0) (hs : J 15 0 = nI N) : zSt X N T a J G m sp n R := by
  refine ⟨N, _, _, m, sp, n, R, ⟨0, by omega, hop, ?_, by omega, fun h9 => ?_, fun _ => hs ▸ c_com_halt X (by omega) J G⟩, Nat.le_refl _, ⟨fun x hx => zu_n (by omega), fun _ _ => rfl⟩, fun Jr Gr hu hp => ?_⟩
  · rw [zu_n (by omega)]; exact hs
  · exact absurd h9 (by decide)
  · obtain ⟨hv, u1, u2, u3⟩ := hu
    have W := (hp.2.2.2 a ha).1
    refine ⟨false, _, _, c_Mod_stepH X Jr Gr u1 (by omega) ((W 0 (by omega)).trans hop), ⟨fun _ _ => rfl, fun _ _ _ _ _ => rfl, fun _ _ => rfl⟩, iRv_c hv (fun x x1 x2 => zu_n (by omega)) (fun _ _ _ => rfl) (fun _ _ _ => rfl) (fun _ _ _ => rfl) (fun _ _ _ => rfl), Or.inr ⟨rfl, rfl, ?_⟩⟩
    rw [u3, zu_e, zu_e]
theorem st_shut {o : Nat} (hN : N ≤ 60) (ha : a < N) (ho : o < 22) (h0 : 0 < o) (hnd : zNd o = true) (hrn : rNeed.getD o 0 = 1) (hop : J 16 (4 * a) = nI o) (hs : J 15 0 = nI N) {c : Nat} (hc : J 16 (4 * a + 1) = nI c) (hc3 : c < 3) (hsh : J (26 + c) 0 = -1) : zSt X N T a J G m sp n R := by
  refine ⟨N, _, _, m, sp, n, R, ⟨o, ho, hop, ?_, by omega, fun _ => hs ▸ c_use_shut X hc3 (by omega) J G hc (nI o) hsh, fun h9 => ?_⟩, Nat.le_refl _, ⟨fun x hx => zu_n (by omega), fun _ _ => rfl⟩, fun Jr Gr hu hp => ?_⟩
  · rw [zu_n (by omega)]; exact hs
  · rw [hnd] at h9; cases h9
  · obtain ⟨hv, u1, u2, u3⟩ := hu
    have W := (hp.2.2.2 a ha).1
    have hsh2 : Jr 51 c < 0 := by
      rcases (hv.2.2.2 c hc3).1 with ⟨_, h9⟩ | ⟨t2, ht2, e2, _⟩
      · rw [h9]; exact m1_lt0
      · rw [hsh] at e2; exact absurd e2.symm (nI_m1 (by have := hv.1.1.1; omega))
    refine ⟨false, _, _, c_Mod_stepO X Jr Gr u1 (by omega) ho ((W 0 (by omega)).trans hop) h0 hrn ((W 1 (by omega)).trans hc) hc3 hsh2, ⟨fun x hx => zu_n (by omega), fun i i1 i2 i3 i4 => by rw [zu_e, zu_n i2], fun _ _ => rfl⟩, iRv_c hv (fun x x1 x2 => zu_n (by omega)) (fun _ _ _ => rfl) (fun i i1 i2 => by rw [zu_e, zu_n i1]) (fun x x1 x2 => zu_n (by omega)) (fun _ _ _ => rfl), Or.inr ⟨rfl, rfl, ?_⟩⟩
    rw [zu_e, zu_e, zu_e, zu_e]
theorem st_full (hN : N ≤ 60) (ha : a < N) (hop : J 16 (4 * a) = nI 18) (hs : J 15 0 = nI N) (hR : R = 64) (hJR : J 17 0 = nI R) : zSt X N T a J G m sp n R := by
  subst hR
  refine ⟨N, _, _, m, sp, n, 64, ⟨18, by omega, hop, ?_, by omega, fun h9 => ?_, fun _ => hs ▸ c_com_result0 X (by omega) J G (c_Res_take0 X _ _ 22 J G hJR)⟩, Nat.le_refl _, ⟨fun x hx => zu_n (by omega), fun _ _ => rfl⟩, fun Jr Gr hu hp => ?_⟩
  · rw [zu_n (by omega)]; exact hs
  · exact absurd h9 (by decide)
  · obtain ⟨hv, u1, u2, u3⟩ := hu
    have W := (hp.2.2.2 a ha).1
    refine ⟨false, _, _, c_Mod_stepR X Jr Gr u1 (by omega) ((W 0 (by omega)).trans hop) hv.2.1.2.2.1, ⟨fun x hx => zu_n (by omega), fun i i1 i2 i3 i4 => by rw [zu_e, zu_n i2], fun _ _ => rfl⟩, iRv_c hv (fun x x1 x2 => zu_n (by omega)) (fun _ _ _ => rfl) (fun i i1 i2 => by rw [zu_e, zu_n i1]) (fun x x1 x2 => zu_n (by omega)) (fun _ _ _ => rfl), Or.inr ⟨rfl, rfl, ?_⟩⟩
    rw [zu_e, zu_e, zu_e, zu_e]
end
