def iPr (J Jr : zJT) (N : Nat) : Prop := N ≤ 60 ∧ J 15 0 = nI N ∧ Jr 40 10 = nI N ∧ ∀ k, k < N → (∀ w, w < 4 → Jr 48 (4 * k + w) = J 16 (4 * k + w)) ∧ ∃ o, o < 22 ∧ J 16 (4 * k) = nI o ∧ zAcc o (J 16 (4 * k + 1)) (J 16 (4 * k + 2)) (J 16 (4 * k + 3)) = true
def iRs (J : zJT) (G : zGT) (Jr : zJT) (Gr : zGT) (R : Nat) : Prop := R ≤ 64 ∧ J 17 0 = nI R ∧ Jr 40 19 = nI R ∧ (∀ i, i < R → ∃ w, w ≤ 4 ∧ J 18 i = nI w ∧ Jr 54 i = nI w ∧ ∀ k, k < w → Jr 56 (4 * i + k) = J 21 (4 * i + k) ∧ Gr 55 (4 * i + k) = G 20 (4 * i + k)) ∧ iNl (J 21) (G 20)
def iCm (J : zJT) (G : zGT) (Jr : zJT) (Gr : zGT) : Prop := (∀ k, k < 4 → Jr 47 k = J 31 k ∧ Gr 46 k = G 30 k) ∧ iNl (J 31) (G 30)
def iRg (J : zJT) (G : zGT) (Jr : zJT) (Gr : zGT) : Prop := (∀ k, k < 16 → Jr 50 k = J 24 k ∧ Gr 49 k = G 23 k) ∧ iNl (J 24) (G 23) ∧ ∀ i, ∃ b : Bool, Jr 50 i = zb b
def iCk (k : Int32) : Prop := k = -1 ∨ ∃ j, j < 4 ∧ k = nI j
def iQu (J Jr : zJT) (T nc mo mc : Nat) (jo : Bool) : Prop :=
  (nc ≤ 2 ∧ mo ≤ 4 ∧ mc ≤ 4) ∧ (J 32 3 = nI nc ∧ J 32 1 = nI mo ∧ J 32 2 = nI mc ∧ J 32 10 = zb jo) ∧ (Jr 40 25 = nI mo ∧ Jr 40 27 = nI mc ∧ Jr 40 29 = zb jo) ∧
  (∀ c, c < nc → ∃ t, t < T ∧ J 33 c = nI t ∧ Jr 40 (23 + c) = nI t) ∧ (∀ c, nc ≤ c → c < 2 → Jr 40 (23 + c) = -1) ∧ (nc = 0 → mo = 0) ∧
  (∀ i, i < mo → J 34 i = Jr 57 (2 * i) ∧ J 35 i = Jr 57 (2 * i + 1) ∧ (∃ c, c < nc ∧ J 34 i = nI c) ∧ iCk (J 35 i)) ∧
  (∀ i, i < mc → (J 36 i = Jr 58 (4 * i) ∧ J 37 i = Jr 58 (4 * i + 1) ∧ J 38 i = Jr 58 (4 * i + 2) ∧ J 39 i = Jr 58 (4 * i + 3)) ∧ (∃ c, c < nc ∧ J 36 i = nI c) ∧ iCk (J 37 i) ∧ ∃ o, o < 8 ∧ J 38 i = nI o) ∧
  (jo = true → nc = 2 ∧ J 32 11 = Jr 40 30 ∧ J 32 12 = Jr 40 31 ∧ iCk (J 32 11) ∧ iCk (J 32 12))
def iE (J : zJT) (G : zGT) (Jr : zJT) (Gr : zGT) (T : Nat) : Prop := ∃ N R nc mo mc jo, iPr J Jr N ∧ iRs J G Jr Gr R ∧ iCm J G Jr Gr ∧ iQu J Jr T nc mo mc jo ∧ iRg J G Jr Gr
def zI2 (J : zJT) (G : zGT) (Jr : zJT) (Gr : zGT) : Prop := ∃ T m sp n, iH J G Jr Gr T m sp n ∧ iE J G Jr Gr T
abbrev zIv (J : zJT) (G : zGT) : Prop := zI2 J G J G
section
variable {J Jr J' Jr' : zJT} {G Gr G' Gr' : zGT} {T T' N R nc mo mc : Nat} {jo : Bool}
theorem iPr_c (h : iPr J Jr N) (e1 : J' 15 0 = J 15 0) (e2 : J' 16 = J 16) (r1 : Jr' 40 10 = Jr 40 10) (r2 : Jr' 48 = Jr 48) : iPr J' Jr' N := by
  rw [iPr, e1, e2, r1, r2]; exact h
theorem iRs_c (h : iRs J G Jr Gr R) (e1 : J' 17 0 = J 17 0) (e2 : J' 18 = J 18) (e3 : J' 21 = J 21) (e4 : G' 20 = G 20) (r1 : Jr' 40 19 = Jr 40 19) (r2 : Jr' 54 = Jr 54) (r3 : Jr' 56 = Jr 56) (r4 : Gr' 55 = Gr 55) : iRs J' G' Jr' Gr' R := by
  rw [iRs, e1, e2, e3, e4, r1, r2, r3, r4]; exact h
theorem iCm_c (h : iCm J G Jr Gr) (e1 : J' 31 = J 31) (e2 : G' 30 = G 30) (r1 : Jr' 47 = Jr 47) (r2 : Gr' 46 = Gr 46) : iCm J' G' Jr' Gr' := by
  rw [iCm, e1, e2, r1, r2]; exact h
theorem iRg_c (h : iRg J G Jr Gr) (e1 : J' 24 = J 24) (e2 : G' 23 = G 23) (r1 : Jr' 50 = Jr 50) (r2 : Gr' 49 = Gr 49) : iRg J' G' Jr' Gr' := by
  rw [iRg, e1, e2, r1, r2]; exact h
theorem iQu_c (h : iQu J Jr T nc mo mc jo) (hT : T ≤ T') (e : ∀ a, 32 ≤ a → a ≤ 39 → J' a = J a) (r1 : ∀ i, 23 ≤ i → i ≤ 31 → Jr' 40 i = Jr 40 i) (r2 : Jr' 57 = Jr 57) (r3 : Jr' 58 = Jr 58) : iQu J' Jr' T' nc mo mc jo := by
  obtain ⟨h1, h2, h3, h4, h5, h6⟩ := h
  refine ⟨h1, ?_, ?_, fun c hc => ?_, fun c hc hc2 => ?_, ?_⟩
  · rw [e 32 (by omega) (by omega)]; exact h2
  · rw [r1 25 (by omega) (by omega), r1 27 (by omega) (by omega), r1 29 (by omega) (by omega)]; exact h3
  · obtain ⟨t, g1, g2, g3⟩ := h4 c hc
    exact ⟨t, by omega, by rw [e 33 (by omega) (by omega), g2], by rw [r1 _ (by omega) (by have := h1.1; omega), g3]⟩
  · rw [r1 _ (by omega) (by omega)]; exact h5 c hc hc2
  · rw [e 34 (by omega) (by omega), e 35 (by omega) (by omega), e 36 (by omega) (by omega), e 37 (by omega) (by omega), e 38 (by omega) (by omega), e 39 (by omega) (by omega), e 32 (by omega) (by omega), r1 30 (by omega) (by omega), r1 31 (by omega) (by omega), r2, r3]; exact h6
theorem iE_c (h : iE J G Jr Gr T) (hT : T ≤ T') (e1 : ∀ a, 15 ≤ a → a ≤ 39 → J' a = J a) (e2 : ∀ a, 15 ≤ a → a ≤ 39 → G' a = G a) (r0 : ∀ i, 4 ≤ i → i ≤ 31 → Jr' 40 i = Jr 40 i) (r1 : ∀ a, 46 ≤ a → a ≤ 58 → Jr' a = Jr a) (r2 : ∀ a, 46 ≤ a → a ≤ 58 → Gr' a = Gr a) : iE J' G' Jr' Gr' T' := by
  obtain ⟨N, R, nc, mo, mc, jo, h1, h2, h3, h4, h5⟩ := h
  refine ⟨N, R, nc, mo, mc, jo, iPr_c h1 ?_ ?_ ?_ ?_, iRs_c h2 ?_ ?_ ?_ ?_ ?_ ?_ ?_ ?_, iCm_c h3 ?_ ?_ ?_ ?_, iQu_c h4 hT (fun a h1 h2 => e1 a (by omega) (by omega)) (fun i h1 h2 => r0 i (by omega) (by omega)) ?_ ?_, iRg_c h5 ?_ ?_ ?_ ?_⟩
  all_goals first
    | exact e1 _ (by omega) (by omega)
    | exact e2 _ (by omega) (by omega)
    | exact r0 _ (by omega) (by omega)
    | exact r1 _ (by omega) (by omega)
    | exact r2 _ (by omega) (by omega)
    | exact congrFun (e1 _ (by omega) (by omega)) 0
theorem zI2_c (h : zI2 J G Jr Gr) (e1 : ∀ a, a < 40 → J' a = J a) (e2 : ∀ a, a < 40 → G' a = G a) (r1 : ∀ a, 40 ≤ a → a ≤ 58 → Jr' a = Jr a) (r2 : ∀ a, 40 ≤ a → a ≤ 58 → Gr' a = Gr a) : zI2 J' G' Jr' Gr' := by
  obtain ⟨T, m, sp, n, h1, h2⟩ := h
  refine ⟨T, m, sp, n, iH_c h1 ?_ ?_ (fun a _ _ => e1 a (by omega)) ?_ ?_ ?_ ?_ ?_ ?_ ?_ ?_ ?_, iE_c h2 (Nat.le_refl _) (fun a _ _ => e1 a (by omega)) (fun a _ _ => e2 a (by omega)) (fun i _ _ => congrFun (r1 40 (by omega) (by omega)) i) (fun a _ _ => r1 a (by omega) (by omega)) (fun a _ _ => r2 a (by omega) (by omega))⟩
  all_goals first
    | exact e1 _ (by omega)
    | exact e2 _ (by omega)
    | exact r1 _ (by omega) (by omega)
    | exact r2 _ (by omega) (by omega)
    | exact congrFun (e1 _ (by omega)) _
    | exact congrFun (r1 _ (by omega) (by omega)) _
theorem rTh_i {v : Int32} {i : Nat} (h : i ≠ 0) : rTh J v 40 i = J 40 i := by rw [rTh, zu_e, zu_n h]
theorem rTh_n {v : Int32} {a : Nat} (h : a ≠ 40) : rTh J v a = J a := by rw [rTh, zu_n h]
theorem zI2_th (h : zI2 J G Jr Gr) (e1 : ∀ a, a < 40 → J' a = J a) (e2 : ∀ a, a < 40 → G' a = G a) (r0 : ∀ i, i ≠ 0 → Jr' 40 i = Jr 40 i) (r1 : ∀ a, 41 ≤ a → a ≤ 58 → Jr' a = Jr a) (r2 : ∀ a, 40 ≤ a → a ≤ 58 → Gr' a = Gr a) : zI2 J' G' Jr' Gr' := by
  obtain ⟨T, m, sp, n, h1, h2⟩ := h
  refine ⟨T, m, sp, n, iH_c h1 ?_ ?_ (fun a _ _ => e1 a (by omega)) ?_ ?_ ?_ ?_ ?_ ?_ ?_ ?_ ?_, iE_c h2 (Nat.le_refl _) (fun a _ _ => e1 a (by omega)) (fun a _ _ => e2 a (by omega)) (fun i _ _ => r0 i (by omega)) (fun a _ _ => r1 a (by omega) (by omega)) (fun a _ _ => r2 a (by omega) (by omega))⟩
  all_goals first
    | exact e1 _ (by omega)
    | exact e2 _ (by omega)
    | exact r0 _ (by omega)
    | exact r1 _ (by omega) (by omega)
    | exact r2 _ (by omega) (by omega)
    | exact congrFun (e1 _ (by omega)) _
end
theorem zIv_th {J : zJT} {G : zGT} (h : zIv J G) (v : Int32) (g : Nat → Int64) : zIv (rTh J v) (va_up G 59 g) :=
  zI2_th h (fun a ha => rTh_n (by omega)) (fun a ha => zu_n (by omega)) (fun i hi => rTh_i hi) (fun a _ _ => rTh_n (by omega)) (fun a _ _ => zu_n (by omega))
theorem zIv_t {J : zJT} {G : zGT} (h : zIv J G) (v : Int32) : zIv (rTh J v) G :=
  zI2_th h (fun a ha => rTh_n (by omega)) (fun a ha => rfl) (fun i hi => rTh_i hi) (fun a _ _ => rTh_n (by omega)) (fun a _ _ => rfl)
def zCallI (X : zX) (M : zM) (hh : List (Nat × Nat × Nat × Nat)) (av : List Value) (M' : zM) (av' : List Value) (J : zJT) (G : zGT) : Prop :=
  ∃ (kk : Int32) (mc ms : Nat) (J1 : zJT) (G1 : zGT) (b : Int32) (d : Nat) (J2 : zJT) (G2 : zGT), mc ≤ 1 ∧ ms ≤ 6 ∧ d ≤ 7 ∧ zCW X 7 M hh mc ms av (hp J G) 60 (some (.int kk)) (hp J1 G1) 60 ∧ zK X d M' av' J1 G1 (some (.int b)) J2 G2 ∧ J2 40 0 = kk ∧ (kk = 0 → G2 59 0 = b.toInt64) ∧ zIv J2 G2
def zCallL (X : zX) (M : zM) (hh : List (Nat × Nat × Nat × Nat)) (av : List Value) (M' : zM) (av' : List Value) (J : zJT) (G : zGT) : Prop :=
  ∃ (kk : Int32) (mc ms : Nat) (J1 : zJT) (G1 : zGT) (b : Int64) (d : Nat) (J2 : zJT) (G2 : zGT), mc ≤ 1 ∧ ms ≤ 6 ∧ d ≤ 7 ∧ zCW X 7 M hh mc ms av (hp J G) 60 (some (.int kk)) (hp J1 G1) 60 ∧ zK X d M' av' J1 G1 (some (.long b)) J2 G2 ∧ J2 40 0 = kk ∧ (kk = 0 → G2 59 0 = b) ∧ zIv J2 G2
def zCallZ (X : zX) (M : zM) (hh : List (Nat × Nat × Nat × Nat)) (av : List Value) (M' : zM) (av' : List Value) (J : zJT) (G : zGT) : Prop :=
  ∃ (kk : Int32) (mc ms : Nat) (J1 : zJT) (G1 : zGT) (b : Bool) (d : Nat) (J2 : zJT) (G2 : zGT), mc ≤ 1 ∧ ms ≤ 6 ∧ d ≤ 7 ∧ zCW X 7 M hh mc ms av (hp J G) 60 (some (.int kk)) (hp J1 G1) 60 ∧ zK X d M' av' J1 G1 (some (.int (zb b))) J2 G2 ∧ J2 40 0 = kk ∧ (kk = 0 → G2 59 0 = if b then 1 else 0) ∧ zIv J2 G2
def zCallD (X : zX) (M : zM) (av : List Value) (M' : zM) (av' : List Value) (J : zJT) (G : zGT) : Prop :=
  ∃ (J1 : zJT) (G1 : zGT) (b : Int32) (d d' : Nat) (J2 : zJT) (G2 : zGT), d ≤ 7 ∧ d' ≤ 7 ∧ zK X d M av J G (some (.int b)) J1 G1 ∧ zK X d' M' av' J1 G1 (some (.int b)) J2 G2 ∧ zIv J2 G2
theorem rTh_0 {J : zJT} {v : Int32} : rTh J v 40 0 = v := by rw [rTh, zu_e, zu_e]
theorem nI_toI {n : Nat} (h : n < 2 ^ 31) : (nI n).toInt = n := nI_toInt h
theorem iH_n0 {J Jr : zJT} {G Gr : zGT} {T m sp : Nat} {n : Nat → Nat} (hH : iH J G Jr Gr T m sp n) {x : Nat} (hx : x < 3) (hT : T ≤ x) : n x = 0 := by
  have b9 := hH.2.2.2.2.2.1
  rcases Nat.eq_zero_or_pos (n x) with h9 | h9
  · exact h9
  · obtain ⟨k, g1, g2, _⟩ := b9.2.2.1 x 0 hx h9
    obtain ⟨t, p, f1, f2, f3, f4⟩ := b9.2.2.2.1 k g1
    have := nI_inj (by omega) (by omega) (g2.symm.trans f3)
    omega
theorem iH_table {J Jr J' Jr' : zJT} {G Gr G' Gr' : zGT} {T m sp c : Nat} {n : Nat → Nat} (h : iH J G Jr Gr T m sp n) (hT : T < 3) (hc1 : 1 ≤ c) (hc : c ≤ 4) (e1 : J' 2 1 = nI (T + 1)) (e2 : J' 2 5 = J 2 5) (e3 : ∀ a, 6 ≤ a → a ≤ 14 → a ≠ 9 + 2 * T → J' a = J a) (e9 : J' (9 + 2 * T) = va_up (J (9 + 2 * T)) 0 (nI c)) (e4 : G' 5 = G 5) (e5 : G' 7 = G 7)
    (r1 : Jr' 40 1 = nI (T + 1)) (r2 : Jr' 40 3 = Jr 40 3) (r3 : Jr' 41 = upd (Jr 41) T (nI c)) (r4 : Jr' 42 = Jr 42) (r5 : Jr' 45 = Jr 45) (r6 : Gr' 43 = Gr 43) (r7 : Gr' 44 = Gr 44) : iH J' G' Jr' Gr' (T + 1) m sp n := by
  have hz := iH_n0 h hT (Nat.le_refl _)
  obtain ⟨⟨a1, a2, a3⟩, a4, a5, ⟨a6, a7⟩, a8, a9, a10, a11⟩ := h
  have hs : ∀ t, t < 3 → xSl J' t = xSl J t := fun t ht => e3 _ (by omega) (by omega) (by omega)
  have hx : ∀ t p, t < 3 → xs (xSl J') t p = xs (xSl J) t p := fun t p ht => by rw [xs, xs, hs t ht]
  have hcc : ∀ t, t < 3 → t ≠ T → xC J' t = xC J t := fun t ht h9 => by rw [xC, xC, e3 _ (by omega) (by omega) (by omega)]
  refine ⟨⟨by omega, e1, r1⟩, fun t ht => ?_, fun t ht => ?_, ⟨e2.trans a6, r2.trans a7⟩, ?_, ?_, ?_, ?_⟩
  · by_cases e : t = T
    · subst e
      exact ⟨c, hc, fun _ => hc1, by rw [e9, zu_e], by rw [r3]; simp [upd]⟩
    · obtain ⟨c2, g1, g2, g3, g4⟩ := a4 t ht
      exact ⟨c2, g1, fun h9 => g2 (by omega), by rw [e3 _ (by omega) (by omega) (by omega), g3], by rw [r3, upd, if_neg e, g4]⟩
  · by_cases e : t = T
    · subst e
      rw [e9, zu_n (by decide)]; exact a5 t ht
    · rw [e3 _ (by omega) (by omega) (by omega)]; exact a5 t ht
  · rw [e5, e3 8 (by omega) (by omega) (by omega)]
    obtain ⟨b1, b2, b3, b4, b5, b6, b7⟩ := a8
    refine ⟨fun t p ht hp => ?_, fun t p q ht h1 h2 => ?_, b3, b4, fun t p t' q ht hp ht' hq => ?_, b6, fun t p i ht hp hi => ?_⟩
    · rw [hs t ht]; exact b1 t p ht hp
    · rw [hx t p ht, hx t q ht]; exact b2 t p q ht h1 h2
    · rw [hs t ht, hs t' ht']; exact b5 t p t' q ht hp ht' hq
    · rw [hs t ht]; exact b7 t p i ht hp hi
  · rw [e5, e3 6 (by omega) (by omega) (by omega), e4, r4, r5, r6, r7]
    obtain ⟨b1, b2, b3, b4, b5⟩ := a9
    refine ⟨b1, b2, fun t p ht hp => ?_, fun k hk => ?_, b5⟩
    · by_cases e : t = T
      · subst e; omega
      · rw [hx t p ht, hcc t ht e]; exact b3 t p ht hp
    · obtain ⟨t, p, g1, g2, g3, g4⟩ := b4 k hk
      exact ⟨t, p, by omega, g2, g3, by rw [hx t p (by omega)]; exact g4⟩
  · rw [e3 6 (by omega) (by omega) (by omega), e4]; exact a10
  · rw [r5, r7]; exact a11
theorem i32_lit {v : Int32} {a b : Nat} (h1 : (a : Int) ≤ v.toInt) (h2 : v.toInt ≤ b) : ∃ c, a ≤ c ∧ c ≤ b ∧ v = nI c := by
  have := v.toInt_lt
  refine ⟨v.toInt.toNat, by omega, by omega, Int32.toInt_inj.mp ?_⟩
  rw [nI_toInt (by omega)]; omega
theorem i_table (X : zX) (J : zJT) (G : zGT) (h : zIv J G) (v : Int32) : zCallI X m_Law_table h_Law_table [.ref 0, .int v, .ref 59] m_Mod_table [.ref 40, .int v] J G := by
  obtain ⟨T, m, sp, n, hH, hE⟩ := id h
  obtain ⟨a1, a2, a3⟩ := hH.1
  by_cases h1 : v < 1
  · exact ⟨1, 1, 6, J, G, 0, 0, _, _, by omega, by omega, by omega, w_table_A X J G v (by omega) (t_TM_table1 X J G v h1), c_Mod_table1 X J G 0 v h1, rTh_0, fun h9 => absurd h9 (by decide), zIv_t h 1⟩
  by_cases h4 : v ≤ 4
  case neg => exact ⟨1, 1, 6, J, G, 0, 0, _, _, by omega, by omega, by omega, w_table_A X J G v (by omega) (t_TM_table2 X J G v h1 h4), c_Mod_table2 X J G 0 v h1 h4, rTh_0, fun h9 => absurd h9 (by decide), zIv_t h 1⟩
  by_cases h3 : T = 3
  · subst h3
    exact ⟨2, 1, 6, J, G, 0, 0, _, _, by omega, by omega, by omega, w_table_S X J G v (by omega) (t_TM_table3 X J G v h1 h4 a2), c_Mod_table3 X J G 0 v h1 h4 a3, rTh_0, fun h9 => absurd h9 (by decide), zIv_t h 2⟩
  have hT : T < 3 := by omega
  refine ⟨0, 0, 0, _, _, nI T, 0, _, _, by omega, by omega, by omega, w_table X J G v (by omega) (nI T) (c_TM_table X J G hT a2 v h1 h4), c_Mod_table X _ _ 0 hT ?_ v h1 h4, ?_, ?_, ?_⟩
  · rw [zu_n (by omega), zu_n (by omega), a3]
  · rw [zu_e, zu_n (by decide), rTh_0]
  · intro _; rw [zu_e]; rfl
  · have hv : ∃ c, 1 ≤ c ∧ c ≤ 4 ∧ v = nI c := by
      rw [i32_lt] at h1
      rw [i32_le] at h4
      have e1 : (1 : Int32).toInt = 1 := by decide
      have e4 : (4 : Int32).toInt = 4 := by decide
      exact i32_lit (by omega) (by omega)
    obtain ⟨c, c1, c4, hv⟩ := hv
    subst hv
    refine ⟨T + 1, m, sp, n, iH_table hH hT c1 c4 ?_ ?_ (fun a h1 h2 h3 => ?_) ?_ rfl rfl ?_ ?_ ?_ ?_ ?_ rfl rfl, iE_c hE (by omega) (fun a h1 h2 => ?_) (fun a h1 h2 => ?_) (fun i h1 h2 => ?_) (fun a h1 h2 => ?_) (fun a h1 h2 => ?_)⟩
    · rw [zu_n (by omega), zu_n (by omega), rTh_n (by omega), zu_e, zu_e, nI_succ]
    · rw [zu_n (by omega), zu_n (by omega), rTh_n (by omega), zu_e, zu_n (by omega)]
    · rw [zu_n (by omega), zu_n (by omega), rTh_n (by omega), zu_n (by omega), zu_n (by omega)]
    · rw [zu_n (by omega), zu_n (by omega), rTh_n (by omega), zu_n (by omega), zu_e]
    · rw [zu_e, zu_e, nI_succ]
    · rw [zu_e, zu_n (by omega), rTh_i (by omega), zu_n (by omega), zu_n (by omega)]
    · rw [zu_n (by omega), zu_e, zu_n (by omega), zu_n (by omega)]
    · rw [zu_n (by omega), zu_n (by omega), rTh_n (by omega), zu_n (by omega), zu_n (by omega)]
    · rw [zu_n (by omega), zu_n (by omega), rTh_n (by omega), zu_n (by omega), zu_n (by omega)]
    · rw [zu_n (by omega), zu_n (by omega), rTh_n (by omega), zu_n (by omega), zu_n (by omega)]
    · rw [zu_n (by omega)]
    · rw [zu_e, zu_n (by omega), rTh_i (by omega), zu_n (by omega), zu_n (by omega)]
    · rw [zu_n (by omega), zu_n (by omega), rTh_n (by omega), zu_n (by omega), zu_n (by omega)]
    · rw [zu_n (by omega)]
