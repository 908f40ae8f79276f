def rSo (P : Nat → Bool) : Nat → Nat → Option Nat
  | 0, _ => none
  | f + 1, k => if P k = true then some k else rSo P f (k + 1)
theorem rSk_o (P : Nat → Bool) : ∀ f k, rSk P f k = rI (rSo P f k)
  | 0, _ => rfl
  | f + 1, k => by
    rw [rSk, rSo]
    by_cases h : P k = true
    · rw [if_pos h, if_pos h]; rfl
    · rw [if_neg h, if_neg h, rSk_o P f (k + 1)]
theorem rSo_lt (P : Nat → Bool) : ∀ f k i, rSo P f k = some i → i < k + f
  | 0, _, _, h => by cases h
  | f + 1, k, i, h => by
    rw [rSo] at h
    by_cases e : P k = true
    · rw [if_pos e] at h; cases h; omega
    · rw [if_neg e] at h
      have := rSo_lt P f (k + 1) i h; omega
def rSt (J : zJT) (c past : Int32) (b : Option Nat) : List rI4 := match b with
  | none => [(2, c, past, 0)]
  | some i => [(6, J 58 (4 * i + 3), 0, 0), (8, c, past, 0)]
def rLp (J : zJT) (c past nx : Int32) (m n : Nat) : List rI4 := rSt J c past (rSo (rSkP J c) n 0) ++ rCo J c nx (m + (rSt J c past (rSo (rSkP J c) n 0)).length) n
def rTp (J : zJT) (c : Int32) (m n : Nat) : Nat := m + (rSt J c 0 (rSo (rSkP J c) n 0)).length
def rP0 (J : zJT) (two : Bool) : List rI4 := (1, 0, J 40 23, 0) :: (if two = true then [(1, 1, J 40 24, 0)] else [])
def rP1 (J : zJT) (two : Bool) (n : Nat) (p0 n0 : Int32) : List rI4 := rP0 J two ++ rLp J 0 p0 n0 (rP0 J two).length n
def rJn (J : zJT) (n1 : Int32) (m : Nat) : List rI4 := [rRd 0 (J 40 30) 0, rRd 1 (J 40 31) 1, (9, 0, nI (m + 2) + 2, 1), (19, n1, 0, 0)]
def rTl (J : zJT) (mo : Nat) : List rI4 := rOu J mo ++ [(18, 2, nI mo, 0)]
def rIn1 (J : zJT) (jo : Bool) (n mo : Nat) (p1 n1 : Int32) (m : Nat) : List rI4 :=
  rLp J 1 p1 n1 m n ++ (if jo = true then rJn J n1 (m + (rLp J 1 p1 n1 m n).length) else []) ++ rTl J mo ++ [(3, 1, nI (rTp J 1 m n), 0)]
def rPg (J : zJT) (two jo : Bool) (n mo : Nat) (p0 n0 p1 n1 : Int32) : List rI4 :=
  rP1 J two n p0 n0 ++ (if two = true then rIn1 J jo n mo p1 n1 (rP1 J two n p0 n0).length else rTl J mo) ++ [(3, 0, nI (rTp J 0 (rP0 J two).length n), 0), (0, 0, 0, 0)]
def rF (x : rI4) : zI4 := (nI x.1, kz x.1 0 x.2.1, kz x.1 1 x.2.2.1, kz x.1 2 x.2.2.2)
theorem rF_rd (c k r : Int32) : rF (rRd c k r) = qCol c k r := by
  rw [rRd, qCol]
  by_cases h : k = -1
  · rw [if_pos h, if_pos h]; simp [rF, kz, zKinds]; decide
  · rw [if_neg h, if_neg h]; simp [rF, kz, zKinds]; decide
theorem kz_c : ∀ h, h < 8 → ∀ w, w < 2 → ¬ zKinds.getD (3 * (9 + h) + w) 0 = 0 := by decide
theorem kz_c6 : ∀ h, h < 6 → ¬ zKinds.getD (3 * (9 + h) + 2) 0 = 0 := by decide
theorem kz_c8 : ∀ h, h < 8 → ¬ h < 6 → zKinds.getD (3 * (9 + h) + 2) 0 = 0 := by decide
theorem rF_c6 {h : Nat} (h6 : h < 6) (p q s : Int32) : rF (9 + h, p, q, s) = (9 + nI h, p, q, s) := by
  rw [rF]
  simp only [kz]
  rw [if_neg (kz_c h (by omega) 0 (by omega)), if_neg (kz_c h (by omega) 1 (by omega)), if_neg (kz_c6 h h6), ← nI_sum]; rfl
theorem rF_c8 {h : Nat} (h8 : h < 8) (h6 : ¬ h < 6) (p q s : Int32) : rF (9 + h, p, q, s) = (9 + nI h, p, q, 0) := by
  rw [rF]
  simp only [kz]
  rw [if_neg (kz_c h (by omega) 0 (by omega)), if_neg (kz_c h (by omega) 1 (by omega)), if_pos (kz_c8 h h8 h6), ← nI_sum]; rfl
theorem rF_6 (p q : Int32) : rF (6, p, q, 0) = (6, p, q, 0) := by simp [rF, kz, zKinds]; decide
theorem rF_2 (p q : Int32) : rF (2, p, q, 0) = (2, p, q, 0) := by simp [rF, kz, zKinds]; decide
theorem rF_8 (p q : Int32) : rF (8, p, q, 0) = (8, p, q, 0) := by simp [rF, kz, zKinds]; decide
theorem rF_1 (p q : Int32) : rF (1, p, q, 0) = (1, p, q, 0) := by simp [rF, kz, zKinds]; decide
theorem rF_3 (p q : Int32) : rF (3, p, q, 0) = (3, p, q, 0) := by simp [rF, kz, zKinds]; decide
theorem rF_0 : rF (0, 0, 0, 0) = (0, 0, 0, 0) := by simp [rF, kz, zKinds]; decide
theorem rF_18 (p q : Int32) : rF (18, p, q, 0) = (18, p, q, 0) := by simp [rF, kz, zKinds]; decide
theorem rF_19 (p : Int32) : rF (19, p, 0, 0) = (19, p, 0, 0) := by simp [rF, kz, zKinds]; decide
theorem rF_9 (q : Int32) : rF (9, 0, q, 1) = (9, 0, q, 1) := by simp [rF, kz, zKinds]; decide
def iCn (J Jr : zJT) (n : Nat) : Prop := ∀ i, i < n → (J 36 i = Jr 58 (4 * i) ∧ J 37 i = Jr 58 (4 * i + 1) ∧ J 38 i = Jr 58 (4 * i + 2) ∧ J 39 i = Jr 58 (4 * i + 3)) ∧ ∃ o, o < 8 ∧ J 38 i = nI o
section
variable {J Jr : zJT} {n : Nat}
theorem iCn_hw (h : iCn J Jr n) {k : Nat} (hk : k < n) : rHw Jr k < 8 ∧ Jr 58 (4 * k + 2) = nI (rHw Jr k) ∧ J 38 k = nI (rHw Jr k) := by
  obtain ⟨⟨_, _, e, _⟩, o, ho, e2⟩ := h k hk
  have : rHw Jr k = o := by rw [rHw, ← e, e2, nI_clamp (by omega)]
  rw [this]; exact ⟨ho, by rw [← e, e2], e2⟩
theorem nI_lt6 {h : Nat} (h8 : h < 8) : nI h < 6 ↔ h < 6 := by
  rw [i32_lt, nI_toInt (by omega), show (6 : Int32).toInt = 6 by decide]; omega
theorem qsk_r (h : iCn J Jr n) (c : Int32) : ∀ f k, k + f ≤ n → qsk J c f k = rSo (rSkP Jr c) f k
  | 0, _, _ => rfl
  | f + 1, k, hk => by
    rw [qsk, rSo, qsk_r h c f (k + 1) (by omega)]
    obtain ⟨⟨e1, e2, e3, _⟩, _⟩ := h k (by omega)
    have : (qok J c k = true) = (rSkP Jr c k = true) := by
      simp only [qok, qfb, rSkP, e1, e2, e3, Bool.and_eq_true, Bool.or_eq_true, decide_eq_true_eq, and_assoc, or_assoc]
    simp only [this]
theorem qStart_r (h : iCn J Jr n) (c e : Int32) (L : List zI4) : qStart J c e n L = L ++ (rSt Jr c e (rSo (rSkP Jr c) n 0)).map rF := by
  rw [qStart, qsk_r h c n 0 (by omega)]
  cases hs : rSo (rSkP Jr c) n 0 with
  | none => simp only [rSt, List.map, rF_2]
  | some i =>
    have := rSo_lt _ _ _ _ hs
    simp only [rSt, List.map, rF_6, rF_8, (h i (by omega)).1.2.2.2, List.append_assoc, List.cons_append, List.nil_append]
theorem qCond_r (h : iCn J Jr n) {i : Nat} (hi : i < n) (nx : Int32) (L : List zI4) : qCond J i nx L = L ++ (rC1 Jr (J 36 i) nx i L.length).map rF := by
  obtain ⟨⟨e1, e2, e3, e4⟩, _⟩ := h i hi
  obtain ⟨g1, g2, g3⟩ := iCn_hw h hi
  rw [qCond, rC1, g3]
  simp only [nI_lt6 g1]
  by_cases h6 : rHw Jr i < 6
  · rw [if_pos h6, if_pos h6]
    simp only [qTest, List.map, rF_rd, rF_6, rF_c6 h6, rF_19, e2, e4, List.append_assoc, List.cons_append, List.nil_append, List.length_append, List.length_cons, List.length_nil]
  · rw [if_neg h6, if_neg h6]
    simp only [qTest, List.map, rF_rd, rF_c8 g1 h6, rF_19, e2, List.append_assoc, List.cons_append, List.nil_append, List.length_append, List.length_cons, List.length_nil]
theorem qConds_r (h : iCn J Jr n) (c nx : Int32) (L : List zI4) : ∀ k, k ≤ n → qConds J c nx k L = L ++ (rCo Jr c nx L.length k).map rF
  | 0, _ => by simp [qConds, rCo]
  | k + 1, hk => by
    rw [qConds, rCo, qConds_r h c nx L k (by omega), (h k (by omega)).1.1]
    by_cases e : Jr 58 (4 * k) = c
    · rw [if_pos e, if_pos e, qCond_r h (by omega), (h k (by omega)).1.1, e]
      simp only [List.map_append, List.append_assoc, List.length_append, List.length_map]
    · rw [if_neg e, if_neg e, List.append_nil]
theorem qOuts_r {mo : Nat} (ho : ∀ i, i < mo → J 34 i = Jr 57 (2 * i) ∧ J 35 i = Jr 57 (2 * i + 1)) (L : List zI4) : ∀ k, k ≤ mo → qOuts J k L = L ++ (rOu Jr k).map rF
  | 0, _ => by simp [qOuts, rOu]
  | k + 1, hk => by
    rw [qOuts, rOu, qOuts_r ho L k (by omega), (ho k (by omega)).1, (ho k (by omega)).2]
    simp only [List.map_append, List.map, rF_rd, List.append_assoc]
    rw [show (2 : Int32) + nI k = nI (2 + k) from nI_sum 2 k]
theorem rSt_len (c p p' : Int32) (b : Option Nat) : (rSt Jr c p b).length = (rSt Jr c p' b).length := by cases b <;> rfl
theorem qProg_r {mo : Nat} {jo two : Bool} {nc : Nat} (h : iCn J Jr n) (ho : ∀ i, i < mo → J 34 i = Jr 57 (2 * i) ∧ J 35 i = Jr 57 (2 * i + 1)) (hc0 : J 33 0 = Jr 40 23) (hc1 : two = true → J 33 1 = Jr 40 24) (hnc : nc = if two = true then 2 else 1) (hj : jo = true → J 32 11 = Jr 40 30 ∧ J 32 12 = Jr 40 31) (len : Int32) :
    qProg J len nc n mo jo = (rPg Jr two jo n mo (len - 1) (len - 1 - 1) (len - 1 - 1) (len - 1 - 1 - 1)).map rF := by
  have hop : qOpens J nc = (rP0 Jr two).map rF := by
    rw [hnc, rP0]
    cases two
    · simp only [if_neg (show ¬ (false = true) by decide), qOpens, List.map, rF_1, hc0, List.nil_append]; rfl
    · simp only [if_true, qOpens, List.map, rF_1, hc0, hc1 rfl, List.nil_append, List.cons_append]; rfl
  have hst : qStart J 0 (len - 1) n (qOpens J nc) = (rP0 Jr two).map rF ++ (rSt Jr 0 (len - 1) (rSo (rSkP Jr 0) n 0)).map rF := by rw [qStart_r h, hop]
  have hbody : qBody J len nc n = (rP1 Jr two n (len - 1) (len - 1 - 1)).map rF := by
    rw [qBody, qConds_r h _ _ _ n (Nat.le_refl _), hst, rP1, rLp]
    simp only [List.map_append, List.append_assoc, List.length_append, List.length_map]
  have htop : (qStart J 0 (len - 1) n (qOpens J nc)).length = rTp Jr 0 (rP0 Jr two).length n := by
    rw [hst, rTp, List.length_append, List.length_map, List.length_map, rSt_len 0 (len - 1) 0]
  rw [qProg, rPg, htop, hbody]
  cases two
  · rw [if_neg (by rw [hnc]; decide), if_neg (by decide), qTail, qOuts_r ho _ mo (Nat.le_refl _)]
    simp only [List.map_append, List.map, rF_3, rF_0, rF_18, rTl, List.append_assoc, List.cons_append, List.nil_append]
  · rw [if_pos (by rw [hnc]; rfl), if_pos rfl, qInner, rIn1]
    have hst1 : ∀ L, (qStart J 1 (len - 1 - 1) n L).length = rTp Jr 1 L.length n := fun L => by
      rw [qStart_r h, List.length_append, List.length_map, rTp, rSt_len 1 (len - 1 - 1) 0]
    have hl1 : ∀ L : List zI4, qConds J 1 (len - 1 - 1 - 1) n (qStart J 1 (len - 1 - 1) n L) = L ++ (rLp Jr 1 (len - 1 - 1) (len - 1 - 1 - 1) L.length n).map rF := fun L => by
      rw [qConds_r h _ _ _ n (Nat.le_refl _), qStart_r h, rLp]
      simp only [List.map_append, List.append_assoc, List.length_append, List.length_map]
    rw [hst1, hl1, List.length_map]
    cases jo
    · rw [if_neg (by decide), if_neg (by decide), qTail, qOuts_r ho _ mo (Nat.le_refl _)]
      simp only [List.map_append, List.map, rF_3, rF_0, rF_18, rTl, List.append_assoc, List.cons_append, List.nil_append, List.append_nil]
    · rw [if_pos rfl, if_pos rfl, qTail, qJoin, qTest, qOuts_r ho _ mo (Nat.le_refl _), (hj rfl).1, (hj rfl).2]
      simp only [List.map_append, List.map, rF_3, rF_0, rF_18, rF_9, rF_19, rF_rd, rJn, rTl, List.append_assoc, List.cons_append, List.nil_append, List.length_append, List.length_cons, List.length_nil, List.length_map, Nat.add_assoc]
end
