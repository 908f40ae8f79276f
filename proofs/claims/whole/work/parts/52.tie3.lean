theorem x_cut (P : Nat → Prop) : ∀ N, (∀ p q, p < q → q < N → P q → P p) → ∃ r, r ≤ N ∧ ∀ p, p < N → (P p ↔ p < r)
  | 0, _ => ⟨0, by omega, fun p hp => absurd hp (by omega)⟩
  | N + 1, h => by
    obtain ⟨r, hr, hp⟩ := x_cut P N (fun p q h1 h2 => h p q h1 (by omega))
    by_cases e : P N
    · refine ⟨N + 1, by omega, fun p h1 => ⟨fun _ => h1, fun _ => ?_⟩⟩
      by_cases e2 : p = N
      · rw [e2]; exact e
      · exact h p N (by omega) (by omega) e
    · refine ⟨r, by omega, fun p h1 => ?_⟩
      by_cases e2 : p = N
      · rw [e2]; exact ⟨fun h9 => absurd h9 e, fun h9 => by omega⟩
      · exact hp p (by omega)
theorem zbl_f {k key : Int64} : zbl k key false ↔ k < key := by simp [zbl]
theorem iSl_cut {S : Nat → Nat → Int32} {K : Nat → Int64} {A : Nat → Int32} {n : Nat → Nat} {sp : Nat} (h : iSl S K A n sp) {t : Nat} (ht : t < 3) (key : Int64) (o : Bool) : ∃ r, r ≤ n t ∧ ∀ p, p < n t → (zbl (K (xs S t p)) key o ↔ p < r) := by
  refine x_cut (fun p => zbl (K (xs S t p)) key o) (n t) (fun p q h1 h2 h3 => ?_)
  have h4 := h.2.1 t p q ht h1 h2
  left
  rw [i64_lt] at h4 ⊢
  rcases h3 with h3 | ⟨_, h3⟩
  · rw [i64_lt] at h3; omega
  · rw [i64_eq] at h3; omega
theorem rOf_or (J : zJT) (G : zGT) (x : Int32) (key : Int64) : ∀ m, (rOf J G x key m = -1 ∧ ∀ k, k < m → ¬ (J 42 k = x ∧ G 43 k = key)) ∨ ∃ k, k < m ∧ rOf J G x key m = nI k ∧ J 42 k = x ∧ G 43 k = key
  | 0 => Or.inl ⟨rfl, fun k hk => absurd hk (by omega)⟩
  | m + 1 => by
    by_cases e : J 42 m = x ∧ G 43 m = key
    · right
      exact ⟨m, by omega, by rw [rOf, if_pos e], e⟩
    · rw [rOf, if_neg e]
      rcases rOf_or J G x key m with ⟨h1, h2⟩ | ⟨k, h1, h2⟩
      · left
        refine ⟨h1, fun k hk => ?_⟩
        by_cases e2 : k = m
        · rw [e2]; exact e
        · exact h2 k (by omega)
      · right
        exact ⟨k, by omega, h2⟩
theorem rMin_or (G : zGT) (P : Nat → Bool) : ∀ m, (rMin G P m = none ∧ ∀ k, k < m → P k = false) ∨ ∃ i, i < m ∧ rMin G P m = some i ∧ P i = true ∧ ∀ k, k < m → P k = true → ¬ G 43 k < G 43 i
  | 0 => Or.inl ⟨rfl, fun k hk => absurd hk (by omega)⟩
  | m + 1 => by
    rcases rMin_or G P m with ⟨h1, h2⟩ | ⟨i, h1, h2, h3, h4⟩
    · by_cases e : P m = true
      · right
        refine ⟨m, by omega, by rw [rMin, h1]; exact if_pos e, e, fun k hk hp => ?_⟩
        by_cases e2 : k = m
        · rw [e2, i64_lt]; omega
        · have := h2 k (by omega)
          rw [hp] at this; cases this
      · left
        refine ⟨by rw [rMin, h1]; exact if_neg e, fun k hk => ?_⟩
        by_cases e2 : k = m
        · rw [e2]; exact eq_false_of_ne_true e
        · exact h2 k (by omega)
    · by_cases e : P m = true ∧ G 43 m < G 43 i
      · right
        refine ⟨m, by omega, by rw [rMin, h2]; exact if_pos e, e.1, fun k hk hp => ?_⟩
        by_cases e2 : k = m
        · rw [e2, i64_lt]; omega
        · have h5 := h4 k (by omega) hp
          have h6 := e.2
          rw [i64_lt] at h5 h6 ⊢; omega
      · right
        refine ⟨i, by omega, by rw [rMin, h2]; exact if_neg e, h3, fun k hk hp => ?_⟩
        by_cases e2 : k = m
        · subst e2
          exact fun h9 => e ⟨hp, h9⟩
        · exact h4 k (by omega) hp
section
variable {S : Nat → Nat → Int32} {K : Nat → Int64} {A : Nat → Int32} {n : Nat → Nat} {sp : Nat} {B : Nat → Int32} {V : Nat → Int64} {BR : Nat → Int32} {VR : Nat → Int64} {C : Nat → Nat} {T m : Nat} {Jr : zJT} {Gr : zGT}
theorem x_find (h : iSl S K A n sp) (hw : iRw S K B V (Jr 42) (Gr 43) BR VR C T m n) (hT : T ≤ 3) {t r : Nat} (ht : t < T) {key : Int64} (hr : r ≤ n t) (hb : ∀ p, p < n t → (zbl (K (xs S t p)) key false ↔ p < r)) :
    (¬ (r < n t ∧ K (xs S t r) = key) ∧ rOf Jr Gr (nI t) key m = -1) ∨
    (r < n t ∧ K (xs S t r) = key ∧ ∃ k, k < m ∧ rOf Jr Gr (nI t) key m = nI k ∧ Jr 42 k = nI t ∧ Gr 43 k = key ∧ ∀ i, i < C t → BR (4 * k + i) = B (4 * xs S t r + i) ∧ VR (4 * k + i) = V (4 * xs S t r + i)) := by
  have ht3 : t < 3 := by omega
  obtain ⟨b1, b2, b3, b4, b5⟩ := hw
  rcases rOf_or Jr Gr (nI t) key m with ⟨h1, h2⟩ | ⟨k, h1, h2, h3, h4⟩
  · left
    refine ⟨fun h9 => ?_, h1⟩
    obtain ⟨k, g1, g2, g3, _⟩ := b3 t r ht3 h9.1
    exact h2 k g1 ⟨g2, g3.trans h9.2⟩
  · right
    obtain ⟨t', p, g1, g2, g3, g4⟩ := b4 k h1
    have e := nI_inj (by omega) (by omega) (g3.symm.trans h3)
    subst e
    have e2 : K (xs S t' p) = key := g4.symm.trans h4
    have hpr : p = r := by
      have h5 := hb p g2
      rw [zbl_f, e2, i64_lt] at h5
      rcases Nat.lt_or_ge r p with h6 | h6
      · have h7 := h.2.1 t' r p ht3 h6 g2
        have h8 := hb r (by omega)
        rw [zbl_f] at h8
        rw [e2] at h7
        have := h8.1 h7
        omega
      · omega
    subst hpr
    refine ⟨g2, e2, k, h1, h2, h3, h4, ?_⟩
    obtain ⟨k2, f1, f2, f3, f4⟩ := b3 t' p ht3 g2
    have := b5 k k2 h1 f1 (h3.trans f2.symm) (g4.trans f3.symm)
    subst this
    exact f4
theorem x_first (h : iSl S K A n sp) (hw : iRw S K B V (Jr 42) (Gr 43) BR VR C T m n) (hT : T ≤ 3) {t r : Nat} (ht : t < T) (P : Nat → Bool) (hr : r ≤ n t) (hP : ∀ k p, k < m → p < n t → Gr 43 k = K (xs S t p) → Jr 42 k = nI t → (P k = true ↔ r ≤ p)) (hP2 : ∀ k, k < m → P k = true → Jr 42 k = nI t) :
    (n t ≤ r ∧ rMin Gr P m = none) ∨ (r < n t ∧ ∃ i, i < m ∧ rMin Gr P m = some i ∧ Gr 43 i = K (xs S t r)) := by
  have ht3 : t < 3 := by omega
  obtain ⟨b1, b2, b3, b4, b5⟩ := hw
  rcases rMin_or Gr P m with ⟨h1, h2⟩ | ⟨i, h1, h2, h3, h4⟩
  · left
    refine ⟨Nat.le_of_not_lt (fun h9 => ?_), h1⟩
    obtain ⟨k, g1, g2, g3, _⟩ := b3 t r ht3 h9
    have := (hP k r g1 h9 g3 g2).2 (Nat.le_refl _)
    rw [h2 k g1] at this; cases this
  · right
    obtain ⟨t', p, g1, g2, g3, g4⟩ := b4 i h1
    have e := nI_inj (by omega) (by omega) (g3.symm.trans (hP2 i h1 h3))
    subst e
    have h5 := (hP i p h1 g2 g4 g3).1 h3
    have h6 : r < n t' := by omega
    refine ⟨h6, i, h1, h2, ?_⟩
    obtain ⟨k, f1, f2, f3, _⟩ := b3 t' r ht3 h6
    have h7 := h4 k f1 ((hP k r f1 h6 f3 f2).2 (Nat.le_refl _))
    rcases Nat.lt_or_ge r p with h8 | h8
    · have h9 := h.2.1 t' r p ht3 h8 g2
      rw [f3, g4] at h7
      exact absurd h9 h7
    · have : p = r := by omega
      subst this
      exact g4
theorem x_next (h : iSl S K A n sp) (hw : iRw S K B V (Jr 42) (Gr 43) BR VR C T m n) (hT : T ≤ 3) {t r : Nat} (ht : t < T) {key : Int64} {o : Bool} (hr : r ≤ n t) (hb : ∀ p, p < n t → (zbl (K (xs S t p)) key o ↔ p < r)) :
    (n t ≤ r ∧ rMin Gr (rP Jr Gr (nI t) key o) m = none) ∨ (r < n t ∧ ∃ i, i < m ∧ rMin Gr (rP Jr Gr (nI t) key o) m = some i ∧ Gr 43 i = K (xs S t r)) := by
  refine x_first h hw hT ht _ hr (fun k p hk hp e1 e2 => ?_) (fun k hk e => ?_)
  · have h1 := hb p hp
    rw [rP, decide_eq_true_iff, e1]
    have h3 : (Jr 42 k = nI t ∧ (key < K (xs S t p) ∨ K (xs S t p) = key ∧ o = false)) ↔ ¬ zbl (K (xs S t p)) key o := by
      rw [zbl]
      simp only [e2, true_and, i64_lt, i64_eq]
      cases o <;> simp <;> omega
    rw [h3, h1]; omega
  · rw [rP, decide_eq_true_iff] at e
    exact e.1
theorem x_rew (h : iSl S K A n sp) (hw : iRw S K B V (Jr 42) (Gr 43) BR VR C T m n) (hT : T ≤ 3) {t : Nat} (ht : t < T) :
    (n t ≤ 0 ∧ rMin Gr (rT Jr (nI t)) m = none) ∨ (0 < n t ∧ ∃ i, i < m ∧ rMin Gr (rT Jr (nI t)) m = some i ∧ Gr 43 i = K (xs S t 0)) := by
  refine x_first h hw hT ht _ (by omega) (fun k p hk hp e1 e2 => ?_) (fun k hk e => ?_)
  · rw [rT, decide_eq_true_iff]
    exact ⟨fun _ => by omega, fun _ => e2⟩
  · rw [rT, decide_eq_true_iff] at e
    exact e
end
