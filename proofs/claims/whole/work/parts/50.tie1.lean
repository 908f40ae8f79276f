def xs (S : Nat → Nat → Int32) (t p : Nat) : Nat := (S t p).toNatClampNeg
theorem xs_nI {S : Nat → Nat → Int32} {t p u : Nat} (h : S t p = nI u) (hu : u < 90) : xs S t p = u := by rw [xs, h, nI_clamp (by omega)]
theorem nI_inj {a b : Nat} (ha : a < 2 ^ 31) (hb : b < 2 ^ 31) (h : nI a = nI b) : a = b := by rw [← nI_clamp ha, ← nI_clamp hb, h]
theorem i64_lt {a b : Int64} : a < b ↔ a.toInt < b.toInt := Int64.lt_iff_toInt_lt
theorem i64_eq {a b : Int64} : a = b ↔ a.toInt = b.toInt := Int64.toInt_inj.symm
theorem i32_lt {a b : Int32} : a < b ↔ a.toInt < b.toInt := Int32.lt_iff_toInt_lt
theorem i32_le {a b : Int32} : a ≤ b ↔ a.toInt ≤ b.toInt := Int32.le_iff_toInt_le
def iSl (S : Nat → Nat → Int32) (K : Nat → Int64) (A : Nat → Int32) (n : Nat → Nat) (sp : Nat) : Prop :=
  (∀ t p, t < 3 → p < n t → ∃ u, u < 90 ∧ S t p = nI u) ∧
  (∀ t p q, t < 3 → p < q → q < n t → K (xs S t p) < K (xs S t q)) ∧
  n 0 + n 1 + n 2 + sp = 90 ∧
  (∀ i, i < sp → ∃ u, u < 90 ∧ A i = nI u) ∧
  (∀ t p t' q, t < 3 → p < n t → t' < 3 → q < n t' → S t p = S t' q → t = t' ∧ p = q) ∧
  (∀ i j, i < sp → j < sp → A i = A j → i = j) ∧
  (∀ t p i, t < 3 → p < n t → i < sp → S t p ≠ A i)
def iRw (S : Nat → Nat → Int32) (K : Nat → Int64) (B : Nat → Int32) (V : Nat → Int64) (O : Nat → Int32) (L : Nat → Int64) (BR : Nat → Int32) (VR : Nat → Int64) (C : Nat → Nat) (T m : Nat) (n : Nat → Nat) : Prop :=
  n 0 + n 1 + n 2 = m ∧
  (∀ t, t < 3 → rCnt O (nI t) m = n t) ∧
  (∀ t p, t < 3 → p < n t → ∃ k, k < m ∧ O k = nI t ∧ L k = K (xs S t p) ∧ ∀ i, i < C t → BR (4 * k + i) = B (4 * xs S t p + i) ∧ VR (4 * k + i) = V (4 * xs S t p + i)) ∧
  (∀ k, k < m → ∃ t p, t < T ∧ p < n t ∧ O k = nI t ∧ L k = K (xs S t p)) ∧
  (∀ k k', k < m → k' < m → O k = O k' → L k = L k' → k = k')
def xn (n : Nat → Nat) (t v : Nat) : Nat → Nat := fun x => if x = t then v else n x
def xS (S : Nat → Nat → Int32) (t : Nat) (f : Nat → Int32) : Nat → Nat → Int32 := fun x => if x = t then f else S x
theorem xn_e {n : Nat → Nat} {t v : Nat} : xn n t v t = v := by simp [xn]
theorem xn_n {n : Nat → Nat} {t v x : Nat} (h : x ≠ t) : xn n t v x = n x := by simp [xn, h]
theorem xn_sum {n : Nat → Nat} {t v : Nat} (ht : t < 3) : xn n t v 0 + xn n t v 1 + xn n t v 2 + n t = n 0 + n 1 + n 2 + v := by
  have : t = 0 ∨ t = 1 ∨ t = 2 := by omega
  rcases this with h | h | h <;> subst h <;> simp [xn] <;> omega
theorem xb_view {S : Nat → Nat → Int32} {n : Nat → Nat} {t r : Nat} {v : Int32} (hr : r ≤ n t) {t' p : Nat} (hp : p < xn n t (n t + 1) t') :
    (t' = t ∧ p = r ∧ xS S t (zins (S t) r (n t) v) t' p = v) ∨
    ∃ q, q < n t' ∧ xS S t (zins (S t) r (n t) v) t' p = S t' q ∧ ((t' ≠ t ∧ p = q) ∨ (t' = t ∧ ((p < r ∧ q = p) ∨ (r < p ∧ p = q + 1)))) := by
  by_cases h : t' = t
  · subst h
    rw [xn_e] at hp
    by_cases h1 : p = r
    · left; simp [xS, zins, h1]
    · right
      by_cases h2 : r < p
      · exact ⟨p - 1, by omega, by simp [xS, zins, h1, h2]; intro h; omega, by omega⟩
      · exact ⟨p, by omega, by simp [xS, zins, h1, h2], by omega⟩
  · right
    rw [xn_n h] at hp
    exact ⟨p, hp, by simp [xS, h], by omega⟩
theorem xs_c {S S' : Nat → Nat → Int32} {t p t' q : Nat} (h : S' t p = S t' q) : xs S' t p = xs S t' q := by rw [xs, xs, h]
section
variable {S : Nat → Nat → Int32} {K : Nat → Int64} {A : Nat → Int32} {n : Nat → Nat} {sp : Nat}
theorem iSl_xs (h : iSl S K A n sp) {t p : Nat} (ht : t < 3) (hp : p < n t) : xs S t p < 90 ∧ S t p = nI (xs S t p) := by
  obtain ⟨u, hu, e⟩ := h.1 t p ht hp
  rw [xs_nI e hu]; exact ⟨hu, e⟩
theorem iSl_ne (h : iSl S K A n sp) {t p t' q : Nat} (ht : t < 3) (hp : p < n t) (ht' : t' < 3) (hq : q < n t') (e : xs S t p = xs S t' q) : t = t' ∧ p = q := by
  refine h.2.2.2.2.1 t p t' q ht hp ht' hq ?_
  rw [(iSl_xs h ht hp).2, (iSl_xs h ht' hq).2, e]
theorem iSl_sp (h : iSl S K A n sp) {t p i u : Nat} (ht : t < 3) (hp : p < n t) (hi : i < sp) (e : A i = nI u) : xs S t p ≠ u := by
  intro h9
  refine h.2.2.2.2.2.2 t p i ht hp hi ?_
  rw [(iSl_xs h ht hp).2, e, h9]
end
theorem vu_e {K : Nat → Int64} {u : Nat} {x : Int64} : vp_updL K u x u = x := by simp [vp_updL]
theorem vu_n {K : Nat → Int64} {u j : Nat} {x : Int64} (h : j ≠ u) : vp_updL K u x j = K j := by simp [vp_updL, h]
theorem iSl_bring {S : Nat → Nat → Int32} {K : Nat → Int64} {A : Nat → Int32} {n : Nat → Nat} {sp : Nat} (h : iSl S K A n (sp + 1)) {t r u : Nat} {key : Int64} (ht : t < 3) (hr : r ≤ n t) (hu9 : u < 90) (hu : A sp = nI u)
    (hb : ∀ p, p < n t → (K (xs S t p) < key ↔ p < r)) (hno : ¬ (r < n t ∧ K (xs S t r) = key)) :
    iSl (xS S t (zins (S t) r (n t) (nI u))) (vp_updL K u key) A (xn n t (n t + 1)) sp := by
  have h2 := h
  obtain ⟨a1, a2, a3, a4, a5, a6, a7⟩ := h2
  have hgt : ∀ p, p < n t → r ≤ p → key < K (xs S t p) := by
    intro p hp hrp
    have h1 := (hb p hp)
    have h3 := (hb r (by omega))
    have h4 : ¬ K (xs S t r) = key := fun h9 => hno ⟨by omega, h9⟩
    rw [i64_eq] at h4
    rw [i64_lt] at h1 h3 ⊢
    rcases Nat.lt_or_ge r p with h5 | h5
    · have h6 := a2 t r p ht h5 hp
      rw [i64_lt] at h6
      have : ¬ (r < r) := by omega
      omega
    · have : p = r := by omega
      subst this
      omega
  have hus : ∀ t' q, t' < 3 → q < n t' → xs S t' q ≠ u := fun t' q ht' hq => iSl_sp h ht' hq (by omega) hu
  have hsum := xn_sum (n := n) (t := t) (v := n t + 1) ht
  have hv := fun {t' p} => @xb_view S n t r (nI u) hr t' p
  refine ⟨?_, ?_, by omega, fun i hi => a4 i (by omega), ?_, fun i j hi hj => a6 i j (by omega) (by omega), ?_⟩
  · intro t' p ht' hp
    rcases hv hp with ⟨_, _, e⟩ | ⟨q, hq, e, _⟩
    · exact ⟨u, hu9, e⟩
    · rw [e]; exact a1 t' q ht' hq
  · intro t' p q ht' hpq hq
    have hp : p < xn n t (n t + 1) t' := by omega
    rcases hv hp with ⟨e1, e2, e3⟩ | ⟨p1, hp1, e1, e2⟩
    · rcases hv hq with ⟨f1, f2, f3⟩ | ⟨q1, hq1, f1, f2⟩
      · omega
      · subst e1
        rw [xs_nI e3 hu9, xs_c f1, vu_e, vu_n (hus _ _ ht' hq1)]
        exact hgt q1 hq1 (by omega)
    · rcases hv hq with ⟨f1, f2, f3⟩ | ⟨q1, hq1, f1, f2⟩
      · subst f1
        rw [xs_nI f3 hu9, xs_c e1, vu_e, vu_n (hus _ _ ht' hp1)]
        exact (hb p1 hp1).2 (by omega)
      · rw [xs_c e1, xs_c f1, vu_n (hus _ _ ht' hp1), vu_n (hus _ _ ht' hq1)]
        exact a2 t' p1 q1 ht' (by omega) hq1
  · intro t1 p t2 q ht1 hp ht2 hq e
    rcases hv hp with ⟨e1, e2, e3⟩ | ⟨p1, hp1, e1, e2⟩
    · rcases hv hq with ⟨f1, f2, f3⟩ | ⟨q1, hq1, f1, f2⟩
      · omega
      · rw [e3, f1] at e
        exact absurd (xs_nI e.symm hu9) (hus _ _ ht2 hq1)
    · rcases hv hq with ⟨f1, f2, f3⟩ | ⟨q1, hq1, f1, f2⟩
      · rw [e1, f3] at e
        exact absurd (xs_nI e hu9) (hus _ _ ht1 hp1)
      · rw [e1, f1] at e
        have := a5 t1 p1 t2 q1 ht1 hp1 ht2 hq1 e
        omega
  · intro t1 p i ht1 hp hi e
    rcases hv hp with ⟨e1, e2, e3⟩ | ⟨p1, hp1, e1, e2⟩
    · rw [e3, ← hu] at e
      have := a6 sp i (by omega) (by omega) e
      omega
    · rw [e1] at e
      exact a7 t1 p1 i ht1 hp1 (by omega) e
