theorem rCnt_cg {f g : Nat → Int32} {x : Int32} : ∀ m, (∀ j, j < m → f j = g j) → rCnt f x m = rCnt g x m
  | 0, _ => rfl
  | m + 1, h => by rw [rCnt, rCnt, h m (by omega), rCnt_cg m (fun j hj => h j (by omega))]
theorem rCnt_up {f g : Nat → Int32} {x : Int32} {k : Nat} : ∀ m, k < m → (∀ j, j ≠ k → g j = f j) → rCnt g x m + (if f k = x then 1 else 0) = rCnt f x m + (if g k = x then 1 else 0)
  | 0, h, _ => absurd h (by omega)
  | m + 1, h, hg => by
    by_cases e : k = m
    · subst e
      have := rCnt_cg (f := g) (g := f) (x := x) k (fun j hj => hg j (by omega))
      rw [rCnt, rCnt, this]
      split <;> split <;> omega
    · have := rCnt_up (x := x) m (by omega) hg
      rw [rCnt, rCnt, hg m (by omega)]
      split <;> omega
theorem iRw_bring {S : Nat → Nat → Int32} {K : Nat → Int64} {A : Nat → Int32} {n : Nat → Nat} {sp : Nat} {B : Nat → Int32} {V : Nat → Int64} {O : Nat → Int32} {L : Nat → Int64} {BR : Nat → Int32} {VR : Nat → Int64} {C : Nat → Nat} {T m : Nat}
    (h : iSl S K A n (sp + 1)) (hw : iRw S K B V O L BR VR C T m n) (hC : ∀ x, x < 3 → C x ≤ 4) (hT : T ≤ 3) {t r u : Nat} {key : Int64} (ht : t < T) (hr : r ≤ n t) (hu9 : u < 90) (hu : A sp = nI u)
    (hb : ∀ p, p < n t → (K (xs S t p) < key ↔ p < r)) (hno : ¬ (r < n t ∧ K (xs S t r) = key))
    {fb : Nat → Int32} {fv : Nat → Int64} {f : Nat} {O' : Nat → Int32} {L' : Nat → Int64} {BR' : Nat → Int32} {VR' : Nat → Int64}
    (hO : ∀ j, O' j = if j = m then nI t else O j) (hL : ∀ j, L' j = if j = m then key else L j)
    (hB1 : ∀ k i, k < m → i < 4 → BR' (4 * k + i) = BR (4 * k + i)) (hB2 : ∀ i, i < C t → BR' (4 * m + i) = fb (f + i))
    (hV1 : ∀ k i, k < m → i < 4 → VR' (4 * k + i) = VR (4 * k + i)) (hV2 : ∀ i, i < C t → VR' (4 * m + i) = fv (f + i)) :
    iRw (xS S t (zins (S t) r (n t) (nI u))) (vp_updL K u key) (va_cpy fb B f (4 * u) (C t)) (va_cpy fv V f (4 * u) (C t)) O' L' BR' VR' C T (m + 1) (xn n t (n t + 1)) := by
  have ht3 : t < 3 := by omega
  have hus : ∀ t' q, t' < 3 → q < n t' → xs S t' q ≠ u := fun t' q ht' hq => iSl_sp h ht' hq (by omega) hu
  have hsum := xn_sum (n := n) (t := t) (v := n t + 1) ht3
  have hv := fun {t' p} => @xb_view S n t r (nI u) hr t' p
  obtain ⟨b1, b2, b3, b4, b5⟩ := hw
  have hnk : ∀ k, k < m → O k = nI t → L k ≠ key := by
    intro k hk e1 e2
    obtain ⟨t', p, g1, g2, g3, g4⟩ := b4 k hk
    have := nI_inj (by omega) (by omega) (g3.symm.trans e1)
    subst this
    rw [e2] at g4
    have h1 := hb p g2
    have h3 := h.2.1 t' r p ht3
    rw [← g4] at h1
    rw [i64_lt] at h1
    rcases Nat.lt_or_ge r p with h5 | h5
    · have h6 := h3 h5 g2
      have h7 := (hb r (by omega))
      rw [← g4] at h6
      have := h7.1 h6
      omega
    · have h8 : ¬ p < r := by omega
      have : p = r := by omega
      subst this
      exact hno ⟨g2, g4.symm⟩
  refine ⟨by omega, ?_, ?_, ?_, ?_⟩
  · intro t' ht'
    have e := rCnt_cg (f := O') (g := O) (x := nI t') m (fun j hj => by rw [hO, if_neg (by omega)])
    rw [rCnt, e, hO, if_pos rfl, b2 t' ht']
    by_cases h9 : t' = t
    · subst h9; rw [if_pos rfl, xn_e]
    · rw [if_neg (fun h8 => h9 (nI_inj (by omega) (by omega) h8).symm), xn_n h9]
  · intro t' p ht' hp
    rcases hv hp with ⟨e1, e2, e3⟩ | ⟨q, hq, e1, e2⟩
    · subst e1
      refine ⟨m, by omega, by rw [hO, if_pos rfl], by rw [hL, if_pos rfl, xs_nI e3 hu9, vu_e], fun i hi => ?_⟩
      rw [xs_nI e3 hu9, hB2 i hi, hV2 i hi]
      have e4 : 4 * u ≤ 4 * u + i ∧ 4 * u + i < 4 * u + C t' := by omega
      rw [va_cpy, va_cpy, if_pos e4, if_pos e4]
      have : 4 * u + i - 4 * u = i := by omega
      rw [this]; exact ⟨rfl, rfl⟩
    · obtain ⟨k, g1, g2, g3, g4⟩ := b3 t' q ht' hq
      have e9 := hus t' q ht' hq
      refine ⟨k, by omega, by rw [hO, if_neg (by omega), g2], by rw [hL, if_neg (by omega), xs_c e1, vu_n e9, g3], fun i hi => ?_⟩
      have hc := hC t' ht'
      have hct := hC t ht3
      have e4 : ¬ (4 * u ≤ 4 * xs S t' q + i ∧ 4 * xs S t' q + i < 4 * u + C t) := by omega
      rw [hB1 k i g1 (by omega), hV1 k i g1 (by omega), xs_c e1, va_cpy, va_cpy, if_neg e4, if_neg e4]
      exact g4 i hi
  · intro k hk
    by_cases e : k = m
    · subst e
      refine ⟨t, r, ht, by rw [xn_e]; omega, by rw [hO, if_pos rfl], ?_⟩
      have e3 : xS S t (zins (S t) r (n t) (nI u)) t r = nI u := by simp [xS, zins]
      rw [hL, if_pos rfl, xs_nI e3 hu9, vu_e]
    · obtain ⟨t', p, g1, g2, g3, g4⟩ := b4 k (by omega)
      have e9 := hus t' p (by omega) g2
      by_cases e8 : t' = t
      · subst e8
        by_cases e7 : p < r
        · have e6 : xS S t' (zins (S t') r (n t') (nI u)) t' p = S t' p := by simp only [xS, zins, if_true]; rw [if_neg (by omega), if_neg (by omega)]
          exact ⟨t', p, g1, by rw [xn_e]; omega, by rw [hO, if_neg e, g3], by rw [hL, if_neg e, xs_c e6, vu_n e9, g4]⟩
        · have e6 : xS S t' (zins (S t') r (n t') (nI u)) t' (p + 1) = S t' p := by simp only [xS, zins, if_true]; rw [if_neg (by omega), if_pos ⟨by omega, by omega⟩, Nat.add_sub_cancel]
          exact ⟨t', p + 1, g1, by rw [xn_e]; omega, by rw [hO, if_neg e, g3], by rw [hL, if_neg e, xs_c e6, vu_n e9, g4]⟩
      · have e6 : xS S t (zins (S t) r (n t) (nI u)) t' p = S t' p := by simp [xS, e8]
        exact ⟨t', p, g1, by rw [xn_n e8]; omega, by rw [hO, if_neg e, g3], by rw [hL, if_neg e, xs_c e6, vu_n e9, g4]⟩
  · intro k k' hk hk' e1 e2
    rw [hO, hO] at e1
    rw [hL, hL] at e2
    by_cases c1 : k = m
    · by_cases c2 : k' = m
      · omega
      · rw [if_pos c1, if_neg c2] at e1 e2
        exact absurd e2.symm (hnk k' (by omega) e1.symm)
    · by_cases c2 : k' = m
      · rw [if_neg c1, if_pos c2] at e1 e2
        exact absurd e2 (hnk k (by omega) e1)
      · rw [if_neg c1, if_neg c2] at e1 e2
        exact b5 k k' (by omega) (by omega) e1 e2
theorem xd_view {S : Nat → Nat → Int32} {n : Nat → Nat} {t r n1 : Nat} (hn : n t = n1 + 1) {t' p : Nat} (hp : p < xn n t n1 t') :
    ∃ q, q < n t' ∧ xS S t (zdn (S t) r n1) t' p = S t' q ∧ ((t' ≠ t ∧ q = p) ∨ (t' = t ∧ ((p < r ∧ q = p) ∨ (r ≤ p ∧ q = p + 1)))) := by
  by_cases h : t' = t
  · subst h
    rw [xn_e] at hp
    by_cases h1 : p < r
    · exact ⟨p, by omega, by simp [xS, zdn]; omega, by omega⟩
    · exact ⟨p + 1, by omega, by simp [xS, zdn]; omega, by omega⟩
  · rw [xn_n h] at hp
    exact ⟨p, hp, by simp [xS, h], by omega⟩
theorem iSl_drop {S : Nat → Nat → Int32} {K : Nat → Int64} {A : Nat → Int32} {n : Nat → Nat} {sp : Nat} (h : iSl S K A n sp) {t r n1 : Nat} (ht : t < 3) (hn : n t = n1 + 1) (hr : r < n1 + 1) :
    iSl (xS S t (zdn (S t) r n1)) K (upd A sp (S t r)) (xn n t n1) (sp + 1) := by
  obtain ⟨a1, a2, a3, a4, a5, a6, a7⟩ := h
  have hsum := xn_sum (n := n) (t := t) (v := n1) ht
  have hv := fun {t' p} => @xd_view S n t r n1 hn t' p
  refine ⟨?_, ?_, by omega, ?_, ?_, ?_, ?_⟩
  · intro t' p ht' hp
    obtain ⟨q, hq, e, _⟩ := hv hp
    rw [e]; exact a1 t' q ht' hq
  · intro t' p q ht' hpq hq
    obtain ⟨p1, hp1, e1, e2⟩ := hv (show p < xn n t n1 t' by omega)
    obtain ⟨q1, hq1, f1, f2⟩ := hv hq
    rw [xs_c e1, xs_c f1]
    exact a2 t' p1 q1 ht' (by omega) hq1
  · intro i hi
    by_cases e : i = sp
    · subst e
      obtain ⟨u, hu, e⟩ := a1 t r ht (by omega)
      exact ⟨u, hu, by simp [upd, e]⟩
    · obtain ⟨u, hu, e9⟩ := a4 i (by omega)
      exact ⟨u, hu, by simp [upd, e, e9]⟩
  · intro t1 p t2 q ht1 hp ht2 hq e
    obtain ⟨p1, hp1, e1, e2⟩ := hv hp
    obtain ⟨q1, hq1, f1, f2⟩ := hv hq
    rw [e1, f1] at e
    have := a5 t1 p1 t2 q1 ht1 hp1 ht2 hq1 e
    omega
  · intro i j hi hj e
    by_cases e1 : i = sp <;> by_cases e2 : j = sp
    · omega
    · simp only [upd, e1, e2, if_true, if_false] at e
      exact absurd e (a7 t r j ht (by omega) (by omega))
    · simp only [upd, e1, e2, if_true, if_false] at e
      exact absurd e.symm (a7 t r i ht (by omega) (by omega))
    · simp only [upd, e1, e2, if_false] at e
      exact a6 i j (by omega) (by omega) e
  · intro t1 p i ht1 hp hi e
    obtain ⟨p1, hp1, e1, e2⟩ := hv hp
    rw [e1] at e
    by_cases e3 : i = sp
    · simp only [upd, e3, if_true] at e
      have := a5 t1 p1 t r ht1 hp1 ht (by omega) e
      omega
    · simp only [upd, e3, if_false] at e
      exact a7 t1 p1 i ht1 hp1 (by omega) e
theorem iRw_drop {S : Nat → Nat → Int32} {K : Nat → Int64} {A : Nat → Int32} {n : Nat → Nat} {sp : Nat} {B : Nat → Int32} {V : Nat → Int64} {O : Nat → Int32} {L : Nat → Int64} {BR : Nat → Int32} {VR : Nat → Int64} {C : Nat → Nat} {T m : Nat}
    (h : iSl S K A n sp) (hw : iRw S K B V O L BR VR C T (m + 1) n) (hC : ∀ x, x < 3 → C x ≤ 4) (hT : T ≤ 3) {t r n1 k0 : Nat} (ht : t < T) (hn : n t = n1 + 1) (hr : r < n1 + 1)
    (hk : k0 < m + 1) (hk1 : O k0 = nI t) (hk2 : L k0 = K (xs S t r))
    {O' : Nat → Int32} {L' : Nat → Int64} {BR' : Nat → Int32} {VR' : Nat → Int64}
    (hO : ∀ j, O' j = if j = k0 then O m else O j) (hL : ∀ j, L' j = if j = k0 then L m else L j)
    (hB1 : ∀ k i, k < m → k ≠ k0 → i < 4 → BR' (4 * k + i) = BR (4 * k + i)) (hB2 : ∀ i, i < 4 → BR' (4 * k0 + i) = BR (4 * m + i))
    (hV1 : ∀ k i, k < m → k ≠ k0 → i < 4 → VR' (4 * k + i) = VR (4 * k + i)) (hV2 : ∀ i, i < 4 → VR' (4 * k0 + i) = VR (4 * m + i)) :
    iRw (xS S t (zdn (S t) r n1)) K B V O' L' BR' VR' C T m (xn n t n1) := by
  have ht3 : t < 3 := by omega
  have hsum := xn_sum (n := n) (t := t) (v := n1) ht3
  have hv := fun {t' p} => @xd_view S n t r n1 hn t' p
  obtain ⟨b1, b2, b3, b4, b5⟩ := hw
  refine ⟨by omega, ?_, ?_, ?_, ?_⟩
  · intro t' ht'
    have h2 := b2 t' ht'
    have h3 : rCnt O (nI t') (m + 1) = rCnt O' (nI t') m + (if O k0 = nI t' then 1 else 0) := by
      by_cases e : k0 = m
      · rw [rCnt, e, rCnt_cg (f := O') (g := O) m (fun j hj => by rw [hO, if_neg (by omega)])]
        split <;> omega
      · have := rCnt_up (f := O) (g := O') (x := nI t') (k := k0) m (by omega) (fun j hj => by rw [hO, if_neg hj])
        rw [this, rCnt, hO, if_pos rfl]
        split <;> omega
    rw [hk1] at h3
    by_cases h9 : t' = t
    · subst h9; rw [if_pos rfl] at h3; rw [xn_e]; omega
    · rw [if_neg (fun h8 => h9 (nI_inj (by omega) (by omega) h8).symm)] at h3; rw [xn_n h9]; omega
  · intro t' p ht' hp
    obtain ⟨q, hq, e1, e2⟩ := hv hp
    obtain ⟨k, g1, g2, g3, g4⟩ := b3 t' q ht' hq
    have hne : k ≠ k0 := by
      intro h9
      subst h9
      have h8 := nI_inj (by omega) (by omega) (g2.symm.trans hk1)
      subst h8
      have h7 := g3.symm.trans hk2
      rcases Nat.lt_or_ge q r with h6 | h6
      · have := h.2.1 t' q r ht' h6 (by omega)
        rw [h7, i64_lt] at this; omega
      · have := h.2.1 t' r q ht' (by omega) hq
        rw [h7, i64_lt] at this; omega
    by_cases e9 : k = m
    · subst e9
      refine ⟨k0, by omega, by rw [hO, if_pos rfl, g2], by rw [hL, if_pos rfl, g3, xs_c e1], fun i hi => ?_⟩
      have := hC t' ht'
      rw [hB2 i (by omega), hV2 i (by omega), xs_c e1]
      exact g4 i hi
    · refine ⟨k, by omega, by rw [hO, if_neg hne, g2], by rw [hL, if_neg hne, g3, xs_c e1], fun i hi => ?_⟩
      have := hC t' ht'
      rw [hB1 k i (by omega) hne (by omega), hV1 k i (by omega) hne (by omega), xs_c e1]
      exact g4 i hi
  · intro k hk3
    have key : ∀ k1, k1 < m + 1 → k1 ≠ k0 → ∃ t' p, t' < T ∧ p < xn n t n1 t' ∧ O k1 = nI t' ∧ L k1 = K (xs (xS S t (zdn (S t) r n1)) t' p) := by
      intro k1 hk4 hk5
      obtain ⟨t', p, g1, g2, g3, g4⟩ := b4 k1 hk4
      by_cases e8 : t' = t
      · subst e8
        have e7 : p ≠ r := by
          intro h9; subst h9
          exact hk5 (b5 k1 k0 hk4 hk (g3.trans hk1.symm) (g4.trans hk2.symm))
        by_cases e5 : p < r
        · have e6 : xS S t' (zdn (S t') r n1) t' p = S t' p := by simp [xS, zdn]; omega
          exact ⟨t', p, g1, by rw [xn_e]; omega, g3, by rw [xs_c e6, g4]⟩
        · have e6 : xS S t' (zdn (S t') r n1) t' (p - 1) = S t' p := by
            have : p - 1 + 1 = p := by omega
            simp [xS, zdn, this]; omega
          exact ⟨t', p - 1, g1, by rw [xn_e]; omega, g3, by rw [xs_c e6, g4]⟩
      · have e6 : xS S t (zdn (S t) r n1) t' p = S t' p := by simp [xS, e8]
        exact ⟨t', p, g1, by rw [xn_n e8]; omega, g3, by rw [xs_c e6, g4]⟩
    by_cases e : k = k0
    · rw [hO, hL, if_pos e, if_pos e]
      exact key m (by omega) (by omega)
    · rw [hO, hL, if_neg e, if_neg e]
      exact key k (by omega) e
  · intro k k' h1 h2 e1 e2
    rw [hO, hO] at e1
    rw [hL, hL] at e2
    by_cases c1 : k = k0 <;> by_cases c2 : k' = k0
    · omega
    · rw [if_pos c1, if_neg c2] at e1 e2
      have := b5 m k' (by omega) (by omega) e1 e2; omega
    · rw [if_neg c1, if_pos c2] at e1 e2
      have := b5 k m (by omega) (by omega) e1 e2; omega
    · rw [if_neg c1, if_neg c2] at e1 e2
      exact b5 k k' (by omega) (by omega) e1 e2
