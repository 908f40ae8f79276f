def iNl (f : Nat → Int32) (g : Nat → Int64) : Prop := ∀ i, ∃ b : Bool, f i = zb b ∧ (b = false → g i = 0)
theorem iNl_b {f : Nat → Int32} {g : Nat → Int64} (h : iNl f g) (i : Nat) : ∃ b : Bool, f i = zb b := let ⟨b, hb, _⟩ := h i; ⟨b, hb⟩
theorem iNl_v {f : Nat → Int32} {g : Nat → Int64} (h : iNl f g) (i : Nat) : vp_nar .boolean (f i) = f i := by obtain ⟨b, hb, _⟩ := h i; rw [hb, zb_v]
theorem iNl_upd {f : Nat → Int32} {g : Nat → Int64} (h : iNl f g) (i : Nat) (b : Bool) (x : Int64) (hx : b = false → x = 0) : iNl (upd f i (zb b)) (vp_updL g i x) := by
  intro j
  by_cases e : j = i
  · exact ⟨b, by simp [upd, e], by simpa [vp_updL, e] using hx⟩
  · simpa [upd, vp_updL, e] using h j
theorem iNl_cpy {f f0 : Nat → Int32} {g g0 : Nat → Int64} (h : iNl f g) (h0 : iNl f0 g0) (s d n : Nat) : iNl (va_cpy f f0 s d n) (va_cpy g g0 s d n) := by
  intro j
  by_cases e : d ≤ j ∧ j < d + n
  · simpa [va_cpy, e] using h (s + (j - d))
  · simpa [va_cpy, e] using h0 j
def xSl (J : zJT) : Nat → Nat → Int32 := fun t => J (10 + 2 * t)
def xC (J : zJT) : Nat → Nat := fun t => (J (9 + 2 * t) 0).toNatClampNeg
def iH (J : zJT) (G : zGT) (Jr : zJT) (Gr : zGT) (T m sp : Nat) (n : Nat → Nat) : Prop :=
  (T ≤ 3 ∧ J 2 1 = nI T ∧ Jr 40 1 = nI T) ∧
  (∀ t, t < 3 → ∃ c, c ≤ 4 ∧ (t < T → 1 ≤ c) ∧ J (9 + 2 * t) 0 = nI c ∧ Jr 41 t = nI c) ∧
  (∀ t, t < 3 → J (9 + 2 * t) 1 = nI (n t)) ∧
  (J 2 5 = nI sp ∧ Jr 40 3 = nI m) ∧
  iSl (xSl J) (G 7) (J 8) n sp ∧
  iRw (xSl J) (G 7) (J 6) (G 5) (Jr 42) (Gr 43) (Jr 45) (Gr 44) (xC J) T m n ∧
  iNl (J 6) (G 5) ∧ iNl (Jr 45) (Gr 44)
section
variable {J Jr : zJT} {G Gr : zGT} {T m sp : Nat} {n : Nat → Nat}
theorem iH_c {J' Jr' : zJT} {G' Gr' : zGT} (h : iH J G Jr Gr T m sp n) (e1 : J' 2 1 = J 2 1) (e2 : J' 2 5 = J 2 5) (e3 : ∀ a, 6 ≤ a → a ≤ 14 → J' a = J a) (e4 : G' 5 = G 5) (e5 : G' 7 = G 7)
    (r1 : Jr' 40 1 = Jr 40 1) (r2 : Jr' 40 3 = Jr 40 3) (r3 : Jr' 41 = Jr 41) (r4 : Jr' 42 = Jr 42) (r5 : Jr' 45 = Jr 45) (r6 : Gr' 43 = Gr 43) (r7 : Gr' 44 = Gr 44) : iH J' G' Jr' Gr' T m sp n := by
  obtain ⟨⟨a1, a2, a3⟩, a4, a5, ⟨a6, a7⟩, a8, a9, a10, a11⟩ := h
  have hs : ∀ t, t < 3 → xSl J' t = xSl J t := fun t ht => e3 _ (by omega) (by omega)
  have hx : ∀ t p, t < 3 → xs (xSl J') t p = xs (xSl J) t p := fun t p ht => by rw [xs, xs, hs t ht]
  have hc : ∀ t, t < 3 → xC J' t = xC J t := fun t ht => by rw [xC, xC, e3 _ (by omega) (by omega)]
  refine ⟨⟨a1, e1.trans a2, r1.trans a3⟩, fun t ht => ?_, fun t ht => ?_, ⟨e2.trans a6, r2.trans a7⟩, ?_, ?_, ?_, ?_⟩
  · rw [e3 _ (by omega) (by omega), r3]; exact a4 t ht
  · rw [e3 _ (by omega) (by omega)]; exact a5 t ht
  · rw [e5, e3 8 (by omega) (by omega)]
    obtain ⟨b1, b2, b3, b4, b5, b6, b7⟩ := a8
    refine ⟨fun t p ht hp => ?_, fun t p q ht h1 h2 => ?_, b3, b4, fun t p t' q ht hp ht' hq => ?_, b6, fun t p i ht hp hi => ?_⟩
    · rw [hs t ht]; exact b1 t p ht hp
    · rw [hx t p ht, hx t q ht]; exact b2 t p q ht h1 h2
    · rw [hs t ht, hs t' ht']; exact b5 t p t' q ht hp ht' hq
    · rw [hs t ht]; exact b7 t p i ht hp hi
  · rw [e5, e3 6 (by omega) (by omega), e4, r4, r5, r6, r7]
    obtain ⟨b1, b2, b3, b4, b5⟩ := a9
    refine ⟨b1, b2, fun t p ht hp => ?_, fun k hk => ?_, b5⟩
    · rw [hx t p ht, hc t ht]; exact b3 t p ht hp
    · obtain ⟨t, p, g1, g2, g3, g4⟩ := b4 k hk
      exact ⟨t, p, g1, g2, g3, by rw [hx t p (by omega)]; exact g4⟩
  · rw [e3 6 (by omega) (by omega), e4]; exact a10
  · rw [r5, r7]; exact a11
theorem iH_n (h : iH J G Jr Gr T m sp n) {t : Nat} (ht : t < 3) : n t ≤ 90 ∧ n t ≤ m ∧ m + sp = 90 := by
  have h1 := h.2.2.2.2.1.2.2.1
  have h2 := h.2.2.2.2.2.1.1
  have : t = 0 ∨ t = 1 ∨ t = 2 := by omega
  rcases this with h3 | h3 | h3 <;> subst h3 <;> omega
theorem iH_Tn (h : iH J G Jr Gr T m sp n) {t : Nat} (ht : t < 3) : zTn J t (n t) := by
  refine ⟨ht, (iH_n h ht).1, h.2.2.1 t ht, fun p hp => ?_⟩
  have := iSl_xs h.2.2.2.2.1 ht hp
  exact ⟨this.2, this.1, by decide⟩
theorem iH_C (h : iH J G Jr Gr T m sp n) {t : Nat} (ht : t < 3) : ∃ c, c ≤ 4 ∧ (t < T → 1 ≤ c) ∧ J (9 + 2 * t) 0 = nI c ∧ Jr 41 t = nI c ∧ xC J t = c := by
  obtain ⟨c, h1, h2, h3, h4⟩ := h.2.1 t ht
  exact ⟨c, h1, h2, h3, h4, by rw [xC, h3, nI_clamp (by omega)]⟩
theorem iH_C4 (h : iH J G Jr Gr T m sp n) : ∀ x, x < 3 → xC J x ≤ 4 := fun x hx => by
  obtain ⟨c, h1, _, _, _, h5⟩ := iH_C h hx
  omega
end
theorem rLJ_42 {J : zJT} {m : Nat} {t : Int32} {b : Nat → Bool} : ∀ k, 1 ≤ k → rLJ J m t b k 42 = upd (J 42) m t
  | 0, h => absurd h (by omega)
  | 1, _ => rfl
  | k + 2, _ => by
    rw [rLJ, zu_n (by decide), show ∀ (f : zJT) (x : Nat → Int32), va_up f 42 x 42 = x from fun f x => by simp [va_up], rLJ_42 (k + 1) (by omega)]
    funext j; simp only [upd]; split <;> rfl
theorem rLG_43 {G : zGT} {m : Nat} {key : Int64} {b : Nat → Bool} {v : Nat → Int64} : ∀ k, 1 ≤ k → rLG G m key b v k 43 = vp_updL (G 43) m key
  | 0, h => absurd h (by omega)
  | 1, _ => rfl
  | k + 2, _ => by
    rw [rLG, zu_n (by decide), show ∀ (f : zGT) (x : Nat → Int64), va_up f 43 x 43 = x from fun f x => by simp [va_up], rLG_43 (k + 1) (by omega)]
    funext j; simp only [vp_updL]; split <;> rfl
theorem rLJ_45 {J : zJT} {m : Nat} {t : Int32} {b : Nat → Bool} : ∀ k i, rLJ J m t b k 45 i = if 4 * m ≤ i ∧ i < 4 * m + k then zb (b (i - 4 * m)) else J 45 i
  | 0, i => by rw [rLJ, if_neg (by omega)]
  | k + 1, i => by
    rw [rLJ, show ∀ (f : zJT) (x : Nat → Int32), va_up f 45 x 45 = x from fun f x => by simp [va_up], upd]
    by_cases e : i = 4 * m + k
    · rw [if_pos e, if_pos (by omega), show i - 4 * m = k by omega]
    · rw [if_neg e, rLJ_45 k i]
      by_cases e2 : 4 * m ≤ i ∧ i < 4 * m + k
      · rw [if_pos e2, if_pos (by omega)]
      · rw [if_neg e2, if_neg (by omega)]
theorem rLG_44 {G : zGT} {m : Nat} {key : Int64} {b : Nat → Bool} {v : Nat → Int64} : ∀ k i, rLG G m key b v k 44 i = if 4 * m ≤ i ∧ i < 4 * m + k then (if b (i - 4 * m) then v (i - 4 * m) else 0) else G 44 i
  | 0, i => by rw [rLG, if_neg (by omega)]
  | k + 1, i => by
    rw [rLG, show ∀ (f : zGT) (x : Nat → Int64), va_up f 44 x 44 = x from fun f x => by simp [va_up], vp_updL]
    by_cases e : i = 4 * m + k
    · rw [if_pos e, if_pos (show 4 * m ≤ i ∧ i < 4 * m + (k + 1) by omega), show i - 4 * m = k by omega]
    · rw [if_neg e, rLG_44 k i]
      by_cases e2 : 4 * m ≤ i ∧ i < 4 * m + k
      · rw [if_pos e2, if_pos (show 4 * m ≤ i ∧ i < 4 * m + (k + 1) by omega)]
      · rw [if_neg e2, if_neg (show ¬ (4 * m ≤ i ∧ i < 4 * m + (k + 1)) by omega)]
theorem zu_e {α : Type} {f : Nat → α} {a : Nat} {v : α} : va_up f a v a = v := by simp [va_up]
section
variable {J Jr : zJT} {G Gr : zGT} {T m sp : Nat} {n : Nat → Nat}
theorem xSl_bring {t b f u c sp r : Nat} {N : Nat} (x : Nat) : xSl (zbrT J t b f u c sp r N) x = xS (xSl J) t (zins (xSl J t) r N (nI u)) x := by
  simp only [xSl, xS, zbrT, zbrJ]
  rw [zu_n (by omega)]
  by_cases e : x = t
  · rw [if_pos e, e, zu_e]
  · rw [if_neg e, zu_n (by omega), zu_n (by omega), zu_n (by omega)]
theorem xC_bring {t b f u c sp r N : Nat} (x : Nat) : xC (zbrT J t b f u c sp r N) x = xC J x := by
  simp only [xC, zbrT, zbrJ]
  by_cases e : x = t
  · rw [e, zu_e, zu_n (by decide)]
  · rw [zu_n (by omega), zu_n (by omega), zu_n (by omega), zu_n (by omega)]
theorem iH_bring (h : iH J G Jr Gr T m (sp + 1) n) {t r u c b f : Nat} {key : Int64} (ht : t < T) (hc : J (9 + 2 * t) 0 = nI c) (hc4 : c ≤ 4) (hr : r ≤ n t) (hu9 : u < 90) (hu : J 8 sp = nI u)
    (hb : ∀ p, p < n t → (zbl (zky J G t p) key false ↔ p < r)) (hno : ¬ (r < n t ∧ zky J G t r = key)) (hnl : iNl (J (b + 2)) (G (b + 1)))
    {Jq : zJT} {Gq : zGT} {bb : Nat → Bool} {v : Nat → Int64}
    (q1 : Jq 40 1 = Jr 40 1) (q3 : Jq 41 = Jr 41) (q4 : Jq 42 = Jr 42) (q5 : Jq 45 = Jr 45) (q6 : Gq 43 = Gr 43) (q7 : Gq 44 = Gr 44)
    (hv : ∀ k, k < c → J (b + 2) (f + k) = zb (bb k) ∧ G (b + 1) (f + k) = (if bb k then v k else 0)) {y : Nat → Int32} (hy : y 1 = Jq 40 1) (hy3 : y 3 = nI m + 1) :
    iH (zbrT J t b f u c sp r (n t)) (zbrG G b f u c key) (va_up (rLJ Jq m (nI t) bb c) 40 y) (rLG Gq m key bb v c) T (m + 1) sp (xn n t (n t + 1)) := by
  have hcT := iH_C4 h
  obtain ⟨c2, g1, g2, g3, g4, g5⟩ := iH_C h (show t < 3 by have := h.1.1; omega)
  have hcc : c2 = c := nI_inj (by omega) (by omega) (g3.symm.trans hc)
  subst hcc
  have hc1 := g2 ht
  obtain ⟨⟨a1, a2, a3⟩, a4, a5, ⟨a6, a7⟩, a8, a9, a10, a11⟩ := h
  have ht3 : t < 3 := by omega
  have E42 : va_up (rLJ Jq m (nI t) bb c2) 40 y 42 = upd (Jr 42) m (nI t) := by rw [zu_n (by decide), rLJ_42 _ hc1, q4]
  have E43 : rLG Gq m key bb v c2 43 = vp_updL (Gr 43) m key := by rw [rLG_43 _ hc1, q6]
  have hS : iSl (xSl (zbrT J t b f u c2 sp r (n t))) (zbrG G b f u c2 key 7) (zbrT J t b f u c2 sp r (n t) 8) (xn n t (n t + 1)) sp := by
    rw [show xSl (zbrT J t b f u c2 sp r (n t)) = _ from funext xSl_bring, show zbrG G b f u c2 key 7 = vp_updL (G 7) u key from rfl, show zbrT J t b f u c2 sp r (n t) 8 = J 8 by
      simp only [zbrT, zbrJ]; rw [zu_n (by omega), zu_n (by omega), zu_n (by omega), zu_n (by omega)]]
    exact iSl_bring a8 ht3 hr hu9 hu (fun p hp => (zbl_f.symm.trans (hb p hp))) hno
  refine ⟨⟨a1, ?_, ?_⟩, fun x hx => ?_, fun x hx => ?_, ⟨?_, ?_⟩, hS, ?_, ?_, ?_⟩
  · rw [← a2]; simp only [zbrT, zbrJ]; rw [zu_n (by omega), zu_n (by omega), zu_n (by omega), zu_e, zu_n (by decide)]
  · rw [zu_e, hy, q1, a3]
  · have e1 : zbrT J t b f u c2 sp r (n t) (9 + 2 * x) 0 = J (9 + 2 * x) 0 := by
      simp only [zbrT, zbrJ]
      by_cases e : x = t
      · rw [e, zu_e, zu_n (by decide)]
      · rw [zu_n (by omega), zu_n (by omega), zu_n (by omega), zu_n (by omega)]
    rw [e1, zu_n (by decide), rLJ_o (by decide) (by decide), q3]
    exact a4 x hx
  · simp only [zbrT, zbrJ]
    by_cases e : x = t
    · rw [e, zu_e, zu_e, xn_e, nI_succ]
    · rw [zu_n (by omega), zu_n (by omega), zu_n (by omega), zu_n (by omega), xn_n e]; exact a5 x hx
  · simp only [zbrT, zbrJ]; rw [zu_n (by omega), zu_n (by omega), zu_n (by omega), zu_e, zu_e]
  · rw [zu_e, hy3, nI_succ]
  · rw [show xSl (zbrT J t b f u c2 sp r (n t)) = _ from funext xSl_bring, show xC (zbrT J t b f u c2 sp r (n t)) = _ from funext xC_bring, show zbrG G b f u c2 key 7 = vp_updL (G 7) u key from rfl,
      show zbrG G b f u c2 key 5 = va_cpy (G (b + 1)) (G 5) f (4 * u) c2 from rfl, show zbrT J t b f u c2 sp r (n t) 6 = va_cpy (J (b + 2)) (J 6) f (4 * u) c2 by
        simp only [zbrT, zbrJ]; rw [zu_n (by omega), zu_n (by omega), zu_e], E42, E43, ← g5]
    rw [← g5] at hv
    refine iRw_bring a8 a9 hcT a1 ht hr hu9 hu (fun p hp => (zbl_f.symm.trans (hb p hp))) hno (fun j => rfl) (fun j => rfl) (fun k i hk hi => ?_) (fun i hi => ?_) (fun k i hk hi => ?_) (fun i hi => ?_)
    · rw [zu_n (by decide), rLJ_45, if_neg (by omega), q5]
    · rw [zu_n (by decide), rLJ_45, if_pos (by omega), show 4 * m + i - 4 * m = i by omega, (hv i hi).1]
    · rw [rLG_44, if_neg (by omega), q7]
    · rw [rLG_44, if_pos (by omega), show 4 * m + i - 4 * m = i by omega, (hv i hi).2]
  · rw [show zbrG G b f u c2 key 5 = va_cpy (G (b + 1)) (G 5) f (4 * u) c2 from rfl, show zbrT J t b f u c2 sp r (n t) 6 = va_cpy (J (b + 2)) (J 6) f (4 * u) c2 by
        simp only [zbrT, zbrJ]; rw [zu_n (by omega), zu_n (by omega), zu_e]]
    exact iNl_cpy hnl a10 _ _ _
  · intro i
    rw [zu_n (by decide), rLJ_45, rLG_44, q5, q7]
    by_cases e : 4 * m ≤ i ∧ i < 4 * m + c2
    · rw [if_pos e, if_pos e]
      exact ⟨_, rfl, fun h9 => by simp [h9]⟩
    · rw [if_neg e, if_neg e]; exact a11 i
end

theorem rTJ_42 {J : zJT} {m r : Nat} : ∀ k, rTJ J m r k 42 = upd (J 42) r (J 42 m)
  | 0 => rfl
  | k + 1 => by rw [rTJ, zu_n (by decide), rTJ_42 k]
theorem rTG_43 {G : zGT} {m r : Nat} : ∀ k, rTG G m r k 43 = vp_updL (G 43) r (G 43 m)
  | 0 => rfl
  | k + 1 => by rw [rTG, zu_n (by decide), rTG_43 k]
theorem rTJ_o {J : zJT} {m r a : Nat} (h1 : a ≠ 40) (h2 : a ≠ 42) (h3 : a ≠ 45) : ∀ k, rTJ J m r k a = J a
  | 0 => by rw [rTJ, zu_n h2, zu_n h1]
  | k + 1 => by rw [rTJ, zu_n h3, rTJ_o h1 h2 h3 k]
theorem rTG_o {G : zGT} {m r a : Nat} (h2 : a ≠ 43) (h3 : a ≠ 44) : ∀ k, rTG G m r k a = G a
  | 0 => by rw [rTG, zu_n h2]
  | k + 1 => by rw [rTG, zu_n h3, rTG_o h2 h3 k]
theorem rTJ_40 {J : zJT} {m r : Nat} : ∀ k, rTJ J m r k 40 = va_up (J 40) 3 (nI m)
  | 0 => rfl
  | k + 1 => by rw [rTJ, zu_n (by decide), rTJ_40 k]
theorem rTJ_45 {J : zJT} {m r : Nat} (hr : r ≤ m) : ∀ k, k ≤ 4 → ∀ i, rTJ J m r k 45 i = if 4 * r ≤ i ∧ i < 4 * r + k then J 45 (4 * m + (i - 4 * r)) else J 45 i
  | 0, _, i => by rw [rTJ, zu_n (by decide), zu_n (by decide), if_neg (by omega)]
  | k + 1, hk, i => by
    rw [rTJ, zu_e, upd]
    by_cases e : i = 4 * r + k
    · rw [if_pos e, rTJ_45 hr k (by omega), if_pos (show 4 * r ≤ i ∧ i < 4 * r + (k + 1) by omega), show i - 4 * r = k by omega]
      by_cases e2 : 4 * r ≤ 4 * m + k ∧ 4 * m + k < 4 * r + k
      · omega
      · rw [if_neg e2]
    · rw [if_neg e, rTJ_45 hr k (by omega) i]
      by_cases e2 : 4 * r ≤ i ∧ i < 4 * r + k
      · rw [if_pos e2, if_pos (show 4 * r ≤ i ∧ i < 4 * r + (k + 1) by omega)]
      · rw [if_neg e2, if_neg (show ¬ (4 * r ≤ i ∧ i < 4 * r + (k + 1)) by omega)]
theorem rTG_44 {G : zGT} {m r : Nat} (hr : r ≤ m) : ∀ k, k ≤ 4 → ∀ i, rTG G m r k 44 i = if 4 * r ≤ i ∧ i < 4 * r + k then G 44 (4 * m + (i - 4 * r)) else G 44 i
  | 0, _, i => by rw [rTG, zu_n (by decide), if_neg (by omega)]
  | k + 1, hk, i => by
    rw [rTG, zu_e, vp_updL]
    by_cases e : i = 4 * r + k
    · rw [if_pos e, rTG_44 hr k (by omega), if_pos (show 4 * r ≤ i ∧ i < 4 * r + (k + 1) by omega), show i - 4 * r = k by omega]
      by_cases e2 : 4 * r ≤ 4 * m + k ∧ 4 * m + k < 4 * r + k
      · omega
      · rw [if_neg e2]
    · rw [if_neg e, rTG_44 hr k (by omega) i]
      by_cases e2 : 4 * r ≤ i ∧ i < 4 * r + k
      · rw [if_pos e2, if_pos (show 4 * r ≤ i ∧ i < 4 * r + (k + 1) by omega)]
      · rw [if_neg e2, if_neg (show ¬ (4 * r ≤ i ∧ i < 4 * r + (k + 1)) by omega)]
section
variable {J Jr : zJT} {G Gr : zGT} {T m sp : Nat} {n : Nat → Nat}
theorem xSl_drop {t r N : Nat} (x : Nat) : xSl (zdrJ J t r N sp) x = xS (xSl J) t (zdn (xSl J t) r N) x := by
  simp only [xSl, xS, zdrJ]
  by_cases e : x = t
  · rw [if_pos e, e, zu_e]
  · rw [if_neg e, zu_n (by omega), zu_n (by omega), zu_n (by omega), zu_n (by omega)]
theorem xC_drop {t r N : Nat} (x : Nat) : xC (zdrJ J t r N sp) x = xC J x := by
  simp only [xC, zdrJ]
  rw [zu_n (by omega)]
  by_cases e : x = t
  · rw [e, zu_e, zu_n (by decide)]
  · rw [zu_n (by omega), zu_n (by omega), zu_n (by omega)]
theorem iH_drop (h : iH J G Jr Gr T (m + 1) sp n) {t r k0 n1 : Nat} (ht : t < T) (hn : n t = n1 + 1) (hr : r < n1 + 1)
    (hk : k0 < m + 1) (hk1 : Jr 42 k0 = nI t) (hk2 : Gr 43 k0 = zky J G t r)
    {Jq : zJT} {Gq : zGT} (q1 : Jq 40 1 = Jr 40 1) (q3 : Jq 41 = Jr 41) (q4 : Jq 42 = Jr 42) (q5 : Jq 45 = Jr 45) (q6 : Gq 43 = Gr 43) (q7 : Gq 44 = Gr 44) :
    iH (zdrJ J t r n1 sp) G (rTJ Jq m k0 4) (rTG Gq m k0 4) T m (sp + 1) (xn n t n1) := by
  have hcT := iH_C4 h
  obtain ⟨⟨a1, a2, a3⟩, a4, a5, ⟨a6, a7⟩, a8, a9, a10, a11⟩ := h
  have ht3 : t < 3 := by omega
  have E42 : rTJ Jq m k0 4 42 = upd (Jr 42) k0 (Jr 42 m) := by rw [rTJ_42, q4]
  have E43 : rTG Gq m k0 4 43 = vp_updL (Gr 43) k0 (Gr 43 m) := by rw [rTG_43, q6]
  have e6 : zdrJ J t r n1 sp 6 = J 6 := by
    simp only [zdrJ]; rw [zu_n (by omega), zu_n (by omega), zu_n (by omega), zu_n (by omega)]
  have e8 : zdrJ J t r n1 sp 8 = upd (J 8) sp (xSl J t r) := by
    simp only [zdrJ]; rw [zu_n (by omega), zu_n (by omega), zu_n (by omega), zu_e]; rfl
  refine ⟨⟨a1, ?_, ?_⟩, fun x hx => ?_, fun x hx => ?_, ⟨?_, ?_⟩, ?_, ?_, ?_, ?_⟩
  · rw [← a2]; simp only [zdrJ]; rw [zu_n (by omega), zu_n (by omega), zu_e, zu_n (by decide)]
  · rw [rTJ_40, zu_n (by decide), q1, a3]
  · have e1 : zdrJ J t r n1 sp (9 + 2 * x) 0 = J (9 + 2 * x) 0 := by
      simp only [zdrJ]
      rw [zu_n (by omega)]
      by_cases e : x = t
      · rw [e, zu_e, zu_n (by decide)]
      · rw [zu_n (by omega), zu_n (by omega), zu_n (by omega)]
    rw [e1, rTJ_o (by decide) (by decide) (by decide), q3]
    exact a4 x hx
  · simp only [zdrJ]
    rw [zu_n (by omega)]
    by_cases e : x = t
    · rw [e, zu_e, zu_e, xn_e]
    · rw [zu_n (by omega), zu_n (by omega), zu_n (by omega), xn_n e]; exact a5 x hx
  · simp only [zdrJ]; rw [zu_n (by omega), zu_n (by omega), zu_e, zu_e, nI_succ]
  · rw [rTJ_40, zu_e]
  · rw [show xSl (zdrJ J t r n1 sp) = _ from funext xSl_drop, e8]
    exact iSl_drop a8 ht3 hn hr
  · rw [show xSl (zdrJ J t r n1 sp) = _ from funext xSl_drop, show xC (zdrJ J t r n1 sp) = _ from funext xC_drop, e6, E42, E43]
    refine iRw_drop a8 a9 hcT a1 ht hn hr hk hk1 hk2 (fun j => rfl) (fun j => rfl) (fun k i hk hne hi => ?_) (fun i hi => ?_) (fun k i hk hne hi => ?_) (fun i hi => ?_)
    · rw [rTJ_45 (by omega) 4 (by omega), if_neg (by omega), q5]
    · rw [rTJ_45 (by omega) 4 (by omega), if_pos (by omega), show 4 * k0 + i - 4 * k0 = i by omega, q5]
    · rw [rTG_44 (by omega) 4 (by omega), if_neg (by omega), q7]
    · rw [rTG_44 (by omega) 4 (by omega), if_pos (by omega), show 4 * k0 + i - 4 * k0 = i by omega, q7]
  · rw [e6]; exact a10
  · intro i
    rw [rTJ_45 (by omega) 4 (by omega), rTG_44 (by omega) 4 (by omega), q5, q7]
    by_cases e : 4 * k0 ≤ i ∧ i < 4 * k0 + 4
    · rw [if_pos e, if_pos e]; exact a11 _
    · rw [if_neg e, if_neg e]; exact a11 i
end
