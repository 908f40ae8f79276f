def rSl (b : Option Nat) : Nat := match b with
  | none => 1
  | some _ => 2
def rCl (J : zJT) (c : Int32) : Nat → Nat
  | 0 => 0
  | k + 1 => rCl J c k + (if J 58 (4 * k) = c then (if J 58 (4 * k + 2) < 6 then 4 else 3) else 0)
theorem rCl_le (J : zJT) (c : Int32) : ∀ k, rCl J c k ≤ 4 * k
  | 0 => by simp [rCl]
  | k + 1 => by
    have := rCl_le J c k
    rw [rCl]
    split
    · split <;> omega
    · omega
theorem rSl_le (b : Option Nat) : 1 ≤ rSl b ∧ rSl b ≤ 2 := by cases b <;> simp [rSl]
theorem rSt_l (J : zJT) (c p : Int32) (b : Option Nat) : (rSt J c p b).length = rSl b := by cases b <;> rfl
theorem rLn_n (J : zJT) (c : Int32) (b : Nat) : ∀ k, rLn J c (nI b) k = nI (b + rCl J c k)
  | 0 => rfl
  | k + 1 => by
    rw [rLn, rCl, rLn_n J c b k]
    by_cases h : J 58 (4 * k) = c
    · rw [if_pos h, if_pos h]
      by_cases h6 : J 58 (4 * k + 2) < 6
      · rw [if_pos h6, if_pos h6, ← Nat.add_assoc, ← nI_sum _ 4]; rfl
      · rw [if_neg h6, if_neg h6, ← Nat.add_assoc, ← nI_sum _ 3]; rfl
    · rw [if_neg h, if_neg h]; simp
theorem rSl_i (P : Nat → Bool) {n : Nat} (hn : n ≤ 4) : (if 0 ≤ rSk P n 0 then (2 : Int32) else 1) = nI (rSl (rSo P n 0)) := by
  rw [rSk_o]
  cases h : rSo P n 0 with
  | none => rw [rI, if_neg (by decide)]; rfl
  | some i =>
    have := rSo_lt _ _ _ _ h
    rw [rI, if_pos (nI_pos' (by omega))]; rfl
def rHh (J : zJT) (n : Nat) : Prop := ∀ k, k < n → rHw J k < 8 ∧ J 58 (4 * k + 2) = nI (rHw J k)
theorem rCo_l {J : zJT} {n : Nat} (h : rHh J n) (c nx : Int32) (m : Nat) : ∀ k, k ≤ n → (rCo J c nx m k).length = rCl J c k
  | 0, _ => rfl
  | k + 1, hk => by
    rw [rCo, rCl, List.length_append, rCo_l h c nx m k (by omega)]
    by_cases e : J 58 (4 * k) = c
    · rw [if_pos e, if_pos e, rC1, (h k (by omega)).2]
      simp only [nI_lt6 (h k (by omega)).1]
      by_cases h6 : rHw J k < 6
      · rw [if_pos h6, if_pos h6]; rfl
      · rw [if_neg h6, if_neg h6]; rfl
    · rw [if_neg e, if_neg e]; rfl
theorem rLp_l {J : zJT} {n : Nat} (h : rHh J n) (c p nx : Int32) (m : Nat) : (rLp J c p nx m n).length = rSl (rSo (rSkP J c) n 0) + rCl J c n := by
  rw [rLp, List.length_append, rSt_l, rCo_l h _ _ _ n (Nat.le_refl _)]
def rNx (J : zJT) (two jo : Bool) (n mo : Nat) : Nat := (rP0 J two).length + (rSl (rSo (rSkP J 0) n 0) + rCl J 0 n) + (if two = true then rSl (rSo (rSkP J 1) n 0) + rCl J 1 n + (if jo = true then 4 else 0) else 0) + mo + 1
def rNz (J : zJT) (two jo : Bool) (n mo : Nat) : Nat := if two = true then rNx J two jo n mo + 1 else rNx J two jo n mo
theorem rP0_l (J : zJT) (two : Bool) : (rP0 J two).length = if two = true then 2 else 1 := by cases two <;> rfl
theorem rPg_l {J : zJT} {n : Nat} (h : rHh J n) (two jo : Bool) (mo : Nat) (p0 n0 p1 n1 : Int32) : (rPg J two jo n mo p0 n0 p1 n1).length = rNz J two jo n mo + 2 := by
  rw [rPg, rNz, rNx]
  cases two
  · rw [if_neg (by decide), if_neg (by decide), if_neg (by decide)]
    simp only [rP1, rTl, List.length_append, List.length_cons, List.length_nil, rLp_l h, rOu_len]
    omega
  · rw [if_pos rfl, if_pos rfl, if_pos rfl]
    cases jo
    · rw [rIn1, if_neg (by decide), if_neg (by decide)]
      simp only [rP1, rTl, List.length_append, List.length_cons, List.length_nil, rLp_l h, rOu_len]
      omega
    · rw [rIn1, if_pos rfl, if_pos rfl]
      simp only [rP1, rTl, rJn, List.length_append, List.length_cons, List.length_nil, rLp_l h, rOu_len]
      omega
theorem rNz_le (J : zJT) (two jo : Bool) {n mo : Nat} (hn : n ≤ 4) (hmo : mo ≤ 4) : rNz J two jo n mo + 2 ≤ 50 := by
  have h1 := rCl_le J 0 n
  have h2 := rCl_le J 1 n
  have h3 := rSl_le (rSo (rSkP J 0) n 0)
  have h4 := rSl_le (rSo (rSkP J 1) n 0)
  rw [rNz, rNx, rP0_l]
  cases two
  · rw [if_neg (by decide), if_neg (by decide), if_neg (by decide)]; omega
  · rw [if_pos rfl, if_pos rfl, if_pos rfl]
    split <;> omega
def iOk (x : rI4) : Prop := x.1 < 22 ∧ zAcc x.1 x.2.1 x.2.2.1 x.2.2.2 = true
theorem rIn_n {i m : Nat} (h : i ≤ m) (hm : m < 2 ^ 31) : rIn (nI i) (nI m) = true := by
  rw [rIn, Bool.and_eq_true, decide_eq_true_iff, decide_eq_true_iff]
  exact ⟨nI_pos' (by omega), nI_le h hm⟩
theorem iOk_f {o : Nat} {p q s : Int32} (ho : o < 22) (h : rFits o p q s = true) : iOk (o, p, q, s) := ⟨ho, by rw [x_fits p q s o ho]; exact h⟩
theorem b2 {x y : Bool} (h1 : x = true) (h2 : y = true) : (x && y) = true := by rw [h1, h2]; rfl
theorem ok_rd {c r : Nat} {k : Int32} (hc : c < 3) (hk : iCk k) (hr : r < 16) : iOk (rRd (nI c) k (nI r)) := by
  rw [rRd]
  by_cases h : k = -1
  · rw [if_pos h]
    exact iOk_f (by omega) (b2 (rIn_n (m := 2) (by omega) (by omega)) (rIn_n (m := 15) (by omega) (by omega)))
  · rw [if_neg h]
    rcases hk with h9 | ⟨j, hj, e⟩
    · exact absurd h9 h
    · rw [e]
      exact iOk_f (by omega) (b2 (rIn_n (m := 2) (by omega) (by omega)) (b2 (rIn_n (m := 3) (by omega) (by omega)) (rIn_n (m := 15) (by omega) (by omega))))
theorem ok_6 {r : Nat} (p : Int32) (hr : r < 16) : iOk (6, p, nI r, 0) := iOk_f (by omega) (rIn_n (m := 15) (by omega) (by omega))
theorem ok_2 {c g : Nat} (hc : c < 3) (hg : g ≤ 60) : iOk (2, nI c, nI g, 0) := iOk_f (by omega) (b2 (rIn_n (m := 2) (by omega) (by omega)) (rIn_n (m := 60) (by omega) (by omega)))
theorem ok_3 {c g : Nat} (hc : c < 3) (hg : g ≤ 60) : iOk (3, nI c, nI g, 0) := iOk_f (by omega) (b2 (rIn_n (m := 2) (by omega) (by omega)) (rIn_n (m := 60) (by omega) (by omega)))
theorem ok_8 {c g : Nat} (hc : c < 3) (hg : g ≤ 60) : iOk (8, nI c, nI g, 0) := iOk_f (by omega) (b2 (rIn_n (m := 2) (by omega) (by omega)) (b2 (rIn_n (m := 60) (by omega) (by omega)) (by decide)))
theorem ok_1 {c t : Nat} (hc : c < 3) (ht : t < 3) : iOk (1, nI c, nI t, 0) := iOk_f (by omega) (b2 (rIn_n (m := 2) (by omega) (by omega)) (rIn_n (m := 2) (by omega) (by omega)))
theorem ok_0 : iOk (0, 0, 0, 0) := iOk_f (by omega) rfl
theorem ok_18 {mo : Nat} (h1 : 0 < mo) (h4 : mo ≤ 4) : iOk (18, 2, nI mo, 0) := by
  have : mo = 1 ∨ mo = 2 ∨ mo = 3 ∨ mo = 4 := by omega
  rcases this with h | h | h | h <;> subst h <;> exact iOk_f (by omega) (by decide)
theorem ok_19 {g : Nat} (hg : g ≤ 60) : iOk (19, nI g, 0, 0) := iOk_f (by omega) (rIn_n (m := 60) (by omega) (by omega))
theorem ok_c {h g : Nat} (h8 : h < 8) (hg : g ≤ 60) : iOk (9 + h, 0, nI g, 1) := by
  have hg := rIn_n (m := 60) hg (by omega)
  have : h = 0 ∨ h = 1 ∨ h = 2 ∨ h = 3 ∨ h = 4 ∨ h = 5 ∨ h = 6 ∨ h = 7 := by omega
  rcases this with h | h | h | h | h | h | h | h <;> subst h
  · exact iOk_f (by omega) (show (rIn 0 15 && (rIn (nI g) 60 && rIn 1 15)) = true from b2 (by decide) (b2 hg (by decide)))
  · exact iOk_f (by omega) (show (rIn 0 15 && (rIn (nI g) 60 && rIn 1 15)) = true from b2 (by decide) (b2 hg (by decide)))
  · exact iOk_f (by omega) (show (rIn 0 15 && (rIn (nI g) 60 && rIn 1 15)) = true from b2 (by decide) (b2 hg (by decide)))
  · exact iOk_f (by omega) (show (rIn 0 15 && (rIn (nI g) 60 && rIn 1 15)) = true from b2 (by decide) (b2 hg (by decide)))
  · exact iOk_f (by omega) (show (rIn 0 15 && (rIn (nI g) 60 && rIn 1 15)) = true from b2 (by decide) (b2 hg (by decide)))
  · exact iOk_f (by omega) (show (rIn 0 15 && (rIn (nI g) 60 && rIn 1 15)) = true from b2 (by decide) (b2 hg (by decide)))
  · exact iOk_f (by omega) (show (rIn 0 15 && rIn (nI g) 60) = true from b2 (by decide) hg)
  · exact iOk_f (by omega) (show (rIn 0 15 && rIn (nI g) 60) = true from b2 (by decide) hg)
def iOks (L : List rI4) : Prop := ∀ x, x ∈ L → iOk x
theorem oks_n : iOks [] := fun x hx => by cases hx
theorem oks_c {x : rI4} {L : List rI4} (h1 : iOk x) (h2 : iOks L) : iOks (x :: L) := fun y hy => by
  rcases List.mem_cons.mp hy with h | h
  · rw [h]; exact h1
  · exact h2 y h
theorem oks_a {L L' : List rI4} (h1 : iOks L) (h2 : iOks L') : iOks (L ++ L') := fun y hy => by
  rcases List.mem_append.mp hy with h | h
  · exact h1 y h
  · exact h2 y h
theorem ok_lp {J : zJT} {n c p g m : Nat} (h : rHh J n) (hk : ∀ k, k < n → iCk (J 58 (4 * k + 1))) (hc : c < 3) (hp : p ≤ 60) (hg : g ≤ 60) (hm : m + 2 + 4 * n ≤ 58) : iOks (rLp J (nI c) (nI p) (nI g) m n) := by
  rw [rLp]
  refine oks_a ?_ ?_
  · cases rSo (rSkP J (nI c)) n 0 with
    | none => exact oks_c (ok_2 hc hp) oks_n
    | some i => exact oks_c (ok_6 (r := 0) _ (by omega)) (oks_c (ok_8 hc hp) oks_n)
  · have hl := rSl_le (rSo (rSkP J (nI c)) n 0)
    have key : ∀ m k, k ≤ n → m + 4 * n ≤ 58 → iOks (rCo J (nI c) (nI g) m k) := by
      intro m k
      induction k with
      | zero => exact fun _ _ => oks_n
      | succ k ih =>
        intro hk1 hm1
        rw [rCo]
        refine oks_a (ih (by omega) hm1) ?_
        have hlen := rCo_len J (nI c) (nI g) m k
        by_cases e : J 58 (4 * k) = nI c
        · rw [if_pos e, rC1]
          by_cases h6 : rHw J k < 6
          · rw [if_pos h6]
            refine oks_c (ok_rd (r := 0) hc (hk k (by omega)) (by omega)) (oks_c (ok_6 (r := 1) _ (by omega)) (oks_c ?_ (oks_c (ok_19 hg) oks_n)))
            rw [show nI (m + (rCo J (nI c) (nI g) m k).length + 2) + 2 = nI (m + (rCo J (nI c) (nI g) m k).length + 2 + 2) from nI_sum _ 2]
            exact ok_c (by omega) (by omega)
          · rw [if_neg h6]
            refine oks_c (ok_rd (r := 0) hc (hk k (by omega)) (by omega)) (oks_c ?_ (oks_c (ok_19 hg) oks_n))
            rw [show nI (m + (rCo J (nI c) (nI g) m k).length + 1) + 2 = nI (m + (rCo J (nI c) (nI g) m k).length + 1 + 2) from nI_sum _ 2]
            exact ok_c (h k (by omega)).1 (by omega)
        · rw [if_neg e]; exact oks_n
    exact key _ n (Nat.le_refl _) (by rw [rSt_l]; omega)
theorem ok_tl {J : zJT} {mo : Nat} (h1 : 0 < mo) (h4 : mo ≤ 4) (ho : ∀ i, i < mo → (∃ c, c < 3 ∧ J 57 (2 * i) = nI c) ∧ iCk (J 57 (2 * i + 1))) : iOks (rTl J mo) := by
  rw [rTl]
  refine oks_a ?_ (oks_c (ok_18 h1 h4) oks_n)
  have key : ∀ k, k ≤ mo → iOks (rOu J k) := by
    intro k
    induction k with
    | zero => exact fun _ => oks_n
    | succ k ih =>
      intro hk
      rw [rOu]
      obtain ⟨⟨c, hc, e⟩, hk2⟩ := ho k (by omega)
      rw [e]
      exact oks_a (ih (by omega)) (oks_c (ok_rd hc hk2 (by omega)) oks_n)
  exact key mo (Nat.le_refl _)
theorem ok_pg {J : zJT} {n mo t u : Nat} (two jo : Bool) (h : rHh J n) (hn : n ≤ 4) (hk : ∀ k, k < n → iCk (J 58 (4 * k + 1))) (h1 : 0 < mo) (h4 : mo ≤ 4) (ho : ∀ i, i < mo → (∃ c, c < 3 ∧ J 57 (2 * i) = nI c) ∧ iCk (J 57 (2 * i + 1)))
    (ht : t < 3) (ht2 : J 40 23 = nI t) (hu : two = true → u < 3 ∧ J 40 24 = nI u) (hj : jo = true → iCk (J 40 30) ∧ iCk (J 40 31)) {p0 n0 p1 n1 : Nat} (g1 : p0 ≤ 60) (g2 : n0 ≤ 60) (g3 : p1 ≤ 60) (g4 : n1 ≤ 60) :
    iOks (rPg J two jo n mo (nI p0) (nI n0) (nI p1) (nI n1)) := by
  have l0 := rP0_l J two
  have l1 : (rP0 J two).length ≤ 2 := by rw [l0]; split <;> omega
  have b0 := rCl_le J 0 n
  have b1 := rCl_le J 1 n
  have s0 := rSl_le (rSo (rSkP J 0) n 0)
  have s1 := rSl_le (rSo (rSkP J 1) n 0)
  have lp1 : (rP1 J two n (nI p0) (nI n0)).length ≤ 20 := by rw [rP1, List.length_append, rLp_l h]; omega
  rw [rPg]
  refine oks_a (oks_a ?_ ?_) (oks_c (ok_3 (c := 0) (by omega) ?_) (oks_c ok_0 oks_n))
  · rw [rP1]
    refine oks_a ?_ (ok_lp (c := 0) h hk (by omega) g1 g2 (by omega))
    rw [rP0, ht2]
    refine oks_c (ok_1 (c := 0) (by omega) ht) ?_
    cases two
    · exact oks_n
    · rw [if_pos rfl, (hu rfl).2]
      exact oks_c (ok_1 (c := 1) (by omega) (hu rfl).1) oks_n
  · cases two
    · exact ok_tl h1 h4 ho
    · rw [if_pos rfl, rIn1]
      refine oks_a (oks_a (oks_a (ok_lp (c := 1) h hk (by omega) g3 g4 (by omega)) ?_) (ok_tl h1 h4 ho)) (oks_c (ok_3 (c := 1) (by omega) ?_) oks_n)
      · cases jo
        · exact oks_n
        · rw [if_pos rfl, rJn]
          refine oks_c (ok_rd (c := 0) (r := 0) (by omega) (hj rfl).1 (by omega)) (oks_c (ok_rd (c := 1) (r := 1) (by omega) (hj rfl).2 (by omega)) (oks_c ?_ (oks_c (ok_19 g4) oks_n)))
          rw [show nI ((rP1 J true n (nI p0) (nI n0)).length + (rLp J 1 (nI p1) (nI n1) (rP1 J true n (nI p0) (nI n0)).length n).length + 2) + 2 = nI ((rP1 J true n (nI p0) (nI n0)).length + (rLp J 1 (nI p1) (nI n1) (rP1 J true n (nI p0) (nI n0)).length n).length + 2 + 2) from nI_sum _ 2]
          exact ok_c (h := 0) (by omega) (by rw [rLp_l h]; omega)
      · rw [rTp, rSt_l]; omega
  · rw [rTp, rSt_l]; omega
theorem rwr_48 : ∀ (L : List rI4) (J : zJT) (m : Nat), (∀ x, x ∈ L → x.1 < 22) → (∀ k w, k < m → w < 4 → rwr J m L 48 (4 * k + w) = J 48 (4 * k + w)) ∧ ∀ k w x, L[k]? = some x → w < 4 → rwr J m L 48 (4 * (m + k) + w) = zi4 (rF x) w
  | [], J, m, _ => ⟨fun _ _ _ _ => rfl, fun k w x h _ => by cases h⟩
  | y :: L, J, m, hL => by
    obtain ⟨i1, i2⟩ := rwr_48 L (rPut J m y.1 y.2.1 y.2.2.1 y.2.2.2) (m + 1) (fun x hx => hL x (List.mem_cons_of_mem _ hx))
    have hy := hL y (List.mem_cons_self ..)
    have e48 : rPut J m y.1 y.2.1 y.2.2.1 y.2.2.2 48 = zapp (J 48) m (nI y.1) (kz y.1 0 y.2.1) (kz y.1 1 y.2.2.1) (kz y.1 2 y.2.2.2) := by rw [rPut_z hy]; rfl
    refine ⟨fun k w hk hw => ?_, fun k w x hx hw => ?_⟩
    · rw [rwr, i1 k w (by omega) hw, e48, zapp_o hk hw]
    · cases k with
      | zero =>
        cases hx
        rw [rwr, show 4 * (m + 0) + w = 4 * m + w from rfl, i1 m w (by omega) hw, e48]
        have : w = 0 ∨ w = 1 ∨ w = 2 ∨ w = 3 := by omega
        rcases this with h | h | h | h <;> subst h
        · exact zapp_0.1
        · exact zapp_0.2.1
        · exact zapp_0.2.2.1
        · exact zapp_0.2.2.2
      | succ k =>
        have := i2 k w x hx hw
        rw [rwr, show m + (k + 1) = m + 1 + k by omega]; exact this
theorem zpw_g {f : Nat → Int32} {L : List zI4} {k w : Nat} {x : zI4} (h : L[k]? = some x) (hw : w < 4) : zpw f L (4 * k + w) = zi4 x w := by
  simp only [zpw]
  rw [show (4 * k + w) / 4 = k by omega, h, show (4 * k + w) % 4 = w by omega]
theorem iPr_wr {J' Jr' Jq : zJT} {f : Nat → Int32} {L : List rI4} (hL : iOks L) (hlen : L.length ≤ 60) (e1 : J' 15 0 = nI L.length) (e2 : J' 16 = zpw f (L.map rF)) (r1 : Jr' 40 10 = nI L.length) (r2 : Jr' 48 = rwr Jq 0 L 48) : iPr J' Jr' L.length := by
  refine ⟨hlen, e1, r1, fun k hk => ?_⟩
  have hx : L[k]? = some L[k] := List.getElem?_eq_getElem hk
  have hx2 : (L.map rF)[k]? = some (rF L[k]) := by rw [List.getElem?_map, hx]; rfl
  obtain ⟨ho, hacc⟩ := hL L[k] (List.getElem_mem hk)
  have hr := (rwr_48 L Jq 0 (fun x hx => (hL x hx).1)).2 k
  refine ⟨fun w hw => ?_, L[k].1, ho, ?_, ?_⟩
  · rw [r2, e2, zpw_g hx2 hw, ← hr w _ hx hw, Nat.zero_add]
  · rw [e2, show 4 * k = 4 * k + 0 from rfl, zpw_g hx2 (by omega)]; rfl
  · rw [e2, zpw_g hx2 (by omega), zpw_g hx2 (by omega), zpw_g hx2 (by omega)]
    exact x_keep _ _ _ _ ho hacc
theorem qProg_c {J J' : zJT} (h : ∀ a, 32 ≤ a → a ≤ 39 → J' a = J a) (len : Int32) (nc m mo : Nat) (jo : Bool) : qProg J' len nc m mo jo = qProg J len nc m mo jo := by
  have e32 := h 32 (by omega) (by omega)
  have e33 := h 33 (by omega) (by omega)
  have e34 := h 34 (by omega) (by omega)
  have e35 := h 35 (by omega) (by omega)
  have e36 := h 36 (by omega) (by omega)
  have e37 := h 37 (by omega) (by omega)
  have e38 := h 38 (by omega) (by omega)
  have e39 := h 39 (by omega) (by omega)
  have o : ∀ k, qOpens J' k = qOpens J k := fun k => by induction k with
    | zero => rfl
    | succ k ih => rw [qOpens, qOpens, ih, e33]
  have s : ∀ c r k, qsk J' c r k = qsk J c r k := fun c r => by induction r with
    | zero => exact fun _ => rfl
    | succ r ih => intro k; rw [qsk, qsk, ih, show qok J' c k = qok J c k by rw [qok, qok, e36, e37, e38]]
  have st : ∀ c e L, qStart J' c e m L = qStart J c e m L := fun c e L => by rw [qStart, qStart, s, e39]
  have cn : ∀ i nx L, qCond J' i nx L = qCond J i nx L := fun i nx L => by rw [qCond, qCond, e36, e37, e38, e39]
  have cs : ∀ c nx k L, qConds J' c nx k L = qConds J c nx k L := fun c nx k L => by induction k with
    | zero => rfl
    | succ k ih => rw [qConds, qConds, ih, cn, e36]
  have ou : ∀ k L, qOuts J' k L = qOuts J k L := fun k L => by induction k with
    | zero => rfl
    | succ k ih => rw [qOuts, qOuts, ih, e34, e35]
  simp only [qProg, qInner, qTail, qJoin, qBody, o, st, cs, ou, e32]
theorem rSkP_c {J J' : zJT} (h : J' 58 = J 58) (c : Int32) : rSkP J' c = rSkP J c := by funext k; rw [rSkP, rSkP, h]
theorem rCl_c {J J' : zJT} (h : J' 58 = J 58) (c : Int32) : ∀ k, rCl J' c k = rCl J c k
  | 0 => rfl
  | k + 1 => by rw [rCl, rCl, rCl_c h c k, h]
theorem rCo_c {J J' : zJT} (h : J' 58 = J 58) (c nx : Int32) (m : Nat) : ∀ k, rCo J' c nx m k = rCo J c nx m k
  | 0 => rfl
  | k + 1 => by rw [rCo, rCo, rCo_c h c nx m k, rC1, rC1, rHw, rHw, h]
theorem rSt_c {J J' : zJT} (h : J' 58 = J 58) (c p : Int32) (b : Option Nat) : rSt J' c p b = rSt J c p b := by cases b <;> simp only [rSt, h]
theorem rLp_c {J J' : zJT} (h : J' 58 = J 58) (c p nx : Int32) (m n : Nat) : rLp J' c p nx m n = rLp J c p nx m n := by rw [rLp, rLp, rSkP_c h, rSt_c h, rCo_c h]
theorem rOu_c {J J' : zJT} (h : J' 57 = J 57) : ∀ k, rOu J' k = rOu J k
  | 0 => rfl
  | k + 1 => by rw [rOu, rOu, rOu_c h k, h]
theorem rP0_c {J J' : zJT} (h : ∀ i, 23 ≤ i → J' 40 i = J 40 i) (two : Bool) : rP0 J' two = rP0 J two := by rw [rP0, rP0, h 23 (by omega), h 24 (by omega)]
theorem rNx_c {J J' : zJT} (h8 : J' 58 = J 58) (two jo : Bool) (n mo : Nat) : rNx J' two jo n mo = rNx J two jo n mo := by
  simp only [rNx, rP0_l, rSkP_c h8, rCl_c h8]
theorem rNz_c {J J' : zJT} (h8 : J' 58 = J 58) (two jo : Bool) (n mo : Nat) : rNz J' two jo n mo = rNz J two jo n mo := by
  simp only [rNz, rNx_c h8]
theorem rPg_c {J J' : zJT} (h8 : J' 58 = J 58) (h7 : J' 57 = J 57) (h : ∀ i, 23 ≤ i → J' 40 i = J 40 i) (two jo : Bool) (n mo : Nat) (p0 n0 p1 n1 : Int32) : rPg J' two jo n mo p0 n0 p1 n1 = rPg J two jo n mo p0 n0 p1 n1 := by
  simp only [rPg, rP1, rIn1, rJn, rTl, rTp, rP0_c h, rLp_c h8, rOu_c h7, rSkP_c h8, rSt_c h8, h 30 (by omega), h 31 (by omega)]
