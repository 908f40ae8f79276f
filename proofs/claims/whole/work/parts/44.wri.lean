/-! the reference: programs as lists of instructions written from the place m on -/
abbrev rI4 : Type := Nat × Int32 × Int32 × Int32
def rwr (J : zJT) (m : Nat) : List rI4 → zJT
  | [] => J
  | x :: L => rwr (rPut J m x.1 x.2.1 x.2.2.1 x.2.2.2) (m + 1) L
theorem rwr_app (J : zJT) (m : Nat) (L L' : List rI4) : rwr J m (L ++ L') = rwr (rwr J m L) (m + L.length) L' := by
  induction L generalizing J m with
  | nil => rfl
  | cons x L ih =>
    show rwr (rPut J m x.1 x.2.1 x.2.2.1 x.2.2.2) (m + 1) (L ++ L') = _
    rw [ih, List.length_cons, show m + 1 + L.length = m + (L.length + 1) by omega]
    rfl
theorem rPut_sz (J : zJT) (m o : Nat) (p q s : Int32) : rPut J m o p q s 40 10 = nI (m + 1) := by
  unfold rPut
  rw [zu_s, zu_s, nI_1]
theorem rPut_n (J : zJT) (m o : Nat) (p q s : Int32) {a : Nat} (h1 : a ≠ 48) (h2 : a ≠ 40) : rPut J m o p q s a = J a := by
  unfold rPut
  rw [zu_n h2, zu_n h1]
theorem rPut_f (J : zJT) (m o : Nat) (p q s : Int32) {i : Nat} (h : i ≠ 10) : rPut J m o p q s 40 i = J 40 i := by
  unfold rPut
  rw [zu_s, zu_n h]
theorem rwr_sz (J : zJT) (m : Nat) (L : List rI4) (h : J 40 10 = nI m) : rwr J m L 40 10 = nI (m + L.length) := by
  induction L generalizing J m with
  | nil => exact h
  | cons x L ih =>
    rw [rwr, ih _ _ (rPut_sz J m _ _ _ _), List.length_cons, show m + 1 + L.length = m + (L.length + 1) by omega]
theorem rwr_n (J : zJT) (m : Nat) (L : List rI4) {a : Nat} (h1 : a ≠ 48) (h2 : a ≠ 40) : rwr J m L a = J a := by
  induction L generalizing J m with
  | nil => rfl
  | cons x L ih => rw [rwr, ih, rPut_n _ _ _ _ _ _ h1 h2]
theorem rwr_f (J : zJT) (m : Nat) (L : List rI4) {i : Nat} (h : i ≠ 10) : rwr J m L 40 i = J 40 i := by
  induction L generalizing J m with
  | nil => rfl
  | cons x L ih => rw [rwr, ih, rPut_f _ _ _ _ _ _ h]
def rRd (c k r : Int32) : rI4 := if k = -1 then (5, c, r, 0) else (4, c, k, r)
theorem c_Mod_read (X : zX) (J : zJT) (G : zGT) {m : Nat} (hm : J 40 10 = nI m) (hm6 : m < 60) (c k r : Int32) : zK X 2 m_Mod_read [.ref 40, .int c, .int k, .int r] J G none (rwr J m [rRd c k r]) G := by
  unfold rRd
  by_cases hk : k = -1
  · subst hk
    exact c_Mod_read0 X J G hm hm6 c r
  · rw [if_neg hk]
    exact c_Mod_read1 X J G hm hm6 c k r hk
