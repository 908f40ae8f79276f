/-! the reference: the loop over a cursor -/
def rHw (J : zJT) (k : Nat) : Nat := (J 58 (4 * k + 2)).toNatClampNeg
/-- what the condition k becomes at the place pos -/
def rC1 (J : zJT) (c nx : Int32) (k pos : Nat) : List rI4 :=
  if rHw J k < 6 then [rRd c (J 58 (4 * k + 1)) 0, (6, J 58 (4 * k + 3), 1, 0), (9 + rHw J k, 0, nI (pos + 2) + 2, 1), (19, nx, 0, 0)]
  else [rRd c (J 58 (4 * k + 1)) 0, (9 + rHw J k, 0, nI (pos + 1) + 2, 1), (19, nx, 0, 0)]
def rCo (J : zJT) (c nx : Int32) (m : Nat) : Nat → List rI4
  | 0 => []
  | k + 1 => rCo J c nx m k ++ (if J 58 (4 * k) = c then rC1 J c nx k (m + (rCo J c nx m k).length) else [])
theorem rC1_len (J : zJT) (c nx : Int32) (k pos : Nat) : (rC1 J c nx k pos).length ≤ 4 := by
  unfold rC1
  split <;> simp
theorem rCo_len (J : zJT) (c nx : Int32) (m : Nat) : ∀ k, (rCo J c nx m k).length ≤ 4 * k
  | 0 => Nat.le_refl _
  | k + 1 => by
    have h1 := rCo_len J c nx m k
    have h2 := rC1_len J c nx k (m + (rCo J c nx m k).length)
    rw [rCo, List.length_append]
    split
    · omega
    · simp only [List.length_nil]; omega
/-- the heap J1 has the conditions and the size wanted -/
def rAg (J J1 : zJT) (p : Nat) : Prop := J1 58 = J 58 ∧ J1 40 10 = nI p ∧ J1 40 27 = J 40 27
theorem rAg_wr {J J1 : zJT} {p : Nat} (h : rAg J J1 p) (L : List rI4) : rAg J (rwr J1 p L) (p + L.length) :=
  ⟨(rwr_n (a := 58) J1 p L (by decide) (by decide)).trans h.1, rwr_sz J1 p L h.2.1, (rwr_f (i := 27) J1 p L (by decide)).trans h.2.2⟩
