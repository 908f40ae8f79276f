theorem x_l3 (v : Int32) : decide (v < 3) = decide (v ≤ 2) := by
  rw [decide_eq_decide, i32_lt, i32_le, show (3 : Int32).toInt = 3 by decide, show (2 : Int32).toInt = 2 by decide]; omega
theorem x_l4 (v : Int32) : decide (v < 4) = decide (v ≤ 3) := by
  rw [decide_eq_decide, i32_lt, i32_le, show (3 : Int32).toInt = 3 by decide, show (4 : Int32).toInt = 4 by decide]; omega
theorem x_l61 (v : Int32) : decide (v < 61) = decide (v ≤ 60) := by
  rw [decide_eq_decide, i32_lt, i32_le, show (61 : Int32).toInt = 61 by decide, show (60 : Int32).toInt = 60 by decide]; omega
theorem x_l16 (v : Int32) : decide (v < 16) = decide (v ≤ 15) := by
  rw [decide_eq_decide, i32_lt, i32_le, show (16 : Int32).toInt = 16 by decide, show (15 : Int32).toInt = 15 by decide]; omega
theorem x_l12 (v : Int32) : decide (v < 12) = decide (v ≤ 11) := by
  rw [decide_eq_decide, i32_lt, i32_le, show (12 : Int32).toInt = 12 by decide, show (11 : Int32).toInt = 11 by decide]; omega
theorem x_kn : ∀ o, o < 22 → ∀ w, w < 3 → (zKinds.getD (3 * o + w) 0 = 0 ↔ rMany.getD o 0 ≤ nI w) := by decide
def kz (o w : Nat) (v : Int32) : Int32 := if zKinds.getD (3 * o + w) 0 = 0 then 0 else v
theorem kz_r {o w : Nat} (ho : o < 22) (hw : w < 3) (v : Int32) : rKp o (nI w) v = kz o w v := by
  have := x_kn o ho w hw
  rw [rKp, kz]
  by_cases h : rMany.getD o 0 ≤ nI w
  · rw [if_pos h, if_pos (this.2 h)]
  · rw [if_neg h, if_neg (fun h9 => h (this.1 h9))]

theorem x_fits0 (p q s : Int32) : zAcc 0 p q s = rFits 0 p q s := by
  rw [zAcc, show zkn (3 * 0) = 0 by decide, show zkn (3 * 0 + 1) = 0 by decide, show zkn (3 * 0 + 2) = 0 by decide]
  simp [zTk, zix, rFits, rIn, x_l3, x_l4, x_l61, x_l16, x_l12, Bool.and_assoc]
theorem x_keep0 (p q s : Int32) (h : zAcc 0 p q s = true) : zAcc 0 (kz 0 0 p) (kz 0 1 q) (kz 0 2 s) = true := by
  have e0 : ∀ v, kz 0 0 v = 0 := fun v => by simp [kz, zKinds]
  have e1 : ∀ v, kz 0 1 v = 0 := fun v => by simp [kz, zKinds]
  have e2 : ∀ v, kz 0 2 v = 0 := fun v => by simp [kz, zKinds]
  rw [e0, e1, e2]
  rw [zAcc, show zkn (3 * 0) = 0 by decide, show zkn (3 * 0 + 1) = 0 by decide, show zkn (3 * 0 + 2) = 0 by decide] at h ⊢
  simpa [zTk] using h
theorem x_fits1 (p q s : Int32) : zAcc 1 p q s = rFits 1 p q s := by
  rw [zAcc, show zkn (3 * 1) = 1 by decide, show zkn (3 * 1 + 1) = 2 by decide, show zkn (3 * 1 + 2) = 0 by decide]
  simp [zTk, zix, rFits, rIn, x_l3, x_l4, x_l61, x_l16, x_l12, Bool.and_assoc]
theorem x_keep1 (p q s : Int32) (h : zAcc 1 p q s = true) : zAcc 1 (kz 1 0 p) (kz 1 1 q) (kz 1 2 s) = true := by
  have e0 : ∀ v, kz 1 0 v = v := fun v => by simp [kz, zKinds]
  have e1 : ∀ v, kz 1 1 v = v := fun v => by simp [kz, zKinds]
  have e2 : ∀ v, kz 1 2 v = 0 := fun v => by simp [kz, zKinds]
  rw [e0, e1, e2]
  rw [zAcc, show zkn (3 * 1) = 1 by decide, show zkn (3 * 1 + 1) = 2 by decide, show zkn (3 * 1 + 2) = 0 by decide] at h ⊢
  simpa [zTk] using h
theorem x_fits2 (p q s : Int32) : zAcc 2 p q s = rFits 2 p q s := by
  rw [zAcc, show zkn (3 * 2) = 1 by decide, show zkn (3 * 2 + 1) = 3 by decide, show zkn (3 * 2 + 2) = 0 by decide]
  simp [zTk, zix, rFits, rIn, x_l3, x_l4, x_l61, x_l16, x_l12, Bool.and_assoc]
theorem x_keep2 (p q s : Int32) (h : zAcc 2 p q s = true) : zAcc 2 (kz 2 0 p) (kz 2 1 q) (kz 2 2 s) = true := by
  have e0 : ∀ v, kz 2 0 v = v := fun v => by simp [kz, zKinds]
  have e1 : ∀ v, kz 2 1 v = v := fun v => by simp [kz, zKinds]
  have e2 : ∀ v, kz 2 2 v = 0 := fun v => by simp [kz, zKinds]
  rw [e0, e1, e2]
  rw [zAcc, show zkn (3 * 2) = 1 by decide, show zkn (3 * 2 + 1) = 3 by decide, show zkn (3 * 2 + 2) = 0 by decide] at h ⊢
  simpa [zTk] using h
theorem x_fits3 (p q s : Int32) : zAcc 3 p q s = rFits 3 p q s := by
  rw [zAcc, show zkn (3 * 3) = 1 by decide, show zkn (3 * 3 + 1) = 3 by decide, show zkn (3 * 3 + 2) = 0 by decide]
  simp [zTk, zix, rFits, rIn, x_l3, x_l4, x_l61, x_l16, x_l12, Bool.and_assoc]
theorem x_keep3 (p q s : Int32) (h : zAcc 3 p q s = true) : zAcc 3 (kz 3 0 p) (kz 3 1 q) (kz 3 2 s) = true := by
  have e0 : ∀ v, kz 3 0 v = v := fun v => by simp [kz, zKinds]
  have e1 : ∀ v, kz 3 1 v = v := fun v => by simp [kz, zKinds]
  have e2 : ∀ v, kz 3 2 v = 0 := fun v => by simp [kz, zKinds]
  rw [e0, e1, e2]
  rw [zAcc, show zkn (3 * 3) = 1 by decide, show zkn (3 * 3 + 1) = 3 by decide, show zkn (3 * 3 + 2) = 0 by decide] at h ⊢
  simpa [zTk] using h
theorem x_fits4 (p q s : Int32) : zAcc 4 p q s = rFits 4 p q s := by
  rw [zAcc, show zkn (3 * 4) = 1 by decide, show zkn (3 * 4 + 1) = 4 by decide, show zkn (3 * 4 + 2) = 5 by decide]
  simp [zTk, zix, rFits, rIn, x_l3, x_l4, x_l61, x_l16, x_l12, Bool.and_assoc]
theorem x_keep4 (p q s : Int32) (h : zAcc 4 p q s = true) : zAcc 4 (kz 4 0 p) (kz 4 1 q) (kz 4 2 s) = true := by
  have e0 : ∀ v, kz 4 0 v = v := fun v => by simp [kz, zKinds]
  have e1 : ∀ v, kz 4 1 v = v := fun v => by simp [kz, zKinds]
  have e2 : ∀ v, kz 4 2 v = v := fun v => by simp [kz, zKinds]
  rw [e0, e1, e2]
  rw [zAcc, show zkn (3 * 4) = 1 by decide, show zkn (3 * 4 + 1) = 4 by decide, show zkn (3 * 4 + 2) = 5 by decide] at h ⊢
  simpa [zTk] using h
theorem x_fits5 (p q s : Int32) : zAcc 5 p q s = rFits 5 p q s := by
  rw [zAcc, show zkn (3 * 5) = 1 by decide, show zkn (3 * 5 + 1) = 5 by decide, show zkn (3 * 5 + 2) = 0 by decide]
  simp [zTk, zix, rFits, rIn, x_l3, x_l4, x_l61, x_l16, x_l12, Bool.and_assoc]
theorem x_keep5 (p q s : Int32) (h : zAcc 5 p q s = true) : zAcc 5 (kz 5 0 p) (kz 5 1 q) (kz 5 2 s) = true := by
  have e0 : ∀ v, kz 5 0 v = v := fun v => by simp [kz, zKinds]
  have e1 : ∀ v, kz 5 1 v = v := fun v => by simp [kz, zKinds]
  have e2 : ∀ v, kz 5 2 v = 0 := fun v => by simp [kz, zKinds]
  rw [e0, e1, e2]
  rw [zAcc, show zkn (3 * 5) = 1 by decide, show zkn (3 * 5 + 1) = 5 by decide, show zkn (3 * 5 + 2) = 0 by decide] at h ⊢
  simpa [zTk] using h
theorem x_fits6 (p q s : Int32) : zAcc 6 p q s = rFits 6 p q s := by
  rw [zAcc, show zkn (3 * 6) = 8 by decide, show zkn (3 * 6 + 1) = 5 by decide, show zkn (3 * 6 + 2) = 0 by decide]
  simp [zTk, zix, rFits, rIn, x_l3, x_l4, x_l61, x_l16, x_l12, Bool.and_assoc]
theorem x_keep6 (p q s : Int32) (h : zAcc 6 p q s = true) : zAcc 6 (kz 6 0 p) (kz 6 1 q) (kz 6 2 s) = true := by
  have e0 : ∀ v, kz 6 0 v = v := fun v => by simp [kz, zKinds]
  have e1 : ∀ v, kz 6 1 v = v := fun v => by simp [kz, zKinds]
  have e2 : ∀ v, kz 6 2 v = 0 := fun v => by simp [kz, zKinds]
  rw [e0, e1, e2]
  rw [zAcc, show zkn (3 * 6) = 8 by decide, show zkn (3 * 6 + 1) = 5 by decide, show zkn (3 * 6 + 2) = 0 by decide] at h ⊢
  simpa [zTk] using h
theorem x_fits7 (p q s : Int32) : zAcc 7 p q s = rFits 7 p q s := by
  rw [zAcc, show zkn (3 * 7) = 5 by decide, show zkn (3 * 7 + 1) = 0 by decide, show zkn (3 * 7 + 2) = 0 by decide]
  simp [zTk, zix, rFits, rIn, x_l3, x_l4, x_l61, x_l16, x_l12, Bool.and_assoc]
theorem x_keep7 (p q s : Int32) (h : zAcc 7 p q s = true) : zAcc 7 (kz 7 0 p) (kz 7 1 q) (kz 7 2 s) = true := by
  have e0 : ∀ v, kz 7 0 v = v := fun v => by simp [kz, zKinds]
  have e1 : ∀ v, kz 7 1 v = 0 := fun v => by simp [kz, zKinds]
  have e2 : ∀ v, kz 7 2 v = 0 := fun v => by simp [kz, zKinds]
  rw [e0, e1, e2]
  rw [zAcc, show zkn (3 * 7) = 5 by decide, show zkn (3 * 7 + 1) = 0 by decide, show zkn (3 * 7 + 2) = 0 by decide] at h ⊢
  simpa [zTk] using h
theorem x_fits8 (p q s : Int32) : zAcc 8 p q s = rFits 8 p q s := by
  rw [zAcc, show zkn (3 * 8) = 1 by decide, show zkn (3 * 8 + 1) = 3 by decide, show zkn (3 * 8 + 2) = 5 by decide]
  simp [zTk, zix, rFits, rIn, x_l3, x_l4, x_l61, x_l16, x_l12, Bool.and_assoc]
theorem x_keep8 (p q s : Int32) (h : zAcc 8 p q s = true) : zAcc 8 (kz 8 0 p) (kz 8 1 q) (kz 8 2 s) = true := by
  have e0 : ∀ v, kz 8 0 v = v := fun v => by simp [kz, zKinds]
  have e1 : ∀ v, kz 8 1 v = v := fun v => by simp [kz, zKinds]
  have e2 : ∀ v, kz 8 2 v = v := fun v => by simp [kz, zKinds]
  rw [e0, e1, e2]
  rw [zAcc, show zkn (3 * 8) = 1 by decide, show zkn (3 * 8 + 1) = 3 by decide, show zkn (3 * 8 + 2) = 5 by decide] at h ⊢
  simpa [zTk] using h
theorem x_fits9 (p q s : Int32) : zAcc 9 p q s = rFits 9 p q s := by
  rw [zAcc, show zkn (3 * 9) = 5 by decide, show zkn (3 * 9 + 1) = 3 by decide, show zkn (3 * 9 + 2) = 5 by decide]
  simp [zTk, zix, rFits, rIn, x_l3, x_l4, x_l61, x_l16, x_l12, Bool.and_assoc]
theorem x_keep9 (p q s : Int32) (h : zAcc 9 p q s = true) : zAcc 9 (kz 9 0 p) (kz 9 1 q) (kz 9 2 s) = true := by
  have e0 : ∀ v, kz 9 0 v = v := fun v => by simp [kz, zKinds]
  have e1 : ∀ v, kz 9 1 v = v := fun v => by simp [kz, zKinds]
  have e2 : ∀ v, kz 9 2 v = v := fun v => by simp [kz, zKinds]
  rw [e0, e1, e2]
  rw [zAcc, show zkn (3 * 9) = 5 by decide, show zkn (3 * 9 + 1) = 3 by decide, show zkn (3 * 9 + 2) = 5 by decide] at h ⊢
  simpa [zTk] using h
theorem x_fits10 (p q s : Int32) : zAcc 10 p q s = rFits 10 p q s := by
  rw [zAcc, show zkn (3 * 10) = 5 by decide, show zkn (3 * 10 + 1) = 3 by decide, show zkn (3 * 10 + 2) = 5 by decide]
  simp [zTk, zix, rFits, rIn, x_l3, x_l4, x_l61, x_l16, x_l12, Bool.and_assoc]
theorem x_keep10 (p q s : Int32) (h : zAcc 10 p q s = true) : zAcc 10 (kz 10 0 p) (kz 10 1 q) (kz 10 2 s) = true := by
  have e0 : ∀ v, kz 10 0 v = v := fun v => by simp [kz, zKinds]
  have e1 : ∀ v, kz 10 1 v = v := fun v => by simp [kz, zKinds]
  have e2 : ∀ v, kz 10 2 v = v := fun v => by simp [kz, zKinds]
  rw [e0, e1, e2]
  rw [zAcc, show zkn (3 * 10) = 5 by decide, show zkn (3 * 10 + 1) = 3 by decide, show zkn (3 * 10 + 2) = 5 by decide] at h ⊢
  simpa [zTk] using h
theorem x_fits11 (p q s : Int32) : zAcc 11 p q s = rFits 11 p q s := by
  rw [zAcc, show zkn (3 * 11) = 5 by decide, show zkn (3 * 11 + 1) = 3 by decide, show zkn (3 * 11 + 2) = 5 by decide]
  simp [zTk, zix, rFits, rIn, x_l3, x_l4, x_l61, x_l16, x_l12, Bool.and_assoc]
theorem x_keep11 (p q s : Int32) (h : zAcc 11 p q s = true) : zAcc 11 (kz 11 0 p) (kz 11 1 q) (kz 11 2 s) = true := by
  have e0 : ∀ v, kz 11 0 v = v := fun v => by simp [kz, zKinds]
  have e1 : ∀ v, kz 11 1 v = v := fun v => by simp [kz, zKinds]
  have e2 : ∀ v, kz 11 2 v = v := fun v => by simp [kz, zKinds]
  rw [e0, e1, e2]
  rw [zAcc, show zkn (3 * 11) = 5 by decide, show zkn (3 * 11 + 1) = 3 by decide, show zkn (3 * 11 + 2) = 5 by decide] at h ⊢
  simpa [zTk] using h
theorem x_fits12 (p q s : Int32) : zAcc 12 p q s = rFits 12 p q s := by
  rw [zAcc, show zkn (3 * 12) = 5 by decide, show zkn (3 * 12 + 1) = 3 by decide, show zkn (3 * 12 + 2) = 5 by decide]
  simp [zTk, zix, rFits, rIn, x_l3, x_l4, x_l61, x_l16, x_l12, Bool.and_assoc]
theorem x_keep12 (p q s : Int32) (h : zAcc 12 p q s = true) : zAcc 12 (kz 12 0 p) (kz 12 1 q) (kz 12 2 s) = true := by
  have e0 : ∀ v, kz 12 0 v = v := fun v => by simp [kz, zKinds]
  have e1 : ∀ v, kz 12 1 v = v := fun v => by simp [kz, zKinds]
  have e2 : ∀ v, kz 12 2 v = v := fun v => by simp [kz, zKinds]
  rw [e0, e1, e2]
  rw [zAcc, show zkn (3 * 12) = 5 by decide, show zkn (3 * 12 + 1) = 3 by decide, show zkn (3 * 12 + 2) = 5 by decide] at h ⊢
  simpa [zTk] using h
theorem x_fits13 (p q s : Int32) : zAcc 13 p q s = rFits 13 p q s := by
  rw [zAcc, show zkn (3 * 13) = 5 by decide, show zkn (3 * 13 + 1) = 3 by decide, show zkn (3 * 13 + 2) = 5 by decide]
  simp [zTk, zix, rFits, rIn, x_l3, x_l4, x_l61, x_l16, x_l12, Bool.and_assoc]
theorem x_keep13 (p q s : Int32) (h : zAcc 13 p q s = true) : zAcc 13 (kz 13 0 p) (kz 13 1 q) (kz 13 2 s) = true := by
  have e0 : ∀ v, kz 13 0 v = v := fun v => by simp [kz, zKinds]
  have e1 : ∀ v, kz 13 1 v = v := fun v => by simp [kz, zKinds]
  have e2 : ∀ v, kz 13 2 v = v := fun v => by simp [kz, zKinds]
  rw [e0, e1, e2]
  rw [zAcc, show zkn (3 * 13) = 5 by decide, show zkn (3 * 13 + 1) = 3 by decide, show zkn (3 * 13 + 2) = 5 by decide] at h ⊢
  simpa [zTk] using h
theorem x_fits14 (p q s : Int32) : zAcc 14 p q s = rFits 14 p q s := by
  rw [zAcc, show zkn (3 * 14) = 5 by decide, show zkn (3 * 14 + 1) = 3 by decide, show zkn (3 * 14 + 2) = 5 by decide]
  simp [zTk, zix, rFits, rIn, x_l3, x_l4, x_l61, x_l16, x_l12, Bool.and_assoc]
theorem x_keep14 (p q s : Int32) (h : zAcc 14 p q s = true) : zAcc 14 (kz 14 0 p) (kz 14 1 q) (kz 14 2 s) = true := by
  have e0 : ∀ v, kz 14 0 v = v := fun v => by simp [kz, zKinds]
  have e1 : ∀ v, kz 14 1 v = v := fun v => by simp [kz, zKinds]
  have e2 : ∀ v, kz 14 2 v = v := fun v => by simp [kz, zKinds]
  rw [e0, e1, e2]
  rw [zAcc, show zkn (3 * 14) = 5 by decide, show zkn (3 * 14 + 1) = 3 by decide, show zkn (3 * 14 + 2) = 5 by decide] at h ⊢
  simpa [zTk] using h
theorem x_fits15 (p q s : Int32) : zAcc 15 p q s = rFits 15 p q s := by
  rw [zAcc, show zkn (3 * 15) = 5 by decide, show zkn (3 * 15 + 1) = 3 by decide, show zkn (3 * 15 + 2) = 0 by decide]
  simp [zTk, zix, rFits, rIn, x_l3, x_l4, x_l61, x_l16, x_l12, Bool.and_assoc]
theorem x_keep15 (p q s : Int32) (h : zAcc 15 p q s = true) : zAcc 15 (kz 15 0 p) (kz 15 1 q) (kz 15 2 s) = true := by
  have e0 : ∀ v, kz 15 0 v = v := fun v => by simp [kz, zKinds]
  have e1 : ∀ v, kz 15 1 v = v := fun v => by simp [kz, zKinds]
  have e2 : ∀ v, kz 15 2 v = 0 := fun v => by simp [kz, zKinds]
  rw [e0, e1, e2]
  rw [zAcc, show zkn (3 * 15) = 5 by decide, show zkn (3 * 15 + 1) = 3 by decide, show zkn (3 * 15 + 2) = 0 by decide] at h ⊢
  simpa [zTk] using h
theorem x_fits16 (p q s : Int32) : zAcc 16 p q s = rFits 16 p q s := by
  rw [zAcc, show zkn (3 * 16) = 5 by decide, show zkn (3 * 16 + 1) = 3 by decide, show zkn (3 * 16 + 2) = 0 by decide]
  simp [zTk, zix, rFits, rIn, x_l3, x_l4, x_l61, x_l16, x_l12, Bool.and_assoc]
theorem x_keep16 (p q s : Int32) (h : zAcc 16 p q s = true) : zAcc 16 (kz 16 0 p) (kz 16 1 q) (kz 16 2 s) = true := by
  have e0 : ∀ v, kz 16 0 v = v := fun v => by simp [kz, zKinds]
  have e1 : ∀ v, kz 16 1 v = v := fun v => by simp [kz, zKinds]
  have e2 : ∀ v, kz 16 2 v = 0 := fun v => by simp [kz, zKinds]
  rw [e0, e1, e2]
  rw [zAcc, show zkn (3 * 16) = 5 by decide, show zkn (3 * 16 + 1) = 3 by decide, show zkn (3 * 16 + 2) = 0 by decide] at h ⊢
  simpa [zTk] using h
theorem x_fits17 (p q s : Int32) : zAcc 17 p q s = rFits 17 p q s := by
  rw [zAcc, show zkn (3 * 17) = 5 by decide, show zkn (3 * 17 + 1) = 5 by decide, show zkn (3 * 17 + 2) = 5 by decide]
  simp [zTk, zix, rFits, rIn, x_l3, x_l4, x_l61, x_l16, x_l12, Bool.and_assoc]
theorem x_keep17 (p q s : Int32) (h : zAcc 17 p q s = true) : zAcc 17 (kz 17 0 p) (kz 17 1 q) (kz 17 2 s) = true := by
  have e0 : ∀ v, kz 17 0 v = v := fun v => by simp [kz, zKinds]
  have e1 : ∀ v, kz 17 1 v = v := fun v => by simp [kz, zKinds]
  have e2 : ∀ v, kz 17 2 v = v := fun v => by simp [kz, zKinds]
  rw [e0, e1, e2]
  rw [zAcc, show zkn (3 * 17) = 5 by decide, show zkn (3 * 17 + 1) = 5 by decide, show zkn (3 * 17 + 2) = 5 by decide] at h ⊢
  simpa [zTk] using h
theorem x_fits18 (p q s : Int32) : zAcc 18 p q s = rFits 18 p q s := by
  rw [zAcc, show zkn (3 * 18) = 5 by decide, show zkn (3 * 18 + 1) = 7 by decide, show zkn (3 * 18 + 2) = 0 by decide]
  simp [zTk, zix, rFits, rIn, x_l3, x_l4, x_l61, x_l16, x_l12, Bool.and_assoc]
theorem x_keep18 (p q s : Int32) (h : zAcc 18 p q s = true) : zAcc 18 (kz 18 0 p) (kz 18 1 q) (kz 18 2 s) = true := by
  have e0 : ∀ v, kz 18 0 v = v := fun v => by simp [kz, zKinds]
  have e1 : ∀ v, kz 18 1 v = v := fun v => by simp [kz, zKinds]
  have e2 : ∀ v, kz 18 2 v = 0 := fun v => by simp [kz, zKinds]
  rw [e0, e1, e2]
  rw [zAcc, show zkn (3 * 18) = 5 by decide, show zkn (3 * 18 + 1) = 7 by decide, show zkn (3 * 18 + 2) = 0 by decide] at h ⊢
  simpa [zTk] using h
theorem x_fits19 (p q s : Int32) : zAcc 19 p q s = rFits 19 p q s := by
  rw [zAcc, show zkn (3 * 19) = 3 by decide, show zkn (3 * 19 + 1) = 0 by decide, show zkn (3 * 19 + 2) = 0 by decide]
  simp [zTk, zix, rFits, rIn, x_l3, x_l4, x_l61, x_l16, x_l12, Bool.and_assoc]
theorem x_keep19 (p q s : Int32) (h : zAcc 19 p q s = true) : zAcc 19 (kz 19 0 p) (kz 19 1 q) (kz 19 2 s) = true := by
  have e0 : ∀ v, kz 19 0 v = v := fun v => by simp [kz, zKinds]
  have e1 : ∀ v, kz 19 1 v = 0 := fun v => by simp [kz, zKinds]
  have e2 : ∀ v, kz 19 2 v = 0 := fun v => by simp [kz, zKinds]
  rw [e0, e1, e2]
  rw [zAcc, show zkn (3 * 19) = 3 by decide, show zkn (3 * 19 + 1) = 0 by decide, show zkn (3 * 19 + 2) = 0 by decide] at h ⊢
  simpa [zTk] using h
theorem x_fits20 (p q s : Int32) : zAcc 20 p q s = rFits 20 p q s := by
  rw [zAcc, show zkn (3 * 20) = 1 by decide, show zkn (3 * 20 + 1) = 3 by decide, show zkn (3 * 20 + 2) = 6 by decide]
  simp [zTk, zix, rFits, rIn, x_l3, x_l4, x_l61, x_l16, x_l12, Bool.and_assoc]
theorem x_keep20 (p q s : Int32) (h : zAcc 20 p q s = true) : zAcc 20 (kz 20 0 p) (kz 20 1 q) (kz 20 2 s) = true := by
  have e0 : ∀ v, kz 20 0 v = v := fun v => by simp [kz, zKinds]
  have e1 : ∀ v, kz 20 1 v = v := fun v => by simp [kz, zKinds]
  have e2 : ∀ v, kz 20 2 v = v := fun v => by simp [kz, zKinds]
  rw [e0, e1, e2]
  rw [zAcc, show zkn (3 * 20) = 1 by decide, show zkn (3 * 20 + 1) = 3 by decide, show zkn (3 * 20 + 2) = 6 by decide] at h ⊢
  simpa [zTk] using h
theorem x_fits21 (p q s : Int32) : zAcc 21 p q s = rFits 21 p q s := by
  rw [zAcc, show zkn (3 * 21) = 1 by decide, show zkn (3 * 21 + 1) = 0 by decide, show zkn (3 * 21 + 2) = 0 by decide]
  simp [zTk, zix, rFits, rIn, x_l3, x_l4, x_l61, x_l16, x_l12, Bool.and_assoc]
theorem x_keep21 (p q s : Int32) (h : zAcc 21 p q s = true) : zAcc 21 (kz 21 0 p) (kz 21 1 q) (kz 21 2 s) = true := by
  have e0 : ∀ v, kz 21 0 v = v := fun v => by simp [kz, zKinds]
  have e1 : ∀ v, kz 21 1 v = 0 := fun v => by simp [kz, zKinds]
  have e2 : ∀ v, kz 21 2 v = 0 := fun v => by simp [kz, zKinds]
  rw [e0, e1, e2]
  rw [zAcc, show zkn (3 * 21) = 1 by decide, show zkn (3 * 21 + 1) = 0 by decide, show zkn (3 * 21 + 2) = 0 by decide] at h ⊢
  simpa [zTk] using h
theorem x_fits (p q s : Int32) : ∀ o, o < 22 → zAcc o p q s = rFits o p q s
  | 0, _ => x_fits0 p q s
  | 1, _ => x_fits1 p q s
  | 2, _ => x_fits2 p q s
  | 3, _ => x_fits3 p q s
  | 4, _ => x_fits4 p q s
  | 5, _ => x_fits5 p q s
  | 6, _ => x_fits6 p q s
  | 7, _ => x_fits7 p q s
  | 8, _ => x_fits8 p q s
  | 9, _ => x_fits9 p q s
  | 10, _ => x_fits10 p q s
  | 11, _ => x_fits11 p q s
  | 12, _ => x_fits12 p q s
  | 13, _ => x_fits13 p q s
  | 14, _ => x_fits14 p q s
  | 15, _ => x_fits15 p q s
  | 16, _ => x_fits16 p q s
  | 17, _ => x_fits17 p q s
  | 18, _ => x_fits18 p q s
  | 19, _ => x_fits19 p q s
  | 20, _ => x_fits20 p q s
  | 21, _ => x_fits21 p q s
  | o + 22, h => absurd h (by omega)
theorem x_keep (p q s : Int32) : ∀ o, o < 22 → zAcc o p q s = true → zAcc o (kz o 0 p) (kz o 1 q) (kz o 2 s) = true
  | 0, _ => x_keep0 p q s
  | 1, _ => x_keep1 p q s
  | 2, _ => x_keep2 p q s
  | 3, _ => x_keep3 p q s
  | 4, _ => x_keep4 p q s
  | 5, _ => x_keep5 p q s
  | 6, _ => x_keep6 p q s
  | 7, _ => x_keep7 p q s
  | 8, _ => x_keep8 p q s
  | 9, _ => x_keep9 p q s
  | 10, _ => x_keep10 p q s
  | 11, _ => x_keep11 p q s
  | 12, _ => x_keep12 p q s
  | 13, _ => x_keep13 p q s
  | 14, _ => x_keep14 p q s
  | 15, _ => x_keep15 p q s
  | 16, _ => x_keep16 p q s
  | 17, _ => x_keep17 p q s
  | 18, _ => x_keep18 p q s
  | 19, _ => x_keep19 p q s
  | 20, _ => x_keep20 p q s
  | 21, _ => x_keep21 p q s
  | o + 22, h => absurd h (by omega)
theorem zapp_o {f : Nat → Int32} {m k w : Nat} {o p q s : Int32} (hk : k < m) (hw : w < 4) : zapp f m o p q s (4 * k + w) = f (4 * k + w) := by
  simp only [zapp, upd]; rw [if_neg (by omega), if_neg (by omega), if_neg (by omega), if_neg (by omega)]
theorem zapp_w {f g : Nat → Int32} {m w : Nat} {o p q s : Int32} (hw : w < 4) : zapp f m o p q s (4 * m + w) = zapp g m o p q s (4 * m + w) := by
  have : w = 0 ∨ w = 1 ∨ w = 2 ∨ w = 3 := by omega
  rcases this with h | h | h | h <;> subst h <;> simp [zapp, upd]
theorem zapp_0 {f : Nat → Int32} {m : Nat} {o p q s : Int32} : zapp f m o p q s (4 * m) = o ∧ zapp f m o p q s (4 * m + 1) = p ∧ zapp f m o p q s (4 * m + 2) = q ∧ zapp f m o p q s (4 * m + 3) = s := by
  simp [zapp, upd]
theorem rPut_z {J : zJT} {m o : Nat} (ho : o < 22) (p q s : Int32) : rPut J m o p q s = va_up (va_up J 48 (zapp (J 48) m (nI o) (kz o 0 p) (kz o 1 q) (kz o 2 s))) 40 (va_up (J 40) 10 (nI m + 1)) := by
  rw [rPut, ← kz_r ho (show 0 < 3 by omega), ← kz_r ho (show 1 < 3 by omega), ← kz_r ho (show 2 < 3 by omega)]; rfl
theorem iPr_app {J Jr J' Jr' : zJT} {N o : Nat} {p q s : Int32} (h : iPr J Jr N) (hN : N < 60) (ho : o < 22) (ha : zAcc o p q s = true) (e1 : J' 15 0 = nI N + 1) (e2 : J' 16 = zapp (J 16) N (nI o) p q s) (r1 : Jr' 40 10 = nI N + 1) (r2 : Jr' 48 = zapp (Jr 48) N (nI o) p q s) : iPr J' Jr' (N + 1) := by
  obtain ⟨_, _, _, h4⟩ := h
  refine ⟨by omega, by rw [e1, nI_succ], by rw [r1, nI_succ], fun k hk => ?_⟩
  rw [e2, r2]
  by_cases e : k = N
  · subst e
    refine ⟨fun w hw => zapp_w hw, o, ho, zapp_0.1, ?_⟩
    rw [zapp_0.2.1, zapp_0.2.2.1, zapp_0.2.2.2]; exact ha
  · have hk2 : k < N := by omega
    refine ⟨fun w hw => ?_, ?_⟩
    · rw [zapp_o hk2 hw, zapp_o hk2 hw]; exact (h4 k hk2).1 w hw
    · rw [show zapp (J 16) N (nI o) p q s (4 * k) = J 16 (4 * k) from zapp_o (w := 0) hk2 (by omega), zapp_o hk2 (by omega), zapp_o hk2 (by omega), zapp_o hk2 (by omega)]; exact (h4 k hk2).2
theorem i_add (X : zX) (J : zJT) (G : zGT) (h : zIv J G) (v p q s : Int32) : zCallI X m_Law_add h_Law_add [.ref 0, .int v, .int p, .int q, .int s, .ref 59] m_Mod_add [.ref 40, .int v, .int p, .int q, .int s] J G := by
  obtain ⟨T, m, sp, n, hH, N, R, nc, mo, mc, jo, h1, h2, h3, h4, h5⟩ := id h
  rcases x_ix v (b := 22) (k := 22) rfl (by omega) with ⟨_, o, ho, hv⟩ | ⟨hno, hv⟩
  case inr => exact ⟨1, 1, 6, J, G, 0, 2, _, _, by omega, by omega, by omega, w_add_A X J G v p q s (by omega) (t_TM_add0 X J G v p q s hno), c_Mod_add0 X J G v p q s hno, rTh_0, fun h9 => absurd h9 (by decide), zIv_t h 1⟩
  subst hv
  cases ha : zAcc o p q s
  · exact ⟨1, 1, 6, J, G, 0, 2, _, _, by omega, by omega, by omega, w_add_A X J G _ p q s (by omega) (t_TM_add1 X J G ho p q s ha), c_Mod_add1 X J G ho p q s (by rw [← x_fits p q s o ho]; exact ha), rTh_0, fun h9 => absurd h9 (by decide), zIv_t h 1⟩
  have hf : rFits o p q s = true := by rw [← x_fits p q s o ho]; exact ha
  by_cases h60 : N = 60
  · subst h60
    exact ⟨2, 1, 6, J, G, 0, 2, _, _, by omega, by omega, by omega, w_add_S X J G _ p q s (by omega) (t_TM_add2 X J G ho p q s ha h1.2.1), c_Mod_add2 X J G ho p q s hf h1.2.2.1, rTh_0, fun h9 => absurd h9 (by decide), zIv_t h 2⟩
  have hN : N < 60 := by have := h1.1; omega
  have hM := fun (J1 : zJT) (G1 : zGT) (e : J1 40 10 = nI N) => c_Mod_add X J1 G1 ho p q s hf e hN
  refine ⟨0, 0, 0, _, _, _, 2, _, _, by omega, by omega, by omega, w_add X J G _ p q s (by omega) _ (c_TM_add X J G ho h1.2.1 hN p q s ha), hM _ _ ?_, ?_, ?_, ?_⟩
  · exact h1.2.2.1
  · rfl
  · intro _; rw [zu_e]; rfl
  · refine ⟨T, m, sp, n, iH_c hH rfl rfl (fun a h1 h2 => ?_) rfl rfl rfl rfl rfl rfl rfl rfl rfl, N + 1, R, nc, mo, mc, jo, iPr_app (p := kz o 0 p) (q := kz o 1 q) (s := kz o 2 s) h1 hN ho (x_keep p q s o ho ha) rfl rfl ?_ ?_, iRs_c h2 rfl rfl rfl rfl rfl rfl rfl rfl, iCm_c h3 rfl rfl rfl rfl, iQu_c h4 (Nat.le_refl _) (fun a h1 h2 => ?_) (fun j h1 h2 => ?_) rfl rfl, iRg_c h5 rfl rfl rfl rfl⟩
    · rw [rPut, zu_n (by omega), zu_n (by omega), rTh_n (by omega), zu_n (by omega), zu_n (by omega)]
    · rfl
    · rw [rPut_z ho]; rfl
    · rw [rPut, zu_n (by omega), zu_n (by omega), rTh_n (by omega), zu_n (by omega), zu_n (by omega)]
    · rw [rPut, zu_e, zu_n (by omega), rTh_i (by omega), zu_n (by omega), zu_n (by omega)]
theorem i_wipe (X : zX) (J : zJT) (G : zGT) (h : zIv J G) : ∃ J1 J2, zK X 0 m_TM_wipe [.ref 0] J G none J1 G ∧ zK X 0 m_Mod_wipe [.ref 40] J1 G none J2 G ∧ zIv J2 G := by
  obtain ⟨T, m, sp, n, hH, N, R, nc, mo, mc, jo, h1, h2, h3, h4, h5⟩ := id h
  refine ⟨_, _, c_TM_wipe X J G, c_Mod_wipe X _ G 0, T, m, sp, n, iH_c hH rfl rfl (fun a h1 h2 => ?_) rfl rfl rfl rfl rfl rfl rfl rfl rfl, 0, R, nc, mo, mc, jo, ⟨by omega, rfl, rfl, fun k hk => absurd hk (by omega)⟩, iRs_c h2 rfl rfl rfl rfl rfl rfl rfl rfl, iCm_c h3 rfl rfl rfl rfl, iQu_c h4 (Nat.le_refl _) (fun a h1 h2 => ?_) (fun j h1 h2 => ?_) rfl rfl, iRg_c h5 rfl rfl rfl rfl⟩
  · rw [zu_n (by omega), rTh_n (by omega), zu_n (by omega)]
  · rw [zu_n (by omega), rTh_n (by omega), zu_n (by omega)]
  · rw [zu_e, zu_n (by omega), rTh_i (by omega), zu_n (by omega)]
theorem i_code (X : zX) (J : zJT) (G : zGT) (h : zIv J G) (v w : Int32) : zCallI X m_Law_code h_Law_code [.ref 0, .int v, .int w, .ref 59] m_Mod_code [.ref 40, .int v, .int w] J G := by
  obtain ⟨T, m, sp, n, hH, N, R, nc, mo, mc, jo, h1, h2, h3, h4, h5⟩ := id h
  obtain ⟨n1, n2, n3, n4⟩ := h1
  have e0 : (0 : Int32).toInt = 0 := by decide
  have e3 : (3 : Int32).toInt = 3 := by decide
  have eN : (nI N).toInt = N := nI_toInt (by omega)
  rcases x_ix v n2 (by omega) with ⟨hy, k, hk, hv⟩ | ⟨hno, hv⟩
  case inr => exact ⟨1, 1, 6, J, G, 0, 2, _, _, by omega, by omega, by omega, w_code_I X J G v w (by omega) (t_TM_code1 X J G v w hno), c_Mod_code0 X J G 2 v w (by rw [n3]; simp only [i32_lt, i32_le]; omega), rTh_0, fun h9 => absurd h9 (by decide), zIv_t h 1⟩
  rcases x_ix w (b := 4) (k := 4) rfl (by omega) with ⟨hw, j, hj, hw2⟩ | ⟨hno, hw2⟩
  case inr => exact ⟨1, 1, 6, J, G, 0, 2, _, _, by omega, by omega, by omega, w_code_I X J G v w (by omega) (t_TM_code2 X J G v w hy hno), c_Mod_code0 X J G 2 v w (by rw [n3]; simp only [i32_lt, i32_le]; omega), rTh_0, fun h9 => absurd h9 (by decide), zIv_t h 1⟩
  subst hv; subst hw2
  refine ⟨0, 0, 0, _, _, _, 2, _, _, by omega, by omega, by omega, w_code X J G _ _ (by omega) _ (c_TM_code X J G n2 n1 hk hj), c_Mod_code X J _ 2 n3 n1 hk hj, rTh_0, fun _ => ?_, zIv_th h 0 _⟩
  rw [zu_e, (n4 k hk).1 j hj]; rfl
theorem i_result (X : zX) (J : zJT) (G : zGT) (h : zIv J G) (i k : Int32) : zCallL X m_Law_result h_Law_result [.ref 0, .int i, .int k, .ref 59] m_Mod_result [.ref 40, .int i, .int k] J G := by
  obtain ⟨T, m, sp, n, hH, N, R, nc, mo, mc, jo, h1, h2, h3, h4, h5⟩ := id h
  obtain ⟨n1, n2, n3, n4, n5⟩ := h2
  have e0 : (0 : Int32).toInt = 0 := by decide
  have e1 : (-1 : Int32).toInt = -1 := by decide
  have eN : (nI R).toInt = R := nI_toInt (by omega)
  by_cases hi : i = -1
  · subst hi
    refine ⟨0, 0, 0, _, _, _, 2, _, _, by omega, by omega, by omega, w_result X J G _ _ (by omega) _ (c_TM_resultN X J G k), c_Mod_resultN X J _ 2 k, rTh_0, fun _ => ?_, zIv_th h 0 _⟩
    rw [zu_e, n3, ← n2]; rfl
  rcases x_ix i n2 (by omega) with ⟨hy, a, ha, hv⟩ | ⟨hno, hv⟩
  case inr =>
    have hR := t_TM_reqResult1 X J G i k hno
    have hM := c_Mod_result0 X J G 2 i k hi (by rw [n3, i32_lt, i32_lt]; omega)
    by_cases hk : k = -1
    · subst hk
      exact ⟨1, 1, 6, J, G, 0, 2, _, _, by omega, by omega, by omega, w_result_I X J G _ _ (by omega) (t_TM_result2 X J G i hR hi hno), hM, rTh_0, fun h9 => absurd h9 (by decide), zIv_t (zIv_t h 0) 1⟩
    · exact ⟨1, 1, 6, J, G, 0, 2, _, _, by omega, by omega, by omega, w_result_I X J G _ _ (by omega) (t_TM_result1 X J G i k hR hi hk), hM, rTh_0, fun h9 => absurd h9 (by decide), zIv_t (zIv_t h 0) 1⟩
  subst hv
  obtain ⟨w, w4, wj, wr, hw⟩ := n4 a ha
  by_cases hk : k = -1
  · subst hk
    refine ⟨0, 0, 0, _, _, _, 2, _, _, by omega, by omega, by omega, w_result X J G _ _ (by omega) _ (c_TM_resultW X J G n2 n1 ha), c_Mod_resultW X J _ 2 n3 n1 ha wr w4, rTh_0, fun _ => ?_, zIv_t (zIv_t (zIv_th h 0 _) 0) 0⟩
    rw [zu_e, wr, ← wj]; rfl
  have ew : (nI w).toInt = w := nI_toInt (by omega)
  rcases x_ix k wj (by omega) with ⟨hy2, b, hb, hv⟩ | ⟨hno, hv⟩
  case inr =>
    refine ⟨1, 1, 6, J, G, 0, 2, _, _, by omega, by omega, by omega, w_result_I X J G _ _ (by omega) (t_TM_result1 X J G _ k (t_TM_reqResult2 X J G n2 n1 ha k hno) hi hk), c_Mod_result1 X J G 2 n3 n1 ha k ?_, rTh_0, fun h9 => absurd h9 (by decide), zIv_t (zIv_t (zIv_t h 0) 0) 1⟩
    rw [wr, i32_lt, i32_lt]
    have : k.toInt ≠ -1 := fun h9 => hk (Int32.toInt_inj.mp (by rw [h9, e1]))
    omega
  subst hv
  refine ⟨0, 0, 0, _, _, _, 3, _, _, by omega, by omega, by omega, w_result X J G _ _ (by omega) _ (c_TM_resultV X J G n2 n1 ha wj w4 hb), c_Mod_resultV X J _ 3 n3 n1 ha wr w4 hb, rTh_0, fun _ => ?_, zIv_t (zIv_t (zIv_th h 0 _) 0) 0⟩
  rw [zu_e, zu_n (by omega), (hw b hb).2]; rfl
theorem i_wasNull (X : zX) (J : zJT) (G : zGT) (h : zIv J G) (i k : Int32) : zCallZ X m_Law_wasNull h_Law_wasNull [.ref 0, .int i, .int k, .ref 59] m_Mod_wasNull [.ref 40, .int i, .int k] J G := by
  obtain ⟨T, m, sp, n, hH, N, R, nc, mo, mc, jo, h1, h2, h3, h4, h5⟩ := id h
  obtain ⟨n1, n2, n3, n4, n5⟩ := h2
  have e0 : (0 : Int32).toInt = 0 := by decide
  have eN : (nI R).toInt = R := nI_toInt (by omega)
  rcases x_ix i n2 (by omega) with ⟨hy, a, ha, hv⟩ | ⟨hno, hv⟩
  case inr => exact ⟨1, 1, 6, J, G, false, 2, _, _, by omega, by omega, by omega, w_wasNull_I X J G _ _ (by omega) (t_TM_wasNull X J G i k (t_TM_reqResult1 X J G i k hno)), c_Mod_wasNull0 X J G 2 i k (by rw [n3, i32_lt, i32_lt]; omega), rTh_0, fun h9 => absurd h9 (by decide), zIv_t h 1⟩
  subst hv
  obtain ⟨w, w4, wj, wr, hw⟩ := n4 a ha
  have ew : (nI w).toInt = w := nI_toInt (by omega)
  rcases x_ix k wj (by omega) with ⟨hy2, b, hb, hv⟩ | ⟨hno, hv⟩
  case inr =>
    exact ⟨1, 1, 6, J, G, false, 2, _, _, by omega, by omega, by omega, w_wasNull_I X J G _ _ (by omega) (t_TM_wasNull X J G _ k (t_TM_reqResult2 X J G n2 n1 ha k hno)), c_Mod_wasNull1 X J G 2 n3 n1 ha k (by rw [wr, i32_lt, i32_lt]; omega), rTh_0, fun h9 => absurd h9 (by decide), zIv_t (zIv_t h 0) 1⟩
  subst hv
  obtain ⟨x, hx⟩ := iNl_b n5 (4 * a + b)
  have hN := c_TM_wasNull X J G n2 n1 ha wj w4 hb x hx
  have hx56 : J 56 (4 * a + b) = zb x := (hw b hb).1.trans hx
  cases x
  · exact ⟨0, 0, 0, _, _, true, 3, _, _, by omega, by omega, by omega, w_wasNull1 X J G _ _ (by omega) hN, c_Mod_wasNull2 X J _ 3 n3 n1 ha wr w4 hb false hx56, rTh_0, fun _ => by rw [zu_e]; rfl, zIv_t (zIv_th h 0 _) 0⟩
  · exact ⟨0, 0, 0, _, _, false, 3, _, _, by omega, by omega, by omega, w_wasNull0 X J G _ _ (by omega) hN, c_Mod_wasNull2 X J _ 3 n3 n1 ha wr w4 hb true hx56, rTh_0, fun _ => by rw [zu_e]; rfl, zIv_t (zIv_th h 0 _) 0⟩
