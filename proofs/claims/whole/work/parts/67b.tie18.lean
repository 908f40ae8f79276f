def zJ0 : zJT := fun a i => if a = 8 then (if i < 90 then nI i else 0) else if a = 2 ∧ i = 5 then 90 else if (26 ≤ a ∧ a ≤ 28) ∧ i = 0 then -1 else if a = 32 ∧ (i = 11 ∨ i = 12) then -1 else if a = 40 ∧ (i = 23 ∨ i = 24) then -1 else 0
def zG0 : zGT := fun _ _ => 0
theorem iNl_0 {f : Nat → Int32} {g : Nat → Int64} (h : ∀ i, f i = 0) (h2 : ∀ i, g i = 0) : iNl f g := fun i => ⟨false, h i, fun _ => h2 i⟩
theorem zJ0_z {a : Nat} (h8 : a ≠ 8) (h2 : a ≠ 2) (h26 : ¬ (26 ≤ a ∧ a ≤ 28)) (h32 : a ≠ 32) (h40 : a ≠ 40) (i : Nat) : zJ0 a i = 0 := by
  simp only [zJ0]
  rw [if_neg h8, if_neg (fun h9 => h2 h9.1), if_neg (fun h9 => h26 h9.1), if_neg (fun h9 => h32 h9.1), if_neg (fun h9 => h40 h9.1)]
theorem zIv_0 (G : zGT) (hG : ∀ a, a < 59 → ∀ i, G a i = 0) : zIv zJ0 G := by
  have z := fun (a : Nat) (h8 : a ≠ 8) (h2 : a ≠ 2) (h26 : ¬ (26 ≤ a ∧ a ≤ 28)) (h32 : a ≠ 32) (h40 : a ≠ 40) => zJ0_z h8 h2 h26 h32 h40
  refine ⟨0, 0, 90, fun _ => 0, ⟨⟨by omega, rfl, rfl⟩, fun t ht => ⟨0, by omega, fun h9 => absurd h9 (by omega), ?_, ?_⟩, fun t ht => ?_, ⟨rfl, rfl⟩, ⟨fun t p _ hp => absurd hp (Nat.not_lt_zero _), fun t p q _ _ hq => absurd hq (Nat.not_lt_zero _), rfl, fun i hi => ⟨i, hi, ?_⟩, fun t p t' q _ hp => absurd hp (Nat.not_lt_zero _), fun i j hi hj e => ?_, fun t p i _ hp => absurd hp (Nat.not_lt_zero _)⟩, ⟨rfl, fun t _ => rfl, fun t p _ hp => absurd hp (Nat.not_lt_zero _), fun k hk => absurd hk (by omega), fun k k' hk => absurd hk (by omega)⟩, iNl_0 (z 6 (by omega) (by omega) (by omega) (by omega) (by omega)) (hG 5 (by omega)), iNl_0 (z 45 (by omega) (by omega) (by omega) (by omega) (by omega)) (hG 44 (by omega))⟩, 0, 0, 0, 0, 0, false, ⟨by omega, rfl, rfl, fun k hk => absurd hk (by omega)⟩, ⟨by omega, rfl, rfl, fun i hi => absurd hi (by omega), iNl_0 (z 21 (by omega) (by omega) (by omega) (by omega) (by omega)) (hG 20 (by omega))⟩, ⟨fun k _ => ⟨?_, ?_⟩, iNl_0 (z 31 (by omega) (by omega) (by omega) (by omega) (by omega)) (hG 30 (by omega))⟩, ⟨⟨by omega, by omega, by omega⟩, ⟨rfl, rfl, rfl, rfl⟩, ⟨rfl, rfl, rfl⟩, fun c hc => absurd hc (by omega), fun c _ hc => ?_, fun _ => rfl, fun i hi => absurd hi (by omega), fun i hi => absurd hi (by omega), fun h9 => absurd h9 (by decide)⟩, ⟨fun k _ => ⟨?_, ?_⟩, iNl_0 (z 24 (by omega) (by omega) (by omega) (by omega) (by omega)) (hG 23 (by omega)), fun i => ⟨false, z 50 (by omega) (by omega) (by omega) (by omega) (by omega) i⟩⟩⟩
  · exact z _ (by omega) (by omega) (by omega) (by omega) (by omega) 0
  · exact z 41 (by omega) (by omega) (by omega) (by omega) (by omega) t
  · exact z _ (by omega) (by omega) (by omega) (by omega) (by omega) 1
  · show (if i < 90 then nI i else 0) = nI i
    rw [if_pos hi]
  · have e2 : (if i < 90 then nI i else 0) = (if j < 90 then nI j else 0) := e
    rw [if_pos hi, if_pos hj] at e2
    exact nI_inj (by omega) (by omega) e2
  · rw [z 47 (by omega) (by omega) (by omega) (by omega) (by omega), z 31 (by omega) (by omega) (by omega) (by omega) (by omega)]
  · rw [hG 46 (by omega), hG 30 (by omega)]
  · have : c = 0 ∨ c = 1 := by omega
    rcases this with h | h <;> subst h <;> rfl
  · rw [z 50 (by omega) (by omega) (by omega) (by omega) (by omega), z 24 (by omega) (by omega) (by omega) (by omega) (by omega)]
  · rw [hG 49 (by omega), hG 23 (by omega)]
