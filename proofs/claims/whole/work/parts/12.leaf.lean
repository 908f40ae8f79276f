/-! leaves: contracts of the small methods -/
set_option maxRecDepth 100000 in
set_option maxHeartbeats 4000000 in
theorem c_isIndex (X : zX) (d : Nat) (i n : Int32) (h : zH) (N : Nat) : zC X d m_TM_isIndex 0 0 false [.int i, .int n] h N (some (.int (zb (decide (0 ≤ i) && decide (i < n))))) h N := by
  refine zC_of (by decide) (Nat.le_of_ble_eq_true rfl) ?_
  refine z_iload_n d_TM_isIndex_0 rfl ?_
  refine z_if_lt d_TM_isIndex_1 13 (by decide) (fun h1 => ?_) (fun h1 => ?_)
  · refine z_iconst (v := 0) d_TM_isIndex_13 (by decide) ?_
    exact z_zret d_TM_isIndex_14 rfl (by decide) (by decide) (by decide) (by first | rfl | (simp_all [zb]; done) | grind [zb]) rfl
  · refine z_iload_n d_TM_isIndex_4 rfl ?_
    refine z_iload_n d_TM_isIndex_5 rfl ?_
    refine z_icmp_ge d_TM_isIndex_6 13 (by decide) (fun h6 => ?_) (fun h6 => ?_)
    · refine z_iconst (v := 0) d_TM_isIndex_13 (by decide) ?_
      exact z_zret d_TM_isIndex_14 rfl (by decide) (by decide) (by decide) (by first | rfl | (simp_all [zb]; done) | grind [zb]) rfl
    · refine z_iconst (v := 1) d_TM_isIndex_9 (by decide) ?_
      refine z_goto d_TM_isIndex_10 14 (by decide) ?_
      exact z_zret d_TM_isIndex_14 rfl (by decide) (by decide) (by decide) (by first | rfl | (simp_all [zb]; done) | grind [zb]) rfl
/-- the cells a, a + 1, a + 2 are a strip of len values -/
def zVal (a len : Nat) : Prop := a + 2 < 60 ∧ (∀ f g, zsh a f g = .inr (4, [.ref (a + 1), .ref (a + 2)])) ∧ (∀ f g, zsh (a + 1) f g = zAl len g) ∧ (∀ f g, zsh (a + 2) f g = zAz len f)
theorem zVal4 : zVal 4 360 := ⟨by decide, fun _ _ => rfl, fun _ _ => rfl, fun _ _ => rfl⟩
theorem zVal19 : zVal 19 256 := ⟨by decide, fun _ _ => rfl, fun _ _ => rfl, fun _ _ => rfl⟩
theorem zVal22 : zVal 22 16 := ⟨by decide, fun _ _ => rfl, fun _ _ => rfl, fun _ _ => rfl⟩
theorem zVal29 : zVal 29 4 := ⟨by decide, fun _ _ => rfl, fun _ _ => rfl, fun _ _ => rfl⟩
set_option maxRecDepth 100000 in
set_option maxHeartbeats 4000000 in
theorem c_Val_has (X : zX) (d : Nat) {a len t : Nat} {i : Int32} (hv : zVal a len) (hi : zin i t len) (J : zJT) (G : zGT) (hb : narrow .boolean (.int (J (a + 2) t)) = .int (J (a + 2) t)) : zK X d m_Val_has [.ref a, .int i] J G (some (.int (J (a + 2) t))) J G := by
  refine zC_of (by decide) (Nat.le_of_ble_eq_true rfl) ?_
  refine z_aload_n d_Val_has_0 rfl ?_
  refine z_get d_Val_has_1 f_Val_13 (by have := hv.1; omega) (hv.2.1 _ _) rfl ?_
  refine z_iload_n d_Val_has_4 rfl ?_
  refine z_zald d_Val_has_5 (by have := hv.1; omega) (hv.2.2.2 _ _) hi ?_
  exact z_zret d_Val_has_6 rfl (by decide) (by decide) hb rfl rfl
set_option maxRecDepth 100000 in
set_option maxHeartbeats 4000000 in
theorem c_Val_number (X : zX) (d : Nat) {a len t : Nat} {i : Int32} (hv : zVal a len) (hi : zin i t len) (J : zJT) (G : zGT) : zK X d m_Val_number [.ref a, .int i] J G (some (.long (G (a + 1) t))) J G := by
  refine zC_of (by decide) (Nat.le_of_ble_eq_true rfl) ?_
  refine z_aload_n d_Val_number_0 rfl ?_
  refine z_get d_Val_number_1 f_Val_7 (by have := hv.1; omega) (hv.2.1 _ _) rfl ?_
  refine z_iload_n d_Val_number_4 rfl ?_
  refine z_lald d_Val_number_5 (by have := hv.1; omega) (hv.2.2.1 _ _) hi ?_
  exact z_lret d_Val_number_6 rfl (by decide) (by decide) rfl rfl
set_option maxRecDepth 100000 in
set_option maxHeartbeats 4000000 in
theorem c_Val_put (X : zX) (d : Nat) {a len t : Nat} {i : Int32} (hv : zVal a len) (hi : zin i t len) (J : zJT) (G : zGT) (x : Int64) : zK X d m_Val_put [.ref a, .int i, .long x] J G none (va_up J (a + 2) (upd (J (a + 2)) t 1)) (va_up G (a + 1) (vp_updL (G (a + 1)) t x)) := by
  refine zC_of (by decide) (Nat.le_of_ble_eq_true rfl) ?_
  refine z_aload_n d_Val_put_0 rfl ?_
  refine z_get d_Val_put_1 f_Val_7 (by have := hv.1; omega) (hv.2.1 _ _) rfl ?_
  refine z_iload_n d_Val_put_4 rfl ?_
  refine z_lload_n d_Val_put_5 rfl ?_
  refine z_last d_Val_put_6 (by have := hv.1; omega) (hv.2.2.1 _ _) hi (hp_al (hv.2.2.1 _ _).symm) ?_
  refine z_aload_n d_Val_put_7 rfl ?_
  refine z_get d_Val_put_8 f_Val_13 (by have := hv.1; omega) (hv.2.1 _ _) rfl ?_
  refine z_iload_n d_Val_put_11 rfl ?_
  refine z_iconst (v := 1) d_Val_put_12 (by decide) ?_
  refine z_zast d_Val_put_13 (by have := hv.1; omega) (hv.2.2.2 _ _) hi (by decide) (hp_ai (hv.2.2.2 _ _).symm) ?_
  exact z_vret d_Val_put_14 rfl (by decide) (by decide) rfl
set_option maxRecDepth 100000 in
set_option maxHeartbeats 4000000 in
theorem c_Val_clear (X : zX) (d : Nat) {a len t : Nat} {i : Int32} (hv : zVal a len) (hi : zin i t len) (J : zJT) (G : zGT) : zK X d m_Val_clear [.ref a, .int i] J G none (va_up J (a + 2) (upd (J (a + 2)) t 0)) (va_up G (a + 1) (vp_updL (G (a + 1)) t 0)) := by
  refine zC_of (by decide) (Nat.le_of_ble_eq_true rfl) ?_
  refine z_aload_n d_Val_clear_0 rfl ?_
  refine z_get d_Val_clear_1 f_Val_7 (by have := hv.1; omega) (hv.2.1 _ _) rfl ?_
  refine z_iload_n d_Val_clear_4 rfl ?_
  refine z_lconst (v := 0) d_Val_clear_5 (by decide) ?_
  refine z_last d_Val_clear_6 (by have := hv.1; omega) (hv.2.2.1 _ _) hi (hp_al (hv.2.2.1 _ _).symm) ?_
  refine z_aload_n d_Val_clear_7 rfl ?_
  refine z_get d_Val_clear_8 f_Val_13 (by have := hv.1; omega) (hv.2.1 _ _) rfl ?_
  refine z_iload_n d_Val_clear_11 rfl ?_
  refine z_iconst (v := 0) d_Val_clear_12 (by decide) ?_
  refine z_zast d_Val_clear_13 (by have := hv.1; omega) (hv.2.2.2 _ _) hi (by decide) (hp_ai (hv.2.2.2 _ _).symm) ?_
  exact z_vret d_Val_clear_14 rfl (by decide) (by decide) rfl
