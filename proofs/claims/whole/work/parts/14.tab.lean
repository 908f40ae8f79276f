theorem z_heq {X : zX} {R : Room} {M : zM} {Q : zQT} {fr : Bool} {k j : Nat} {h h' : zH} {n pc : Nat} {lv : List (Nat × Value)} {st : List Value} (hh : h = h') (kk : zJ X R M Q fr k j h' n pc lv st) : zJ X R M Q fr k j h n pc lv st := hh ▸ kk
/-- places c + 1 .. n hold what was one place below -/
def zup (f : Nat → Int32) (c n : Nat) : Nat → Int32 := fun j => if c < j ∧ j ≤ n then f (j - 1) else f j
def zins (f : Nat → Int32) (p n : Nat) (v : Int32) : Nat → Int32 := fun j => if j = p then v else if p < j ∧ j ≤ n then f (j - 1) else f j
theorem zup_n (f : Nat → Int32) (n : Nat) : zup f n n = f := by
  funext j; simp only [zup]; rw [if_neg (by omega)]
theorem zup_s (f : Nat → Int32) {c n : Nat} (h : c + 1 ≤ n) : upd (zup f (c + 1) n) (c + 1) (zup f (c + 1) n c) = zup f c n := by
  funext j
  simp only [upd, zup]
  by_cases h1 : j = c + 1
  · subst h1; rw [if_pos rfl, if_neg (by omega), if_pos (by omega)]; rfl
  · rw [if_neg h1]
    by_cases h2 : c < j ∧ j ≤ n
    · rw [if_pos (by omega), if_pos h2]
    · rw [if_neg (by omega), if_neg h2]
theorem hp_t0 {t : Nat} (ht : t < 3) {J : zJT} {G : zGT} {v : Int32} : va_up (hp J G) (9 + 2 * t) (.inr (3, [.int v, .int (J (9 + 2 * t) 1), .ref (10 + 2 * t)])) = hp (va_up J (9 + 2 * t) (va_up (J (9 + 2 * t)) 0 v)) G := hp_J (zt_c ht (va_up (J (9 + 2 * t)) 0 v) _).symm
theorem hp_t1 {t : Nat} (ht : t < 3) {J : zJT} {G : zGT} {v : Int32} : va_up (hp J G) (9 + 2 * t) (.inr (3, [.int (J (9 + 2 * t) 0), .int v, .ref (10 + 2 * t)])) = hp (va_up J (9 + 2 * t) (va_up (J (9 + 2 * t)) 1 v)) G := hp_J (zt_c ht (va_up (J (9 + 2 * t)) 1 v) _).symm
theorem hp_c0 {t : Nat} (ht : t < 3) {J : zJT} {G : zGT} {v : Int32} : va_up (hp J G) (26 + t) (.inr (5, [.int v, .int (J (26 + t) 1), .long (G (26 + t) 2)])) = hp (va_up J (26 + t) (va_up (J (26 + t)) 0 v)) G := hp_J (zc_c ht (va_up (J (26 + t)) 0 v) _).symm
theorem hp_c1 {t : Nat} (ht : t < 3) {J : zJT} {G : zGT} {v : Int32} : va_up (hp J G) (26 + t) (.inr (5, [.int (J (26 + t) 0), .int v, .long (G (26 + t) 2)])) = hp (va_up J (26 + t) (va_up (J (26 + t)) 1 v)) G := hp_J (zc_c ht (va_up (J (26 + t)) 1 v) _).symm
theorem hp_c2 {t : Nat} (ht : t < 3) {J : zJT} {G : zGT} {v : Int64} : va_up (hp J G) (26 + t) (.inr (5, [.int (J (26 + t) 0), .int (J (26 + t) 1), .long v])) = hp J (va_up G (26 + t) (va_up (G (26 + t)) 2 v)) := hp_G (zc_c ht _ (va_up (G (26 + t)) 2 v)).symm
theorem zup_e (f : Nat → Int32) (p n : Nat) (v : Int32) : upd (zup f p n) p v = zins f p n v := rfl
set_option maxRecDepth 100000 in
set_option maxHeartbeats 4000000 in
theorem l_Tab_open (X : zX) {t : Nat} (ht : t < 3) (J : zJT) (G : zGT) {p n : Nat} (hp1 : p ≤ n) (hn : n < 90) (v : Int32) (hsz : J (9 + 2 * t) 1 = nI n) : ∀ m, p + m ≤ n → zJ X (zR 0 0 0) m_Tab_open (zRet X 0 0 false none (hp (va_up (va_up J (10 + 2 * t) (zins (J (10 + 2 * t)) p n v)) (9 + 2 * t) (va_up (J (9 + 2 * t)) 1 (nI n + 1))) G) 60) false 0 0 (hp (va_up J (10 + 2 * t) (zup (J (10 + 2 * t)) (p + m) n)) G) 60 5 [(0, .ref (9 + 2 * t)), (1, .int (nI p)), (2, .int v), (3, .int (nI (p + m)))] [] := by
  intro m
  induction m with
  | zero =>
    intro _
    refine z_iload_n d_Tab_open_5 rfl ?_
    refine z_iload_n d_Tab_open_6 rfl ?_
    refine z_icmp_le d_Tab_open_7 30 (by decide) (fun _ => ?_) (fun h9 => absurd (nI_le (Nat.le_refl p) (by omega)) h9)
    refine z_aload_n d_Tab_open_30 rfl ?_
    refine z_get d_Tab_open_31 f_Tab_18 (by omega) (zt_c ht _ _) rfl ?_
    refine z_iload_n d_Tab_open_34 rfl ?_
    refine z_iload_n d_Tab_open_35 rfl ?_
    refine z_iast d_Tab_open_36 (by omega) (zt_s ht _ _) ⟨rfl, by omega, by decide⟩ (hp_ai (zt_s ht _ _).symm) ?_
    refine z_aload_n d_Tab_open_37 rfl ?_
    refine z_dup d_Tab_open_38 rfl ?_
    refine z_get d_Tab_open_39 f_Tab_15 (by omega) (zt_c ht _ _) rfl ?_
    refine z_iconst (v := 1) d_Tab_open_42 (by decide) ?_
    refine z_iadd d_Tab_open_43 ?_
    refine z_put d_Tab_open_44 f_Tab_15 p_3_1 (by omega) (zt_c ht _ _) (Nat.le_of_ble_eq_true rfl) rfl rfl (hp_t1 ht) ?_
    exact z_vret d_Tab_open_47 rfl (by decide) (by decide) (by simp only [bx_uu, zu_s, zup_e, zu_n (show 9 + 2 * t ≠ 10 + 2 * t by omega), hsz, Nat.add_zero])
  | succ m ih =>
    intro hm
    refine z_iload_n d_Tab_open_5 rfl ?_
    refine z_iload_n d_Tab_open_6 rfl ?_
    refine z_icmp_le d_Tab_open_7 30 (by decide) (fun h9 => absurd h9 (nI_ge (show p < p + m + 1 by omega) (by omega))) (fun _ => ?_)
    refine z_aload_n d_Tab_open_10 rfl ?_
    refine z_get d_Tab_open_11 f_Tab_18 (by omega) (zt_c ht _ _) rfl ?_
    refine z_iload_n d_Tab_open_14 rfl ?_
    refine z_aload_n d_Tab_open_15 rfl ?_
    refine z_get d_Tab_open_16 f_Tab_18 (by omega) (zt_c ht _ _) rfl ?_
    refine z_iload_n d_Tab_open_19 rfl ?_
    refine z_iconst (v := 1) d_Tab_open_20 (by decide) ?_
    refine z_isub d_Tab_open_21 ?_
    refine z_iald d_Tab_open_22 (by omega) (zt_s ht _ _) (show zin _ (p + m) 90 from ⟨nI_pred _, by omega, by decide⟩) ?_
    refine z_iast d_Tab_open_23 (by omega) (zt_s ht _ _) (show zin _ (p + m + 1) 90 from ⟨rfl, by omega, by decide⟩) (hp_ai (zt_s ht _ _).symm) ?_
    refine z_iinc (lv' := [(0, _), (1, _), (2, _), (3, _)]) d_Tab_open_24 (by decide) rfl (show _ + Int32.ofInt (-1) = nI (p + m) from pk_m1 _) rfl ?_
    refine z_goto d_Tab_open_27 5 (by decide) ?_
    refine z_heq (h' := hp (va_up J (10 + 2 * t) (zup (J (10 + 2 * t)) (p + m) n)) G) ?_ (ih (by omega))
    simp only [bx_uu, zu_s]; rw [show p + (m + 1) = p + m + 1 from rfl, zup_s _ (by omega)]
set_option maxRecDepth 100000 in
set_option maxHeartbeats 4000000 in
theorem c_Tab_open (X : zX) {t : Nat} (ht : t < 3) (J : zJT) (G : zGT) {p n : Nat} (hp1 : p ≤ n) (hn : n < 90) (v : Int32) (hsz : J (9 + 2 * t) 1 = nI n) : zK X 0 m_Tab_open [.ref (9 + 2 * t), .int (nI p), .int v] J G none (va_up (va_up J (10 + 2 * t) (zins (J (10 + 2 * t)) p n v)) (9 + 2 * t) (va_up (J (9 + 2 * t)) 1 (nI n + 1))) G := by
  refine zC_of (by decide) (Nat.le_of_ble_eq_true rfl) ?_
  refine z_aload_n d_Tab_open_0 rfl ?_
  refine z_get d_Tab_open_1 f_Tab_15 (by omega) (zt_c ht _ _) rfl ?_
  refine z_istore_n (lv' := [(0, _), (1, _), (2, _), (3, _)]) d_Tab_open_4 (by decide) rfl ?_
  have h9 := l_Tab_open X ht J G hp1 hn v hsz (n - p) (by omega)
  rw [show p + (n - p) = n by omega, zup_n] at h9
  rw [hsz]
  refine z_heq ?_ h9
  congr 1; funext i; by_cases hi : i = 10 + 2 * t
  · subst hi; rw [zu_s]
  · rw [zu_n hi]
/-- the place p is left out of n + 1 -/
def zdn (f : Nat → Int32) (p c : Nat) : Nat → Int32 := fun j => if p ≤ j ∧ j < c then f (j + 1) else f j
theorem zdn_p (f : Nat → Int32) (p : Nat) : zdn f p p = f := by
  funext j; simp only [zdn]; rw [if_neg (by omega)]
theorem zdn_s (f : Nat → Int32) {p c : Nat} (h : p ≤ c) : upd (zdn f p c) c (zdn f p c (c + 1)) = zdn f p (c + 1) := by
  funext j
  simp only [upd, zdn]
  by_cases h1 : j = c
  · subst h1; rw [if_pos rfl, if_neg (by omega), if_pos (by omega)]
  · rw [if_neg h1]
    by_cases h2 : p ≤ j ∧ j < c
    · rw [if_pos h2, if_pos (by omega)]
    · rw [if_neg h2, if_neg (by omega)]
set_option maxRecDepth 100000 in
set_option maxHeartbeats 4000000 in
theorem l_Tab_close (X : zX) {t : Nat} (ht : t < 3) (J : zJT) (G : zGT) {p n : Nat} (hp1 : p ≤ n) (hn : n < 90) (hsz : J (9 + 2 * t) 1 = nI (n + 1)) : ∀ m c, n - (p + c) = m → p + c ≤ n → zJ X (zR 0 0 0) m_Tab_close (zRet X 0 0 false none (hp (va_up (va_up J (9 + 2 * t) (va_up (J (9 + 2 * t)) 1 (nI n))) (10 + 2 * t) (zdn (J (10 + 2 * t)) p n)) G) 60) false 0 0 (hp (va_up (va_up J (9 + 2 * t) (va_up (J (9 + 2 * t)) 1 (nI n))) (10 + 2 * t) (zdn (J (10 + 2 * t)) p (p + c))) G) 60 12 [(0, .ref (9 + 2 * t)), (1, .int (nI p)), (2, .int (nI (p + c)))] [] := by
  intro m
  induction m with
  | zero =>
    intro c hm hc
    refine z_iload_n d_Tab_close_12 rfl ?_
    refine z_aload_n d_Tab_close_13 rfl ?_
    refine z_get d_Tab_close_14 f_Tab_15 (by omega) (zt_c ht _ _) rfl ?_
    refine z_icmp_ge d_Tab_close_17 40 (by decide) (fun _ => ?_) (fun h9 => absurd (by rw [zu_n (show 9 + 2 * t ≠ 10 + 2 * t by omega), zu_s, zu_s]; exact nI_le (show n ≤ p + c by omega) (by omega)) h9)
    exact z_vret d_Tab_close_40 rfl (by decide) (by decide) (by rw [show p + c = n by omega])
  | succ m ih =>
    intro c hm hc
    refine z_iload_n d_Tab_close_12 rfl ?_
    refine z_aload_n d_Tab_close_13 rfl ?_
    refine z_get d_Tab_close_14 f_Tab_15 (by omega) (zt_c ht _ _) rfl ?_
    refine z_icmp_ge d_Tab_close_17 40 (by decide) (fun h9 => absurd h9 (by rw [zu_n (show 9 + 2 * t ≠ 10 + 2 * t by omega), zu_s, zu_s]; exact nI_ge (show p + c < n by omega) (by omega))) (fun _ => ?_)
    refine z_aload_n d_Tab_close_20 rfl ?_
    refine z_get d_Tab_close_21 f_Tab_18 (by omega) (zt_c ht _ _) rfl ?_
    refine z_iload_n d_Tab_close_24 rfl ?_
    refine z_aload_n d_Tab_close_25 rfl ?_
    refine z_get d_Tab_close_26 f_Tab_18 (by omega) (zt_c ht _ _) rfl ?_
    refine z_iload_n d_Tab_close_29 rfl ?_
    refine z_iconst (v := 1) d_Tab_close_30 (by decide) ?_
    refine z_iadd d_Tab_close_31 ?_
    refine z_iald d_Tab_close_32 (by omega) (zt_s ht _ _) (show zin _ (p + c + 1) 90 from ⟨(nI_1 _), by omega, by decide⟩) ?_
    refine z_iast d_Tab_close_33 (by omega) (zt_s ht _ _) (show zin _ (p + c) 90 from ⟨rfl, by omega, by decide⟩) (hp_ai (zt_s ht _ _).symm) ?_
    refine z_iinc (lv' := [(0, _), (1, _), (2, _)]) d_Tab_close_34 (by decide) rfl (show _ + Int32.ofInt 1 = nI (p + (c + 1)) from nI_1 _) rfl ?_
    refine z_goto d_Tab_close_37 12 (by decide) ?_
    refine z_heq (h' := hp (va_up (va_up J (9 + 2 * t) (va_up (J (9 + 2 * t)) 1 (nI n))) (10 + 2 * t) (zdn (J (10 + 2 * t)) p (p + (c + 1)))) G) ?_ (ih (c + 1) (by omega) (by omega))
    simp only [bx_uu, zu_s]; rw [zdn_s _ (by omega)]; rfl
set_option maxRecDepth 100000 in
set_option maxHeartbeats 4000000 in
theorem c_Tab_close (X : zX) {t : Nat} (ht : t < 3) (J : zJT) (G : zGT) {p n : Nat} (hp1 : p ≤ n) (hn : n < 90) (hsz : J (9 + 2 * t) 1 = nI (n + 1)) : zK X 0 m_Tab_close [.ref (9 + 2 * t), .int (nI p)] J G none (va_up (va_up J (9 + 2 * t) (va_up (J (9 + 2 * t)) 1 (nI n))) (10 + 2 * t) (zdn (J (10 + 2 * t)) p n)) G := by
  refine zC_of (by decide) (Nat.le_of_ble_eq_true rfl) ?_
  refine z_aload_n d_Tab_close_0 rfl ?_
  refine z_dup d_Tab_close_1 rfl ?_
  refine z_get d_Tab_close_2 f_Tab_15 (by omega) (zt_c ht _ _) rfl ?_
  refine z_iconst (v := 1) d_Tab_close_5 (by decide) ?_
  refine z_isub d_Tab_close_6 ?_
  refine z_put d_Tab_close_7 f_Tab_15 p_3_1 (by omega) (zt_c ht _ _) (Nat.le_of_ble_eq_true rfl) rfl rfl (hp_t1 ht) ?_
  refine z_iload_n d_Tab_close_10 rfl ?_
  refine z_istore_n (lv' := [(0, _), (1, _), (2, _)]) d_Tab_close_11 (by decide) rfl ?_
  have h9 := l_Tab_close X ht J G hp1 hn hsz (n - p) 0 (by omega) (by omega)
  rw [Nat.add_zero, zdn_p] at h9
  rw [hsz, nI_pred]
  refine z_heq ?_ h9
  congr 1; funext i; by_cases hi : i = 10 + 2 * t
  · subst hi; rw [zu_s, zu_n (by omega)]
  · rw [zu_n hi]
