/-! constructors -/
theorem q_i : Cond.arrayClass .int ∈ zWA := zWA_of (i := 77) (by decide +kernel) (by decide +kernel)
theorem q_l : Cond.arrayClass .long ∈ zWA := zWA_of (i := 56) (by decide +kernel) (by decide +kernel)
theorem q_z : Cond.arrayClass .boolean ∈ zWA := zWA_of (i := 57) (by decide +kernel) (by decide +kernel)
theorem q_ob2 : Cond.instanceMethod Lib.objectInit ∈ zWA := zWA_of (i := 27) (by decide +kernel) (by decide +kernel)
theorem q_ob3 : Cond.code Lib.objectInit ⟨#[0xb1]⟩ 1 none ∈ zWA := zWA_of (i := 28) (by decide +kernel) (by decide +kernel)
theorem n_0 : zNi "TableMachine" 0 6 [.null, .null, .null, .null, .null, .null] := ⟨zf0, zt0, rfl, zu0, zk0, zWA_of (i := 22) (by decide +kernel) (by decide +kernel), zWA_of (i := 1) (by decide +kernel) (by decide +kernel), by decide +kernel, fun _ => rfl⟩
theorem n_1 : zNi "TableMachine$Machine" 1 6 [.null, .null, .null, .null, .null, .int 0] := ⟨zf1, zt1, rfl, zu1, zk1, zWA_of (i := 30) (by decide +kernel) (by decide +kernel), zWA_of (i := 2) (by decide +kernel) (by decide +kernel), by decide +kernel, fun _ => rfl⟩
theorem n_2 : zNi "TableMachine$Store" 2 6 [.null, .int 0, .null, .null, .null, .int 0] := ⟨zf2, zt2, rfl, zu2, zk2, zWA_of (i := 36) (by decide +kernel) (by decide +kernel), zWA_of (i := 3) (by decide +kernel) (by decide +kernel), by decide +kernel, fun _ => rfl⟩
theorem n_3 : zNi "TableMachine$Table" 3 3 [.int 0, .int 0, .null] := ⟨zf3, zt3, rfl, zu3, zk3, zWA_of (i := 58) (by decide +kernel) (by decide +kernel), zWA_of (i := 5) (by decide +kernel) (by decide +kernel), by decide +kernel, fun _ => rfl⟩
theorem n_4 : zNi "TableMachine$Values" 4 2 [.null, .null] := ⟨zf4, zt4, rfl, zu4, zk4, zWA_of (i := 44) (by decide +kernel) (by decide +kernel), zWA_of (i := 4) (by decide +kernel) (by decide +kernel), by decide +kernel, fun _ => rfl⟩
theorem n_5 : zNi "TableMachine$Cursor" 5 3 [.int 0, .int 0, .long 0] := ⟨zf5, zt5, rfl, zu5, zk5, zWA_of (i := 143) (by decide +kernel) (by decide +kernel), zWA_of (i := 8) (by decide +kernel) (by decide +kernel), by decide +kernel, fun _ => rfl⟩
theorem n_6 : zNi "TableMachine$Program" 6 2 [.int 0, .null] := ⟨zf6, zt6, rfl, zu6, zk6, zWA_of (i := 102) (by decide +kernel) (by decide +kernel), zWA_of (i := 6) (by decide +kernel) (by decide +kernel), by decide +kernel, fun _ => rfl⟩
theorem n_7 : zNi "TableMachine$Results" 7 3 [.int 0, .null, .null] := ⟨zf7, zt7, rfl, zu7, zk7, zWA_of (i := 118) (by decide +kernel) (by decide +kernel), zWA_of (i := 7) (by decide +kernel) (by decide +kernel), by decide +kernel, fun _ => rfl⟩
theorem n_8 : zNi "TableMachine$Question" 8 13 [.null, .int 0, .int 0, .int 0, .null, .null, .null, .null, .null, .null, .int 0, .int 0, .int 0] := ⟨zf8, zt8, rfl, zu8, zk8, zWA_of (i := 186) (by decide +kernel) (by decide +kernel), zWA_of (i := 9) (by decide +kernel) (by decide +kernel), by decide +kernel, fun _ => rfl⟩
theorem n_9 : zNi "TableMachineModel" 9 32 [.int 0, .int 0, .null, .int 0, .null, .null, .null, .null, .null, .null, .int 0, .null, .null, .null, .null, .null, .null, .int 0, .int 0, .int 0, .null, .null, .null, .int 0, .int 0, .int 0, .null, .int 0, .null, .int 0, .int 0, .int 0] := ⟨zf9, zt9, rfl, zu9, zk9, zWA_of (i := 794) (by decide +kernel) (by decide +kernel), zWA_of (i := 10) (by decide +kernel) (by decide +kernel), by decide +kernel, fun _ => rfl⟩
theorem z_vretE {X : zX} {R : Room} {M : zM} {mc ms : Nat} {fr : Bool} {hf : zH} {k j : Nat} {h : zH} {n pc : Nat} {lv : List (Nat × Value)} (hd : decode M.2.1 pc = .ok (.return_, 1)) (hr : M.2.2.2 = none) (hk : k ≤ mc) (hj : j ≤ ms) (hh : ∀ i, i < n → h i = hf i) : zJ X R M (zRet X mc ms fr none hf n) fr k j h n pc lv [] := by
  have e : ∀ ad ca, zW ad ca hf n = zW ad ca h n := fun ad ca => List.map_congr_left (fun i hi => by rw [hh i (List.mem_range.mp hi)])
  have hq : zRet X mc ms fr none hf n = zRet X mc ms fr none h n := by
    funext A below args s
    simp only [zRet]
    congr 1
    funext a st oc t
    simp only [zQ, zF, e]
  rw [hq]
  exact z_vret hd hr hk hj rfl
theorem o_Val : Cond.methodLink "TableMachine$Values" 1 Lib.objectInit ∈ zWA := zWA_of (i := 48) (by decide +kernel) (by decide +kernel)
set_option maxRecDepth 100000 in
set_option maxHeartbeats 4000000 in
theorem c_Val_init (X : zX) {h : zH} {n a : Nat} (hn : n ≤ 190) (han : a < n) {len : Nat} (hl : len ≤ 1000) (ha : h a = .inr (4, [.null, .null])) : zC X 1 m_Val_init 2 (2 * len) true [.ref a, .int (nI len)] h n none (va_up (va_up (va_up (va_up h n (zAl len (fun _ => 0))) a (.inr (4, [.ref n, .null]))) (n + 1) (zAz len (fun _ => 0))) a (.inr (4, [.ref n, .ref (n + 1)]))) (n + 2) := by
  refine zC_of (by decide) (Nat.le_of_ble_eq_true rfl) ?_
  refine z_aload_n d_Val_init_0 rfl ?_
  refine z_obj d_Val_init_1 o_Val q_ob2 q_ob3 (Nat.le_of_ble_eq_true rfl) (Nat.le_of_ble_eq_true rfl) (Nat.le_of_ble_eq_true rfl) ?_
  refine z_aload_n d_Val_init_4 rfl ?_
  refine z_iload_n d_Val_init_5 rfl ?_
  refine z_newl (N := len) d_Val_init_6 q_l (by omega) (by omega) (Nat.le_of_ble_eq_true rfl) (show _ ≤ 2 * len by omega) ?_
  refine z_putF d_Val_init_8 f_Val_7 p_4_0 rfl (fun q h9 => by cases h9; rfl) (by omega) (by rw [zu_n (by omega)]; exact ha) (Nat.le_of_ble_eq_true rfl) rfl rfl rfl ?_
  refine z_aload_n d_Val_init_11 rfl ?_
  refine z_iload_n d_Val_init_12 rfl ?_
  refine z_newz (N := len) d_Val_init_13 q_z (by omega) (by omega) (Nat.le_of_ble_eq_true rfl) (show _ ≤ 2 * len by omega) ?_
  refine z_putF d_Val_init_15 f_Val_13 p_4_1 rfl (fun q h9 => by cases h9; rfl) (by omega) (by rw [zu_n (by omega), zu_e]; try rfl) (Nat.le_of_ble_eq_true rfl) rfl rfl rfl ?_
  exact z_vret d_Val_init_18 rfl (by decide) (show _ ≤ 2 * len by omega) rfl
theorem o_Tab : Cond.methodLink "TableMachine$Table" 3 Lib.objectInit ∈ zWA := zWA_of (i := 62) (by decide +kernel) (by decide +kernel)
set_option maxRecDepth 100000 in
set_option maxHeartbeats 4000000 in
theorem c_Tab_init (X : zX) {h : zH} {n a : Nat} (hn : n ≤ 190) (han : a < n) (ha : h a = .inr (3, [.int 0, .int 0, .null])) : zC X 1 m_Tab_init 1 90 true [.ref a] h n none (va_up (va_up (va_up (va_up h a (.inr (3, [.int 0, .int 0, .null]))) a (.inr (3, [.int 0, .int 0, .null]))) n (zAi 90 (fun _ => 0))) a (.inr (3, [.int 0, .int 0, .ref n]))) (n + 1) := by
  refine zC_of (by decide) (Nat.le_of_ble_eq_true rfl) ?_
  refine z_aload_n d_Tab_init_0 rfl ?_
  refine z_obj d_Tab_init_1 o_Tab q_ob2 q_ob3 (Nat.le_of_ble_eq_true rfl) (Nat.le_of_ble_eq_true rfl) (Nat.le_of_ble_eq_true rfl) ?_
  refine z_aload_n d_Tab_init_4 rfl ?_
  refine z_iconst (v := 0) d_Tab_init_5 (by decide) ?_
  refine z_put d_Tab_init_6 f_Tab_9 p_3_0 (by omega) ha (Nat.le_of_ble_eq_true rfl) rfl rfl rfl ?_
  refine z_aload_n d_Tab_init_9 rfl ?_
  refine z_iconst (v := 0) d_Tab_init_10 (by decide) ?_
  refine z_put d_Tab_init_11 f_Tab_15 p_3_1 (by omega) (by rw [zu_e]; try rfl) (Nat.le_of_ble_eq_true rfl) rfl rfl rfl ?_
  refine z_aload_n d_Tab_init_14 rfl ?_
  refine z_bipush (v := 90) d_Tab_init_15 (by decide) ?_
  refine z_newi (N := 90) d_Tab_init_17 q_i (by omega) (by omega) (Nat.le_of_ble_eq_true rfl) (Nat.le_of_ble_eq_true rfl) ?_
  refine z_putF d_Tab_init_19 f_Tab_18 p_3_2 rfl (fun q h9 => by cases h9; rfl) (by omega) (by rw [zu_n (by omega), zu_e]; try rfl) (Nat.le_of_ble_eq_true rfl) rfl rfl rfl ?_
  exact z_vret d_Tab_init_22 rfl (by decide) (by decide) rfl
theorem o_Cur : Cond.methodLink "TableMachine$Cursor" 3 Lib.objectInit ∈ zWA := zWA_of (i := 147) (by decide +kernel) (by decide +kernel)
set_option maxRecDepth 100000 in
set_option maxHeartbeats 4000000 in
theorem c_Cur_init (X : zX) {h : zH} {n a : Nat} (hn : n ≤ 190) (han : a < n) (ha : h a = .inr (5, [.int 0, .int 0, .long 0])) : zC X 1 m_Cur_init 0 0 true [.ref a] h n none (va_up (va_up (va_up h a (.inr (5, [.int (-1), .int 0, .long 0]))) a (.inr (5, [.int (-1), .int 0, .long 0]))) a (.inr (5, [.int (-1), .int 0, .long 0]))) n := by
  refine zC_of (by decide) (Nat.le_of_ble_eq_true rfl) ?_
  refine z_aload_n d_Cur_init_0 rfl ?_
  refine z_obj d_Cur_init_1 o_Cur q_ob2 q_ob3 (Nat.le_of_ble_eq_true rfl) (Nat.le_of_ble_eq_true rfl) (Nat.le_of_ble_eq_true rfl) ?_
  refine z_aload_n d_Cur_init_4 rfl ?_
  refine z_iconst (v := (-1)) d_Cur_init_5 (by decide) ?_
  refine z_put d_Cur_init_6 f_Cur_9 p_5_0 (by omega) ha (Nat.le_of_ble_eq_true rfl) rfl rfl rfl ?_
  refine z_aload_n d_Cur_init_9 rfl ?_
  refine z_iconst (v := 0) d_Cur_init_10 (by decide) ?_
  refine z_put d_Cur_init_11 f_Cur_15 p_5_1 (by omega) (by rw [zu_e]; try rfl) (Nat.le_of_ble_eq_true rfl) rfl rfl rfl ?_
  refine z_aload_n d_Cur_init_14 rfl ?_
  refine z_lconst (v := 0) d_Cur_init_15 (by decide) ?_
  refine z_put d_Cur_init_16 f_Cur_19 p_5_2 (by omega) (by rw [zu_e]; try rfl) (Nat.le_of_ble_eq_true rfl) rfl rfl rfl ?_
  exact z_vret d_Cur_init_19 rfl (by decide) (by decide) rfl
theorem o_Pro : Cond.methodLink "TableMachine$Program" 3 Lib.objectInit ∈ zWA := zWA_of (i := 106) (by decide +kernel) (by decide +kernel)
set_option maxRecDepth 100000 in
set_option maxHeartbeats 4000000 in
theorem c_Pro_init (X : zX) {h : zH} {n a : Nat} (hn : n ≤ 190) (han : a < n) (ha : h a = .inr (6, [.int 0, .null])) : zC X 1 m_Pro_init 1 240 true [.ref a] h n none (va_up (va_up (va_up h a (.inr (6, [.int 0, .null]))) n (zAi 240 (fun _ => 0))) a (.inr (6, [.int 0, .ref n]))) (n + 1) := by
  refine zC_of (by decide) (Nat.le_of_ble_eq_true rfl) ?_
  refine z_aload_n d_Pro_init_0 rfl ?_
  refine z_obj d_Pro_init_1 o_Pro q_ob2 q_ob3 (Nat.le_of_ble_eq_true rfl) (Nat.le_of_ble_eq_true rfl) (Nat.le_of_ble_eq_true rfl) ?_
  refine z_aload_n d_Pro_init_4 rfl ?_
  refine z_iconst (v := 0) d_Pro_init_5 (by decide) ?_
  refine z_put d_Pro_init_6 f_Pro_9 p_6_0 (by omega) ha (Nat.le_of_ble_eq_true rfl) rfl rfl rfl ?_
  refine z_aload_n d_Pro_init_9 rfl ?_
  refine z_sipush (v := 240) d_Pro_init_10 (by decide) ?_
  refine z_newi (N := 240) d_Pro_init_13 q_i (by omega) (by omega) (Nat.le_of_ble_eq_true rfl) (Nat.le_of_ble_eq_true rfl) ?_
  refine z_putF d_Pro_init_15 f_Pro_15 p_6_1 rfl (fun q h9 => by cases h9; rfl) (by omega) (by rw [zu_n (by omega), zu_e]; try rfl) (Nat.le_of_ble_eq_true rfl) rfl rfl rfl ?_
  exact z_vret d_Pro_init_18 rfl (by decide) (by decide) rfl
def zhx (h : zH) (lo hi : Nat) : zH := fun i => if lo ≤ i ∧ i ≤ hi then zsh i (zJ0 i) (zG0 i) else h i
def zsp (k : Nat) : Nat → Int32 := fun j => if j < k then nI j else 0
theorem zsp_s (k : Nat) : upd (zsp k) k (nI k) = zsp (k + 1) := by
  funext j
  simp only [upd, zsp]
  by_cases e : j = k
  · rw [if_pos e, if_pos (by omega), e]
  · rw [if_neg e]
    by_cases e2 : j < k
    · rw [if_pos e2, if_pos (by omega)]
    · rw [if_neg e2, if_neg (by omega)]
theorem zu_uu {α : Type} {f : Nat → α} {a : Nat} {v w : α} : va_up (va_up f a v) a w = va_up f a w := by
  funext x
  by_cases e : x = a <;> simp [va_up, e]
theorem z_hext {X : zX} {R : Room} {M : zM} {Q : zQT} {fr : Bool} {k j : Nat} {h h' : zH} {n pc : Nat} {lv : List (Nat × Value)} {st : List Value} (he : ∀ i, i < n → h i = h' i) (kk : zJ X R M Q fr k j h' n pc lv st) : zJ X R M Q fr k j h n pc lv st := by
  have e : ∀ ad ca, zW ad ca h n = zW ad ca h' n := fun ad ca => List.map_congr_left (fun i hi => by rw [he i (List.mem_range.mp hi)])
  intro p e9 s m args below meth c A H locs ls hB hDD hL
  refine kk p e9 s m args below meth c A H locs ls hB ?_ hL
  simp only [zD, e] at hDD ⊢
  exact hDD
theorem z_old {X : zX} {R : Room} {M : zM} {Q : zQT} {k j : Nat} {h : zH} {n pc : Nat} {lv : List (Nat × Value)} {st : List Value} (kk : zJ X R M Q false k j h n pc lv st) : zJ X R M Q true k j h n pc lv st := by
  intro p e s m args below meth c A H locs ls hB hDD hL
  exact kk p e s m args below meth c A H locs ls hB ⟨hDD.1, hDD.2.1, hDD.2.2.1, fun h9 => by cases h9⟩ hL
theorem o_Res : Cond.methodLink "TableMachine$Results" 3 Lib.objectInit ∈ zWA := zWA_of (i := 122) (by decide +kernel) (by decide +kernel)
theorem k_Res_19 : Cond.classLink "TableMachine$Results" 19 "TableMachine$Values" ∈ zWA := zWA_of (i := 123) (by decide +kernel) (by decide +kernel)
set_option maxRecDepth 100000 in
set_option maxHeartbeats 4000000 in
theorem c_Res_init (X : zX) {h : zH} (ha : h 17 = .inr (7, [.int 0, .null, .null])) : zC X 2 m_Res_init 4 578 true [.ref 17] h 18 none (zhx h 17 21) 22 := by
  refine zC_of (by decide) (Nat.le_of_ble_eq_true rfl) ?_
  refine z_aload_n d_Res_init_0 rfl ?_
  refine z_obj d_Res_init_1 o_Res q_ob2 q_ob3 (Nat.le_of_ble_eq_true rfl) (Nat.le_of_ble_eq_true rfl) (Nat.le_of_ble_eq_true rfl) ?_
  refine z_aload_n d_Res_init_4 rfl ?_
  refine z_iconst (v := 0) d_Res_init_5 (by decide) ?_
  refine z_put d_Res_init_6 f_Res_9 p_7_0 (by omega) (by first | exact ha | rfl) (Nat.le_of_ble_eq_true rfl) rfl rfl rfl ?_
  refine z_aload_n d_Res_init_9 rfl ?_
  refine z_bipush (v := 64) d_Res_init_10 (by decide) ?_
  refine z_newi (N := 64) d_Res_init_12 q_i (by omega) (by omega) (Nat.le_of_ble_eq_true rfl) (Nat.le_of_ble_eq_true rfl) ?_
  refine z_putF d_Res_init_14 f_Res_15 p_7_1 rfl (fun q h9 => by cases h9; rfl) (by omega) rfl (Nat.le_of_ble_eq_true rfl) rfl rfl rfl ?_
  refine z_aload_n d_Res_init_17 rfl ?_
  refine z_new d_Res_init_18 n_4 k_Res_19 (by omega) (Nat.le_of_ble_eq_true rfl) (Nat.le_of_ble_eq_true rfl) ?_
  refine z_dup d_Res_init_21 rfl ?_
  refine z_sipush (v := 256) d_Res_init_22 (by decide) ?_
  refine z_callI d_Res_init_25 g_Res_21 (c_Val_init X (n := 20) (a := 19) (len := 256) (by omega) (by omega) (by omega) rfl) rfl ⟨by decide, by decide, Nat.le_of_ble_eq_true rfl, Nat.le_of_ble_eq_true rfl⟩ rfl (Nat.le_of_ble_eq_true rfl) rfl (by omega) ?_
  refine z_putF d_Res_init_28 f_Res_24 p_7_2 rfl (fun q h9 => by cases h9; rfl) (by omega) rfl (Nat.le_of_ble_eq_true rfl) rfl rfl rfl ?_
  exact z_vretE d_Res_init_31 rfl (Nat.le_of_ble_eq_true rfl) (Nat.le_of_ble_eq_true rfl) (fun i hi => by
    have h9 : i = 0 ∨ i = 1 ∨ i = 2 ∨ i = 3 ∨ i = 4 ∨ i = 5 ∨ i = 6 ∨ i = 7 ∨ i = 8 ∨ i = 9 ∨ i = 10 ∨ i = 11 ∨ i = 12 ∨ i = 13 ∨ i = 14 ∨ i = 15 ∨ i = 16 ∨ i = 17 ∨ i = 18 ∨ i = 19 ∨ i = 20 ∨ i = 21 := by omega
    rcases h9 with h9 | h9 | h9 | h9 | h9 | h9 | h9 | h9 | h9 | h9 | h9 | h9 | h9 | h9 | h9 | h9 | h9 | h9 | h9 | h9 | h9 | h9
    · subst h9; rfl
    · subst h9; rfl
    · subst h9; rfl
    · subst h9; rfl
    · subst h9; rfl
    · subst h9; rfl
    · subst h9; rfl
    · subst h9; rfl
    · subst h9; rfl
    · subst h9; rfl
    · subst h9; rfl
    · subst h9; rfl
    · subst h9; rfl
    · subst h9; rfl
    · subst h9; rfl
    · subst h9; rfl
    · subst h9; rfl
    · subst h9; rfl
    · subst h9; rfl
    · subst h9; rfl
    · subst h9; rfl
    · subst h9; rfl)
set_option maxRecDepth 100000 in
set_option maxHeartbeats 4000000 in
theorem l_Sto_spare (X : zX) {h0 hf : zH} (h2 : h0 2 = .inr (2, [.ref 3, .int 0, .ref 4, .ref 7, .ref 8, .int 90])) (he : ∀ i, i < 15 → va_up h0 8 (zAi 90 (zsp 90)) i = hf i) : ∀ rem k, 90 - k = rem → k ≤ 90 → zJ X (zR 2 12 1184) m_Sto_init (zRet X 12 1184 true none hf 15) true 12 1184 (va_up h0 8 (zAi 90 (zsp k))) 15 81 [(0, .ref 2), (1, .int (nI k))] [] := by
  intro rem
  induction rem with
  | zero =>
    intro k hr hk
    obtain rfl : k = 90 := by omega
    refine z_iload_n d_Sto_init_81 rfl ?_
    refine z_bipush (v := 90) d_Sto_init_82 (by decide) ?_
    refine z_icmp_ge d_Sto_init_84 100 (by decide) (fun _ => ?_) (fun h9 => absurd (by decide) h9)
    exact z_vretE d_Sto_init_100 rfl (Nat.le_refl _) (Nat.le_refl _) he
  | succ rem ih =>
    intro k hr hk
    refine z_iload_n d_Sto_init_81 rfl ?_
    refine z_bipush (v := 90) d_Sto_init_82 (by decide) ?_
    refine z_icmp_ge d_Sto_init_84 100 (by decide) (fun h9 => absurd h9 (nI_ge (b := 90) (show k < 90 by omega) (by decide))) (fun _ => ?_)
    refine z_aload_n d_Sto_init_87 rfl ?_
    refine z_get d_Sto_init_88 f_Sto_34 (by omega) (by rw [zu_n (by omega)]; exact h2) rfl ?_
    refine z_iload_n d_Sto_init_91 rfl ?_
    refine z_iload_n d_Sto_init_92 rfl ?_
    refine z_iast (t := k) (len := 90) d_Sto_init_93 (by omega) zu_e ⟨rfl, by omega, by omega⟩ (h' := va_up h0 8 (zAi 90 (zsp (k + 1)))) (by rw [zu_uu, zsp_s]; rfl) ?_
    refine z_iinc (lv' := [(0, _), (1, _)]) d_Sto_init_94 (by decide) rfl (show _ + Int32.ofInt 1 = nI (k + 1) from nI_1 _) rfl ?_
    refine z_goto d_Sto_init_97 81 (by decide) ?_
    exact ih (k + 1) (by omega) (by omega)
theorem zsp_0 : zsp 0 = fun _ => 0 := by funext j; simp [zsp]
theorem l_Sto_spare0 (X : zX) {hc hf : zH} (h8 : hc 8 = zAi 90 (fun _ => 0)) (h2 : hc 2 = .inr (2, [.ref 3, .int 0, .ref 4, .ref 7, .ref 8, .int 90])) (he : ∀ i, i < 15 → i ≠ 8 → hc i = hf i) (he8 : zAi 90 (zsp 90) = hf 8) : zJ X (zR 2 12 1184) m_Sto_init (zRet X 12 1184 true none hf 15) true 12 1184 hc 15 81 [(0, .ref 2), (1, .int 0)] [] := by
  refine z_hext (h' := va_up hc 8 (zAi 90 (zsp 0))) (fun i _ => ?_) (z_loc (lv' := [(0, .ref 2), (1, .int (nI 0))]) (by simp [nI_0]) (l_Sto_spare X h2 (fun i hi => ?_) 90 0 (by omega) (by omega)))
  · by_cases e : i = 8
    · rw [e, zu_e, h8, zsp_0]
    · rw [zu_n e]
  · by_cases e : i = 8
    · rw [e, zu_e, he8]
    · rw [zu_n e]; exact he i hi e
theorem o_Sto : Cond.methodLink "TableMachine$Store" 3 Lib.objectInit ∈ zWA := zWA_of (i := 40) (by decide +kernel) (by decide +kernel)
theorem k_Sto_9 : Cond.classLink "TableMachine$Store" 9 "TableMachine$Table" ∈ zWA := zWA_of (i := 41) (by decide +kernel) (by decide +kernel)
theorem k_Sto_21 : Cond.classLink "TableMachine$Store" 21 "TableMachine$Values" ∈ zWA := zWA_of (i := 43) (by decide +kernel) (by decide +kernel)
set_option maxRecDepth 100000 in
set_option maxHeartbeats 4000000 in
theorem c_Sto_init (X : zX) {h : zH} (ha : h 2 = .inr (2, [.null, .int 0, .null, .null, .null, .int 0])) : zC X 2 m_Sto_init 12 1184 true [.ref 2] h 3 none (zhx h 2 14) 15 := by
  refine zC_of (by decide) (Nat.le_of_ble_eq_true rfl) ?_
  refine z_aload_n d_Sto_init_0 rfl ?_
  refine z_obj d_Sto_init_1 o_Sto q_ob2 q_ob3 (Nat.le_of_ble_eq_true rfl) (Nat.le_of_ble_eq_true rfl) (Nat.le_of_ble_eq_true rfl) ?_
  refine z_aload_n d_Sto_init_4 rfl ?_
  refine z_iconst (v := 3) d_Sto_init_5 (by decide) ?_
  refine z_anew (N := 3) (t := 3) d_Sto_init_6 (fun _ => rfl) k_Sto_9 (by decide) (by omega) (by omega) (Nat.le_of_ble_eq_true rfl) (Nat.le_of_ble_eq_true rfl) ?_
  refine z_putF d_Sto_init_9 f_Sto_11 p_2_0 rfl (fun q h9 => by cases h9; rfl) (by omega) (by first | exact ha | rfl) (Nat.le_of_ble_eq_true rfl) rfl rfl rfl ?_
  refine z_aload_n d_Sto_init_12 rfl ?_
  refine z_iconst (v := 0) d_Sto_init_13 (by decide) ?_
  refine z_put d_Sto_init_14 f_Sto_17 p_2_1 (by omega) rfl (Nat.le_of_ble_eq_true rfl) rfl rfl rfl ?_
  refine z_aload_n d_Sto_init_17 rfl ?_
  refine z_new d_Sto_init_18 n_4 k_Sto_21 (by omega) (Nat.le_of_ble_eq_true rfl) (Nat.le_of_ble_eq_true rfl) ?_
  refine z_dup d_Sto_init_21 rfl ?_
  refine z_sipush (v := 360) d_Sto_init_22 (by decide) ?_
  refine z_callI d_Sto_init_25 g_Sto_23 (c_Val_init X (n := 5) (a := 4) (len := 360) (by omega) (by omega) (by omega) rfl) rfl ⟨by decide, by decide, Nat.le_of_ble_eq_true rfl, Nat.le_of_ble_eq_true rfl⟩ rfl (Nat.le_of_ble_eq_true rfl) rfl (by omega) ?_
  refine z_putF d_Sto_init_28 f_Sto_26 p_2_2 rfl (fun q h9 => by cases h9; rfl) (by omega) rfl (Nat.le_of_ble_eq_true rfl) rfl rfl rfl ?_
  refine z_aload_n d_Sto_init_31 rfl ?_
  refine z_bipush (v := 90) d_Sto_init_32 (by decide) ?_
  refine z_newl (N := 90) d_Sto_init_34 q_l (by omega) (by omega) (Nat.le_of_ble_eq_true rfl) (Nat.le_of_ble_eq_true rfl) ?_
  refine z_putF d_Sto_init_36 f_Sto_30 p_2_3 rfl (fun q h9 => by cases h9; rfl) (by omega) rfl (Nat.le_of_ble_eq_true rfl) rfl rfl rfl ?_
  refine z_aload_n d_Sto_init_39 rfl ?_
  refine z_bipush (v := 90) d_Sto_init_40 (by decide) ?_
  refine z_newi (N := 90) d_Sto_init_42 q_i (by omega) (by omega) (Nat.le_of_ble_eq_true rfl) (Nat.le_of_ble_eq_true rfl) ?_
  refine z_putF d_Sto_init_44 f_Sto_34 p_2_4 rfl (fun q h9 => by cases h9; rfl) (by omega) rfl (Nat.le_of_ble_eq_true rfl) rfl rfl rfl ?_
  refine z_aload_n d_Sto_init_47 rfl ?_
  refine z_bipush (v := 90) d_Sto_init_48 (by decide) ?_
  refine z_put d_Sto_init_50 f_Sto_38 p_2_5 (by omega) rfl (Nat.le_of_ble_eq_true rfl) rfl rfl rfl ?_
  refine z_iconst (v := 0) d_Sto_init_53 (by decide) ?_
  refine z_istore_n (lv' := [(0, _), (1, _)]) d_Sto_init_54 (by decide) rfl ?_
  refine z_iload_n d_Sto_init_55 rfl ?_
  refine z_iconst (v := 3) d_Sto_init_56 (by decide) ?_
  refine z_icmp_ge d_Sto_init_57 79 (by decide) (fun h9 => absurd h9 (by decide)) (fun _ => ?_)
  refine z_aload_n d_Sto_init_60 rfl ?_
  refine z_get d_Sto_init_61 f_Sto_11 (by omega) rfl rfl ?_
  refine z_iload_n d_Sto_init_64 rfl ?_
  refine z_new d_Sto_init_65 n_3 k_Sto_9 (by omega) (Nat.le_of_ble_eq_true rfl) (Nat.le_of_ble_eq_true rfl) ?_
  refine z_dup d_Sto_init_68 rfl ?_
  refine z_callIN d_Sto_init_69 g_Sto_41 (c_Tab_init X (n := 10) (a := 9) (by omega) (by omega) rfl) rfl ⟨by decide, by decide, Nat.le_of_ble_eq_true rfl, Nat.le_of_ble_eq_true rfl⟩ rfl (Nat.le_of_ble_eq_true rfl) rfl (by omega) ?_
  refine z_aast (ci := 3) (t := 3) (r := (zr3, zf3, 3)) d_Sto_init_72 (fun _ => rfl) rfl (by omega) rfl (by omega) rfl ⟨rfl, by decide, by decide⟩ rfl ?_
  refine z_iinc (lv' := [(0, _), (1, _)]) d_Sto_init_73 (by decide) rfl (show _ + Int32.ofInt 1 = (1 : Int32) from by decide) rfl ?_
  refine z_goto d_Sto_init_76 55 (by decide) ?_
  refine z_iload_n d_Sto_init_55 rfl ?_
  refine z_iconst (v := 3) d_Sto_init_56 (by decide) ?_
  refine z_icmp_ge d_Sto_init_57 79 (by decide) (fun h9 => absurd h9 (by decide)) (fun _ => ?_)
  refine z_aload_n d_Sto_init_60 rfl ?_
  refine z_get d_Sto_init_61 f_Sto_11 (by omega) rfl rfl ?_
  refine z_iload_n d_Sto_init_64 rfl ?_
  refine z_new d_Sto_init_65 n_3 k_Sto_9 (by omega) (Nat.le_of_ble_eq_true rfl) (Nat.le_of_ble_eq_true rfl) ?_
  refine z_dup d_Sto_init_68 rfl ?_
  refine z_callIN d_Sto_init_69 g_Sto_41 (c_Tab_init X (n := 12) (a := 11) (by omega) (by omega) rfl) rfl ⟨by decide, by decide, Nat.le_of_ble_eq_true rfl, Nat.le_of_ble_eq_true rfl⟩ rfl (Nat.le_of_ble_eq_true rfl) rfl (by omega) ?_
  refine z_aast (ci := 3) (t := 3) (r := (zr3, zf3, 3)) d_Sto_init_72 (fun _ => rfl) rfl (by omega) rfl (by omega) rfl ⟨rfl, by decide, by decide⟩ rfl ?_
  refine z_iinc (lv' := [(0, _), (1, _)]) d_Sto_init_73 (by decide) rfl (show _ + Int32.ofInt 1 = (2 : Int32) from by decide) rfl ?_
  refine z_goto d_Sto_init_76 55 (by decide) ?_
  refine z_iload_n d_Sto_init_55 rfl ?_
  refine z_iconst (v := 3) d_Sto_init_56 (by decide) ?_
  refine z_icmp_ge d_Sto_init_57 79 (by decide) (fun h9 => absurd h9 (by decide)) (fun _ => ?_)
  refine z_aload_n d_Sto_init_60 rfl ?_
  refine z_get d_Sto_init_61 f_Sto_11 (by omega) rfl rfl ?_
  refine z_iload_n d_Sto_init_64 rfl ?_
  refine z_new d_Sto_init_65 n_3 k_Sto_9 (by omega) (Nat.le_of_ble_eq_true rfl) (Nat.le_of_ble_eq_true rfl) ?_
  refine z_dup d_Sto_init_68 rfl ?_
  refine z_callIN d_Sto_init_69 g_Sto_41 (c_Tab_init X (n := 14) (a := 13) (by omega) (by omega) rfl) rfl ⟨by decide, by decide, Nat.le_of_ble_eq_true rfl, Nat.le_of_ble_eq_true rfl⟩ rfl (Nat.le_of_ble_eq_true rfl) rfl (by omega) ?_
  refine z_aast (ci := 3) (t := 3) (r := (zr3, zf3, 3)) d_Sto_init_72 (fun _ => rfl) rfl (by omega) rfl (by omega) rfl ⟨rfl, by decide, by decide⟩ rfl ?_
  refine z_iinc (lv' := [(0, _), (1, _)]) d_Sto_init_73 (by decide) rfl (show _ + Int32.ofInt 1 = (3 : Int32) from by decide) rfl ?_
  refine z_goto d_Sto_init_76 55 (by decide) ?_
  refine z_iload_n d_Sto_init_55 rfl ?_
  refine z_iconst (v := 3) d_Sto_init_56 (by decide) ?_
  refine z_icmp_ge d_Sto_init_57 79 (by decide) (fun _ => ?_) (fun h9 => absurd (by decide) h9)
  refine z_iconst (v := 0) d_Sto_init_79 (by decide) ?_
  refine z_istore_n (lv' := [(0, _), (1, _)]) d_Sto_init_80 (by decide) rfl ?_
  exact z_loc (lv' := [(0, .ref 2), (1, .int 0)]) (by simp) (l_Sto_spare0 X rfl rfl (fun i hi h8 => by
    have h9 : i = 0 ∨ i = 1 ∨ i = 2 ∨ i = 3 ∨ i = 4 ∨ i = 5 ∨ i = 6 ∨ i = 7 ∨ i = 8 ∨ i = 9 ∨ i = 10 ∨ i = 11 ∨ i = 12 ∨ i = 13 ∨ i = 14 := by omega
    rcases h9 with h9 | h9 | h9 | h9 | h9 | h9 | h9 | h9 | h9 | h9 | h9 | h9 | h9 | h9 | h9
    · subst h9; rfl
    · subst h9; rfl
    · subst h9; rfl
    · subst h9; exact (by show zAr 3 3 _ = zAr 3 3 _; congr 1; funext t; simp only [va_up]; by_cases h2 : t = 2 <;> by_cases h1 : t = 1 <;> by_cases h0 : t = 0 <;> simp_all)
    · subst h9; rfl
    · subst h9; rfl
    · subst h9; rfl
    · subst h9; rfl
    · subst h9; exact absurd rfl h8
    · subst h9; rfl
    · subst h9; rfl
    · subst h9; rfl
    · subst h9; rfl
    · subst h9; rfl
    · subst h9; rfl) rfl)
theorem o_Mac : Cond.methodLink "TableMachine$Machine" 3 Lib.objectInit ∈ zWA := zWA_of (i := 34) (by decide +kernel) (by decide +kernel)
theorem k_Mac_9 : Cond.classLink "TableMachine$Machine" 9 "TableMachine$Store" ∈ zWA := zWA_of (i := 35) (by decide +kernel) (by decide +kernel)
theorem k_Mac_18 : Cond.classLink "TableMachine$Machine" 18 "TableMachine$Program" ∈ zWA := zWA_of (i := 101) (by decide +kernel) (by decide +kernel)
theorem k_Mac_25 : Cond.classLink "TableMachine$Machine" 25 "TableMachine$Results" ∈ zWA := zWA_of (i := 117) (by decide +kernel) (by decide +kernel)
theorem k_Mac_32 : Cond.classLink "TableMachine$Machine" 32 "TableMachine$Values" ∈ zWA := zWA_of (i := 139) (by decide +kernel) (by decide +kernel)
theorem k_Mac_41 : Cond.classLink "TableMachine$Machine" 41 "TableMachine$Cursor" ∈ zWA := zWA_of (i := 141) (by decide +kernel) (by decide +kernel)
set_option maxRecDepth 100000 in
set_option maxHeartbeats 4000000 in
theorem c_Mac_init (X : zX) {h : zH} (ha : h 1 = .inr (1, [.null, .null, .null, .null, .null, .int 0])) : zC X 3 m_Mac_init 27 2059 true [.ref 1] h 2 none (zhx h 1 28) 29 := by
  refine zC_of (by decide) (Nat.le_of_ble_eq_true rfl) ?_
  refine z_aload_n d_Mac_init_0 rfl ?_
  refine z_obj d_Mac_init_1 o_Mac q_ob2 q_ob3 (Nat.le_of_ble_eq_true rfl) (Nat.le_of_ble_eq_true rfl) (Nat.le_of_ble_eq_true rfl) ?_
  refine z_aload_n d_Mac_init_4 rfl ?_
  refine z_new d_Mac_init_5 n_2 k_Mac_9 (by omega) (Nat.le_of_ble_eq_true rfl) (Nat.le_of_ble_eq_true rfl) ?_
  refine z_dup d_Mac_init_8 rfl ?_
  refine z_callI d_Mac_init_9 g_Mac_11 (c_Sto_init X rfl) rfl ⟨by decide, by decide, Nat.le_of_ble_eq_true rfl, Nat.le_of_ble_eq_true rfl⟩ rfl (Nat.le_of_ble_eq_true rfl) rfl (by omega) ?_
  refine z_putF d_Mac_init_12 f_Mac_12 p_1_0 rfl (fun q h9 => by cases h9; rfl) (by omega) (by first | exact ha | rfl) (Nat.le_of_ble_eq_true rfl) rfl rfl rfl ?_
  refine z_aload_n d_Mac_init_15 rfl ?_
  refine z_new d_Mac_init_16 n_6 k_Mac_18 (by omega) (Nat.le_of_ble_eq_true rfl) (Nat.le_of_ble_eq_true rfl) ?_
  refine z_dup d_Mac_init_19 rfl ?_
  refine z_callIN d_Mac_init_20 g_Mac_20 (c_Pro_init X (n := 16) (a := 15) (by omega) (by omega) rfl) rfl ⟨by decide, by decide, Nat.le_of_ble_eq_true rfl, Nat.le_of_ble_eq_true rfl⟩ rfl (Nat.le_of_ble_eq_true rfl) rfl (by omega) ?_
  refine z_putF d_Mac_init_23 f_Mac_21 p_1_1 rfl (fun q h9 => by cases h9; rfl) (by omega) rfl (Nat.le_of_ble_eq_true rfl) rfl rfl rfl ?_
  refine z_aload_n d_Mac_init_26 rfl ?_
  refine z_new d_Mac_init_27 n_7 k_Mac_25 (by omega) (Nat.le_of_ble_eq_true rfl) (Nat.le_of_ble_eq_true rfl) ?_
  refine z_dup d_Mac_init_30 rfl ?_
  refine z_callIN d_Mac_init_31 g_Mac_27 (c_Res_init X rfl) rfl ⟨by decide, by decide, Nat.le_of_ble_eq_true rfl, Nat.le_of_ble_eq_true rfl⟩ rfl (Nat.le_of_ble_eq_true rfl) rfl (by omega) ?_
  refine z_putF d_Mac_init_34 f_Mac_28 p_1_2 rfl (fun q h9 => by cases h9; rfl) (by omega) rfl (Nat.le_of_ble_eq_true rfl) rfl rfl rfl ?_
  refine z_aload_n d_Mac_init_37 rfl ?_
  refine z_new d_Mac_init_38 n_4 k_Mac_32 (by omega) (Nat.le_of_ble_eq_true rfl) (Nat.le_of_ble_eq_true rfl) ?_
  refine z_dup d_Mac_init_41 rfl ?_
  refine z_bipush (v := 16) d_Mac_init_42 (by decide) ?_
  refine z_callI d_Mac_init_44 g_Mac_34 (c_Val_init X (n := 23) (a := 22) (len := 16) (by omega) (by omega) (by omega) rfl) rfl ⟨by decide, by decide, Nat.le_of_ble_eq_true rfl, Nat.le_of_ble_eq_true rfl⟩ rfl (Nat.le_of_ble_eq_true rfl) rfl (by omega) ?_
  refine z_putF d_Mac_init_47 f_Mac_37 p_1_3 rfl (fun q h9 => by cases h9; rfl) (by omega) rfl (Nat.le_of_ble_eq_true rfl) rfl rfl rfl ?_
  refine z_aload_n d_Mac_init_50 rfl ?_
  refine z_iconst (v := 3) d_Mac_init_51 (by decide) ?_
  refine z_anew (N := 3) (t := 4) d_Mac_init_52 (fun _ => rfl) k_Mac_41 (by decide) (by omega) (by omega) (Nat.le_of_ble_eq_true rfl) (Nat.le_of_ble_eq_true rfl) ?_
  refine z_putF d_Mac_init_55 f_Mac_43 p_1_4 rfl (fun q h9 => by cases h9; rfl) (by omega) rfl (Nat.le_of_ble_eq_true rfl) rfl rfl rfl ?_
  refine z_aload_n d_Mac_init_58 rfl ?_
  refine z_iconst (v := 0) d_Mac_init_59 (by decide) ?_
  refine z_put d_Mac_init_60 f_Mac_47 p_1_5 (by omega) rfl (Nat.le_of_ble_eq_true rfl) rfl rfl rfl ?_
  refine z_iconst (v := 0) d_Mac_init_63 (by decide) ?_
  refine z_istore_n (lv' := [(0, _), (1, _)]) d_Mac_init_64 (by decide) rfl ?_
  refine z_iload_n d_Mac_init_65 rfl ?_
  refine z_iconst (v := 3) d_Mac_init_66 (by decide) ?_
  refine z_icmp_ge d_Mac_init_67 89 (by decide) (fun h9 => absurd h9 (by decide)) (fun _ => ?_)
  refine z_aload_n d_Mac_init_70 rfl ?_
  refine z_get d_Mac_init_71 f_Mac_43 (by omega) rfl rfl ?_
  refine z_iload_n d_Mac_init_74 rfl ?_
  refine z_new d_Mac_init_75 n_5 k_Mac_41 (by omega) (Nat.le_of_ble_eq_true rfl) (Nat.le_of_ble_eq_true rfl) ?_
  refine z_dup d_Mac_init_78 rfl ?_
  refine z_callIN d_Mac_init_79 g_Mac_51 (c_Cur_init X (n := 27) (a := 26) (by omega) (by omega) rfl) rfl ⟨by decide, by decide, Nat.le_of_ble_eq_true rfl, Nat.le_of_ble_eq_true rfl⟩ rfl (Nat.le_of_ble_eq_true rfl) rfl (by omega) ?_
  refine z_aast (ci := 5) (t := 4) (r := (zr5, zf5, 3)) d_Mac_init_82 (fun _ => rfl) rfl (by omega) rfl (by omega) rfl ⟨rfl, by decide, by decide⟩ rfl ?_
  refine z_iinc (lv' := [(0, _), (1, _)]) d_Mac_init_83 (by decide) rfl (show _ + Int32.ofInt 1 = (1 : Int32) from by decide) rfl ?_
  refine z_goto d_Mac_init_86 65 (by decide) ?_
  refine z_iload_n d_Mac_init_65 rfl ?_
  refine z_iconst (v := 3) d_Mac_init_66 (by decide) ?_
  refine z_icmp_ge d_Mac_init_67 89 (by decide) (fun h9 => absurd h9 (by decide)) (fun _ => ?_)
  refine z_aload_n d_Mac_init_70 rfl ?_
  refine z_get d_Mac_init_71 f_Mac_43 (by omega) rfl rfl ?_
  refine z_iload_n d_Mac_init_74 rfl ?_
  refine z_new d_Mac_init_75 n_5 k_Mac_41 (by omega) (Nat.le_of_ble_eq_true rfl) (Nat.le_of_ble_eq_true rfl) ?_
  refine z_dup d_Mac_init_78 rfl ?_
  refine z_callIN d_Mac_init_79 g_Mac_51 (c_Cur_init X (n := 28) (a := 27) (by omega) (by omega) rfl) rfl ⟨by decide, by decide, Nat.le_of_ble_eq_true rfl, Nat.le_of_ble_eq_true rfl⟩ rfl (Nat.le_of_ble_eq_true rfl) rfl (by omega) ?_
  refine z_aast (ci := 5) (t := 4) (r := (zr5, zf5, 3)) d_Mac_init_82 (fun _ => rfl) rfl (by omega) rfl (by omega) rfl ⟨rfl, by decide, by decide⟩ rfl ?_
  refine z_iinc (lv' := [(0, _), (1, _)]) d_Mac_init_83 (by decide) rfl (show _ + Int32.ofInt 1 = (2 : Int32) from by decide) rfl ?_
  refine z_goto d_Mac_init_86 65 (by decide) ?_
  refine z_iload_n d_Mac_init_65 rfl ?_
  refine z_iconst (v := 3) d_Mac_init_66 (by decide) ?_
  refine z_icmp_ge d_Mac_init_67 89 (by decide) (fun h9 => absurd h9 (by decide)) (fun _ => ?_)
  refine z_aload_n d_Mac_init_70 rfl ?_
  refine z_get d_Mac_init_71 f_Mac_43 (by omega) rfl rfl ?_
  refine z_iload_n d_Mac_init_74 rfl ?_
  refine z_new d_Mac_init_75 n_5 k_Mac_41 (by omega) (Nat.le_of_ble_eq_true rfl) (Nat.le_of_ble_eq_true rfl) ?_
  refine z_dup d_Mac_init_78 rfl ?_
  refine z_callIN d_Mac_init_79 g_Mac_51 (c_Cur_init X (n := 29) (a := 28) (by omega) (by omega) rfl) rfl ⟨by decide, by decide, Nat.le_of_ble_eq_true rfl, Nat.le_of_ble_eq_true rfl⟩ rfl (Nat.le_of_ble_eq_true rfl) rfl (by omega) ?_
  refine z_aast (ci := 5) (t := 4) (r := (zr5, zf5, 3)) d_Mac_init_82 (fun _ => rfl) rfl (by omega) rfl (by omega) rfl ⟨rfl, by decide, by decide⟩ rfl ?_
  refine z_iinc (lv' := [(0, _), (1, _)]) d_Mac_init_83 (by decide) rfl (show _ + Int32.ofInt 1 = (3 : Int32) from by decide) rfl ?_
  refine z_goto d_Mac_init_86 65 (by decide) ?_
  refine z_iload_n d_Mac_init_65 rfl ?_
  refine z_iconst (v := 3) d_Mac_init_66 (by decide) ?_
  refine z_icmp_ge d_Mac_init_67 89 (by decide) (fun _ => ?_) (fun h9 => absurd (by decide) h9)
  exact z_vretE d_Mac_init_89 rfl (Nat.le_of_ble_eq_true rfl) (Nat.le_of_ble_eq_true rfl) (fun i hi => by
    have h9 : i = 0 ∨ i = 1 ∨ i = 2 ∨ i = 3 ∨ i = 4 ∨ i = 5 ∨ i = 6 ∨ i = 7 ∨ i = 8 ∨ i = 9 ∨ i = 10 ∨ i = 11 ∨ i = 12 ∨ i = 13 ∨ i = 14 ∨ i = 15 ∨ i = 16 ∨ i = 17 ∨ i = 18 ∨ i = 19 ∨ i = 20 ∨ i = 21 ∨ i = 22 ∨ i = 23 ∨ i = 24 ∨ i = 25 ∨ i = 26 ∨ i = 27 ∨ i = 28 := by omega
    rcases h9 with h9 | h9 | h9 | h9 | h9 | h9 | h9 | h9 | h9 | h9 | h9 | h9 | h9 | h9 | h9 | h9 | h9 | h9 | h9 | h9 | h9 | h9 | h9 | h9 | h9 | h9 | h9 | h9 | h9
    · subst h9; rfl
    · subst h9; rfl
    · subst h9; rfl
    · subst h9; rfl
    · subst h9; rfl
    · subst h9; rfl
    · subst h9; rfl
    · subst h9; rfl
    · subst h9; rfl
    · subst h9; rfl
    · subst h9; rfl
    · subst h9; rfl
    · subst h9; rfl
    · subst h9; rfl
    · subst h9; rfl
    · subst h9; rfl
    · subst h9; rfl
    · subst h9; rfl
    · subst h9; rfl
    · subst h9; rfl
    · subst h9; rfl
    · subst h9; rfl
    · subst h9; rfl
    · subst h9; rfl
    · subst h9; rfl
    · subst h9; exact (by show zAr 4 3 _ = zAr 4 3 _; congr 1; funext t; simp only [va_up]; by_cases h2 : t = 2 <;> by_cases h1 : t = 1 <;> by_cases h0 : t = 0 <;> simp_all)
    · subst h9; rfl
    · subst h9; rfl
    · subst h9; rfl)
theorem o_Que : Cond.methodLink "TableMachine$Question" 3 Lib.objectInit ∈ zWA := zWA_of (i := 190) (by decide +kernel) (by decide +kernel)
set_option maxRecDepth 100000 in
set_option maxHeartbeats 4000000 in
theorem c_Que_init (X : zX) {h : zH} (ha : h 32 = .inr (8, [.null, .int 0, .int 0, .int 0, .null, .null, .null, .null, .null, .null, .int 0, .int 0, .int 0])) : zC X 1 m_Que_init 7 26 true [.ref 32] h 33 none (zhx h 32 39) 40 := by
  refine zC_of (by decide) (Nat.le_of_ble_eq_true rfl) ?_
  refine z_aload_n d_Que_init_0 rfl ?_
  refine z_obj d_Que_init_1 o_Que q_ob2 q_ob3 (Nat.le_of_ble_eq_true rfl) (Nat.le_of_ble_eq_true rfl) (Nat.le_of_ble_eq_true rfl) ?_
  refine z_aload_n d_Que_init_4 rfl ?_
  refine z_iconst (v := 2) d_Que_init_5 (by decide) ?_
  refine z_newi (N := 2) d_Que_init_6 q_i (by omega) (by omega) (Nat.le_of_ble_eq_true rfl) (Nat.le_of_ble_eq_true rfl) ?_
  refine z_putF d_Que_init_8 f_Que_9 p_8_0 rfl (fun q h9 => by cases h9; rfl) (by omega) (by first | exact ha | rfl) (Nat.le_of_ble_eq_true rfl) rfl rfl rfl ?_
  refine z_aload_n d_Que_init_11 rfl ?_
  refine z_iconst (v := 0) d_Que_init_12 (by decide) ?_
  refine z_put d_Que_init_13 f_Que_15 p_8_1 (by omega) rfl (Nat.le_of_ble_eq_true rfl) rfl rfl rfl ?_
  refine z_aload_n d_Que_init_16 rfl ?_
  refine z_iconst (v := 0) d_Que_init_17 (by decide) ?_
  refine z_put d_Que_init_18 f_Que_19 p_8_2 (by omega) rfl (Nat.le_of_ble_eq_true rfl) rfl rfl rfl ?_
  refine z_aload_n d_Que_init_21 rfl ?_
  refine z_iconst (v := 0) d_Que_init_22 (by decide) ?_
  refine z_put d_Que_init_23 f_Que_22 p_8_3 (by omega) rfl (Nat.le_of_ble_eq_true rfl) rfl rfl rfl ?_
  refine z_aload_n d_Que_init_26 rfl ?_
  refine z_iconst (v := 4) d_Que_init_27 (by decide) ?_
  refine z_newi (N := 4) d_Que_init_28 q_i (by omega) (by omega) (Nat.le_of_ble_eq_true rfl) (Nat.le_of_ble_eq_true rfl) ?_
  refine z_putF d_Que_init_30 f_Que_25 p_8_4 rfl (fun q h9 => by cases h9; rfl) (by omega) rfl (Nat.le_of_ble_eq_true rfl) rfl rfl rfl ?_
  refine z_aload_n d_Que_init_33 rfl ?_
  refine z_iconst (v := 4) d_Que_init_34 (by decide) ?_
  refine z_newi (N := 4) d_Que_init_35 q_i (by omega) (by omega) (Nat.le_of_ble_eq_true rfl) (Nat.le_of_ble_eq_true rfl) ?_
  refine z_putF d_Que_init_37 f_Que_28 p_8_5 rfl (fun q h9 => by cases h9; rfl) (by omega) rfl (Nat.le_of_ble_eq_true rfl) rfl rfl rfl ?_
  refine z_aload_n d_Que_init_40 rfl ?_
  refine z_iconst (v := 4) d_Que_init_41 (by decide) ?_
  refine z_newi (N := 4) d_Que_init_42 q_i (by omega) (by omega) (Nat.le_of_ble_eq_true rfl) (Nat.le_of_ble_eq_true rfl) ?_
  refine z_putF d_Que_init_44 f_Que_31 p_8_6 rfl (fun q h9 => by cases h9; rfl) (by omega) rfl (Nat.le_of_ble_eq_true rfl) rfl rfl rfl ?_
  refine z_aload_n d_Que_init_47 rfl ?_
  refine z_iconst (v := 4) d_Que_init_48 (by decide) ?_
  refine z_newi (N := 4) d_Que_init_49 q_i (by omega) (by omega) (Nat.le_of_ble_eq_true rfl) (Nat.le_of_ble_eq_true rfl) ?_
  refine z_putF d_Que_init_51 f_Que_34 p_8_7 rfl (fun q h9 => by cases h9; rfl) (by omega) rfl (Nat.le_of_ble_eq_true rfl) rfl rfl rfl ?_
  refine z_aload_n d_Que_init_54 rfl ?_
  refine z_iconst (v := 4) d_Que_init_55 (by decide) ?_
  refine z_newi (N := 4) d_Que_init_56 q_i (by omega) (by omega) (Nat.le_of_ble_eq_true rfl) (Nat.le_of_ble_eq_true rfl) ?_
  refine z_putF d_Que_init_58 f_Que_37 p_8_8 rfl (fun q h9 => by cases h9; rfl) (by omega) rfl (Nat.le_of_ble_eq_true rfl) rfl rfl rfl ?_
  refine z_aload_n d_Que_init_61 rfl ?_
  refine z_iconst (v := 4) d_Que_init_62 (by decide) ?_
  refine z_newi (N := 4) d_Que_init_63 q_i (by omega) (by omega) (Nat.le_of_ble_eq_true rfl) (Nat.le_of_ble_eq_true rfl) ?_
  refine z_putF d_Que_init_65 f_Que_40 p_8_9 rfl (fun q h9 => by cases h9; rfl) (by omega) rfl (Nat.le_of_ble_eq_true rfl) rfl rfl rfl ?_
  refine z_aload_n d_Que_init_68 rfl ?_
  refine z_iconst (v := 0) d_Que_init_69 (by decide) ?_
  refine z_put d_Que_init_70 f_Que_43 p_8_10 (by omega) rfl (Nat.le_of_ble_eq_true rfl) rfl rfl rfl ?_
  refine z_aload_n d_Que_init_73 rfl ?_
  refine z_iconst (v := (-1)) d_Que_init_74 (by decide) ?_
  refine z_put d_Que_init_75 f_Que_47 p_8_11 (by omega) rfl (Nat.le_of_ble_eq_true rfl) rfl rfl rfl ?_
  refine z_aload_n d_Que_init_78 rfl ?_
  refine z_iconst (v := (-1)) d_Que_init_79 (by decide) ?_
  refine z_put d_Que_init_80 f_Que_50 p_8_12 (by omega) rfl (Nat.le_of_ble_eq_true rfl) rfl rfl rfl ?_
  exact z_vretE d_Que_init_83 rfl (Nat.le_of_ble_eq_true rfl) (Nat.le_of_ble_eq_true rfl) (fun i hi => by
    have h9 : i = 0 ∨ i = 1 ∨ i = 2 ∨ i = 3 ∨ i = 4 ∨ i = 5 ∨ i = 6 ∨ i = 7 ∨ i = 8 ∨ i = 9 ∨ i = 10 ∨ i = 11 ∨ i = 12 ∨ i = 13 ∨ i = 14 ∨ i = 15 ∨ i = 16 ∨ i = 17 ∨ i = 18 ∨ i = 19 ∨ i = 20 ∨ i = 21 ∨ i = 22 ∨ i = 23 ∨ i = 24 ∨ i = 25 ∨ i = 26 ∨ i = 27 ∨ i = 28 ∨ i = 29 ∨ i = 30 ∨ i = 31 ∨ i = 32 ∨ i = 33 ∨ i = 34 ∨ i = 35 ∨ i = 36 ∨ i = 37 ∨ i = 38 ∨ i = 39 := by omega
    rcases h9 with h9 | h9 | h9 | h9 | h9 | h9 | h9 | h9 | h9 | h9 | h9 | h9 | h9 | h9 | h9 | h9 | h9 | h9 | h9 | h9 | h9 | h9 | h9 | h9 | h9 | h9 | h9 | h9 | h9 | h9 | h9 | h9 | h9 | h9 | h9 | h9 | h9 | h9 | h9 | h9
    · subst h9; rfl
    · subst h9; rfl
    · subst h9; rfl
    · subst h9; rfl
    · subst h9; rfl
    · subst h9; rfl
    · subst h9; rfl
    · subst h9; rfl
    · subst h9; rfl
    · subst h9; rfl
    · subst h9; rfl
    · subst h9; rfl
    · subst h9; rfl
    · subst h9; rfl
    · subst h9; rfl
    · subst h9; rfl
    · subst h9; rfl
    · subst h9; rfl
    · subst h9; rfl
    · subst h9; rfl
    · subst h9; rfl
    · subst h9; rfl
    · subst h9; rfl
    · subst h9; rfl
    · subst h9; rfl
    · subst h9; rfl
    · subst h9; rfl
    · subst h9; rfl
    · subst h9; rfl
    · subst h9; rfl
    · subst h9; rfl
    · subst h9; rfl
    · subst h9; rfl
    · subst h9; rfl
    · subst h9; rfl
    · subst h9; rfl
    · subst h9; rfl
    · subst h9; rfl
    · subst h9; rfl
    · subst h9; rfl)
theorem o_TM : Cond.methodLink "TableMachine" 1 Lib.objectInit ∈ zWA := zWA_of (i := 26) (by decide +kernel) (by decide +kernel)
theorem k_TM_7 : Cond.classLink "TableMachine" 7 "TableMachine$Machine" ∈ zWA := zWA_of (i := 29) (by decide +kernel) (by decide +kernel)
theorem k_TM_31 : Cond.classLink "TableMachine" 31 "TableMachine$Values" ∈ zWA := zWA_of (i := 183) (by decide +kernel) (by decide +kernel)
theorem k_TM_40 : Cond.classLink "TableMachine" 40 "TableMachine$Question" ∈ zWA := zWA_of (i := 185) (by decide +kernel) (by decide +kernel)
set_option maxRecDepth 100000 in
set_option maxHeartbeats 4000000 in
theorem c_TM_init (X : zX) {h : zH} (ha : h 0 = .inr (0, [.null, .null, .null, .null, .null, .null])) : zC X 4 m_TM_init 39 2114 true [.ref 0] h 1 none (zhx h 0 39) 40 := by
  refine zC_of (by decide) (Nat.le_of_ble_eq_true rfl) ?_
  refine z_aload_n d_TM_init_0 rfl ?_
  refine z_obj d_TM_init_1 o_TM q_ob2 q_ob3 (Nat.le_of_ble_eq_true rfl) (Nat.le_of_ble_eq_true rfl) (Nat.le_of_ble_eq_true rfl) ?_
  refine z_aload_n d_TM_init_4 rfl ?_
  refine z_new d_TM_init_5 n_1 k_TM_7 (by omega) (Nat.le_of_ble_eq_true rfl) (Nat.le_of_ble_eq_true rfl) ?_
  refine z_dup d_TM_init_8 rfl ?_
  refine z_callI d_TM_init_9 g_TM_9 (c_Mac_init X rfl) rfl ⟨by decide, by decide, Nat.le_of_ble_eq_true rfl, Nat.le_of_ble_eq_true rfl⟩ rfl (Nat.le_of_ble_eq_true rfl) rfl (by omega) ?_
  refine z_putF d_TM_init_12 f_TM_10 p_0_0 rfl (fun q h9 => by cases h9; rfl) (by omega) (by first | exact ha | rfl) (Nat.le_of_ble_eq_true rfl) rfl rfl rfl ?_
  refine z_aload_n d_TM_init_15 rfl ?_
  refine z_aload_n d_TM_init_16 rfl ?_
  refine z_get d_TM_init_17 f_TM_10 (by omega) rfl rfl ?_
  refine z_get d_TM_init_20 f_TM_16 (by omega) rfl rfl ?_
  refine z_putF d_TM_init_23 f_TM_20 p_0_1 rfl (fun q h9 => by cases h9; rfl) (by omega) rfl (Nat.le_of_ble_eq_true rfl) rfl rfl rfl ?_
  refine z_aload_n d_TM_init_26 rfl ?_
  refine z_aload_n d_TM_init_27 rfl ?_
  refine z_get d_TM_init_28 f_TM_10 (by omega) rfl rfl ?_
  refine z_get d_TM_init_31 f_TM_21 (by omega) rfl rfl ?_
  refine z_putF d_TM_init_34 f_TM_25 p_0_2 rfl (fun q h9 => by cases h9; rfl) (by omega) rfl (Nat.le_of_ble_eq_true rfl) rfl rfl rfl ?_
  refine z_aload_n d_TM_init_37 rfl ?_
  refine z_aload_n d_TM_init_38 rfl ?_
  refine z_get d_TM_init_39 f_TM_10 (by omega) rfl rfl ?_
  refine z_get d_TM_init_42 f_TM_26 (by omega) rfl rfl ?_
  refine z_putF d_TM_init_45 f_TM_30 p_0_3 rfl (fun q h9 => by cases h9; rfl) (by omega) rfl (Nat.le_of_ble_eq_true rfl) rfl rfl rfl ?_
  refine z_aload_n d_TM_init_48 rfl ?_
  refine z_new d_TM_init_49 n_4 k_TM_31 (by omega) (Nat.le_of_ble_eq_true rfl) (Nat.le_of_ble_eq_true rfl) ?_
  refine z_dup d_TM_init_52 rfl ?_
  refine z_iconst (v := 4) d_TM_init_53 (by decide) ?_
  refine z_callI d_TM_init_54 g_TM_33 (c_Val_init X (n := 30) (a := 29) (len := 4) (by omega) (by omega) (by omega) rfl) rfl ⟨by decide, by decide, Nat.le_of_ble_eq_true rfl, Nat.le_of_ble_eq_true rfl⟩ rfl (Nat.le_of_ble_eq_true rfl) rfl (by omega) ?_
  refine z_putF d_TM_init_57 f_TM_36 p_0_4 rfl (fun q h9 => by cases h9; rfl) (by omega) rfl (Nat.le_of_ble_eq_true rfl) rfl rfl rfl ?_
  refine z_aload_n d_TM_init_60 rfl ?_
  refine z_new d_TM_init_61 n_8 k_TM_40 (by omega) (Nat.le_of_ble_eq_true rfl) (Nat.le_of_ble_eq_true rfl) ?_
  refine z_dup d_TM_init_64 rfl ?_
  refine z_callIN d_TM_init_65 g_TM_42 (c_Que_init X rfl) rfl ⟨by decide, by decide, Nat.le_of_ble_eq_true rfl, Nat.le_of_ble_eq_true rfl⟩ rfl (Nat.le_of_ble_eq_true rfl) rfl (by omega) ?_
  refine z_putF d_TM_init_68 f_TM_43 p_0_5 rfl (fun q h9 => by cases h9; rfl) (by omega) rfl (Nat.le_of_ble_eq_true rfl) rfl rfl rfl ?_
  exact z_vretE d_TM_init_71 rfl (Nat.le_of_ble_eq_true rfl) (Nat.le_of_ble_eq_true rfl) (fun i hi => by
    have h9 : i = 0 ∨ i = 1 ∨ i = 2 ∨ i = 3 ∨ i = 4 ∨ i = 5 ∨ i = 6 ∨ i = 7 ∨ i = 8 ∨ i = 9 ∨ i = 10 ∨ i = 11 ∨ i = 12 ∨ i = 13 ∨ i = 14 ∨ i = 15 ∨ i = 16 ∨ i = 17 ∨ i = 18 ∨ i = 19 ∨ i = 20 ∨ i = 21 ∨ i = 22 ∨ i = 23 ∨ i = 24 ∨ i = 25 ∨ i = 26 ∨ i = 27 ∨ i = 28 ∨ i = 29 ∨ i = 30 ∨ i = 31 ∨ i = 32 ∨ i = 33 ∨ i = 34 ∨ i = 35 ∨ i = 36 ∨ i = 37 ∨ i = 38 ∨ i = 39 := by omega
    rcases h9 with h9 | h9 | h9 | h9 | h9 | h9 | h9 | h9 | h9 | h9 | h9 | h9 | h9 | h9 | h9 | h9 | h9 | h9 | h9 | h9 | h9 | h9 | h9 | h9 | h9 | h9 | h9 | h9 | h9 | h9 | h9 | h9 | h9 | h9 | h9 | h9 | h9 | h9 | h9 | h9
    · subst h9; rfl
    · subst h9; rfl
    · subst h9; rfl
    · subst h9; rfl
    · subst h9; rfl
    · subst h9; rfl
    · subst h9; rfl
    · subst h9; rfl
    · subst h9; rfl
    · subst h9; rfl
    · subst h9; rfl
    · subst h9; rfl
    · subst h9; rfl
    · subst h9; rfl
    · subst h9; rfl
    · subst h9; rfl
    · subst h9; rfl
    · subst h9; rfl
    · subst h9; rfl
    · subst h9; rfl
    · subst h9; rfl
    · subst h9; rfl
    · subst h9; rfl
    · subst h9; rfl
    · subst h9; rfl
    · subst h9; rfl
    · subst h9; rfl
    · subst h9; rfl
    · subst h9; rfl
    · subst h9; rfl
    · subst h9; rfl
    · subst h9; rfl
    · subst h9; rfl
    · subst h9; rfl
    · subst h9; rfl
    · subst h9; rfl
    · subst h9; rfl
    · subst h9; rfl
    · subst h9; rfl
    · subst h9; rfl)
theorem o_Mod : Cond.methodLink "TableMachineModel" 1 Lib.objectInit ∈ zWA := zWA_of (i := 798) (by decide +kernel) (by decide +kernel)
set_option maxRecDepth 100000 in
set_option maxHeartbeats 4000000 in
theorem c_Mod_init (X : zX) {h : zH} (ha : h 40 = .inr (9, [.int 0, .int 0, .null, .int 0, .null, .null, .null, .null, .null, .null, .int 0, .null, .null, .null, .null, .null, .null, .int 0, .int 0, .int 0, .null, .null, .null, .int 0, .int 0, .int 0, .null, .int 0, .null, .int 0, .int 0, .int 0])) : zC X 1 m_Mod_init 18 1792 true [.ref 40] h 41 none (zhx h 40 58) 59 := by
  refine zC_of (by decide) (Nat.le_of_ble_eq_true rfl) ?_
  refine z_aload_n d_Mod_init_0 rfl ?_
  refine z_obj d_Mod_init_1 o_Mod q_ob2 q_ob3 (Nat.le_of_ble_eq_true rfl) (Nat.le_of_ble_eq_true rfl) (Nat.le_of_ble_eq_true rfl) ?_
  refine z_aload_n d_Mod_init_4 rfl ?_
  refine z_iconst (v := 3) d_Mod_init_5 (by decide) ?_
  refine z_newi (N := 3) d_Mod_init_6 q_i (by omega) (by omega) (Nat.le_of_ble_eq_true rfl) (Nat.le_of_ble_eq_true rfl) ?_
  refine z_putF d_Mod_init_8 f_Mod_7 p_9_2 rfl (fun q h9 => by cases h9; rfl) (by omega) (by first | exact ha | rfl) (Nat.le_of_ble_eq_true rfl) rfl rfl rfl ?_
  refine z_aload_n d_Mod_init_11 rfl ?_
  refine z_bipush (v := 90) d_Mod_init_12 (by decide) ?_
  refine z_newi (N := 90) d_Mod_init_14 q_i (by omega) (by omega) (Nat.le_of_ble_eq_true rfl) (Nat.le_of_ble_eq_true rfl) ?_
  refine z_putF d_Mod_init_16 f_Mod_13 p_9_4 rfl (fun q h9 => by cases h9; rfl) (by omega) rfl (Nat.le_of_ble_eq_true rfl) rfl rfl rfl ?_
  refine z_aload_n d_Mod_init_19 rfl ?_
  refine z_bipush (v := 90) d_Mod_init_20 (by decide) ?_
  refine z_newl (N := 90) d_Mod_init_22 q_l (by omega) (by omega) (Nat.le_of_ble_eq_true rfl) (Nat.le_of_ble_eq_true rfl) ?_
  refine z_putF d_Mod_init_24 f_Mod_16 p_9_5 rfl (fun q h9 => by cases h9; rfl) (by omega) rfl (Nat.le_of_ble_eq_true rfl) rfl rfl rfl ?_
  refine z_aload_n d_Mod_init_27 rfl ?_
  refine z_sipush (v := 360) d_Mod_init_28 (by decide) ?_
  refine z_newl (N := 360) d_Mod_init_31 q_l (by omega) (by omega) (Nat.le_of_ble_eq_true rfl) (Nat.le_of_ble_eq_true rfl) ?_
  refine z_putF d_Mod_init_33 f_Mod_20 p_9_6 rfl (fun q h9 => by cases h9; rfl) (by omega) rfl (Nat.le_of_ble_eq_true rfl) rfl rfl rfl ?_
  refine z_aload_n d_Mod_init_36 rfl ?_
  refine z_sipush (v := 360) d_Mod_init_37 (by decide) ?_
  refine z_newz (N := 360) d_Mod_init_40 q_z (by omega) (by omega) (Nat.le_of_ble_eq_true rfl) (Nat.le_of_ble_eq_true rfl) ?_
  refine z_putF d_Mod_init_42 f_Mod_23 p_9_7 rfl (fun q h9 => by cases h9; rfl) (by omega) rfl (Nat.le_of_ble_eq_true rfl) rfl rfl rfl ?_
  refine z_aload_n d_Mod_init_45 rfl ?_
  refine z_iconst (v := 4) d_Mod_init_46 (by decide) ?_
  refine z_newl (N := 4) d_Mod_init_47 q_l (by omega) (by omega) (Nat.le_of_ble_eq_true rfl) (Nat.le_of_ble_eq_true rfl) ?_
  refine z_putF d_Mod_init_49 f_Mod_27 p_9_8 rfl (fun q h9 => by cases h9; rfl) (by omega) rfl (Nat.le_of_ble_eq_true rfl) rfl rfl rfl ?_
  refine z_aload_n d_Mod_init_52 rfl ?_
  refine z_iconst (v := 4) d_Mod_init_53 (by decide) ?_
  refine z_newz (N := 4) d_Mod_init_54 q_z (by omega) (by omega) (Nat.le_of_ble_eq_true rfl) (Nat.le_of_ble_eq_true rfl) ?_
  refine z_putF d_Mod_init_56 f_Mod_30 p_9_9 rfl (fun q h9 => by cases h9; rfl) (by omega) rfl (Nat.le_of_ble_eq_true rfl) rfl rfl rfl ?_
  refine z_aload_n d_Mod_init_59 rfl ?_
  refine z_sipush (v := 240) d_Mod_init_60 (by decide) ?_
  refine z_newi (N := 240) d_Mod_init_63 q_i (by omega) (by omega) (Nat.le_of_ble_eq_true rfl) (Nat.le_of_ble_eq_true rfl) ?_
  refine z_putF d_Mod_init_65 f_Mod_33 p_9_11 rfl (fun q h9 => by cases h9; rfl) (by omega) rfl (Nat.le_of_ble_eq_true rfl) rfl rfl rfl ?_
  refine z_aload_n d_Mod_init_68 rfl ?_
  refine z_bipush (v := 16) d_Mod_init_69 (by decide) ?_
  refine z_newl (N := 16) d_Mod_init_71 q_l (by omega) (by omega) (Nat.le_of_ble_eq_true rfl) (Nat.le_of_ble_eq_true rfl) ?_
  refine z_putF d_Mod_init_73 f_Mod_36 p_9_12 rfl (fun q h9 => by cases h9; rfl) (by omega) rfl (Nat.le_of_ble_eq_true rfl) rfl rfl rfl ?_
  refine z_aload_n d_Mod_init_76 rfl ?_
  refine z_bipush (v := 16) d_Mod_init_77 (by decide) ?_
  refine z_newz (N := 16) d_Mod_init_79 q_z (by omega) (by omega) (Nat.le_of_ble_eq_true rfl) (Nat.le_of_ble_eq_true rfl) ?_
  refine z_putF d_Mod_init_81 f_Mod_39 p_9_13 rfl (fun q h9 => by cases h9; rfl) (by omega) rfl (Nat.le_of_ble_eq_true rfl) rfl rfl rfl ?_
  refine z_aload_n d_Mod_init_84 rfl ?_
  refine z_iconst (v := 3) d_Mod_init_85 (by decide) ?_
  refine z_newi (N := 3) d_Mod_init_86 q_i (by omega) (by omega) (Nat.le_of_ble_eq_true rfl) (Nat.le_of_ble_eq_true rfl) ?_
  refine z_putF d_Mod_init_88 f_Mod_42 p_9_14 rfl (fun q h9 => by cases h9; rfl) (by omega) rfl (Nat.le_of_ble_eq_true rfl) rfl rfl rfl ?_
  refine z_aload_n d_Mod_init_91 rfl ?_
  refine z_iconst (v := 3) d_Mod_init_92 (by decide) ?_
  refine z_newz (N := 3) d_Mod_init_93 q_z (by omega) (by omega) (Nat.le_of_ble_eq_true rfl) (Nat.le_of_ble_eq_true rfl) ?_
  refine z_putF d_Mod_init_95 f_Mod_45 p_9_15 rfl (fun q h9 => by cases h9; rfl) (by omega) rfl (Nat.le_of_ble_eq_true rfl) rfl rfl rfl ?_
  refine z_aload_n d_Mod_init_98 rfl ?_
  refine z_iconst (v := 3) d_Mod_init_99 (by decide) ?_
  refine z_newl (N := 3) d_Mod_init_100 q_l (by omega) (by omega) (Nat.le_of_ble_eq_true rfl) (Nat.le_of_ble_eq_true rfl) ?_
  refine z_putF d_Mod_init_102 f_Mod_48 p_9_16 rfl (fun q h9 => by cases h9; rfl) (by omega) rfl (Nat.le_of_ble_eq_true rfl) rfl rfl rfl ?_
  refine z_aload_n d_Mod_init_105 rfl ?_
  refine z_bipush (v := 64) d_Mod_init_106 (by decide) ?_
  refine z_newi (N := 64) d_Mod_init_108 q_i (by omega) (by omega) (Nat.le_of_ble_eq_true rfl) (Nat.le_of_ble_eq_true rfl) ?_
  refine z_putF d_Mod_init_110 f_Mod_51 p_9_20 rfl (fun q h9 => by cases h9; rfl) (by omega) rfl (Nat.le_of_ble_eq_true rfl) rfl rfl rfl ?_
  refine z_aload_n d_Mod_init_113 rfl ?_
  refine z_sipush (v := 256) d_Mod_init_114 (by decide) ?_
  refine z_newl (N := 256) d_Mod_init_117 q_l (by omega) (by omega) (Nat.le_of_ble_eq_true rfl) (Nat.le_of_ble_eq_true rfl) ?_
  refine z_putF d_Mod_init_119 f_Mod_54 p_9_21 rfl (fun q h9 => by cases h9; rfl) (by omega) rfl (Nat.le_of_ble_eq_true rfl) rfl rfl rfl ?_
  refine z_aload_n d_Mod_init_122 rfl ?_
  refine z_sipush (v := 256) d_Mod_init_123 (by decide) ?_
  refine z_newz (N := 256) d_Mod_init_126 q_z (by omega) (by omega) (Nat.le_of_ble_eq_true rfl) (Nat.le_of_ble_eq_true rfl) ?_
  refine z_putF d_Mod_init_128 f_Mod_57 p_9_22 rfl (fun q h9 => by cases h9; rfl) (by omega) rfl (Nat.le_of_ble_eq_true rfl) rfl rfl rfl ?_
  refine z_aload_n d_Mod_init_131 rfl ?_
  refine z_iconst (v := (-1)) d_Mod_init_132 (by decide) ?_
  refine z_put d_Mod_init_133 f_Mod_60 p_9_23 (by omega) rfl (Nat.le_of_ble_eq_true rfl) rfl rfl rfl ?_
  refine z_aload_n d_Mod_init_136 rfl ?_
  refine z_iconst (v := (-1)) d_Mod_init_137 (by decide) ?_
  refine z_put d_Mod_init_138 f_Mod_64 p_9_24 (by omega) rfl (Nat.le_of_ble_eq_true rfl) rfl rfl rfl ?_
  refine z_aload_n d_Mod_init_141 rfl ?_
  refine z_bipush (v := 8) d_Mod_init_142 (by decide) ?_
  refine z_newi (N := 8) d_Mod_init_144 q_i (by omega) (by omega) (Nat.le_of_ble_eq_true rfl) (Nat.le_of_ble_eq_true rfl) ?_
  refine z_putF d_Mod_init_146 f_Mod_67 p_9_26 rfl (fun q h9 => by cases h9; rfl) (by omega) rfl (Nat.le_of_ble_eq_true rfl) rfl rfl rfl ?_
  refine z_aload_n d_Mod_init_149 rfl ?_
  refine z_bipush (v := 16) d_Mod_init_150 (by decide) ?_
  refine z_newi (N := 16) d_Mod_init_152 q_i (by omega) (by omega) (Nat.le_of_ble_eq_true rfl) (Nat.le_of_ble_eq_true rfl) ?_
  refine z_putF d_Mod_init_154 f_Mod_70 p_9_28 rfl (fun q h9 => by cases h9; rfl) (by omega) rfl (Nat.le_of_ble_eq_true rfl) rfl rfl rfl ?_
  exact z_vretE d_Mod_init_157 rfl (Nat.le_of_ble_eq_true rfl) (Nat.le_of_ble_eq_true rfl) (fun i hi => by
    have h9 : i = 0 ∨ i = 1 ∨ i = 2 ∨ i = 3 ∨ i = 4 ∨ i = 5 ∨ i = 6 ∨ i = 7 ∨ i = 8 ∨ i = 9 ∨ i = 10 ∨ i = 11 ∨ i = 12 ∨ i = 13 ∨ i = 14 ∨ i = 15 ∨ i = 16 ∨ i = 17 ∨ i = 18 ∨ i = 19 ∨ i = 20 ∨ i = 21 ∨ i = 22 ∨ i = 23 ∨ i = 24 ∨ i = 25 ∨ i = 26 ∨ i = 27 ∨ i = 28 ∨ i = 29 ∨ i = 30 ∨ i = 31 ∨ i = 32 ∨ i = 33 ∨ i = 34 ∨ i = 35 ∨ i = 36 ∨ i = 37 ∨ i = 38 ∨ i = 39 ∨ i = 40 ∨ i = 41 ∨ i = 42 ∨ i = 43 ∨ i = 44 ∨ i = 45 ∨ i = 46 ∨ i = 47 ∨ i = 48 ∨ i = 49 ∨ i = 50 ∨ i = 51 ∨ i = 52 ∨ i = 53 ∨ i = 54 ∨ i = 55 ∨ i = 56 ∨ i = 57 ∨ i = 58 := by omega
    rcases h9 with h9 | h9 | h9 | h9 | h9 | h9 | h9 | h9 | h9 | h9 | h9 | h9 | h9 | h9 | h9 | h9 | h9 | h9 | h9 | h9 | h9 | h9 | h9 | h9 | h9 | h9 | h9 | h9 | h9 | h9 | h9 | h9 | h9 | h9 | h9 | h9 | h9 | h9 | h9 | h9 | h9 | h9 | h9 | h9 | h9 | h9 | h9 | h9 | h9 | h9 | h9 | h9 | h9 | h9 | h9 | h9 | h9 | h9 | h9
    · subst h9; rfl
    · subst h9; rfl
    · subst h9; rfl
    · subst h9; rfl
    · subst h9; rfl
    · subst h9; rfl
    · subst h9; rfl
    · subst h9; rfl
    · subst h9; rfl
    · subst h9; rfl
    · subst h9; rfl
    · subst h9; rfl
    · subst h9; rfl
    · subst h9; rfl
    · subst h9; rfl
    · subst h9; rfl
    · subst h9; rfl
    · subst h9; rfl
    · subst h9; rfl
    · subst h9; rfl
    · subst h9; rfl
    · subst h9; rfl
    · subst h9; rfl
    · subst h9; rfl
    · subst h9; rfl
    · subst h9; rfl
    · subst h9; rfl
    · subst h9; rfl
    · subst h9; rfl
    · subst h9; rfl
    · subst h9; rfl
    · subst h9; rfl
    · subst h9; rfl
    · subst h9; rfl
    · subst h9; rfl
    · subst h9; rfl
    · subst h9; rfl
    · subst h9; rfl
    · subst h9; rfl
    · subst h9; rfl
    · subst h9; rfl
    · subst h9; rfl
    · subst h9; rfl
    · subst h9; rfl
    · subst h9; rfl
    · subst h9; rfl
    · subst h9; rfl
    · subst h9; rfl
    · subst h9; rfl
    · subst h9; rfl
    · subst h9; rfl
    · subst h9; rfl
    · subst h9; rfl
    · subst h9; rfl
    · subst h9; rfl
    · subst h9; rfl
    · subst h9; rfl
    · subst h9; rfl
    · subst h9; rfl)
