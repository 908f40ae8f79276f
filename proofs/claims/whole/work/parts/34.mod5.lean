/-! the reference: programs -/
abbrev rIn (v m : Int32) : Bool := decide (0 ≤ v) && decide (v ≤ m)
def rFits (o : Nat) (p q s : Int32) : Bool := match o with
  | 0 => true
  | 1 => rIn p 2 && rIn q 2
  | 2 => rIn p 2 && rIn q 60
  | 3 => rIn p 2 && rIn q 60
  | 4 => rIn p 2 && (rIn q 3 && rIn s 15)
  | 5 => rIn p 2 && rIn q 15
  | 6 => rIn q 15
  | 7 => rIn p 15
  | 8 => rIn p 2 && (rIn q 60 && rIn s 15)
  | 15 => rIn p 15 && rIn q 60
  | 16 => rIn p 15 && rIn q 60
  | 17 => rIn p 15 && (rIn q 15 && rIn s 15)
  | 18 => rIn p 15 && (decide (1 ≤ q) && (decide (q ≤ 4) && decide (p + q ≤ 16)))
  | 19 => rIn p 60
  | 20 => rIn p 2 && (rIn q 60 && rIn s 11)
  | 21 => rIn p 2
  | _ => rIn p 15 && (rIn q 60 && rIn s 15)
set_option maxRecDepth 100000 in
set_option maxHeartbeats 4000000 in
theorem c_Mod_fits_0 (X : zX) (p q s : Int32) (h : zH) (N : Nat) : zC X 1 m_Mod_fits 0 0 false [.int 0, .int p, .int q, .int s] h N (some (.int (zb (rFits 0 p q s)))) h N := by
  refine zC_of (by decide) (Nat.le_of_ble_eq_true rfl) ?_
  refine z_iload_n d_Mod_fits_0 rfl ?_
  refine z_tableIn (off := 103) d_Mod_fits_1 104 (by decide) (by decide) (by decide) (by decide) ?_
  refine z_iconst (v := 1) d_Mod_fits_104 (by decide) ?_
  exact z_zret d_Mod_fits_105 rfl (by decide) (by decide) (by decide) (by show _ = zb (true); rfl) rfl
set_option maxRecDepth 100000 in
set_option maxHeartbeats 4000000 in
theorem c_Mod_fits_1 (X : zX) (p q s : Int32) (h : zH) (N : Nat) : zC X 1 m_Mod_fits 0 0 false [.int 1, .int p, .int q, .int s] h N (some (.int (zb (rFits 1 p q s)))) h N := by
  refine zC_of (by decide) (Nat.le_of_ble_eq_true rfl) ?_
  refine z_iload_n d_Mod_fits_0 rfl ?_
  refine z_tableIn (off := 105) d_Mod_fits_1 106 (by decide) (by decide) (by decide) (by decide) ?_
  refine z_iload_n d_Mod_fits_106 rfl ?_
  refine z_iconst (v := 2) d_Mod_fits_107 (by decide) ?_
  refine z_callS1 d_Mod_fits_108 g_Mod_106 (c_Mod_in X 0 _ _ _ _) rfl ⟨by decide, by decide, by decide, by decide⟩ rfl (Nat.le_of_ble_eq_true rfl) ?_
  refine z_if_eq d_Mod_fits_111 126 (by decide) (fun h111 => ?_) (fun h111 => ?_)
  · refine z_iconst (v := 0) d_Mod_fits_126 (by decide) ?_
    exact z_zret d_Mod_fits_127 rfl (by decide) (by decide) (by decide) (by show _ = zb ((decide (0 ≤ p) && decide (p ≤ 2)) && (decide (0 ≤ q) && decide (q ≤ 2))); rw [zb0 h111]; rfl) rfl
  · refine z_iload_n d_Mod_fits_114 rfl ?_
    refine z_iconst (v := 2) d_Mod_fits_115 (by decide) ?_
    refine z_callS1 d_Mod_fits_116 g_Mod_106 (c_Mod_in X 0 _ _ _ _) rfl ⟨by decide, by decide, by decide, by decide⟩ rfl (Nat.le_of_ble_eq_true rfl) ?_
    refine z_if_eq d_Mod_fits_119 126 (by decide) (fun h119 => ?_) (fun h119 => ?_)
    · refine z_iconst (v := 0) d_Mod_fits_126 (by decide) ?_
      exact z_zret d_Mod_fits_127 rfl (by decide) (by decide) (by decide) (by show _ = zb ((decide (0 ≤ p) && decide (p ≤ 2)) && (decide (0 ≤ q) && decide (q ≤ 2))); rw [zb1' h111, zb0 h119]; rfl) rfl
    · refine z_iconst (v := 1) d_Mod_fits_122 (by decide) ?_
      refine z_goto d_Mod_fits_123 127 (by decide) ?_
      exact z_zret d_Mod_fits_127 rfl (by decide) (by decide) (by decide) (by show _ = zb ((decide (0 ≤ p) && decide (p ≤ 2)) && (decide (0 ≤ q) && decide (q ≤ 2))); rw [zb1' h111, zb1' h119]; rfl) rfl
set_option maxRecDepth 100000 in
set_option maxHeartbeats 4000000 in
theorem c_Mod_fits_2 (X : zX) (p q s : Int32) (h : zH) (N : Nat) : zC X 1 m_Mod_fits 0 0 false [.int 2, .int p, .int q, .int s] h N (some (.int (zb (rFits 2 p q s)))) h N := by
  refine zC_of (by decide) (Nat.le_of_ble_eq_true rfl) ?_
  refine z_iload_n d_Mod_fits_0 rfl ?_
  refine z_tableIn (off := 127) d_Mod_fits_1 128 (by decide) (by decide) (by decide) (by decide) ?_
  refine z_iload_n d_Mod_fits_128 rfl ?_
  refine z_iconst (v := 2) d_Mod_fits_129 (by decide) ?_
  refine z_callS1 d_Mod_fits_130 g_Mod_106 (c_Mod_in X 0 _ _ _ _) rfl ⟨by decide, by decide, by decide, by decide⟩ rfl (Nat.le_of_ble_eq_true rfl) ?_
  refine z_if_eq d_Mod_fits_133 149 (by decide) (fun h133 => ?_) (fun h133 => ?_)
  · refine z_iconst (v := 0) d_Mod_fits_149 (by decide) ?_
    exact z_zret d_Mod_fits_150 rfl (by decide) (by decide) (by decide) (by show _ = zb ((decide (0 ≤ p) && decide (p ≤ 2)) && (decide (0 ≤ q) && decide (q ≤ 60))); rw [zb0 h133]; rfl) rfl
  · refine z_iload_n d_Mod_fits_136 rfl ?_
    refine z_bipush (v := 60) d_Mod_fits_137 (by decide) ?_
    refine z_callS1 d_Mod_fits_139 g_Mod_106 (c_Mod_in X 0 _ _ _ _) rfl ⟨by decide, by decide, by decide, by decide⟩ rfl (Nat.le_of_ble_eq_true rfl) ?_
    refine z_if_eq d_Mod_fits_142 149 (by decide) (fun h142 => ?_) (fun h142 => ?_)
    · refine z_iconst (v := 0) d_Mod_fits_149 (by decide) ?_
      exact z_zret d_Mod_fits_150 rfl (by decide) (by decide) (by decide) (by show _ = zb ((decide (0 ≤ p) && decide (p ≤ 2)) && (decide (0 ≤ q) && decide (q ≤ 60))); rw [zb1' h133, zb0 h142]; rfl) rfl
    · refine z_iconst (v := 1) d_Mod_fits_145 (by decide) ?_
      refine z_goto d_Mod_fits_146 150 (by decide) ?_
      exact z_zret d_Mod_fits_150 rfl (by decide) (by decide) (by decide) (by show _ = zb ((decide (0 ≤ p) && decide (p ≤ 2)) && (decide (0 ≤ q) && decide (q ≤ 60))); rw [zb1' h133, zb1' h142]; rfl) rfl
set_option maxRecDepth 100000 in
set_option maxHeartbeats 4000000 in
theorem c_Mod_fits_3 (X : zX) (p q s : Int32) (h : zH) (N : Nat) : zC X 1 m_Mod_fits 0 0 false [.int 3, .int p, .int q, .int s] h N (some (.int (zb (rFits 3 p q s)))) h N := by
  refine zC_of (by decide) (Nat.le_of_ble_eq_true rfl) ?_
  refine z_iload_n d_Mod_fits_0 rfl ?_
  refine z_tableIn (off := 127) d_Mod_fits_1 128 (by decide) (by decide) (by decide) (by decide) ?_
  refine z_iload_n d_Mod_fits_128 rfl ?_
  refine z_iconst (v := 2) d_Mod_fits_129 (by decide) ?_
  refine z_callS1 d_Mod_fits_130 g_Mod_106 (c_Mod_in X 0 _ _ _ _) rfl ⟨by decide, by decide, by decide, by decide⟩ rfl (Nat.le_of_ble_eq_true rfl) ?_
  refine z_if_eq d_Mod_fits_133 149 (by decide) (fun h133 => ?_) (fun h133 => ?_)
  · refine z_iconst (v := 0) d_Mod_fits_149 (by decide) ?_
    exact z_zret d_Mod_fits_150 rfl (by decide) (by decide) (by decide) (by show _ = zb ((decide (0 ≤ p) && decide (p ≤ 2)) && (decide (0 ≤ q) && decide (q ≤ 60))); rw [zb0 h133]; rfl) rfl
  · refine z_iload_n d_Mod_fits_136 rfl ?_
    refine z_bipush (v := 60) d_Mod_fits_137 (by decide) ?_
    refine z_callS1 d_Mod_fits_139 g_Mod_106 (c_Mod_in X 0 _ _ _ _) rfl ⟨by decide, by decide, by decide, by decide⟩ rfl (Nat.le_of_ble_eq_true rfl) ?_
    refine z_if_eq d_Mod_fits_142 149 (by decide) (fun h142 => ?_) (fun h142 => ?_)
    · refine z_iconst (v := 0) d_Mod_fits_149 (by decide) ?_
      exact z_zret d_Mod_fits_150 rfl (by decide) (by decide) (by decide) (by show _ = zb ((decide (0 ≤ p) && decide (p ≤ 2)) && (decide (0 ≤ q) && decide (q ≤ 60))); rw [zb1' h133, zb0 h142]; rfl) rfl
    · refine z_iconst (v := 1) d_Mod_fits_145 (by decide) ?_
      refine z_goto d_Mod_fits_146 150 (by decide) ?_
      exact z_zret d_Mod_fits_150 rfl (by decide) (by decide) (by decide) (by show _ = zb ((decide (0 ≤ p) && decide (p ≤ 2)) && (decide (0 ≤ q) && decide (q ≤ 60))); rw [zb1' h133, zb1' h142]; rfl) rfl
set_option maxRecDepth 100000 in
set_option maxHeartbeats 4000000 in
theorem c_Mod_fits_4 (X : zX) (p q s : Int32) (h : zH) (N : Nat) : zC X 1 m_Mod_fits 0 0 false [.int 4, .int p, .int q, .int s] h N (some (.int (zb (rFits 4 p q s)))) h N := by
  refine zC_of (by decide) (Nat.le_of_ble_eq_true rfl) ?_
  refine z_iload_n d_Mod_fits_0 rfl ?_
  refine z_tableIn (off := 150) d_Mod_fits_1 151 (by decide) (by decide) (by decide) (by decide) ?_
  refine z_iload_n d_Mod_fits_151 rfl ?_
  refine z_iconst (v := 2) d_Mod_fits_152 (by decide) ?_
  refine z_callS1 d_Mod_fits_153 g_Mod_106 (c_Mod_in X 0 _ _ _ _) rfl ⟨by decide, by decide, by decide, by decide⟩ rfl (Nat.le_of_ble_eq_true rfl) ?_
  refine z_if_eq d_Mod_fits_156 180 (by decide) (fun h156 => ?_) (fun h156 => ?_)
  · refine z_iconst (v := 0) d_Mod_fits_180 (by decide) ?_
    exact z_zret d_Mod_fits_181 rfl (by decide) (by decide) (by decide) (by show _ = zb ((decide (0 ≤ p) && decide (p ≤ 2)) && ((decide (0 ≤ q) && decide (q ≤ 3)) && (decide (0 ≤ s) && decide (s ≤ 15)))); rw [zb0 h156]; rfl) rfl
  · refine z_iload_n d_Mod_fits_159 rfl ?_
    refine z_iconst (v := 3) d_Mod_fits_160 (by decide) ?_
    refine z_callS1 d_Mod_fits_161 g_Mod_106 (c_Mod_in X 0 _ _ _ _) rfl ⟨by decide, by decide, by decide, by decide⟩ rfl (Nat.le_of_ble_eq_true rfl) ?_
    refine z_if_eq d_Mod_fits_164 180 (by decide) (fun h164 => ?_) (fun h164 => ?_)
    · refine z_iconst (v := 0) d_Mod_fits_180 (by decide) ?_
      exact z_zret d_Mod_fits_181 rfl (by decide) (by decide) (by decide) (by show _ = zb ((decide (0 ≤ p) && decide (p ≤ 2)) && ((decide (0 ≤ q) && decide (q ≤ 3)) && (decide (0 ≤ s) && decide (s ≤ 15)))); rw [zb1' h156, zb0 h164]; rfl) rfl
    · refine z_iload_n d_Mod_fits_167 rfl ?_
      refine z_bipush (v := 15) d_Mod_fits_168 (by decide) ?_
      refine z_callS1 d_Mod_fits_170 g_Mod_106 (c_Mod_in X 0 _ _ _ _) rfl ⟨by decide, by decide, by decide, by decide⟩ rfl (Nat.le_of_ble_eq_true rfl) ?_
      refine z_if_eq d_Mod_fits_173 180 (by decide) (fun h173 => ?_) (fun h173 => ?_)
      · refine z_iconst (v := 0) d_Mod_fits_180 (by decide) ?_
        exact z_zret d_Mod_fits_181 rfl (by decide) (by decide) (by decide) (by show _ = zb ((decide (0 ≤ p) && decide (p ≤ 2)) && ((decide (0 ≤ q) && decide (q ≤ 3)) && (decide (0 ≤ s) && decide (s ≤ 15)))); rw [zb1' h156, zb1' h164, zb0 h173]; rfl) rfl
      · refine z_iconst (v := 1) d_Mod_fits_176 (by decide) ?_
        refine z_goto d_Mod_fits_177 181 (by decide) ?_
        exact z_zret d_Mod_fits_181 rfl (by decide) (by decide) (by decide) (by show _ = zb ((decide (0 ≤ p) && decide (p ≤ 2)) && ((decide (0 ≤ q) && decide (q ≤ 3)) && (decide (0 ≤ s) && decide (s ≤ 15)))); rw [zb1' h156, zb1' h164, zb1' h173]; rfl) rfl
set_option maxRecDepth 100000 in
set_option maxHeartbeats 4000000 in
theorem c_Mod_fits_5 (X : zX) (p q s : Int32) (h : zH) (N : Nat) : zC X 1 m_Mod_fits 0 0 false [.int 5, .int p, .int q, .int s] h N (some (.int (zb (rFits 5 p q s)))) h N := by
  refine zC_of (by decide) (Nat.le_of_ble_eq_true rfl) ?_
  refine z_iload_n d_Mod_fits_0 rfl ?_
  refine z_tableIn (off := 181) d_Mod_fits_1 182 (by decide) (by decide) (by decide) (by decide) ?_
  refine z_iload_n d_Mod_fits_182 rfl ?_
  refine z_iconst (v := 2) d_Mod_fits_183 (by decide) ?_
  refine z_callS1 d_Mod_fits_184 g_Mod_106 (c_Mod_in X 0 _ _ _ _) rfl ⟨by decide, by decide, by decide, by decide⟩ rfl (Nat.le_of_ble_eq_true rfl) ?_
  refine z_if_eq d_Mod_fits_187 203 (by decide) (fun h187 => ?_) (fun h187 => ?_)
  · refine z_iconst (v := 0) d_Mod_fits_203 (by decide) ?_
    exact z_zret d_Mod_fits_204 rfl (by decide) (by decide) (by decide) (by show _ = zb ((decide (0 ≤ p) && decide (p ≤ 2)) && (decide (0 ≤ q) && decide (q ≤ 15))); rw [zb0 h187]; rfl) rfl
  · refine z_iload_n d_Mod_fits_190 rfl ?_
    refine z_bipush (v := 15) d_Mod_fits_191 (by decide) ?_
    refine z_callS1 d_Mod_fits_193 g_Mod_106 (c_Mod_in X 0 _ _ _ _) rfl ⟨by decide, by decide, by decide, by decide⟩ rfl (Nat.le_of_ble_eq_true rfl) ?_
    refine z_if_eq d_Mod_fits_196 203 (by decide) (fun h196 => ?_) (fun h196 => ?_)
    · refine z_iconst (v := 0) d_Mod_fits_203 (by decide) ?_
      exact z_zret d_Mod_fits_204 rfl (by decide) (by decide) (by decide) (by show _ = zb ((decide (0 ≤ p) && decide (p ≤ 2)) && (decide (0 ≤ q) && decide (q ≤ 15))); rw [zb1' h187, zb0 h196]; rfl) rfl
    · refine z_iconst (v := 1) d_Mod_fits_199 (by decide) ?_
      refine z_goto d_Mod_fits_200 204 (by decide) ?_
      exact z_zret d_Mod_fits_204 rfl (by decide) (by decide) (by decide) (by show _ = zb ((decide (0 ≤ p) && decide (p ≤ 2)) && (decide (0 ≤ q) && decide (q ≤ 15))); rw [zb1' h187, zb1' h196]; rfl) rfl
set_option maxRecDepth 100000 in
set_option maxHeartbeats 4000000 in
theorem c_Mod_fits_6 (X : zX) (p q s : Int32) (h : zH) (N : Nat) : zC X 1 m_Mod_fits 0 0 false [.int 6, .int p, .int q, .int s] h N (some (.int (zb (rFits 6 p q s)))) h N := by
  refine zC_of (by decide) (Nat.le_of_ble_eq_true rfl) ?_
  refine z_iload_n d_Mod_fits_0 rfl ?_
  refine z_tableIn (off := 204) d_Mod_fits_1 205 (by decide) (by decide) (by decide) (by decide) ?_
  refine z_iload_n d_Mod_fits_205 rfl ?_
  refine z_bipush (v := 15) d_Mod_fits_206 (by decide) ?_
  refine z_callS1 d_Mod_fits_208 g_Mod_106 (c_Mod_in X 0 _ _ _ _) rfl ⟨by decide, by decide, by decide, by decide⟩ rfl (Nat.le_of_ble_eq_true rfl) ?_
  exact z_zret d_Mod_fits_211 rfl (by decide) (by decide) (zb_n _) rfl rfl
set_option maxRecDepth 100000 in
set_option maxHeartbeats 4000000 in
theorem c_Mod_fits_7 (X : zX) (p q s : Int32) (h : zH) (N : Nat) : zC X 1 m_Mod_fits 0 0 false [.int 7, .int p, .int q, .int s] h N (some (.int (zb (rFits 7 p q s)))) h N := by
  refine zC_of (by decide) (Nat.le_of_ble_eq_true rfl) ?_
  refine z_iload_n d_Mod_fits_0 rfl ?_
  refine z_tableIn (off := 211) d_Mod_fits_1 212 (by decide) (by decide) (by decide) (by decide) ?_
  refine z_iload_n d_Mod_fits_212 rfl ?_
  refine z_bipush (v := 15) d_Mod_fits_213 (by decide) ?_
  refine z_callS1 d_Mod_fits_215 g_Mod_106 (c_Mod_in X 0 _ _ _ _) rfl ⟨by decide, by decide, by decide, by decide⟩ rfl (Nat.le_of_ble_eq_true rfl) ?_
  exact z_zret d_Mod_fits_218 rfl (by decide) (by decide) (zb_n _) rfl rfl
set_option maxRecDepth 100000 in
set_option maxHeartbeats 4000000 in
theorem c_Mod_fits_8 (X : zX) (p q s : Int32) (h : zH) (N : Nat) : zC X 1 m_Mod_fits 0 0 false [.int 8, .int p, .int q, .int s] h N (some (.int (zb (rFits 8 p q s)))) h N := by
  refine zC_of (by decide) (Nat.le_of_ble_eq_true rfl) ?_
  refine z_iload_n d_Mod_fits_0 rfl ?_
  refine z_tableIn (off := 218) d_Mod_fits_1 219 (by decide) (by decide) (by decide) (by decide) ?_
  refine z_iload_n d_Mod_fits_219 rfl ?_
  refine z_iconst (v := 2) d_Mod_fits_220 (by decide) ?_
  refine z_callS1 d_Mod_fits_221 g_Mod_106 (c_Mod_in X 0 _ _ _ _) rfl ⟨by decide, by decide, by decide, by decide⟩ rfl (Nat.le_of_ble_eq_true rfl) ?_
  refine z_if_eq d_Mod_fits_224 249 (by decide) (fun h224 => ?_) (fun h224 => ?_)
  · refine z_iconst (v := 0) d_Mod_fits_249 (by decide) ?_
    exact z_zret d_Mod_fits_250 rfl (by decide) (by decide) (by decide) (by show _ = zb ((decide (0 ≤ p) && decide (p ≤ 2)) && ((decide (0 ≤ q) && decide (q ≤ 60)) && (decide (0 ≤ s) && decide (s ≤ 15)))); rw [zb0 h224]; rfl) rfl
  · refine z_iload_n d_Mod_fits_227 rfl ?_
    refine z_bipush (v := 60) d_Mod_fits_228 (by decide) ?_
    refine z_callS1 d_Mod_fits_230 g_Mod_106 (c_Mod_in X 0 _ _ _ _) rfl ⟨by decide, by decide, by decide, by decide⟩ rfl (Nat.le_of_ble_eq_true rfl) ?_
    refine z_if_eq d_Mod_fits_233 249 (by decide) (fun h233 => ?_) (fun h233 => ?_)
    · refine z_iconst (v := 0) d_Mod_fits_249 (by decide) ?_
      exact z_zret d_Mod_fits_250 rfl (by decide) (by decide) (by decide) (by show _ = zb ((decide (0 ≤ p) && decide (p ≤ 2)) && ((decide (0 ≤ q) && decide (q ≤ 60)) && (decide (0 ≤ s) && decide (s ≤ 15)))); rw [zb1' h224, zb0 h233]; rfl) rfl
    · refine z_iload_n d_Mod_fits_236 rfl ?_
      refine z_bipush (v := 15) d_Mod_fits_237 (by decide) ?_
      refine z_callS1 d_Mod_fits_239 g_Mod_106 (c_Mod_in X 0 _ _ _ _) rfl ⟨by decide, by decide, by decide, by decide⟩ rfl (Nat.le_of_ble_eq_true rfl) ?_
      refine z_if_eq d_Mod_fits_242 249 (by decide) (fun h242 => ?_) (fun h242 => ?_)
      · refine z_iconst (v := 0) d_Mod_fits_249 (by decide) ?_
        exact z_zret d_Mod_fits_250 rfl (by decide) (by decide) (by decide) (by show _ = zb ((decide (0 ≤ p) && decide (p ≤ 2)) && ((decide (0 ≤ q) && decide (q ≤ 60)) && (decide (0 ≤ s) && decide (s ≤ 15)))); rw [zb1' h224, zb1' h233, zb0 h242]; rfl) rfl
      · refine z_iconst (v := 1) d_Mod_fits_245 (by decide) ?_
        refine z_goto d_Mod_fits_246 250 (by decide) ?_
        exact z_zret d_Mod_fits_250 rfl (by decide) (by decide) (by decide) (by show _ = zb ((decide (0 ≤ p) && decide (p ≤ 2)) && ((decide (0 ≤ q) && decide (q ≤ 60)) && (decide (0 ≤ s) && decide (s ≤ 15)))); rw [zb1' h224, zb1' h233, zb1' h242]; rfl) rfl
set_option maxRecDepth 100000 in
set_option maxHeartbeats 4000000 in
theorem c_Mod_fits_9 (X : zX) (p q s : Int32) (h : zH) (N : Nat) : zC X 1 m_Mod_fits 0 0 false [.int 9, .int p, .int q, .int s] h N (some (.int (zb (rFits 9 p q s)))) h N := by
  refine zC_of (by decide) (Nat.le_of_ble_eq_true rfl) ?_
  refine z_iload_n d_Mod_fits_0 rfl ?_
  refine z_tableIn (off := 385) d_Mod_fits_1 386 (by decide) (by decide) (by decide) (by decide) ?_
  refine z_iload_n d_Mod_fits_386 rfl ?_
  refine z_bipush (v := 8) d_Mod_fits_387 (by decide) ?_
  refine z_icmp_le d_Mod_fits_389 429 (by decide) (fun h9 => absurd h9 (by decide)) (fun _ => ?_)
  refine z_iload_n d_Mod_fits_392 rfl ?_
  refine z_bipush (v := 15) d_Mod_fits_393 (by decide) ?_
  refine z_icmp_ge d_Mod_fits_395 429 (by decide) (fun h9 => absurd h9 (by decide)) (fun _ => ?_)
  refine z_iload_n d_Mod_fits_398 rfl ?_
  refine z_bipush (v := 15) d_Mod_fits_399 (by decide) ?_
  refine z_callS1 d_Mod_fits_401 g_Mod_106 (c_Mod_in X 0 _ _ _ _) rfl ⟨by decide, by decide, by decide, by decide⟩ rfl (Nat.le_of_ble_eq_true rfl) ?_
  refine z_if_eq d_Mod_fits_404 429 (by decide) (fun h404 => ?_) (fun h404 => ?_)
  · refine z_iconst (v := 0) d_Mod_fits_429 (by decide) ?_
    exact z_zret d_Mod_fits_430 rfl (by decide) (by decide) (by decide) (by show _ = zb ((decide (0 ≤ p) && decide (p ≤ 15)) && ((decide (0 ≤ q) && decide (q ≤ 60)) && (decide (0 ≤ s) && decide (s ≤ 15)))); rw [zb0 h404]; rfl) rfl
  · refine z_iload_n d_Mod_fits_407 rfl ?_
    refine z_bipush (v := 60) d_Mod_fits_408 (by decide) ?_
    refine z_callS1 d_Mod_fits_410 g_Mod_106 (c_Mod_in X 0 _ _ _ _) rfl ⟨by decide, by decide, by decide, by decide⟩ rfl (Nat.le_of_ble_eq_true rfl) ?_
    refine z_if_eq d_Mod_fits_413 429 (by decide) (fun h413 => ?_) (fun h413 => ?_)
    · refine z_iconst (v := 0) d_Mod_fits_429 (by decide) ?_
      exact z_zret d_Mod_fits_430 rfl (by decide) (by decide) (by decide) (by show _ = zb ((decide (0 ≤ p) && decide (p ≤ 15)) && ((decide (0 ≤ q) && decide (q ≤ 60)) && (decide (0 ≤ s) && decide (s ≤ 15)))); rw [zb1' h404, zb0 h413]; rfl) rfl
    · refine z_iload_n d_Mod_fits_416 rfl ?_
      refine z_bipush (v := 15) d_Mod_fits_417 (by decide) ?_
      refine z_callS1 d_Mod_fits_419 g_Mod_106 (c_Mod_in X 0 _ _ _ _) rfl ⟨by decide, by decide, by decide, by decide⟩ rfl (Nat.le_of_ble_eq_true rfl) ?_
      refine z_if_eq d_Mod_fits_422 429 (by decide) (fun h422 => ?_) (fun h422 => ?_)
      · refine z_iconst (v := 0) d_Mod_fits_429 (by decide) ?_
        exact z_zret d_Mod_fits_430 rfl (by decide) (by decide) (by decide) (by show _ = zb ((decide (0 ≤ p) && decide (p ≤ 15)) && ((decide (0 ≤ q) && decide (q ≤ 60)) && (decide (0 ≤ s) && decide (s ≤ 15)))); rw [zb1' h404, zb1' h413, zb0 h422]; rfl) rfl
      · refine z_iconst (v := 1) d_Mod_fits_425 (by decide) ?_
        refine z_goto d_Mod_fits_426 430 (by decide) ?_
        exact z_zret d_Mod_fits_430 rfl (by decide) (by decide) (by decide) (by show _ = zb ((decide (0 ≤ p) && decide (p ≤ 15)) && ((decide (0 ≤ q) && decide (q ≤ 60)) && (decide (0 ≤ s) && decide (s ≤ 15)))); rw [zb1' h404, zb1' h413, zb1' h422]; rfl) rfl
set_option maxRecDepth 100000 in
set_option maxHeartbeats 4000000 in
theorem c_Mod_fits_10 (X : zX) (p q s : Int32) (h : zH) (N : Nat) : zC X 1 m_Mod_fits 0 0 false [.int 10, .int p, .int q, .int s] h N (some (.int (zb (rFits 10 p q s)))) h N := by
  refine zC_of (by decide) (Nat.le_of_ble_eq_true rfl) ?_
  refine z_iload_n d_Mod_fits_0 rfl ?_
  refine z_tableIn (off := 385) d_Mod_fits_1 386 (by decide) (by decide) (by decide) (by decide) ?_
  refine z_iload_n d_Mod_fits_386 rfl ?_
  refine z_bipush (v := 8) d_Mod_fits_387 (by decide) ?_
  refine z_icmp_le d_Mod_fits_389 429 (by decide) (fun h9 => absurd h9 (by decide)) (fun _ => ?_)
  refine z_iload_n d_Mod_fits_392 rfl ?_
  refine z_bipush (v := 15) d_Mod_fits_393 (by decide) ?_
  refine z_icmp_ge d_Mod_fits_395 429 (by decide) (fun h9 => absurd h9 (by decide)) (fun _ => ?_)
  refine z_iload_n d_Mod_fits_398 rfl ?_
  refine z_bipush (v := 15) d_Mod_fits_399 (by decide) ?_
  refine z_callS1 d_Mod_fits_401 g_Mod_106 (c_Mod_in X 0 _ _ _ _) rfl ⟨by decide, by decide, by decide, by decide⟩ rfl (Nat.le_of_ble_eq_true rfl) ?_
  refine z_if_eq d_Mod_fits_404 429 (by decide) (fun h404 => ?_) (fun h404 => ?_)
  · refine z_iconst (v := 0) d_Mod_fits_429 (by decide) ?_
    exact z_zret d_Mod_fits_430 rfl (by decide) (by decide) (by decide) (by show _ = zb ((decide (0 ≤ p) && decide (p ≤ 15)) && ((decide (0 ≤ q) && decide (q ≤ 60)) && (decide (0 ≤ s) && decide (s ≤ 15)))); rw [zb0 h404]; rfl) rfl
  · refine z_iload_n d_Mod_fits_407 rfl ?_
    refine z_bipush (v := 60) d_Mod_fits_408 (by decide) ?_
    refine z_callS1 d_Mod_fits_410 g_Mod_106 (c_Mod_in X 0 _ _ _ _) rfl ⟨by decide, by decide, by decide, by decide⟩ rfl (Nat.le_of_ble_eq_true rfl) ?_
    refine z_if_eq d_Mod_fits_413 429 (by decide) (fun h413 => ?_) (fun h413 => ?_)
    · refine z_iconst (v := 0) d_Mod_fits_429 (by decide) ?_
      exact z_zret d_Mod_fits_430 rfl (by decide) (by decide) (by decide) (by show _ = zb ((decide (0 ≤ p) && decide (p ≤ 15)) && ((decide (0 ≤ q) && decide (q ≤ 60)) && (decide (0 ≤ s) && decide (s ≤ 15)))); rw [zb1' h404, zb0 h413]; rfl) rfl
    · refine z_iload_n d_Mod_fits_416 rfl ?_
      refine z_bipush (v := 15) d_Mod_fits_417 (by decide) ?_
      refine z_callS1 d_Mod_fits_419 g_Mod_106 (c_Mod_in X 0 _ _ _ _) rfl ⟨by decide, by decide, by decide, by decide⟩ rfl (Nat.le_of_ble_eq_true rfl) ?_
      refine z_if_eq d_Mod_fits_422 429 (by decide) (fun h422 => ?_) (fun h422 => ?_)
      · refine z_iconst (v := 0) d_Mod_fits_429 (by decide) ?_
        exact z_zret d_Mod_fits_430 rfl (by decide) (by decide) (by decide) (by show _ = zb ((decide (0 ≤ p) && decide (p ≤ 15)) && ((decide (0 ≤ q) && decide (q ≤ 60)) && (decide (0 ≤ s) && decide (s ≤ 15)))); rw [zb1' h404, zb1' h413, zb0 h422]; rfl) rfl
      · refine z_iconst (v := 1) d_Mod_fits_425 (by decide) ?_
        refine z_goto d_Mod_fits_426 430 (by decide) ?_
        exact z_zret d_Mod_fits_430 rfl (by decide) (by decide) (by decide) (by show _ = zb ((decide (0 ≤ p) && decide (p ≤ 15)) && ((decide (0 ≤ q) && decide (q ≤ 60)) && (decide (0 ≤ s) && decide (s ≤ 15)))); rw [zb1' h404, zb1' h413, zb1' h422]; rfl) rfl
set_option maxRecDepth 100000 in
set_option maxHeartbeats 4000000 in
theorem c_Mod_fits_11 (X : zX) (p q s : Int32) (h : zH) (N : Nat) : zC X 1 m_Mod_fits 0 0 false [.int 11, .int p, .int q, .int s] h N (some (.int (zb (rFits 11 p q s)))) h N := by
  refine zC_of (by decide) (Nat.le_of_ble_eq_true rfl) ?_
  refine z_iload_n d_Mod_fits_0 rfl ?_
  refine z_tableIn (off := 385) d_Mod_fits_1 386 (by decide) (by decide) (by decide) (by decide) ?_
  refine z_iload_n d_Mod_fits_386 rfl ?_
  refine z_bipush (v := 8) d_Mod_fits_387 (by decide) ?_
  refine z_icmp_le d_Mod_fits_389 429 (by decide) (fun h9 => absurd h9 (by decide)) (fun _ => ?_)
  refine z_iload_n d_Mod_fits_392 rfl ?_
  refine z_bipush (v := 15) d_Mod_fits_393 (by decide) ?_
  refine z_icmp_ge d_Mod_fits_395 429 (by decide) (fun h9 => absurd h9 (by decide)) (fun _ => ?_)
  refine z_iload_n d_Mod_fits_398 rfl ?_
  refine z_bipush (v := 15) d_Mod_fits_399 (by decide) ?_
  refine z_callS1 d_Mod_fits_401 g_Mod_106 (c_Mod_in X 0 _ _ _ _) rfl ⟨by decide, by decide, by decide, by decide⟩ rfl (Nat.le_of_ble_eq_true rfl) ?_
  refine z_if_eq d_Mod_fits_404 429 (by decide) (fun h404 => ?_) (fun h404 => ?_)
  · refine z_iconst (v := 0) d_Mod_fits_429 (by decide) ?_
    exact z_zret d_Mod_fits_430 rfl (by decide) (by decide) (by decide) (by show _ = zb ((decide (0 ≤ p) && decide (p ≤ 15)) && ((decide (0 ≤ q) && decide (q ≤ 60)) && (decide (0 ≤ s) && decide (s ≤ 15)))); rw [zb0 h404]; rfl) rfl
  · refine z_iload_n d_Mod_fits_407 rfl ?_
    refine z_bipush (v := 60) d_Mod_fits_408 (by decide) ?_
    refine z_callS1 d_Mod_fits_410 g_Mod_106 (c_Mod_in X 0 _ _ _ _) rfl ⟨by decide, by decide, by decide, by decide⟩ rfl (Nat.le_of_ble_eq_true rfl) ?_
    refine z_if_eq d_Mod_fits_413 429 (by decide) (fun h413 => ?_) (fun h413 => ?_)
    · refine z_iconst (v := 0) d_Mod_fits_429 (by decide) ?_
      exact z_zret d_Mod_fits_430 rfl (by decide) (by decide) (by decide) (by show _ = zb ((decide (0 ≤ p) && decide (p ≤ 15)) && ((decide (0 ≤ q) && decide (q ≤ 60)) && (decide (0 ≤ s) && decide (s ≤ 15)))); rw [zb1' h404, zb0 h413]; rfl) rfl
    · refine z_iload_n d_Mod_fits_416 rfl ?_
      refine z_bipush (v := 15) d_Mod_fits_417 (by decide) ?_
      refine z_callS1 d_Mod_fits_419 g_Mod_106 (c_Mod_in X 0 _ _ _ _) rfl ⟨by decide, by decide, by decide, by decide⟩ rfl (Nat.le_of_ble_eq_true rfl) ?_
      refine z_if_eq d_Mod_fits_422 429 (by decide) (fun h422 => ?_) (fun h422 => ?_)
      · refine z_iconst (v := 0) d_Mod_fits_429 (by decide) ?_
        exact z_zret d_Mod_fits_430 rfl (by decide) (by decide) (by decide) (by show _ = zb ((decide (0 ≤ p) && decide (p ≤ 15)) && ((decide (0 ≤ q) && decide (q ≤ 60)) && (decide (0 ≤ s) && decide (s ≤ 15)))); rw [zb1' h404, zb1' h413, zb0 h422]; rfl) rfl
      · refine z_iconst (v := 1) d_Mod_fits_425 (by decide) ?_
        refine z_goto d_Mod_fits_426 430 (by decide) ?_
        exact z_zret d_Mod_fits_430 rfl (by decide) (by decide) (by decide) (by show _ = zb ((decide (0 ≤ p) && decide (p ≤ 15)) && ((decide (0 ≤ q) && decide (q ≤ 60)) && (decide (0 ≤ s) && decide (s ≤ 15)))); rw [zb1' h404, zb1' h413, zb1' h422]; rfl) rfl
set_option maxRecDepth 100000 in
set_option maxHeartbeats 4000000 in
theorem c_Mod_fits_12 (X : zX) (p q s : Int32) (h : zH) (N : Nat) : zC X 1 m_Mod_fits 0 0 false [.int 12, .int p, .int q, .int s] h N (some (.int (zb (rFits 12 p q s)))) h N := by
  refine zC_of (by decide) (Nat.le_of_ble_eq_true rfl) ?_
  refine z_iload_n d_Mod_fits_0 rfl ?_
  refine z_tableIn (off := 385) d_Mod_fits_1 386 (by decide) (by decide) (by decide) (by decide) ?_
  refine z_iload_n d_Mod_fits_386 rfl ?_
  refine z_bipush (v := 8) d_Mod_fits_387 (by decide) ?_
  refine z_icmp_le d_Mod_fits_389 429 (by decide) (fun h9 => absurd h9 (by decide)) (fun _ => ?_)
  refine z_iload_n d_Mod_fits_392 rfl ?_
  refine z_bipush (v := 15) d_Mod_fits_393 (by decide) ?_
  refine z_icmp_ge d_Mod_fits_395 429 (by decide) (fun h9 => absurd h9 (by decide)) (fun _ => ?_)
  refine z_iload_n d_Mod_fits_398 rfl ?_
  refine z_bipush (v := 15) d_Mod_fits_399 (by decide) ?_
  refine z_callS1 d_Mod_fits_401 g_Mod_106 (c_Mod_in X 0 _ _ _ _) rfl ⟨by decide, by decide, by decide, by decide⟩ rfl (Nat.le_of_ble_eq_true rfl) ?_
  refine z_if_eq d_Mod_fits_404 429 (by decide) (fun h404 => ?_) (fun h404 => ?_)
  · refine z_iconst (v := 0) d_Mod_fits_429 (by decide) ?_
    exact z_zret d_Mod_fits_430 rfl (by decide) (by decide) (by decide) (by show _ = zb ((decide (0 ≤ p) && decide (p ≤ 15)) && ((decide (0 ≤ q) && decide (q ≤ 60)) && (decide (0 ≤ s) && decide (s ≤ 15)))); rw [zb0 h404]; rfl) rfl
  · refine z_iload_n d_Mod_fits_407 rfl ?_
    refine z_bipush (v := 60) d_Mod_fits_408 (by decide) ?_
    refine z_callS1 d_Mod_fits_410 g_Mod_106 (c_Mod_in X 0 _ _ _ _) rfl ⟨by decide, by decide, by decide, by decide⟩ rfl (Nat.le_of_ble_eq_true rfl) ?_
    refine z_if_eq d_Mod_fits_413 429 (by decide) (fun h413 => ?_) (fun h413 => ?_)
    · refine z_iconst (v := 0) d_Mod_fits_429 (by decide) ?_
      exact z_zret d_Mod_fits_430 rfl (by decide) (by decide) (by decide) (by show _ = zb ((decide (0 ≤ p) && decide (p ≤ 15)) && ((decide (0 ≤ q) && decide (q ≤ 60)) && (decide (0 ≤ s) && decide (s ≤ 15)))); rw [zb1' h404, zb0 h413]; rfl) rfl
    · refine z_iload_n d_Mod_fits_416 rfl ?_
      refine z_bipush (v := 15) d_Mod_fits_417 (by decide) ?_
      refine z_callS1 d_Mod_fits_419 g_Mod_106 (c_Mod_in X 0 _ _ _ _) rfl ⟨by decide, by decide, by decide, by decide⟩ rfl (Nat.le_of_ble_eq_true rfl) ?_
      refine z_if_eq d_Mod_fits_422 429 (by decide) (fun h422 => ?_) (fun h422 => ?_)
      · refine z_iconst (v := 0) d_Mod_fits_429 (by decide) ?_
        exact z_zret d_Mod_fits_430 rfl (by decide) (by decide) (by decide) (by show _ = zb ((decide (0 ≤ p) && decide (p ≤ 15)) && ((decide (0 ≤ q) && decide (q ≤ 60)) && (decide (0 ≤ s) && decide (s ≤ 15)))); rw [zb1' h404, zb1' h413, zb0 h422]; rfl) rfl
      · refine z_iconst (v := 1) d_Mod_fits_425 (by decide) ?_
        refine z_goto d_Mod_fits_426 430 (by decide) ?_
        exact z_zret d_Mod_fits_430 rfl (by decide) (by decide) (by decide) (by show _ = zb ((decide (0 ≤ p) && decide (p ≤ 15)) && ((decide (0 ≤ q) && decide (q ≤ 60)) && (decide (0 ≤ s) && decide (s ≤ 15)))); rw [zb1' h404, zb1' h413, zb1' h422]; rfl) rfl
set_option maxRecDepth 100000 in
set_option maxHeartbeats 4000000 in
theorem c_Mod_fits_13 (X : zX) (p q s : Int32) (h : zH) (N : Nat) : zC X 1 m_Mod_fits 0 0 false [.int 13, .int p, .int q, .int s] h N (some (.int (zb (rFits 13 p q s)))) h N := by
  refine zC_of (by decide) (Nat.le_of_ble_eq_true rfl) ?_
  refine z_iload_n d_Mod_fits_0 rfl ?_
  refine z_tableIn (off := 385) d_Mod_fits_1 386 (by decide) (by decide) (by decide) (by decide) ?_
  refine z_iload_n d_Mod_fits_386 rfl ?_
  refine z_bipush (v := 8) d_Mod_fits_387 (by decide) ?_
  refine z_icmp_le d_Mod_fits_389 429 (by decide) (fun h9 => absurd h9 (by decide)) (fun _ => ?_)
  refine z_iload_n d_Mod_fits_392 rfl ?_
  refine z_bipush (v := 15) d_Mod_fits_393 (by decide) ?_
  refine z_icmp_ge d_Mod_fits_395 429 (by decide) (fun h9 => absurd h9 (by decide)) (fun _ => ?_)
  refine z_iload_n d_Mod_fits_398 rfl ?_
  refine z_bipush (v := 15) d_Mod_fits_399 (by decide) ?_
  refine z_callS1 d_Mod_fits_401 g_Mod_106 (c_Mod_in X 0 _ _ _ _) rfl ⟨by decide, by decide, by decide, by decide⟩ rfl (Nat.le_of_ble_eq_true rfl) ?_
  refine z_if_eq d_Mod_fits_404 429 (by decide) (fun h404 => ?_) (fun h404 => ?_)
  · refine z_iconst (v := 0) d_Mod_fits_429 (by decide) ?_
    exact z_zret d_Mod_fits_430 rfl (by decide) (by decide) (by decide) (by show _ = zb ((decide (0 ≤ p) && decide (p ≤ 15)) && ((decide (0 ≤ q) && decide (q ≤ 60)) && (decide (0 ≤ s) && decide (s ≤ 15)))); rw [zb0 h404]; rfl) rfl
  · refine z_iload_n d_Mod_fits_407 rfl ?_
    refine z_bipush (v := 60) d_Mod_fits_408 (by decide) ?_
    refine z_callS1 d_Mod_fits_410 g_Mod_106 (c_Mod_in X 0 _ _ _ _) rfl ⟨by decide, by decide, by decide, by decide⟩ rfl (Nat.le_of_ble_eq_true rfl) ?_
    refine z_if_eq d_Mod_fits_413 429 (by decide) (fun h413 => ?_) (fun h413 => ?_)
    · refine z_iconst (v := 0) d_Mod_fits_429 (by decide) ?_
      exact z_zret d_Mod_fits_430 rfl (by decide) (by decide) (by decide) (by show _ = zb ((decide (0 ≤ p) && decide (p ≤ 15)) && ((decide (0 ≤ q) && decide (q ≤ 60)) && (decide (0 ≤ s) && decide (s ≤ 15)))); rw [zb1' h404, zb0 h413]; rfl) rfl
    · refine z_iload_n d_Mod_fits_416 rfl ?_
      refine z_bipush (v := 15) d_Mod_fits_417 (by decide) ?_
      refine z_callS1 d_Mod_fits_419 g_Mod_106 (c_Mod_in X 0 _ _ _ _) rfl ⟨by decide, by decide, by decide, by decide⟩ rfl (Nat.le_of_ble_eq_true rfl) ?_
      refine z_if_eq d_Mod_fits_422 429 (by decide) (fun h422 => ?_) (fun h422 => ?_)
      · refine z_iconst (v := 0) d_Mod_fits_429 (by decide) ?_
        exact z_zret d_Mod_fits_430 rfl (by decide) (by decide) (by decide) (by show _ = zb ((decide (0 ≤ p) && decide (p ≤ 15)) && ((decide (0 ≤ q) && decide (q ≤ 60)) && (decide (0 ≤ s) && decide (s ≤ 15)))); rw [zb1' h404, zb1' h413, zb0 h422]; rfl) rfl
      · refine z_iconst (v := 1) d_Mod_fits_425 (by decide) ?_
        refine z_goto d_Mod_fits_426 430 (by decide) ?_
        exact z_zret d_Mod_fits_430 rfl (by decide) (by decide) (by decide) (by show _ = zb ((decide (0 ≤ p) && decide (p ≤ 15)) && ((decide (0 ≤ q) && decide (q ≤ 60)) && (decide (0 ≤ s) && decide (s ≤ 15)))); rw [zb1' h404, zb1' h413, zb1' h422]; rfl) rfl
set_option maxRecDepth 100000 in
set_option maxHeartbeats 4000000 in
theorem c_Mod_fits_14 (X : zX) (p q s : Int32) (h : zH) (N : Nat) : zC X 1 m_Mod_fits 0 0 false [.int 14, .int p, .int q, .int s] h N (some (.int (zb (rFits 14 p q s)))) h N := by
  refine zC_of (by decide) (Nat.le_of_ble_eq_true rfl) ?_
  refine z_iload_n d_Mod_fits_0 rfl ?_
  refine z_tableIn (off := 385) d_Mod_fits_1 386 (by decide) (by decide) (by decide) (by decide) ?_
  refine z_iload_n d_Mod_fits_386 rfl ?_
  refine z_bipush (v := 8) d_Mod_fits_387 (by decide) ?_
  refine z_icmp_le d_Mod_fits_389 429 (by decide) (fun h9 => absurd h9 (by decide)) (fun _ => ?_)
  refine z_iload_n d_Mod_fits_392 rfl ?_
  refine z_bipush (v := 15) d_Mod_fits_393 (by decide) ?_
  refine z_icmp_ge d_Mod_fits_395 429 (by decide) (fun h9 => absurd h9 (by decide)) (fun _ => ?_)
  refine z_iload_n d_Mod_fits_398 rfl ?_
  refine z_bipush (v := 15) d_Mod_fits_399 (by decide) ?_
  refine z_callS1 d_Mod_fits_401 g_Mod_106 (c_Mod_in X 0 _ _ _ _) rfl ⟨by decide, by decide, by decide, by decide⟩ rfl (Nat.le_of_ble_eq_true rfl) ?_
  refine z_if_eq d_Mod_fits_404 429 (by decide) (fun h404 => ?_) (fun h404 => ?_)
  · refine z_iconst (v := 0) d_Mod_fits_429 (by decide) ?_
    exact z_zret d_Mod_fits_430 rfl (by decide) (by decide) (by decide) (by show _ = zb ((decide (0 ≤ p) && decide (p ≤ 15)) && ((decide (0 ≤ q) && decide (q ≤ 60)) && (decide (0 ≤ s) && decide (s ≤ 15)))); rw [zb0 h404]; rfl) rfl
  · refine z_iload_n d_Mod_fits_407 rfl ?_
    refine z_bipush (v := 60) d_Mod_fits_408 (by decide) ?_
    refine z_callS1 d_Mod_fits_410 g_Mod_106 (c_Mod_in X 0 _ _ _ _) rfl ⟨by decide, by decide, by decide, by decide⟩ rfl (Nat.le_of_ble_eq_true rfl) ?_
    refine z_if_eq d_Mod_fits_413 429 (by decide) (fun h413 => ?_) (fun h413 => ?_)
    · refine z_iconst (v := 0) d_Mod_fits_429 (by decide) ?_
      exact z_zret d_Mod_fits_430 rfl (by decide) (by decide) (by decide) (by show _ = zb ((decide (0 ≤ p) && decide (p ≤ 15)) && ((decide (0 ≤ q) && decide (q ≤ 60)) && (decide (0 ≤ s) && decide (s ≤ 15)))); rw [zb1' h404, zb0 h413]; rfl) rfl
    · refine z_iload_n d_Mod_fits_416 rfl ?_
      refine z_bipush (v := 15) d_Mod_fits_417 (by decide) ?_
      refine z_callS1 d_Mod_fits_419 g_Mod_106 (c_Mod_in X 0 _ _ _ _) rfl ⟨by decide, by decide, by decide, by decide⟩ rfl (Nat.le_of_ble_eq_true rfl) ?_
      refine z_if_eq d_Mod_fits_422 429 (by decide) (fun h422 => ?_) (fun h422 => ?_)
      · refine z_iconst (v := 0) d_Mod_fits_429 (by decide) ?_
        exact z_zret d_Mod_fits_430 rfl (by decide) (by decide) (by decide) (by show _ = zb ((decide (0 ≤ p) && decide (p ≤ 15)) && ((decide (0 ≤ q) && decide (q ≤ 60)) && (decide (0 ≤ s) && decide (s ≤ 15)))); rw [zb1' h404, zb1' h413, zb0 h422]; rfl) rfl
      · refine z_iconst (v := 1) d_Mod_fits_425 (by decide) ?_
        refine z_goto d_Mod_fits_426 430 (by decide) ?_
        exact z_zret d_Mod_fits_430 rfl (by decide) (by decide) (by decide) (by show _ = zb ((decide (0 ≤ p) && decide (p ≤ 15)) && ((decide (0 ≤ q) && decide (q ≤ 60)) && (decide (0 ≤ s) && decide (s ≤ 15)))); rw [zb1' h404, zb1' h413, zb1' h422]; rfl) rfl
set_option maxRecDepth 100000 in
set_option maxHeartbeats 4000000 in
theorem c_Mod_fits_15 (X : zX) (p q s : Int32) (h : zH) (N : Nat) : zC X 1 m_Mod_fits 0 0 false [.int 15, .int p, .int q, .int s] h N (some (.int (zb (rFits 15 p q s)))) h N := by
  refine zC_of (by decide) (Nat.le_of_ble_eq_true rfl) ?_
  refine z_iload_n d_Mod_fits_0 rfl ?_
  refine z_tableIn (off := 250) d_Mod_fits_1 251 (by decide) (by decide) (by decide) (by decide) ?_
  refine z_iload_n d_Mod_fits_251 rfl ?_
  refine z_bipush (v := 15) d_Mod_fits_252 (by decide) ?_
  refine z_callS1 d_Mod_fits_254 g_Mod_106 (c_Mod_in X 0 _ _ _ _) rfl ⟨by decide, by decide, by decide, by decide⟩ rfl (Nat.le_of_ble_eq_true rfl) ?_
  refine z_if_eq d_Mod_fits_257 273 (by decide) (fun h257 => ?_) (fun h257 => ?_)
  · refine z_iconst (v := 0) d_Mod_fits_273 (by decide) ?_
    exact z_zret d_Mod_fits_274 rfl (by decide) (by decide) (by decide) (by show _ = zb ((decide (0 ≤ p) && decide (p ≤ 15)) && (decide (0 ≤ q) && decide (q ≤ 60))); rw [zb0 h257]; rfl) rfl
  · refine z_iload_n d_Mod_fits_260 rfl ?_
    refine z_bipush (v := 60) d_Mod_fits_261 (by decide) ?_
    refine z_callS1 d_Mod_fits_263 g_Mod_106 (c_Mod_in X 0 _ _ _ _) rfl ⟨by decide, by decide, by decide, by decide⟩ rfl (Nat.le_of_ble_eq_true rfl) ?_
    refine z_if_eq d_Mod_fits_266 273 (by decide) (fun h266 => ?_) (fun h266 => ?_)
    · refine z_iconst (v := 0) d_Mod_fits_273 (by decide) ?_
      exact z_zret d_Mod_fits_274 rfl (by decide) (by decide) (by decide) (by show _ = zb ((decide (0 ≤ p) && decide (p ≤ 15)) && (decide (0 ≤ q) && decide (q ≤ 60))); rw [zb1' h257, zb0 h266]; rfl) rfl
    · refine z_iconst (v := 1) d_Mod_fits_269 (by decide) ?_
      refine z_goto d_Mod_fits_270 274 (by decide) ?_
      exact z_zret d_Mod_fits_274 rfl (by decide) (by decide) (by decide) (by show _ = zb ((decide (0 ≤ p) && decide (p ≤ 15)) && (decide (0 ≤ q) && decide (q ≤ 60))); rw [zb1' h257, zb1' h266]; rfl) rfl
set_option maxRecDepth 100000 in
set_option maxHeartbeats 4000000 in
theorem c_Mod_fits_16 (X : zX) (p q s : Int32) (h : zH) (N : Nat) : zC X 1 m_Mod_fits 0 0 false [.int 16, .int p, .int q, .int s] h N (some (.int (zb (rFits 16 p q s)))) h N := by
  refine zC_of (by decide) (Nat.le_of_ble_eq_true rfl) ?_
  refine z_iload_n d_Mod_fits_0 rfl ?_
  refine z_tableIn (off := 250) d_Mod_fits_1 251 (by decide) (by decide) (by decide) (by decide) ?_
  refine z_iload_n d_Mod_fits_251 rfl ?_
  refine z_bipush (v := 15) d_Mod_fits_252 (by decide) ?_
  refine z_callS1 d_Mod_fits_254 g_Mod_106 (c_Mod_in X 0 _ _ _ _) rfl ⟨by decide, by decide, by decide, by decide⟩ rfl (Nat.le_of_ble_eq_true rfl) ?_
  refine z_if_eq d_Mod_fits_257 273 (by decide) (fun h257 => ?_) (fun h257 => ?_)
  · refine z_iconst (v := 0) d_Mod_fits_273 (by decide) ?_
    exact z_zret d_Mod_fits_274 rfl (by decide) (by decide) (by decide) (by show _ = zb ((decide (0 ≤ p) && decide (p ≤ 15)) && (decide (0 ≤ q) && decide (q ≤ 60))); rw [zb0 h257]; rfl) rfl
  · refine z_iload_n d_Mod_fits_260 rfl ?_
    refine z_bipush (v := 60) d_Mod_fits_261 (by decide) ?_
    refine z_callS1 d_Mod_fits_263 g_Mod_106 (c_Mod_in X 0 _ _ _ _) rfl ⟨by decide, by decide, by decide, by decide⟩ rfl (Nat.le_of_ble_eq_true rfl) ?_
    refine z_if_eq d_Mod_fits_266 273 (by decide) (fun h266 => ?_) (fun h266 => ?_)
    · refine z_iconst (v := 0) d_Mod_fits_273 (by decide) ?_
      exact z_zret d_Mod_fits_274 rfl (by decide) (by decide) (by decide) (by show _ = zb ((decide (0 ≤ p) && decide (p ≤ 15)) && (decide (0 ≤ q) && decide (q ≤ 60))); rw [zb1' h257, zb0 h266]; rfl) rfl
    · refine z_iconst (v := 1) d_Mod_fits_269 (by decide) ?_
      refine z_goto d_Mod_fits_270 274 (by decide) ?_
      exact z_zret d_Mod_fits_274 rfl (by decide) (by decide) (by decide) (by show _ = zb ((decide (0 ≤ p) && decide (p ≤ 15)) && (decide (0 ≤ q) && decide (q ≤ 60))); rw [zb1' h257, zb1' h266]; rfl) rfl
set_option maxRecDepth 100000 in
set_option maxHeartbeats 4000000 in
theorem c_Mod_fits_17 (X : zX) (p q s : Int32) (h : zH) (N : Nat) : zC X 1 m_Mod_fits 0 0 false [.int 17, .int p, .int q, .int s] h N (some (.int (zb (rFits 17 p q s)))) h N := by
  refine zC_of (by decide) (Nat.le_of_ble_eq_true rfl) ?_
  refine z_iload_n d_Mod_fits_0 rfl ?_
  refine z_tableIn (off := 274) d_Mod_fits_1 275 (by decide) (by decide) (by decide) (by decide) ?_
  refine z_iload_n d_Mod_fits_275 rfl ?_
  refine z_bipush (v := 15) d_Mod_fits_276 (by decide) ?_
  refine z_callS1 d_Mod_fits_278 g_Mod_106 (c_Mod_in X 0 _ _ _ _) rfl ⟨by decide, by decide, by decide, by decide⟩ rfl (Nat.le_of_ble_eq_true rfl) ?_
  refine z_if_eq d_Mod_fits_281 306 (by decide) (fun h281 => ?_) (fun h281 => ?_)
  · refine z_iconst (v := 0) d_Mod_fits_306 (by decide) ?_
    exact z_zret d_Mod_fits_307 rfl (by decide) (by decide) (by decide) (by show _ = zb ((decide (0 ≤ p) && decide (p ≤ 15)) && ((decide (0 ≤ q) && decide (q ≤ 15)) && (decide (0 ≤ s) && decide (s ≤ 15)))); rw [zb0 h281]; rfl) rfl
  · refine z_iload_n d_Mod_fits_284 rfl ?_
    refine z_bipush (v := 15) d_Mod_fits_285 (by decide) ?_
    refine z_callS1 d_Mod_fits_287 g_Mod_106 (c_Mod_in X 0 _ _ _ _) rfl ⟨by decide, by decide, by decide, by decide⟩ rfl (Nat.le_of_ble_eq_true rfl) ?_
    refine z_if_eq d_Mod_fits_290 306 (by decide) (fun h290 => ?_) (fun h290 => ?_)
    · refine z_iconst (v := 0) d_Mod_fits_306 (by decide) ?_
      exact z_zret d_Mod_fits_307 rfl (by decide) (by decide) (by decide) (by show _ = zb ((decide (0 ≤ p) && decide (p ≤ 15)) && ((decide (0 ≤ q) && decide (q ≤ 15)) && (decide (0 ≤ s) && decide (s ≤ 15)))); rw [zb1' h281, zb0 h290]; rfl) rfl
    · refine z_iload_n d_Mod_fits_293 rfl ?_
      refine z_bipush (v := 15) d_Mod_fits_294 (by decide) ?_
      refine z_callS1 d_Mod_fits_296 g_Mod_106 (c_Mod_in X 0 _ _ _ _) rfl ⟨by decide, by decide, by decide, by decide⟩ rfl (Nat.le_of_ble_eq_true rfl) ?_
      refine z_if_eq d_Mod_fits_299 306 (by decide) (fun h299 => ?_) (fun h299 => ?_)
      · refine z_iconst (v := 0) d_Mod_fits_306 (by decide) ?_
        exact z_zret d_Mod_fits_307 rfl (by decide) (by decide) (by decide) (by show _ = zb ((decide (0 ≤ p) && decide (p ≤ 15)) && ((decide (0 ≤ q) && decide (q ≤ 15)) && (decide (0 ≤ s) && decide (s ≤ 15)))); rw [zb1' h281, zb1' h290, zb0 h299]; rfl) rfl
      · refine z_iconst (v := 1) d_Mod_fits_302 (by decide) ?_
        refine z_goto d_Mod_fits_303 307 (by decide) ?_
        exact z_zret d_Mod_fits_307 rfl (by decide) (by decide) (by decide) (by show _ = zb ((decide (0 ≤ p) && decide (p ≤ 15)) && ((decide (0 ≤ q) && decide (q ≤ 15)) && (decide (0 ≤ s) && decide (s ≤ 15)))); rw [zb1' h281, zb1' h290, zb1' h299]; rfl) rfl
set_option maxRecDepth 100000 in
set_option maxHeartbeats 4000000 in
theorem c_Mod_fits_18 (X : zX) (p q s : Int32) (h : zH) (N : Nat) : zC X 1 m_Mod_fits 0 0 false [.int 18, .int p, .int q, .int s] h N (some (.int (zb (rFits 18 p q s)))) h N := by
  refine zC_of (by decide) (Nat.le_of_ble_eq_true rfl) ?_
  refine z_iload_n d_Mod_fits_0 rfl ?_
  refine z_tableIn (off := 307) d_Mod_fits_1 308 (by decide) (by decide) (by decide) (by decide) ?_
  refine z_iload_n d_Mod_fits_308 rfl ?_
  refine z_bipush (v := 15) d_Mod_fits_309 (by decide) ?_
  refine z_callS1 d_Mod_fits_311 g_Mod_106 (c_Mod_in X 0 _ _ _ _) rfl ⟨by decide, by decide, by decide, by decide⟩ rfl (Nat.le_of_ble_eq_true rfl) ?_
  refine z_if_eq d_Mod_fits_314 339 (by decide) (fun h314 => ?_) (fun h314 => ?_)
  · refine z_iconst (v := 0) d_Mod_fits_339 (by decide) ?_
    exact z_zret d_Mod_fits_340 rfl (by decide) (by decide) (by decide) (by show _ = zb ((decide (0 ≤ p) && decide (p ≤ 15)) && (decide (1 ≤ q) && (decide (q ≤ 4) && decide (p + q ≤ 16)))); rw [zb0 h314]; rfl) rfl
  · refine z_iload_n d_Mod_fits_317 rfl ?_
    refine z_iconst (v := 1) d_Mod_fits_318 (by decide) ?_
    refine z_icmp_lt d_Mod_fits_319 339 (by decide) (fun h319 => ?_) (fun h319 => ?_)
    · refine z_iconst (v := 0) d_Mod_fits_339 (by decide) ?_
      exact z_zret d_Mod_fits_340 rfl (by decide) (by decide) (by decide) (by show _ = zb ((decide (0 ≤ p) && decide (p ≤ 15)) && (decide (1 ≤ q) && (decide (q ≤ 4) && decide (p + q ≤ 16)))); rw [zb1' h314, decide_eq_false (Int32.not_le.mpr h319)]; rfl) rfl
    · refine z_iload_n d_Mod_fits_322 rfl ?_
      refine z_iconst (v := 4) d_Mod_fits_323 (by decide) ?_
      refine z_icmp_gt d_Mod_fits_324 339 (by decide) (fun h324 => ?_) (fun h324 => ?_)
      · refine z_iconst (v := 0) d_Mod_fits_339 (by decide) ?_
        exact z_zret d_Mod_fits_340 rfl (by decide) (by decide) (by decide) (by show _ = zb ((decide (0 ≤ p) && decide (p ≤ 15)) && (decide (1 ≤ q) && (decide (q ≤ 4) && decide (p + q ≤ 16)))); rw [zb1' h314, decide_eq_true (Int32.not_lt.mp h319), decide_eq_false (Int32.not_le.mpr h324)]; rfl) rfl
      · refine z_iload_n d_Mod_fits_327 rfl ?_
        refine z_iload_n d_Mod_fits_328 rfl ?_
        refine z_iadd d_Mod_fits_329 ?_
        refine z_bipush (v := 16) d_Mod_fits_330 (by decide) ?_
        refine z_icmp_gt d_Mod_fits_332 339 (by decide) (fun h332 => ?_) (fun h332 => ?_)
        · refine z_iconst (v := 0) d_Mod_fits_339 (by decide) ?_
          exact z_zret d_Mod_fits_340 rfl (by decide) (by decide) (by decide) (by show _ = zb ((decide (0 ≤ p) && decide (p ≤ 15)) && (decide (1 ≤ q) && (decide (q ≤ 4) && decide (p + q ≤ 16)))); rw [zb1' h314, decide_eq_true (Int32.not_lt.mp h319), decide_eq_true (Int32.not_lt.mp h324), decide_eq_false (Int32.not_le.mpr h332)]; rfl) rfl
        · refine z_iconst (v := 1) d_Mod_fits_335 (by decide) ?_
          refine z_goto d_Mod_fits_336 340 (by decide) ?_
          exact z_zret d_Mod_fits_340 rfl (by decide) (by decide) (by decide) (by show _ = zb ((decide (0 ≤ p) && decide (p ≤ 15)) && (decide (1 ≤ q) && (decide (q ≤ 4) && decide (p + q ≤ 16)))); rw [zb1' h314, decide_eq_true (Int32.not_lt.mp h319), decide_eq_true (Int32.not_lt.mp h324), decide_eq_true (Int32.not_lt.mp h332)]; rfl) rfl
set_option maxRecDepth 100000 in
set_option maxHeartbeats 4000000 in
theorem c_Mod_fits_19 (X : zX) (p q s : Int32) (h : zH) (N : Nat) : zC X 1 m_Mod_fits 0 0 false [.int 19, .int p, .int q, .int s] h N (some (.int (zb (rFits 19 p q s)))) h N := by
  refine zC_of (by decide) (Nat.le_of_ble_eq_true rfl) ?_
  refine z_iload_n d_Mod_fits_0 rfl ?_
  refine z_tableIn (off := 340) d_Mod_fits_1 341 (by decide) (by decide) (by decide) (by decide) ?_
  refine z_iload_n d_Mod_fits_341 rfl ?_
  refine z_bipush (v := 60) d_Mod_fits_342 (by decide) ?_
  refine z_callS1 d_Mod_fits_344 g_Mod_106 (c_Mod_in X 0 _ _ _ _) rfl ⟨by decide, by decide, by decide, by decide⟩ rfl (Nat.le_of_ble_eq_true rfl) ?_
  exact z_zret d_Mod_fits_347 rfl (by decide) (by decide) (zb_n _) rfl rfl
set_option maxRecDepth 100000 in
set_option maxHeartbeats 4000000 in
theorem c_Mod_fits_20 (X : zX) (p q s : Int32) (h : zH) (N : Nat) : zC X 1 m_Mod_fits 0 0 false [.int 20, .int p, .int q, .int s] h N (some (.int (zb (rFits 20 p q s)))) h N := by
  refine zC_of (by decide) (Nat.le_of_ble_eq_true rfl) ?_
  refine z_iload_n d_Mod_fits_0 rfl ?_
  refine z_tableIn (off := 347) d_Mod_fits_1 348 (by decide) (by decide) (by decide) (by decide) ?_
  refine z_iload_n d_Mod_fits_348 rfl ?_
  refine z_iconst (v := 2) d_Mod_fits_349 (by decide) ?_
  refine z_callS1 d_Mod_fits_350 g_Mod_106 (c_Mod_in X 0 _ _ _ _) rfl ⟨by decide, by decide, by decide, by decide⟩ rfl (Nat.le_of_ble_eq_true rfl) ?_
  refine z_if_eq d_Mod_fits_353 378 (by decide) (fun h353 => ?_) (fun h353 => ?_)
  · refine z_iconst (v := 0) d_Mod_fits_378 (by decide) ?_
    exact z_zret d_Mod_fits_379 rfl (by decide) (by decide) (by decide) (by show _ = zb ((decide (0 ≤ p) && decide (p ≤ 2)) && ((decide (0 ≤ q) && decide (q ≤ 60)) && (decide (0 ≤ s) && decide (s ≤ 11)))); rw [zb0 h353]; rfl) rfl
  · refine z_iload_n d_Mod_fits_356 rfl ?_
    refine z_bipush (v := 60) d_Mod_fits_357 (by decide) ?_
    refine z_callS1 d_Mod_fits_359 g_Mod_106 (c_Mod_in X 0 _ _ _ _) rfl ⟨by decide, by decide, by decide, by decide⟩ rfl (Nat.le_of_ble_eq_true rfl) ?_
    refine z_if_eq d_Mod_fits_362 378 (by decide) (fun h362 => ?_) (fun h362 => ?_)
    · refine z_iconst (v := 0) d_Mod_fits_378 (by decide) ?_
      exact z_zret d_Mod_fits_379 rfl (by decide) (by decide) (by decide) (by show _ = zb ((decide (0 ≤ p) && decide (p ≤ 2)) && ((decide (0 ≤ q) && decide (q ≤ 60)) && (decide (0 ≤ s) && decide (s ≤ 11)))); rw [zb1' h353, zb0 h362]; rfl) rfl
    · refine z_iload_n d_Mod_fits_365 rfl ?_
      refine z_bipush (v := 11) d_Mod_fits_366 (by decide) ?_
      refine z_callS1 d_Mod_fits_368 g_Mod_106 (c_Mod_in X 0 _ _ _ _) rfl ⟨by decide, by decide, by decide, by decide⟩ rfl (Nat.le_of_ble_eq_true rfl) ?_
      refine z_if_eq d_Mod_fits_371 378 (by decide) (fun h371 => ?_) (fun h371 => ?_)
      · refine z_iconst (v := 0) d_Mod_fits_378 (by decide) ?_
        exact z_zret d_Mod_fits_379 rfl (by decide) (by decide) (by decide) (by show _ = zb ((decide (0 ≤ p) && decide (p ≤ 2)) && ((decide (0 ≤ q) && decide (q ≤ 60)) && (decide (0 ≤ s) && decide (s ≤ 11)))); rw [zb1' h353, zb1' h362, zb0 h371]; rfl) rfl
      · refine z_iconst (v := 1) d_Mod_fits_374 (by decide) ?_
        refine z_goto d_Mod_fits_375 379 (by decide) ?_
        exact z_zret d_Mod_fits_379 rfl (by decide) (by decide) (by decide) (by show _ = zb ((decide (0 ≤ p) && decide (p ≤ 2)) && ((decide (0 ≤ q) && decide (q ≤ 60)) && (decide (0 ≤ s) && decide (s ≤ 11)))); rw [zb1' h353, zb1' h362, zb1' h371]; rfl) rfl
set_option maxRecDepth 100000 in
set_option maxHeartbeats 4000000 in
theorem c_Mod_fits_21 (X : zX) (p q s : Int32) (h : zH) (N : Nat) : zC X 1 m_Mod_fits 0 0 false [.int 21, .int p, .int q, .int s] h N (some (.int (zb (rFits 21 p q s)))) h N := by
  refine zC_of (by decide) (Nat.le_of_ble_eq_true rfl) ?_
  refine z_iload_n d_Mod_fits_0 rfl ?_
  refine z_tableIn (off := 379) d_Mod_fits_1 380 (by decide) (by decide) (by decide) (by decide) ?_
  refine z_iload_n d_Mod_fits_380 rfl ?_
  refine z_iconst (v := 2) d_Mod_fits_381 (by decide) ?_
  refine z_callS1 d_Mod_fits_382 g_Mod_106 (c_Mod_in X 0 _ _ _ _) rfl ⟨by decide, by decide, by decide, by decide⟩ rfl (Nat.le_of_ble_eq_true rfl) ?_
  exact z_zret d_Mod_fits_385 rfl (by decide) (by decide) (zb_n _) rfl rfl
theorem c_Mod_fits (X : zX) {o : Nat} (ho : o < 22) (p q s : Int32) (h : zH) (N : Nat) : zC X 1 m_Mod_fits 0 0 false [.int (nI o), .int p, .int q, .int s] h N (some (.int (zb (rFits o p q s)))) h N := by
  match o, ho with
  | 0, _ => exact c_Mod_fits_0 X p q s h N
  | 1, _ => exact c_Mod_fits_1 X p q s h N
  | 2, _ => exact c_Mod_fits_2 X p q s h N
  | 3, _ => exact c_Mod_fits_3 X p q s h N
  | 4, _ => exact c_Mod_fits_4 X p q s h N
  | 5, _ => exact c_Mod_fits_5 X p q s h N
  | 6, _ => exact c_Mod_fits_6 X p q s h N
  | 7, _ => exact c_Mod_fits_7 X p q s h N
  | 8, _ => exact c_Mod_fits_8 X p q s h N
  | 9, _ => exact c_Mod_fits_9 X p q s h N
  | 10, _ => exact c_Mod_fits_10 X p q s h N
  | 11, _ => exact c_Mod_fits_11 X p q s h N
  | 12, _ => exact c_Mod_fits_12 X p q s h N
  | 13, _ => exact c_Mod_fits_13 X p q s h N
  | 14, _ => exact c_Mod_fits_14 X p q s h N
  | 15, _ => exact c_Mod_fits_15 X p q s h N
  | 16, _ => exact c_Mod_fits_16 X p q s h N
  | 17, _ => exact c_Mod_fits_17 X p q s h N
  | 18, _ => exact c_Mod_fits_18 X p q s h N
  | 19, _ => exact c_Mod_fits_19 X p q s h N
  | 20, _ => exact c_Mod_fits_20 X p q s h N
  | 21, _ => exact c_Mod_fits_21 X p q s h N
  | _ + 22, h9 => exact absurd h9 (by omega)
theorem rOut {i : Int32} (hno : (decide (0 ≤ i) && decide (i < 22)) = false) : i.toInt < 0 ∨ 21 < i.toInt := by
  simp only [Bool.and_eq_false_iff, decide_eq_false_iff_not, Int32.le_iff_toInt_le, Int32.lt_iff_toInt_lt] at hno
  have e1 : (0 : Int32).toInt = 0 := by decide
  have e2 : (22 : Int32).toInt = 22 := by decide
  omega
theorem rOut15 {i : Int32} (hno : (decide (0 ≤ i) && decide (i < 22)) = false) (h8 : ¬ i ≤ 8) : 15 ≤ i := by
  have := rOut hno
  simp only [Int32.le_iff_toInt_le] at h8 ⊢
  have e1 : (8 : Int32).toInt = 8 := by decide
  have e2 : (15 : Int32).toInt = 15 := by decide
  omega
set_option maxRecDepth 100000 in
set_option maxHeartbeats 4000000 in
theorem c_Mod_fits0 (X : zX) (i p q s : Int32) (hno : (decide (0 ≤ i) && decide (i < 22)) = false) (h : zH) (N : Nat) : zC X 1 m_Mod_fits 0 0 false [.int i, .int p, .int q, .int s] h N (some (.int 0)) h N := by
  refine zC_of (by decide) (Nat.le_of_ble_eq_true rfl) ?_
  refine z_iload_n d_Mod_fits_0 rfl ?_
  refine z_tableOut d_Mod_fits_1 386 (rOut hno) (by decide) ?_
  refine z_iload_n d_Mod_fits_386 rfl ?_
  refine z_bipush (v := 8) d_Mod_fits_387 (by decide) ?_
  refine z_icmp_le d_Mod_fits_389 429 (by decide) (fun h389 => ?_) (fun h389 => ?_)
  · refine z_iconst (v := 0) d_Mod_fits_429 (by decide) ?_
    exact z_zret d_Mod_fits_430 rfl (by decide) (by decide) (by decide) rfl rfl
  · refine z_iload_n d_Mod_fits_392 rfl ?_
    refine z_bipush (v := 15) d_Mod_fits_393 (by decide) ?_
    refine z_icmp_ge d_Mod_fits_395 429 (by decide) (fun _ => ?_) (fun h9 => absurd (rOut15 hno h389) h9)
    refine z_iconst (v := 0) d_Mod_fits_429 (by decide) ?_
    exact z_zret d_Mod_fits_430 rfl (by decide) (by decide) (by decide) rfl rfl
set_option maxRecDepth 100000 in
set_option maxHeartbeats 4000000 in
theorem c_Mod_set0 (X : zX) (J : zJT) (G : zGT) (d : Nat) (v n : Int32) (x : Int64) (h : v < 0 ∨ ¬ v ≤ 3) : zK X d m_Mod_set [.ref 40, .int v, .int n, .long x] J G (some (.int 0)) (rTh J 0) G := by
  refine zC_of (by decide) (Nat.le_of_ble_eq_true rfl) ?_
  refine z_aload_n d_Mod_set_0 rfl ?_
  refine z_iconst (v := 0) d_Mod_set_1 (by decide) ?_
  refine z_put d_Mod_set_2 f_Mod_73 p_9_0 (by omega) rfl (Nat.le_of_ble_eq_true rfl) rfl rfl (hp_pi 0 rfl) ?_
  refine z_iload_n d_Mod_set_5 rfl ?_
  refine z_if_lt d_Mod_set_6 14 (by decide) (fun h6 => ?_) (fun h6 => ?_)
  · refine z_iconst (v := 0) d_Mod_set_14 (by decide) ?_
    exact z_zret d_Mod_set_15 rfl (by decide) (by decide) (by decide) rfl rfl
  · refine z_iload_n d_Mod_set_9 rfl ?_
    refine z_iconst (v := 3) d_Mod_set_10 (by decide) ?_
    refine z_icmp_le d_Mod_set_11 16 (by decide) (fun h9 => absurd h9 (h.resolve_left h6)) (fun _ => ?_)
    refine z_iconst (v := 0) d_Mod_set_14 (by decide) ?_
    exact z_zret d_Mod_set_15 rfl (by decide) (by decide) (by decide) rfl rfl
set_option maxRecDepth 100000 in
set_option maxHeartbeats 4000000 in
theorem c_Mod_set1 (X : zX) (J : zJT) (G : zGT) (d : Nat) {i : Nat} (hi : i < 4) (b : Bool) (x : Int64) : zK X d m_Mod_set [.ref 40, .int (nI i), .int (zb b), .long x] J G (some (.int 1)) (va_up (rTh J 0) 47 (upd (J 47) i (zb b))) (va_up G 46 (vp_updL (G 46) i (if b then x else 0))) := by
  refine zC_of (by decide) (Nat.le_of_ble_eq_true rfl) ?_
  refine z_aload_n d_Mod_set_0 rfl ?_
  refine z_iconst (v := 0) d_Mod_set_1 (by decide) ?_
  refine z_put d_Mod_set_2 f_Mod_73 p_9_0 (by omega) rfl (Nat.le_of_ble_eq_true rfl) rfl rfl (hp_pi 0 rfl) ?_
  refine z_iload_n d_Mod_set_5 rfl ?_
  refine z_if_lt d_Mod_set_6 14 (by decide) (fun h9 => absurd h9 (nI_pos (by omega))) (fun _ => ?_)
  refine z_iload_n d_Mod_set_9 rfl ?_
  refine z_iconst (v := 3) d_Mod_set_10 (by decide) ?_
  refine z_icmp_le d_Mod_set_11 16 (by decide) (fun _ => ?_) (fun h9 => absurd (show nI i ≤ nI 3 from nI_le (by omega) (by decide)) h9)
  refine z_aload_n d_Mod_set_16 rfl ?_
  refine z_get d_Mod_set_17 f_Mod_30 (by omega) rfl rfl ?_
  refine z_iload_n d_Mod_set_20 rfl ?_
  refine z_iload_n d_Mod_set_21 rfl ?_
  refine z_zast d_Mod_set_22 (by omega) rfl (show zin (nI i) i 4 from ⟨rfl, hi, by decide⟩) (zb_v _) (hp_ai rfl) ?_
  refine z_aload_n d_Mod_set_23 rfl ?_
  refine z_get d_Mod_set_24 f_Mod_27 (by omega) rfl rfl ?_
  refine z_iload_n d_Mod_set_27 rfl ?_
  refine z_iload_n d_Mod_set_28 rfl ?_
  refine z_if_eq d_Mod_set_29 36 (by decide) (fun h29 => ?_) (fun h29 => ?_)
  · refine z_lconst (v := 0) d_Mod_set_36 (by decide) ?_
    refine z_last d_Mod_set_37 (by omega) rfl (show zin (nI i) i 4 from ⟨rfl, hi, by decide⟩) (hp_al rfl) ?_
    refine z_iconst (v := 1) d_Mod_set_38 (by decide) ?_
    exact z_zret d_Mod_set_39 rfl (by decide) (by decide) (by decide) rfl (by first | (rw [zb0 h29]; rfl) | (rw [zb1' h29]; rfl))
  · refine z_lload_n d_Mod_set_32 rfl ?_
    refine z_goto d_Mod_set_33 37 (by decide) ?_
    refine z_last d_Mod_set_37 (by omega) rfl (show zin (nI i) i 4 from ⟨rfl, hi, by decide⟩) (hp_al rfl) ?_
    refine z_iconst (v := 1) d_Mod_set_38 (by decide) ?_
    exact z_zret d_Mod_set_39 rfl (by decide) (by decide) (by decide) rfl (by first | (rw [zb0 h29]; rfl) | (rw [zb1' h29]; rfl))
abbrev rKp (o : Nat) (w : Int32) (v : Int32) : Int32 := if rMany.getD o 0 ≤ w then 0 else v
set_option maxRecDepth 100000 in
set_option maxHeartbeats 4000000 in
theorem c_Mod_put (X : zX) (J : zJT) (G : zGT) {o m : Nat} (ho : o < 22) (hm : J 40 10 = nI m) (hm6 : m < 60) (p q s : Int32) : zK X 1 m_Mod_put [.ref 40, .int (nI o), .int p, .int q, .int s] J G none (va_up (va_up J 48 (upd (upd (upd (upd (J 48) (4 * m) (nI o)) (4 * m + 1) (rKp o 0 p)) (4 * m + 2) (rKp o 1 q)) (4 * m + 3) (rKp o 2 s))) 40 (va_up (J 40) 10 (nI m + 1))) G := by
  refine zC_of (by decide) (Nat.le_of_ble_eq_true rfl) ?_
  refine z_iconst (v := 4) d_Mod_put_0 (by decide) ?_
  refine z_aload_n d_Mod_put_1 rfl ?_
  refine z_get d_Mod_put_2 f_Mod_110 (by omega) rfl rfl ?_
  refine z_imul d_Mod_put_5 ?_
  refine z_istore (lv' := [(0, _), (1, _), (2, _), (3, _), (4, _), (5, _)]) d_Mod_put_6 (by decide) rfl ?_
  refine z_aload_n d_Mod_put_8 rfl ?_
  refine z_get d_Mod_put_9 f_Mod_33 (by omega) rfl rfl ?_
  refine z_iload d_Mod_put_12 rfl ?_
  refine z_iload_n d_Mod_put_14 rfl ?_
  refine z_iast d_Mod_put_15 (by omega) rfl (show zin (4 * J 40 10) (4 * m) 240 by rw [hm]; have := rz4 (w := 0) hm6 (by decide); rwa [nI_0, Int32.add_zero] at this) (hp_ai rfl) ?_
  refine z_aload_n d_Mod_put_16 rfl ?_
  refine z_get d_Mod_put_17 f_Mod_33 (by omega) rfl rfl ?_
  refine z_iload d_Mod_put_20 rfl ?_
  refine z_iconst (v := 1) d_Mod_put_22 (by decide) ?_
  refine z_iadd d_Mod_put_23 ?_
  refine z_iload_n d_Mod_put_24 rfl ?_
  refine z_callS1 d_Mod_put_25 g_Mod_113 (c_Mod_many X 0 ho _ _) rfl ⟨by decide, by decide, by decide, by decide⟩ rfl (Nat.le_of_ble_eq_true rfl) ?_
  refine z_if_le d_Mod_put_28 35 (by decide) (fun h28 => ?_) (fun h28 => ?_)
  · refine z_iconst (v := 0) d_Mod_put_35 (by decide) ?_
    refine z_iast d_Mod_put_36 (by omega) rfl (show zin (4 * J 40 10 + nI 1) (4 * m + 1) 240 by rw [hm]; exact rz4 hm6 (by decide)) (hp_ai rfl) ?_
    refine z_aload_n d_Mod_put_37 rfl ?_
    refine z_get d_Mod_put_38 f_Mod_33 (by omega) rfl rfl ?_
    refine z_iload d_Mod_put_41 rfl ?_
    refine z_iconst (v := 2) d_Mod_put_43 (by decide) ?_
    refine z_iadd d_Mod_put_44 ?_
    refine z_iload_n d_Mod_put_45 rfl ?_
    refine z_callS1 d_Mod_put_46 g_Mod_113 (c_Mod_many X 0 ho _ _) rfl ⟨by decide, by decide, by decide, by decide⟩ rfl (Nat.le_of_ble_eq_true rfl) ?_
    refine z_iconst (v := 1) d_Mod_put_49 (by decide) ?_
    refine z_icmp_le d_Mod_put_50 57 (by decide) (fun h50 => ?_) (fun h50 => ?_)
    · refine z_iconst (v := 0) d_Mod_put_57 (by decide) ?_
      refine z_iast d_Mod_put_58 (by omega) rfl (show zin (4 * J 40 10 + nI 2) (4 * m + 2) 240 by rw [hm]; exact rz4 hm6 (by decide)) (hp_ai rfl) ?_
      refine z_aload_n d_Mod_put_59 rfl ?_
      refine z_get d_Mod_put_60 f_Mod_33 (by omega) rfl rfl ?_
      refine z_iload d_Mod_put_63 rfl ?_
      refine z_iconst (v := 3) d_Mod_put_65 (by decide) ?_
      refine z_iadd d_Mod_put_66 ?_
      refine z_iload_n d_Mod_put_67 rfl ?_
      refine z_callS1 d_Mod_put_68 g_Mod_113 (c_Mod_many X 0 ho _ _) rfl ⟨by decide, by decide, by decide, by decide⟩ rfl (Nat.le_of_ble_eq_true rfl) ?_
      refine z_iconst (v := 2) d_Mod_put_71 (by decide) ?_
      refine z_icmp_le d_Mod_put_72 80 (by decide) (fun h72 => ?_) (fun h72 => ?_)
      · refine z_iconst (v := 0) d_Mod_put_80 (by decide) ?_
        refine z_iast d_Mod_put_81 (by omega) rfl (show zin (4 * J 40 10 + nI 3) (4 * m + 3) 240 by rw [hm]; exact rz4 hm6 (by decide)) (hp_ai rfl) ?_
        refine z_aload_n d_Mod_put_82 rfl ?_
        refine z_dup d_Mod_put_83 rfl ?_
        refine z_get d_Mod_put_84 f_Mod_110 (by omega) rfl rfl ?_
        refine z_iconst (v := 1) d_Mod_put_87 (by decide) ?_
        refine z_iadd d_Mod_put_88 ?_
        refine z_put d_Mod_put_89 f_Mod_110 p_9_10 (by omega) rfl (Nat.le_of_ble_eq_true rfl) rfl rfl (hp_pi 10 rfl) ?_
        exact z_vret d_Mod_put_92 rfl (by decide) (by decide) (by unfold rKp; rw [if_pos h28, if_pos h50, if_pos h72]; simp [bx_uu, zu_s, zu_n, hm])
      · refine z_iload d_Mod_put_75 rfl ?_
        refine z_goto d_Mod_put_77 81 (by decide) ?_
        refine z_iast d_Mod_put_81 (by omega) rfl (show zin (4 * J 40 10 + nI 3) (4 * m + 3) 240 by rw [hm]; exact rz4 hm6 (by decide)) (hp_ai rfl) ?_
        refine z_aload_n d_Mod_put_82 rfl ?_
        refine z_dup d_Mod_put_83 rfl ?_
        refine z_get d_Mod_put_84 f_Mod_110 (by omega) rfl rfl ?_
        refine z_iconst (v := 1) d_Mod_put_87 (by decide) ?_
        refine z_iadd d_Mod_put_88 ?_
        refine z_put d_Mod_put_89 f_Mod_110 p_9_10 (by omega) rfl (Nat.le_of_ble_eq_true rfl) rfl rfl (hp_pi 10 rfl) ?_
        exact z_vret d_Mod_put_92 rfl (by decide) (by decide) (by unfold rKp; rw [if_pos h28, if_pos h50, if_neg h72]; simp [bx_uu, zu_s, zu_n, hm])
    · refine z_iload_n d_Mod_put_53 rfl ?_
      refine z_goto d_Mod_put_54 58 (by decide) ?_
      refine z_iast d_Mod_put_58 (by omega) rfl (show zin (4 * J 40 10 + nI 2) (4 * m + 2) 240 by rw [hm]; exact rz4 hm6 (by decide)) (hp_ai rfl) ?_
      refine z_aload_n d_Mod_put_59 rfl ?_
      refine z_get d_Mod_put_60 f_Mod_33 (by omega) rfl rfl ?_
      refine z_iload d_Mod_put_63 rfl ?_
      refine z_iconst (v := 3) d_Mod_put_65 (by decide) ?_
      refine z_iadd d_Mod_put_66 ?_
      refine z_iload_n d_Mod_put_67 rfl ?_
      refine z_callS1 d_Mod_put_68 g_Mod_113 (c_Mod_many X 0 ho _ _) rfl ⟨by decide, by decide, by decide, by decide⟩ rfl (Nat.le_of_ble_eq_true rfl) ?_
      refine z_iconst (v := 2) d_Mod_put_71 (by decide) ?_
      refine z_icmp_le d_Mod_put_72 80 (by decide) (fun h72 => ?_) (fun h72 => ?_)
      · refine z_iconst (v := 0) d_Mod_put_80 (by decide) ?_
        refine z_iast d_Mod_put_81 (by omega) rfl (show zin (4 * J 40 10 + nI 3) (4 * m + 3) 240 by rw [hm]; exact rz4 hm6 (by decide)) (hp_ai rfl) ?_
        refine z_aload_n d_Mod_put_82 rfl ?_
        refine z_dup d_Mod_put_83 rfl ?_
        refine z_get d_Mod_put_84 f_Mod_110 (by omega) rfl rfl ?_
        refine z_iconst (v := 1) d_Mod_put_87 (by decide) ?_
        refine z_iadd d_Mod_put_88 ?_
        refine z_put d_Mod_put_89 f_Mod_110 p_9_10 (by omega) rfl (Nat.le_of_ble_eq_true rfl) rfl rfl (hp_pi 10 rfl) ?_
        exact z_vret d_Mod_put_92 rfl (by decide) (by decide) (by unfold rKp; rw [if_pos h28, if_neg h50, if_pos h72]; simp [bx_uu, zu_s, zu_n, hm])
      · refine z_iload d_Mod_put_75 rfl ?_
        refine z_goto d_Mod_put_77 81 (by decide) ?_
        refine z_iast d_Mod_put_81 (by omega) rfl (show zin (4 * J 40 10 + nI 3) (4 * m + 3) 240 by rw [hm]; exact rz4 hm6 (by decide)) (hp_ai rfl) ?_
        refine z_aload_n d_Mod_put_82 rfl ?_
        refine z_dup d_Mod_put_83 rfl ?_
        refine z_get d_Mod_put_84 f_Mod_110 (by omega) rfl rfl ?_
        refine z_iconst (v := 1) d_Mod_put_87 (by decide) ?_
        refine z_iadd d_Mod_put_88 ?_
        refine z_put d_Mod_put_89 f_Mod_110 p_9_10 (by omega) rfl (Nat.le_of_ble_eq_true rfl) rfl rfl (hp_pi 10 rfl) ?_
        exact z_vret d_Mod_put_92 rfl (by decide) (by decide) (by unfold rKp; rw [if_pos h28, if_neg h50, if_neg h72]; simp [bx_uu, zu_s, zu_n, hm])
  · refine z_iload_n d_Mod_put_31 rfl ?_
    refine z_goto d_Mod_put_32 36 (by decide) ?_
    refine z_iast d_Mod_put_36 (by omega) rfl (show zin (4 * J 40 10 + nI 1) (4 * m + 1) 240 by rw [hm]; exact rz4 hm6 (by decide)) (hp_ai rfl) ?_
    refine z_aload_n d_Mod_put_37 rfl ?_
    refine z_get d_Mod_put_38 f_Mod_33 (by omega) rfl rfl ?_
    refine z_iload d_Mod_put_41 rfl ?_
    refine z_iconst (v := 2) d_Mod_put_43 (by decide) ?_
    refine z_iadd d_Mod_put_44 ?_
    refine z_iload_n d_Mod_put_45 rfl ?_
    refine z_callS1 d_Mod_put_46 g_Mod_113 (c_Mod_many X 0 ho _ _) rfl ⟨by decide, by decide, by decide, by decide⟩ rfl (Nat.le_of_ble_eq_true rfl) ?_
    refine z_iconst (v := 1) d_Mod_put_49 (by decide) ?_
    refine z_icmp_le d_Mod_put_50 57 (by decide) (fun h50 => ?_) (fun h50 => ?_)
    · refine z_iconst (v := 0) d_Mod_put_57 (by decide) ?_
      refine z_iast d_Mod_put_58 (by omega) rfl (show zin (4 * J 40 10 + nI 2) (4 * m + 2) 240 by rw [hm]; exact rz4 hm6 (by decide)) (hp_ai rfl) ?_
      refine z_aload_n d_Mod_put_59 rfl ?_
      refine z_get d_Mod_put_60 f_Mod_33 (by omega) rfl rfl ?_
      refine z_iload d_Mod_put_63 rfl ?_
      refine z_iconst (v := 3) d_Mod_put_65 (by decide) ?_
      refine z_iadd d_Mod_put_66 ?_
      refine z_iload_n d_Mod_put_67 rfl ?_
      refine z_callS1 d_Mod_put_68 g_Mod_113 (c_Mod_many X 0 ho _ _) rfl ⟨by decide, by decide, by decide, by decide⟩ rfl (Nat.le_of_ble_eq_true rfl) ?_
      refine z_iconst (v := 2) d_Mod_put_71 (by decide) ?_
      refine z_icmp_le d_Mod_put_72 80 (by decide) (fun h72 => ?_) (fun h72 => ?_)
      · refine z_iconst (v := 0) d_Mod_put_80 (by decide) ?_
        refine z_iast d_Mod_put_81 (by omega) rfl (show zin (4 * J 40 10 + nI 3) (4 * m + 3) 240 by rw [hm]; exact rz4 hm6 (by decide)) (hp_ai rfl) ?_
        refine z_aload_n d_Mod_put_82 rfl ?_
        refine z_dup d_Mod_put_83 rfl ?_
        refine z_get d_Mod_put_84 f_Mod_110 (by omega) rfl rfl ?_
        refine z_iconst (v := 1) d_Mod_put_87 (by decide) ?_
        refine z_iadd d_Mod_put_88 ?_
        refine z_put d_Mod_put_89 f_Mod_110 p_9_10 (by omega) rfl (Nat.le_of_ble_eq_true rfl) rfl rfl (hp_pi 10 rfl) ?_
        exact z_vret d_Mod_put_92 rfl (by decide) (by decide) (by unfold rKp; rw [if_neg h28, if_pos h50, if_pos h72]; simp [bx_uu, zu_s, zu_n, hm])
      · refine z_iload d_Mod_put_75 rfl ?_
        refine z_goto d_Mod_put_77 81 (by decide) ?_
        refine z_iast d_Mod_put_81 (by omega) rfl (show zin (4 * J 40 10 + nI 3) (4 * m + 3) 240 by rw [hm]; exact rz4 hm6 (by decide)) (hp_ai rfl) ?_
        refine z_aload_n d_Mod_put_82 rfl ?_
        refine z_dup d_Mod_put_83 rfl ?_
        refine z_get d_Mod_put_84 f_Mod_110 (by omega) rfl rfl ?_
        refine z_iconst (v := 1) d_Mod_put_87 (by decide) ?_
        refine z_iadd d_Mod_put_88 ?_
        refine z_put d_Mod_put_89 f_Mod_110 p_9_10 (by omega) rfl (Nat.le_of_ble_eq_true rfl) rfl rfl (hp_pi 10 rfl) ?_
        exact z_vret d_Mod_put_92 rfl (by decide) (by decide) (by unfold rKp; rw [if_neg h28, if_pos h50, if_neg h72]; simp [bx_uu, zu_s, zu_n, hm])
    · refine z_iload_n d_Mod_put_53 rfl ?_
      refine z_goto d_Mod_put_54 58 (by decide) ?_
      refine z_iast d_Mod_put_58 (by omega) rfl (show zin (4 * J 40 10 + nI 2) (4 * m + 2) 240 by rw [hm]; exact rz4 hm6 (by decide)) (hp_ai rfl) ?_
      refine z_aload_n d_Mod_put_59 rfl ?_
      refine z_get d_Mod_put_60 f_Mod_33 (by omega) rfl rfl ?_
      refine z_iload d_Mod_put_63 rfl ?_
      refine z_iconst (v := 3) d_Mod_put_65 (by decide) ?_
      refine z_iadd d_Mod_put_66 ?_
      refine z_iload_n d_Mod_put_67 rfl ?_
      refine z_callS1 d_Mod_put_68 g_Mod_113 (c_Mod_many X 0 ho _ _) rfl ⟨by decide, by decide, by decide, by decide⟩ rfl (Nat.le_of_ble_eq_true rfl) ?_
      refine z_iconst (v := 2) d_Mod_put_71 (by decide) ?_
      refine z_icmp_le d_Mod_put_72 80 (by decide) (fun h72 => ?_) (fun h72 => ?_)
      · refine z_iconst (v := 0) d_Mod_put_80 (by decide) ?_
        refine z_iast d_Mod_put_81 (by omega) rfl (show zin (4 * J 40 10 + nI 3) (4 * m + 3) 240 by rw [hm]; exact rz4 hm6 (by decide)) (hp_ai rfl) ?_
        refine z_aload_n d_Mod_put_82 rfl ?_
        refine z_dup d_Mod_put_83 rfl ?_
        refine z_get d_Mod_put_84 f_Mod_110 (by omega) rfl rfl ?_
        refine z_iconst (v := 1) d_Mod_put_87 (by decide) ?_
        refine z_iadd d_Mod_put_88 ?_
        refine z_put d_Mod_put_89 f_Mod_110 p_9_10 (by omega) rfl (Nat.le_of_ble_eq_true rfl) rfl rfl (hp_pi 10 rfl) ?_
        exact z_vret d_Mod_put_92 rfl (by decide) (by decide) (by unfold rKp; rw [if_neg h28, if_neg h50, if_pos h72]; simp [bx_uu, zu_s, zu_n, hm])
      · refine z_iload d_Mod_put_75 rfl ?_
        refine z_goto d_Mod_put_77 81 (by decide) ?_
        refine z_iast d_Mod_put_81 (by omega) rfl (show zin (4 * J 40 10 + nI 3) (4 * m + 3) 240 by rw [hm]; exact rz4 hm6 (by decide)) (hp_ai rfl) ?_
        refine z_aload_n d_Mod_put_82 rfl ?_
        refine z_dup d_Mod_put_83 rfl ?_
        refine z_get d_Mod_put_84 f_Mod_110 (by omega) rfl rfl ?_
        refine z_iconst (v := 1) d_Mod_put_87 (by decide) ?_
        refine z_iadd d_Mod_put_88 ?_
        refine z_put d_Mod_put_89 f_Mod_110 p_9_10 (by omega) rfl (Nat.le_of_ble_eq_true rfl) rfl rfl (hp_pi 10 rfl) ?_
        exact z_vret d_Mod_put_92 rfl (by decide) (by decide) (by unfold rKp; rw [if_neg h28, if_neg h50, if_neg h72]; simp [bx_uu, zu_s, zu_n, hm])
