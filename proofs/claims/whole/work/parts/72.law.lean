set_option maxRecDepth 100000 in
set_option maxHeartbeats 4000000 in
theorem lc_0 (X : zX) {L q k j : Nat} {xs : Nat → Int32} {J : zJT} {G : zGT} (hI : zIv J G) (hq : 5 * q + 5 ≤ L) (hL : L ≤ 2560) (hk : k ≤ 5000) (hj : j ≤ 50000) (kk : ∀ k1 j1 J1 G1, k1 ≤ k + 1 → j1 ≤ j + 6 → zIv J1 G1 → zJ X room_1 m_Law_law (zLq X L xs) false k1 j1 (hp J1 G1) 60 1462 [(0, .ref 901), (1, .ref 0), (2, .ref 40), (3, .ref 59), (4, .int (nI (5 * q)))] []) : zJ X room_1 m_Law_law (zLq X L xs) false k j (hp J G) 60 128 [(0, .ref 901), (1, .ref 0), (2, .ref 40), (3, .ref 59), (4, .int (nI (5 * q)))] [] := by
  obtain ⟨kk9, mc, ms, J1, G1, b, d, J2, G2, hmc, hms, hd, hW, hM, hT, hA, hI2⟩ := i_table X J G hI (xs (5 * q + 1))
  refine z_aload_n d_Law_law_128 rfl ?_
  refine z_aload_n d_Law_law_129 rfl ?_
  refine z_iload d_Law_law_130 rfl ?_
  refine z_iconst (v := 1) d_Law_law_132 (by decide) ?_
  refine z_iadd d_Law_law_133 ?_
  refine z_sld d_Law_law_134 (zs_in (c := 1) (by omega) hL) ?_
  refine z_aload_n d_Law_law_135 rfl ?_
  refine z_callSW d_Law_law_136 g_Law_67 hW rfl ⟨Nat.le_of_ble_eq_true rfl, Nat.le_of_ble_eq_true rfl, (show k + mc ≤ 601024 by omega), (show j + ms ≤ 7293034 by omega)⟩ rfl (Nat.le_of_ble_eq_true rfl) ?_
  refine z_istore (lv' := [(0, _), (1, _), (2, _), (3, _), (4, _), (5, _)]) d_Law_law_139 (by decide) rfl ?_
  refine z_aload_n d_Law_law_141 rfl ?_
  refine z_aload_n d_Law_law_142 rfl ?_
  refine z_iload d_Law_law_143 rfl ?_
  refine z_iconst (v := 1) d_Law_law_145 (by decide) ?_
  refine z_iadd d_Law_law_146 ?_
  refine z_sld d_Law_law_147 (zs_in (c := 1) (by omega) hL) ?_
  refine z_callV1 d_Law_law_148 g_Law_72 hM (by omega) rfl rfl rfl ⟨(show d + 4 ≤ 11 by omega), (show 33 * d + 33 ≤ 404 by omega), (show k + mc + 0 ≤ 601024 by omega), (show j + ms + 0 ≤ 7293034 by omega)⟩ rfl (Nat.le_of_ble_eq_true rfl) ?_
  refine z_istore (lv' := [(0, _), (1, _), (2, _), (3, _), (4, _), (5, _), (6, _)]) d_Law_law_151 (by decide) rfl ?_
  refine z_aload_n d_Law_law_153 rfl ?_
  refine z_callV1 d_Law_law_154 g_Law_73 (c_Mod_thrown X J2 G2 0) (by omega) rfl rfl rfl ⟨Nat.le_of_ble_eq_true rfl, Nat.le_of_ble_eq_true rfl, (show k + mc + 0 + 0 ≤ 601024 by omega), (show j + ms + 0 + 0 ≤ 7293034 by omega)⟩ rfl (Nat.le_of_ble_eq_true rfl) ?_
  refine z_iload d_Law_law_157 rfl ?_
  refine z_icmp_eq d_Law_law_159 164 (by decide) (fun _ => ?_) (fun h9 => absurd hT h9)
  refine z_iload d_Law_law_164 rfl ?_
  by_cases hz : kk9 = 0
  · refine z_if_ne d_Law_law_166 181 (by decide) (fun h9 => absurd hz h9) (fun _ => ?_)
    refine z_aload_n d_Law_law_169 rfl ?_
    refine z_iconst (v := 0) d_Law_law_170 (by decide) ?_
    refine z_lald d_Law_law_171 (by omega) rfl ⟨rfl, by decide, by decide⟩ ?_
    refine z_iload d_Law_law_172 rfl ?_
    refine z_i2l d_Law_law_174 ?_
    refine z_lcmp d_Law_law_175 ?_
    refine z_if_eq d_Law_law_176 181 (by decide) (fun _ => ?_) (fun h9 => absurd (by rw [hA hz]; exact lg_self _) h9)
    refine z_goto d_Law_law_181 1462 (by decide) ?_
    exact z_loc (lv' := [(0, .ref 901), (1, .ref 0), (2, .ref 40), (3, .ref 59), (4, .int (nI (5 * q)))]) (by simp) (kk _ _ J2 G2 (by omega) (by omega) hI2)
  · refine z_if_ne d_Law_law_166 181 (by decide) (fun _ => ?_) (fun h9 => absurd h9 hz)
    refine z_goto d_Law_law_181 1462 (by decide) ?_
    exact z_loc (lv' := [(0, .ref 901), (1, .ref 0), (2, .ref 40), (3, .ref 59), (4, .int (nI (5 * q)))]) (by simp) (kk _ _ J2 G2 (by omega) (by omega) hI2)
set_option maxRecDepth 100000 in
set_option maxHeartbeats 4000000 in
theorem lc_1f (X : zX) {L q k j : Nat} {xs : Nat → Int32} {J : zJT} {G : zGT} (hI : zIv J G) (hq : 5 * q + 5 ≤ L) (hL : L ≤ 2560) (hk : k ≤ 5000) (hj : j ≤ 50000) (kk : ∀ k1 j1 J1 G1, k1 ≤ k + 1 → j1 ≤ j + 6 → zIv J1 G1 → zJ X room_1 m_Law_law (zLq X L xs) false k1 j1 (hp J1 G1) 60 1462 [(0, .ref 901), (1, .ref 0), (2, .ref 40), (3, .ref 59), (4, .int (nI (5 * q)))] []) (ho : (xs (5 * q + 2)) = 0) : zJ X room_1 m_Law_law (zLq X L xs) false k j (hp J G) 60 184 [(0, .ref 901), (1, .ref 0), (2, .ref 40), (3, .ref 59), (4, .int (nI (5 * q)))] [] := by
  obtain ⟨J1, G1, b, d, d1, J2, G2, hd, hd1, hC, hM, hI2⟩ := i_set X J G hI (xs (5 * q + 1)) false ((xs (5 * q + 3)).toInt64 <<< ((32 : Int32).toInt64 &&& 63) ||| ((xs (5 * q + 4)).toInt64 &&& 4294967295))
  refine z_aload_n d_Law_law_184 rfl ?_
  refine z_aload_n d_Law_law_185 rfl ?_
  refine z_iload d_Law_law_186 rfl ?_
  refine z_iconst (v := 1) d_Law_law_188 (by decide) ?_
  refine z_iadd d_Law_law_189 ?_
  refine z_sld d_Law_law_190 (zs_in (c := 1) (by omega) hL) ?_
  refine z_aload_n d_Law_law_191 rfl ?_
  refine z_iload d_Law_law_192 rfl ?_
  refine z_iconst (v := 2) d_Law_law_194 (by decide) ?_
  refine z_iadd d_Law_law_195 ?_
  refine z_sld d_Law_law_196 (zs_in (c := 2) (by omega) hL) ?_
  refine z_if_eq d_Law_law_197 204 (by decide) (fun _ => ?_) (fun h9 => absurd ho h9)
  refine z_iconst (v := 0) d_Law_law_204 (by decide) ?_
  refine z_aload_n d_Law_law_205 rfl ?_
  refine z_iload d_Law_law_206 rfl ?_
  refine z_iconst (v := 3) d_Law_law_208 (by decide) ?_
  refine z_iadd d_Law_law_209 ?_
  refine z_sld d_Law_law_210 (zs_in (c := 3) (by omega) hL) ?_
  refine z_i2l d_Law_law_211 ?_
  refine z_bipush (v := 32) d_Law_law_212 (by decide) ?_
  refine z_lshl d_Law_law_214 ?_
  refine z_aload_n d_Law_law_215 rfl ?_
  refine z_iload d_Law_law_216 rfl ?_
  refine z_iconst (v := 4) d_Law_law_218 (by decide) ?_
  refine z_iadd d_Law_law_219 ?_
  refine z_sld d_Law_law_220 (zs_in (c := 4) (by omega) hL) ?_
  refine z_i2l d_Law_law_221 ?_
  refine z_ldc2 (v := 4294967295) d_Law_law_222 k_Law_76 ?_
  refine z_land d_Law_law_225 ?_
  refine z_lor d_Law_law_226 ?_
  refine z_callV1 d_Law_law_227 g_Law_78 hC (by omega) rfl rfl rfl ⟨(show d + 4 ≤ 11 by omega), (show 33 * d + 33 ≤ 404 by omega), (show k + 0 ≤ 601024 by omega), (show j + 0 ≤ 7293034 by omega)⟩ rfl (Nat.le_of_ble_eq_true rfl) ?_
  refine z_aload_n d_Law_law_230 rfl ?_
  refine z_aload_n d_Law_law_231 rfl ?_
  refine z_iload d_Law_law_232 rfl ?_
  refine z_iconst (v := 1) d_Law_law_234 (by decide) ?_
  refine z_iadd d_Law_law_235 ?_
  refine z_sld d_Law_law_236 (zs_in (c := 1) (by omega) hL) ?_
  refine z_aload_n d_Law_law_237 rfl ?_
  refine z_iload d_Law_law_238 rfl ?_
  refine z_iconst (v := 2) d_Law_law_240 (by decide) ?_
  refine z_iadd d_Law_law_241 ?_
  refine z_sld d_Law_law_242 (zs_in (c := 2) (by omega) hL) ?_
  refine z_if_eq d_Law_law_243 250 (by decide) (fun _ => ?_) (fun h9 => absurd ho h9)
  refine z_iconst (v := 0) d_Law_law_250 (by decide) ?_
  refine z_aload_n d_Law_law_251 rfl ?_
  refine z_iload d_Law_law_252 rfl ?_
  refine z_iconst (v := 3) d_Law_law_254 (by decide) ?_
  refine z_iadd d_Law_law_255 ?_
  refine z_sld d_Law_law_256 (zs_in (c := 3) (by omega) hL) ?_
  refine z_i2l d_Law_law_257 ?_
  refine z_bipush (v := 32) d_Law_law_258 (by decide) ?_
  refine z_lshl d_Law_law_260 ?_
  refine z_aload_n d_Law_law_261 rfl ?_
  refine z_iload d_Law_law_262 rfl ?_
  refine z_iconst (v := 4) d_Law_law_264 (by decide) ?_
  refine z_iadd d_Law_law_265 ?_
  refine z_sld d_Law_law_266 (zs_in (c := 4) (by omega) hL) ?_
  refine z_i2l d_Law_law_267 ?_
  refine z_ldc2 (v := 4294967295) d_Law_law_268 k_Law_76 ?_
  refine z_land d_Law_law_271 ?_
  refine z_lor d_Law_law_272 ?_
  refine z_callV1 d_Law_law_273 g_Law_82 hM (by omega) rfl rfl rfl ⟨(show d1 + 4 ≤ 11 by omega), (show 33 * d1 + 33 ≤ 404 by omega), (show k + 0 + 0 ≤ 601024 by omega), (show j + 0 + 0 ≤ 7293034 by omega)⟩ rfl (Nat.le_of_ble_eq_true rfl) ?_
  refine z_icmp_eq d_Law_law_276 1462 (by decide) (fun _ => ?_) (fun h9 => absurd rfl h9)
  exact z_loc (lv' := [(0, .ref 901), (1, .ref 0), (2, .ref 40), (3, .ref 59), (4, .int (nI (5 * q)))]) (by simp) (kk _ _ J2 G2 (by omega) (by omega) hI2)
set_option maxRecDepth 100000 in
set_option maxHeartbeats 4000000 in
theorem lc_1t (X : zX) {L q k j : Nat} {xs : Nat → Int32} {J : zJT} {G : zGT} (hI : zIv J G) (hq : 5 * q + 5 ≤ L) (hL : L ≤ 2560) (hk : k ≤ 5000) (hj : j ≤ 50000) (kk : ∀ k1 j1 J1 G1, k1 ≤ k + 1 → j1 ≤ j + 6 → zIv J1 G1 → zJ X room_1 m_Law_law (zLq X L xs) false k1 j1 (hp J1 G1) 60 1462 [(0, .ref 901), (1, .ref 0), (2, .ref 40), (3, .ref 59), (4, .int (nI (5 * q)))] []) (ho : ¬ (xs (5 * q + 2)) = 0) : zJ X room_1 m_Law_law (zLq X L xs) false k j (hp J G) 60 184 [(0, .ref 901), (1, .ref 0), (2, .ref 40), (3, .ref 59), (4, .int (nI (5 * q)))] [] := by
  obtain ⟨J1, G1, b, d, d1, J2, G2, hd, hd1, hC, hM, hI2⟩ := i_set X J G hI (xs (5 * q + 1)) true ((xs (5 * q + 3)).toInt64 <<< ((32 : Int32).toInt64 &&& 63) ||| ((xs (5 * q + 4)).toInt64 &&& 4294967295))
  refine z_aload_n d_Law_law_184 rfl ?_
  refine z_aload_n d_Law_law_185 rfl ?_
  refine z_iload d_Law_law_186 rfl ?_
  refine z_iconst (v := 1) d_Law_law_188 (by decide) ?_
  refine z_iadd d_Law_law_189 ?_
  refine z_sld d_Law_law_190 (zs_in (c := 1) (by omega) hL) ?_
  refine z_aload_n d_Law_law_191 rfl ?_
  refine z_iload d_Law_law_192 rfl ?_
  refine z_iconst (v := 2) d_Law_law_194 (by decide) ?_
  refine z_iadd d_Law_law_195 ?_
  refine z_sld d_Law_law_196 (zs_in (c := 2) (by omega) hL) ?_
  refine z_if_eq d_Law_law_197 204 (by decide) (fun h9 => absurd h9 ho) (fun _ => ?_)
  refine z_iconst (v := 1) d_Law_law_200 (by decide) ?_
  refine z_goto d_Law_law_201 205 (by decide) ?_
  refine z_aload_n d_Law_law_205 rfl ?_
  refine z_iload d_Law_law_206 rfl ?_
  refine z_iconst (v := 3) d_Law_law_208 (by decide) ?_
  refine z_iadd d_Law_law_209 ?_
  refine z_sld d_Law_law_210 (zs_in (c := 3) (by omega) hL) ?_
  refine z_i2l d_Law_law_211 ?_
  refine z_bipush (v := 32) d_Law_law_212 (by decide) ?_
  refine z_lshl d_Law_law_214 ?_
  refine z_aload_n d_Law_law_215 rfl ?_
  refine z_iload d_Law_law_216 rfl ?_
  refine z_iconst (v := 4) d_Law_law_218 (by decide) ?_
  refine z_iadd d_Law_law_219 ?_
  refine z_sld d_Law_law_220 (zs_in (c := 4) (by omega) hL) ?_
  refine z_i2l d_Law_law_221 ?_
  refine z_ldc2 (v := 4294967295) d_Law_law_222 k_Law_76 ?_
  refine z_land d_Law_law_225 ?_
  refine z_lor d_Law_law_226 ?_
  refine z_callV1 d_Law_law_227 g_Law_78 hC (by omega) rfl rfl rfl ⟨(show d + 4 ≤ 11 by omega), (show 33 * d + 33 ≤ 404 by omega), (show k + 0 ≤ 601024 by omega), (show j + 0 ≤ 7293034 by omega)⟩ rfl (Nat.le_of_ble_eq_true rfl) ?_
  refine z_aload_n d_Law_law_230 rfl ?_
  refine z_aload_n d_Law_law_231 rfl ?_
  refine z_iload d_Law_law_232 rfl ?_
  refine z_iconst (v := 1) d_Law_law_234 (by decide) ?_
  refine z_iadd d_Law_law_235 ?_
  refine z_sld d_Law_law_236 (zs_in (c := 1) (by omega) hL) ?_
  refine z_aload_n d_Law_law_237 rfl ?_
  refine z_iload d_Law_law_238 rfl ?_
  refine z_iconst (v := 2) d_Law_law_240 (by decide) ?_
  refine z_iadd d_Law_law_241 ?_
  refine z_sld d_Law_law_242 (zs_in (c := 2) (by omega) hL) ?_
  refine z_if_eq d_Law_law_243 250 (by decide) (fun h9 => absurd h9 ho) (fun _ => ?_)
  refine z_iconst (v := 1) d_Law_law_246 (by decide) ?_
  refine z_goto d_Law_law_247 251 (by decide) ?_
  refine z_aload_n d_Law_law_251 rfl ?_
  refine z_iload d_Law_law_252 rfl ?_
  refine z_iconst (v := 3) d_Law_law_254 (by decide) ?_
  refine z_iadd d_Law_law_255 ?_
  refine z_sld d_Law_law_256 (zs_in (c := 3) (by omega) hL) ?_
  refine z_i2l d_Law_law_257 ?_
  refine z_bipush (v := 32) d_Law_law_258 (by decide) ?_
  refine z_lshl d_Law_law_260 ?_
  refine z_aload_n d_Law_law_261 rfl ?_
  refine z_iload d_Law_law_262 rfl ?_
  refine z_iconst (v := 4) d_Law_law_264 (by decide) ?_
  refine z_iadd d_Law_law_265 ?_
  refine z_sld d_Law_law_266 (zs_in (c := 4) (by omega) hL) ?_
  refine z_i2l d_Law_law_267 ?_
  refine z_ldc2 (v := 4294967295) d_Law_law_268 k_Law_76 ?_
  refine z_land d_Law_law_271 ?_
  refine z_lor d_Law_law_272 ?_
  refine z_callV1 d_Law_law_273 g_Law_82 hM (by omega) rfl rfl rfl ⟨(show d1 + 4 ≤ 11 by omega), (show 33 * d1 + 33 ≤ 404 by omega), (show k + 0 + 0 ≤ 601024 by omega), (show j + 0 + 0 ≤ 7293034 by omega)⟩ rfl (Nat.le_of_ble_eq_true rfl) ?_
  refine z_icmp_eq d_Law_law_276 1462 (by decide) (fun _ => ?_) (fun h9 => absurd rfl h9)
  exact z_loc (lv' := [(0, .ref 901), (1, .ref 0), (2, .ref 40), (3, .ref 59), (4, .int (nI (5 * q)))]) (by simp) (kk _ _ J2 G2 (by omega) (by omega) hI2)
set_option maxRecDepth 100000 in
set_option maxHeartbeats 4000000 in
theorem lc_2 (X : zX) {L q k j : Nat} {xs : Nat → Int32} {J : zJT} {G : zGT} (hI : zIv J G) (hq : 5 * q + 5 ≤ L) (hL : L ≤ 2560) (hk : k ≤ 5000) (hj : j ≤ 50000) (kk : ∀ k1 j1 J1 G1, k1 ≤ k + 1 → j1 ≤ j + 6 → zIv J1 G1 → zJ X room_1 m_Law_law (zLq X L xs) false k1 j1 (hp J1 G1) 60 1462 [(0, .ref 901), (1, .ref 0), (2, .ref 40), (3, .ref 59), (4, .int (nI (5 * q)))] []) : zJ X room_1 m_Law_law (zLq X L xs) false k j (hp J G) 60 281 [(0, .ref 901), (1, .ref 0), (2, .ref 40), (3, .ref 59), (4, .int (nI (5 * q)))] [] := by
  obtain ⟨kk9, mc, ms, J1, G1, b, d, J2, G2, hmc, hms, hd, hW, hM, hT, hA, hI2⟩ := i_insert X J G hI (xs (5 * q + 1)) ((xs (5 * q + 2)).toInt64 <<< ((32 : Int32).toInt64 &&& 63) ||| ((xs (5 * q + 3)).toInt64 &&& 4294967295))
  cases b
  · refine z_aload_n d_Law_law_281 rfl ?_
    refine z_aload_n d_Law_law_282 rfl ?_
    refine z_iload d_Law_law_283 rfl ?_
    refine z_iconst (v := 1) d_Law_law_285 (by decide) ?_
    refine z_iadd d_Law_law_286 ?_
    refine z_sld d_Law_law_287 (zs_in (c := 1) (by omega) hL) ?_
    refine z_aload_n d_Law_law_288 rfl ?_
    refine z_iload d_Law_law_289 rfl ?_
    refine z_iconst (v := 2) d_Law_law_291 (by decide) ?_
    refine z_iadd d_Law_law_292 ?_
    refine z_sld d_Law_law_293 (zs_in (c := 2) (by omega) hL) ?_
    refine z_i2l d_Law_law_294 ?_
    refine z_bipush (v := 32) d_Law_law_295 (by decide) ?_
    refine z_lshl d_Law_law_297 ?_
    refine z_aload_n d_Law_law_298 rfl ?_
    refine z_iload d_Law_law_299 rfl ?_
    refine z_iconst (v := 3) d_Law_law_301 (by decide) ?_
    refine z_iadd d_Law_law_302 ?_
    refine z_sld d_Law_law_303 (zs_in (c := 3) (by omega) hL) ?_
    refine z_i2l d_Law_law_304 ?_
    refine z_ldc2 (v := 4294967295) d_Law_law_305 k_Law_76 ?_
    refine z_land d_Law_law_308 ?_
    refine z_lor d_Law_law_309 ?_
    refine z_aload_n d_Law_law_310 rfl ?_
    refine z_callSW d_Law_law_311 g_Law_83 hW rfl ⟨Nat.le_of_ble_eq_true rfl, Nat.le_of_ble_eq_true rfl, (show k + mc ≤ 601024 by omega), (show j + ms ≤ 7293034 by omega)⟩ rfl (Nat.le_of_ble_eq_true rfl) ?_
    refine z_istore (lv' := [(0, _), (1, _), (2, _), (3, _), (4, _), (5, _)]) d_Law_law_314 (by decide) rfl ?_
    refine z_aload_n d_Law_law_316 rfl ?_
    refine z_aload_n d_Law_law_317 rfl ?_
    refine z_iload d_Law_law_318 rfl ?_
    refine z_iconst (v := 1) d_Law_law_320 (by decide) ?_
    refine z_iadd d_Law_law_321 ?_
    refine z_sld d_Law_law_322 (zs_in (c := 1) (by omega) hL) ?_
    refine z_aload_n d_Law_law_323 rfl ?_
    refine z_iload d_Law_law_324 rfl ?_
    refine z_iconst (v := 2) d_Law_law_326 (by decide) ?_
    refine z_iadd d_Law_law_327 ?_
    refine z_sld d_Law_law_328 (zs_in (c := 2) (by omega) hL) ?_
    refine z_i2l d_Law_law_329 ?_
    refine z_bipush (v := 32) d_Law_law_330 (by decide) ?_
    refine z_lshl d_Law_law_332 ?_
    refine z_aload_n d_Law_law_333 rfl ?_
    refine z_iload d_Law_law_334 rfl ?_
    refine z_iconst (v := 3) d_Law_law_336 (by decide) ?_
    refine z_iadd d_Law_law_337 ?_
    refine z_sld d_Law_law_338 (zs_in (c := 3) (by omega) hL) ?_
    refine z_i2l d_Law_law_339 ?_
    refine z_ldc2 (v := 4294967295) d_Law_law_340 k_Law_76 ?_
    refine z_land d_Law_law_343 ?_
    refine z_lor d_Law_law_344 ?_
    refine z_callV1 d_Law_law_345 g_Law_86 hM (by omega) rfl rfl rfl ⟨(show d + 4 ≤ 11 by omega), (show 33 * d + 33 ≤ 404 by omega), (show k + mc + 0 ≤ 601024 by omega), (show j + ms + 0 ≤ 7293034 by omega)⟩ rfl (Nat.le_of_ble_eq_true rfl) ?_
    refine z_istore (lv' := [(0, _), (1, _), (2, _), (3, _), (4, _), (5, _), (6, _)]) d_Law_law_348 (by decide) rfl ?_
    refine z_aload_n d_Law_law_350 rfl ?_
    refine z_callV1 d_Law_law_351 g_Law_73 (c_Mod_thrown X J2 G2 0) (by omega) rfl rfl rfl ⟨Nat.le_of_ble_eq_true rfl, Nat.le_of_ble_eq_true rfl, (show k + mc + 0 + 0 ≤ 601024 by omega), (show j + ms + 0 + 0 ≤ 7293034 by omega)⟩ rfl (Nat.le_of_ble_eq_true rfl) ?_
    refine z_iload d_Law_law_354 rfl ?_
    refine z_icmp_eq d_Law_law_356 361 (by decide) (fun _ => ?_) (fun h9 => absurd hT h9)
    refine z_iload d_Law_law_361 rfl ?_
    by_cases hz : kk9 = 0
    · refine z_if_ne d_Law_law_363 385 (by decide) (fun h9 => absurd hz h9) (fun _ => ?_)
      refine z_aload_n d_Law_law_366 rfl ?_
      refine z_iconst (v := 0) d_Law_law_367 (by decide) ?_
      refine z_lald d_Law_law_368 (by omega) rfl ⟨rfl, by decide, by decide⟩ ?_
      refine z_iload d_Law_law_369 rfl ?_
      refine z_if_eq d_Law_law_371 378 (by decide) (fun _ => ?_) (fun h9 => absurd rfl h9)
      refine z_lconst (v := 0) d_Law_law_378 (by decide) ?_
      refine z_lcmp d_Law_law_379 ?_
      refine z_if_eq d_Law_law_380 385 (by decide) (fun _ => ?_) (fun h9 => absurd (by rw [hA hz]; exact lg_self _) h9)
      refine z_goto d_Law_law_385 1462 (by decide) ?_
      exact z_loc (lv' := [(0, .ref 901), (1, .ref 0), (2, .ref 40), (3, .ref 59), (4, .int (nI (5 * q)))]) (by simp) (kk _ _ J2 G2 (by omega) (by omega) hI2)
    · refine z_if_ne d_Law_law_363 385 (by decide) (fun _ => ?_) (fun h9 => absurd h9 hz)
      refine z_goto d_Law_law_385 1462 (by decide) ?_
      exact z_loc (lv' := [(0, .ref 901), (1, .ref 0), (2, .ref 40), (3, .ref 59), (4, .int (nI (5 * q)))]) (by simp) (kk _ _ J2 G2 (by omega) (by omega) hI2)
  · refine z_aload_n d_Law_law_281 rfl ?_
    refine z_aload_n d_Law_law_282 rfl ?_
    refine z_iload d_Law_law_283 rfl ?_
    refine z_iconst (v := 1) d_Law_law_285 (by decide) ?_
    refine z_iadd d_Law_law_286 ?_
    refine z_sld d_Law_law_287 (zs_in (c := 1) (by omega) hL) ?_
    refine z_aload_n d_Law_law_288 rfl ?_
    refine z_iload d_Law_law_289 rfl ?_
    refine z_iconst (v := 2) d_Law_law_291 (by decide) ?_
    refine z_iadd d_Law_law_292 ?_
    refine z_sld d_Law_law_293 (zs_in (c := 2) (by omega) hL) ?_
    refine z_i2l d_Law_law_294 ?_
    refine z_bipush (v := 32) d_Law_law_295 (by decide) ?_
    refine z_lshl d_Law_law_297 ?_
    refine z_aload_n d_Law_law_298 rfl ?_
    refine z_iload d_Law_law_299 rfl ?_
    refine z_iconst (v := 3) d_Law_law_301 (by decide) ?_
    refine z_iadd d_Law_law_302 ?_
    refine z_sld d_Law_law_303 (zs_in (c := 3) (by omega) hL) ?_
    refine z_i2l d_Law_law_304 ?_
    refine z_ldc2 (v := 4294967295) d_Law_law_305 k_Law_76 ?_
    refine z_land d_Law_law_308 ?_
    refine z_lor d_Law_law_309 ?_
    refine z_aload_n d_Law_law_310 rfl ?_
    refine z_callSW d_Law_law_311 g_Law_83 hW rfl ⟨Nat.le_of_ble_eq_true rfl, Nat.le_of_ble_eq_true rfl, (show k + mc ≤ 601024 by omega), (show j + ms ≤ 7293034 by omega)⟩ rfl (Nat.le_of_ble_eq_true rfl) ?_
    refine z_istore (lv' := [(0, _), (1, _), (2, _), (3, _), (4, _), (5, _)]) d_Law_law_314 (by decide) rfl ?_
    refine z_aload_n d_Law_law_316 rfl ?_
    refine z_aload_n d_Law_law_317 rfl ?_
    refine z_iload d_Law_law_318 rfl ?_
    refine z_iconst (v := 1) d_Law_law_320 (by decide) ?_
    refine z_iadd d_Law_law_321 ?_
    refine z_sld d_Law_law_322 (zs_in (c := 1) (by omega) hL) ?_
    refine z_aload_n d_Law_law_323 rfl ?_
    refine z_iload d_Law_law_324 rfl ?_
    refine z_iconst (v := 2) d_Law_law_326 (by decide) ?_
    refine z_iadd d_Law_law_327 ?_
    refine z_sld d_Law_law_328 (zs_in (c := 2) (by omega) hL) ?_
    refine z_i2l d_Law_law_329 ?_
    refine z_bipush (v := 32) d_Law_law_330 (by decide) ?_
    refine z_lshl d_Law_law_332 ?_
    refine z_aload_n d_Law_law_333 rfl ?_
    refine z_iload d_Law_law_334 rfl ?_
    refine z_iconst (v := 3) d_Law_law_336 (by decide) ?_
    refine z_iadd d_Law_law_337 ?_
    refine z_sld d_Law_law_338 (zs_in (c := 3) (by omega) hL) ?_
    refine z_i2l d_Law_law_339 ?_
    refine z_ldc2 (v := 4294967295) d_Law_law_340 k_Law_76 ?_
    refine z_land d_Law_law_343 ?_
    refine z_lor d_Law_law_344 ?_
    refine z_callV1 d_Law_law_345 g_Law_86 hM (by omega) rfl rfl rfl ⟨(show d + 4 ≤ 11 by omega), (show 33 * d + 33 ≤ 404 by omega), (show k + mc + 0 ≤ 601024 by omega), (show j + ms + 0 ≤ 7293034 by omega)⟩ rfl (Nat.le_of_ble_eq_true rfl) ?_
    refine z_istore (lv' := [(0, _), (1, _), (2, _), (3, _), (4, _), (5, _), (6, _)]) d_Law_law_348 (by decide) rfl ?_
    refine z_aload_n d_Law_law_350 rfl ?_
    refine z_callV1 d_Law_law_351 g_Law_73 (c_Mod_thrown X J2 G2 0) (by omega) rfl rfl rfl ⟨Nat.le_of_ble_eq_true rfl, Nat.le_of_ble_eq_true rfl, (show k + mc + 0 + 0 ≤ 601024 by omega), (show j + ms + 0 + 0 ≤ 7293034 by omega)⟩ rfl (Nat.le_of_ble_eq_true rfl) ?_
    refine z_iload d_Law_law_354 rfl ?_
    refine z_icmp_eq d_Law_law_356 361 (by decide) (fun _ => ?_) (fun h9 => absurd hT h9)
    refine z_iload d_Law_law_361 rfl ?_
    by_cases hz : kk9 = 0
    · refine z_if_ne d_Law_law_363 385 (by decide) (fun h9 => absurd hz h9) (fun _ => ?_)
      refine z_aload_n d_Law_law_366 rfl ?_
      refine z_iconst (v := 0) d_Law_law_367 (by decide) ?_
      refine z_lald d_Law_law_368 (by omega) rfl ⟨rfl, by decide, by decide⟩ ?_
      refine z_iload d_Law_law_369 rfl ?_
      refine z_if_eq d_Law_law_371 378 (by decide) (fun h9 => absurd h9 (by decide)) (fun _ => ?_)
      refine z_lconst (v := 1) d_Law_law_374 (by decide) ?_
      refine z_goto d_Law_law_375 379 (by decide) ?_
      refine z_lcmp d_Law_law_379 ?_
      refine z_if_eq d_Law_law_380 385 (by decide) (fun _ => ?_) (fun h9 => absurd (by rw [hA hz]; exact lg_self _) h9)
      refine z_goto d_Law_law_385 1462 (by decide) ?_
      exact z_loc (lv' := [(0, .ref 901), (1, .ref 0), (2, .ref 40), (3, .ref 59), (4, .int (nI (5 * q)))]) (by simp) (kk _ _ J2 G2 (by omega) (by omega) hI2)
    · refine z_if_ne d_Law_law_363 385 (by decide) (fun _ => ?_) (fun h9 => absurd h9 hz)
      refine z_goto d_Law_law_385 1462 (by decide) ?_
      exact z_loc (lv' := [(0, .ref 901), (1, .ref 0), (2, .ref 40), (3, .ref 59), (4, .int (nI (5 * q)))]) (by simp) (kk _ _ J2 G2 (by omega) (by omega) hI2)
set_option maxRecDepth 100000 in
set_option maxHeartbeats 4000000 in
theorem lc_3 (X : zX) {L q k j : Nat} {xs : Nat → Int32} {J : zJT} {G : zGT} (hI : zIv J G) (hq : 5 * q + 5 ≤ L) (hL : L ≤ 2560) (hk : k ≤ 5000) (hj : j ≤ 50000) (kk : ∀ k1 j1 J1 G1, k1 ≤ k + 1 → j1 ≤ j + 6 → zIv J1 G1 → zJ X room_1 m_Law_law (zLq X L xs) false k1 j1 (hp J1 G1) 60 1462 [(0, .ref 901), (1, .ref 0), (2, .ref 40), (3, .ref 59), (4, .int (nI (5 * q)))] []) : zJ X room_1 m_Law_law (zLq X L xs) false k j (hp J G) 60 388 [(0, .ref 901), (1, .ref 0), (2, .ref 40), (3, .ref 59), (4, .int (nI (5 * q)))] [] := by
  obtain ⟨kk9, mc, ms, J1, G1, b, d, J2, G2, hmc, hms, hd, hW, hM, hT, hA, hI2⟩ := i_delete X J G hI (xs (5 * q + 1)) ((xs (5 * q + 2)).toInt64 <<< ((32 : Int32).toInt64 &&& 63) ||| ((xs (5 * q + 3)).toInt64 &&& 4294967295))
  cases b
  · refine z_aload_n d_Law_law_388 rfl ?_
    refine z_aload_n d_Law_law_389 rfl ?_
    refine z_iload d_Law_law_390 rfl ?_
    refine z_iconst (v := 1) d_Law_law_392 (by decide) ?_
    refine z_iadd d_Law_law_393 ?_
    refine z_sld d_Law_law_394 (zs_in (c := 1) (by omega) hL) ?_
    refine z_aload_n d_Law_law_395 rfl ?_
    refine z_iload d_Law_law_396 rfl ?_
    refine z_iconst (v := 2) d_Law_law_398 (by decide) ?_
    refine z_iadd d_Law_law_399 ?_
    refine z_sld d_Law_law_400 (zs_in (c := 2) (by omega) hL) ?_
    refine z_i2l d_Law_law_401 ?_
    refine z_bipush (v := 32) d_Law_law_402 (by decide) ?_
    refine z_lshl d_Law_law_404 ?_
    refine z_aload_n d_Law_law_405 rfl ?_
    refine z_iload d_Law_law_406 rfl ?_
    refine z_iconst (v := 3) d_Law_law_408 (by decide) ?_
    refine z_iadd d_Law_law_409 ?_
    refine z_sld d_Law_law_410 (zs_in (c := 3) (by omega) hL) ?_
    refine z_i2l d_Law_law_411 ?_
    refine z_ldc2 (v := 4294967295) d_Law_law_412 k_Law_76 ?_
    refine z_land d_Law_law_415 ?_
    refine z_lor d_Law_law_416 ?_
    refine z_aload_n d_Law_law_417 rfl ?_
    refine z_callSW d_Law_law_418 g_Law_87 hW rfl ⟨Nat.le_of_ble_eq_true rfl, Nat.le_of_ble_eq_true rfl, (show k + mc ≤ 601024 by omega), (show j + ms ≤ 7293034 by omega)⟩ rfl (Nat.le_of_ble_eq_true rfl) ?_
    refine z_istore (lv' := [(0, _), (1, _), (2, _), (3, _), (4, _), (5, _)]) d_Law_law_421 (by decide) rfl ?_
    refine z_aload_n d_Law_law_423 rfl ?_
    refine z_aload_n d_Law_law_424 rfl ?_
    refine z_iload d_Law_law_425 rfl ?_
    refine z_iconst (v := 1) d_Law_law_427 (by decide) ?_
    refine z_iadd d_Law_law_428 ?_
    refine z_sld d_Law_law_429 (zs_in (c := 1) (by omega) hL) ?_
    refine z_aload_n d_Law_law_430 rfl ?_
    refine z_iload d_Law_law_431 rfl ?_
    refine z_iconst (v := 2) d_Law_law_433 (by decide) ?_
    refine z_iadd d_Law_law_434 ?_
    refine z_sld d_Law_law_435 (zs_in (c := 2) (by omega) hL) ?_
    refine z_i2l d_Law_law_436 ?_
    refine z_bipush (v := 32) d_Law_law_437 (by decide) ?_
    refine z_lshl d_Law_law_439 ?_
    refine z_aload_n d_Law_law_440 rfl ?_
    refine z_iload d_Law_law_441 rfl ?_
    refine z_iconst (v := 3) d_Law_law_443 (by decide) ?_
    refine z_iadd d_Law_law_444 ?_
    refine z_sld d_Law_law_445 (zs_in (c := 3) (by omega) hL) ?_
    refine z_i2l d_Law_law_446 ?_
    refine z_ldc2 (v := 4294967295) d_Law_law_447 k_Law_76 ?_
    refine z_land d_Law_law_450 ?_
    refine z_lor d_Law_law_451 ?_
    refine z_callV1 d_Law_law_452 g_Law_89 hM (by omega) rfl rfl rfl ⟨(show d + 4 ≤ 11 by omega), (show 33 * d + 33 ≤ 404 by omega), (show k + mc + 0 ≤ 601024 by omega), (show j + ms + 0 ≤ 7293034 by omega)⟩ rfl (Nat.le_of_ble_eq_true rfl) ?_
    refine z_istore (lv' := [(0, _), (1, _), (2, _), (3, _), (4, _), (5, _), (6, _)]) d_Law_law_455 (by decide) rfl ?_
    refine z_aload_n d_Law_law_457 rfl ?_
    refine z_callV1 d_Law_law_458 g_Law_73 (c_Mod_thrown X J2 G2 0) (by omega) rfl rfl rfl ⟨Nat.le_of_ble_eq_true rfl, Nat.le_of_ble_eq_true rfl, (show k + mc + 0 + 0 ≤ 601024 by omega), (show j + ms + 0 + 0 ≤ 7293034 by omega)⟩ rfl (Nat.le_of_ble_eq_true rfl) ?_
    refine z_iload d_Law_law_461 rfl ?_
    refine z_icmp_eq d_Law_law_463 468 (by decide) (fun _ => ?_) (fun h9 => absurd hT h9)
    refine z_iload d_Law_law_468 rfl ?_
    by_cases hz : kk9 = 0
    · refine z_if_ne d_Law_law_470 492 (by decide) (fun h9 => absurd hz h9) (fun _ => ?_)
      refine z_aload_n d_Law_law_473 rfl ?_
      refine z_iconst (v := 0) d_Law_law_474 (by decide) ?_
      refine z_lald d_Law_law_475 (by omega) rfl ⟨rfl, by decide, by decide⟩ ?_
      refine z_iload d_Law_law_476 rfl ?_
      refine z_if_eq d_Law_law_478 485 (by decide) (fun _ => ?_) (fun h9 => absurd rfl h9)
      refine z_lconst (v := 0) d_Law_law_485 (by decide) ?_
      refine z_lcmp d_Law_law_486 ?_
      refine z_if_eq d_Law_law_487 492 (by decide) (fun _ => ?_) (fun h9 => absurd (by rw [hA hz]; exact lg_self _) h9)
      refine z_goto d_Law_law_492 1462 (by decide) ?_
      exact z_loc (lv' := [(0, .ref 901), (1, .ref 0), (2, .ref 40), (3, .ref 59), (4, .int (nI (5 * q)))]) (by simp) (kk _ _ J2 G2 (by omega) (by omega) hI2)
    · refine z_if_ne d_Law_law_470 492 (by decide) (fun _ => ?_) (fun h9 => absurd h9 hz)
      refine z_goto d_Law_law_492 1462 (by decide) ?_
      exact z_loc (lv' := [(0, .ref 901), (1, .ref 0), (2, .ref 40), (3, .ref 59), (4, .int (nI (5 * q)))]) (by simp) (kk _ _ J2 G2 (by omega) (by omega) hI2)
  · refine z_aload_n d_Law_law_388 rfl ?_
    refine z_aload_n d_Law_law_389 rfl ?_
    refine z_iload d_Law_law_390 rfl ?_
    refine z_iconst (v := 1) d_Law_law_392 (by decide) ?_
    refine z_iadd d_Law_law_393 ?_
    refine z_sld d_Law_law_394 (zs_in (c := 1) (by omega) hL) ?_
    refine z_aload_n d_Law_law_395 rfl ?_
    refine z_iload d_Law_law_396 rfl ?_
    refine z_iconst (v := 2) d_Law_law_398 (by decide) ?_
    refine z_iadd d_Law_law_399 ?_
    refine z_sld d_Law_law_400 (zs_in (c := 2) (by omega) hL) ?_
    refine z_i2l d_Law_law_401 ?_
    refine z_bipush (v := 32) d_Law_law_402 (by decide) ?_
    refine z_lshl d_Law_law_404 ?_
    refine z_aload_n d_Law_law_405 rfl ?_
    refine z_iload d_Law_law_406 rfl ?_
    refine z_iconst (v := 3) d_Law_law_408 (by decide) ?_
    refine z_iadd d_Law_law_409 ?_
    refine z_sld d_Law_law_410 (zs_in (c := 3) (by omega) hL) ?_
    refine z_i2l d_Law_law_411 ?_
    refine z_ldc2 (v := 4294967295) d_Law_law_412 k_Law_76 ?_
    refine z_land d_Law_law_415 ?_
    refine z_lor d_Law_law_416 ?_
    refine z_aload_n d_Law_law_417 rfl ?_
    refine z_callSW d_Law_law_418 g_Law_87 hW rfl ⟨Nat.le_of_ble_eq_true rfl, Nat.le_of_ble_eq_true rfl, (show k + mc ≤ 601024 by omega), (show j + ms ≤ 7293034 by omega)⟩ rfl (Nat.le_of_ble_eq_true rfl) ?_
    refine z_istore (lv' := [(0, _), (1, _), (2, _), (3, _), (4, _), (5, _)]) d_Law_law_421 (by decide) rfl ?_
    refine z_aload_n d_Law_law_423 rfl ?_
    refine z_aload_n d_Law_law_424 rfl ?_
    refine z_iload d_Law_law_425 rfl ?_
    refine z_iconst (v := 1) d_Law_law_427 (by decide) ?_
    refine z_iadd d_Law_law_428 ?_
    refine z_sld d_Law_law_429 (zs_in (c := 1) (by omega) hL) ?_
    refine z_aload_n d_Law_law_430 rfl ?_
    refine z_iload d_Law_law_431 rfl ?_
    refine z_iconst (v := 2) d_Law_law_433 (by decide) ?_
    refine z_iadd d_Law_law_434 ?_
    refine z_sld d_Law_law_435 (zs_in (c := 2) (by omega) hL) ?_
    refine z_i2l d_Law_law_436 ?_
    refine z_bipush (v := 32) d_Law_law_437 (by decide) ?_
    refine z_lshl d_Law_law_439 ?_
    refine z_aload_n d_Law_law_440 rfl ?_
    refine z_iload d_Law_law_441 rfl ?_
    refine z_iconst (v := 3) d_Law_law_443 (by decide) ?_
    refine z_iadd d_Law_law_444 ?_
    refine z_sld d_Law_law_445 (zs_in (c := 3) (by omega) hL) ?_
    refine z_i2l d_Law_law_446 ?_
    refine z_ldc2 (v := 4294967295) d_Law_law_447 k_Law_76 ?_
    refine z_land d_Law_law_450 ?_
    refine z_lor d_Law_law_451 ?_
    refine z_callV1 d_Law_law_452 g_Law_89 hM (by omega) rfl rfl rfl ⟨(show d + 4 ≤ 11 by omega), (show 33 * d + 33 ≤ 404 by omega), (show k + mc + 0 ≤ 601024 by omega), (show j + ms + 0 ≤ 7293034 by omega)⟩ rfl (Nat.le_of_ble_eq_true rfl) ?_
    refine z_istore (lv' := [(0, _), (1, _), (2, _), (3, _), (4, _), (5, _), (6, _)]) d_Law_law_455 (by decide) rfl ?_
    refine z_aload_n d_Law_law_457 rfl ?_
    refine z_callV1 d_Law_law_458 g_Law_73 (c_Mod_thrown X J2 G2 0) (by omega) rfl rfl rfl ⟨Nat.le_of_ble_eq_true rfl, Nat.le_of_ble_eq_true rfl, (show k + mc + 0 + 0 ≤ 601024 by omega), (show j + ms + 0 + 0 ≤ 7293034 by omega)⟩ rfl (Nat.le_of_ble_eq_true rfl) ?_
    refine z_iload d_Law_law_461 rfl ?_
    refine z_icmp_eq d_Law_law_463 468 (by decide) (fun _ => ?_) (fun h9 => absurd hT h9)
    refine z_iload d_Law_law_468 rfl ?_
    by_cases hz : kk9 = 0
    · refine z_if_ne d_Law_law_470 492 (by decide) (fun h9 => absurd hz h9) (fun _ => ?_)
      refine z_aload_n d_Law_law_473 rfl ?_
      refine z_iconst (v := 0) d_Law_law_474 (by decide) ?_
      refine z_lald d_Law_law_475 (by omega) rfl ⟨rfl, by decide, by decide⟩ ?_
      refine z_iload d_Law_law_476 rfl ?_
      refine z_if_eq d_Law_law_478 485 (by decide) (fun h9 => absurd h9 (by decide)) (fun _ => ?_)
      refine z_lconst (v := 1) d_Law_law_481 (by decide) ?_
      refine z_goto d_Law_law_482 486 (by decide) ?_
      refine z_lcmp d_Law_law_486 ?_
      refine z_if_eq d_Law_law_487 492 (by decide) (fun _ => ?_) (fun h9 => absurd (by rw [hA hz]; exact lg_self _) h9)
      refine z_goto d_Law_law_492 1462 (by decide) ?_
      exact z_loc (lv' := [(0, .ref 901), (1, .ref 0), (2, .ref 40), (3, .ref 59), (4, .int (nI (5 * q)))]) (by simp) (kk _ _ J2 G2 (by omega) (by omega) hI2)
    · refine z_if_ne d_Law_law_470 492 (by decide) (fun _ => ?_) (fun h9 => absurd h9 hz)
      refine z_goto d_Law_law_492 1462 (by decide) ?_
      exact z_loc (lv' := [(0, .ref 901), (1, .ref 0), (2, .ref 40), (3, .ref 59), (4, .int (nI (5 * q)))]) (by simp) (kk _ _ J2 G2 (by omega) (by omega) hI2)
set_option maxRecDepth 100000 in
set_option maxHeartbeats 4000000 in
theorem lc_4 (X : zX) {L q k j : Nat} {xs : Nat → Int32} {J : zJT} {G : zGT} (hI : zIv J G) (hq : 5 * q + 5 ≤ L) (hL : L ≤ 2560) (hk : k ≤ 5000) (hj : j ≤ 50000) (kk : ∀ k1 j1 J1 G1, k1 ≤ k + 1 → j1 ≤ j + 6 → zIv J1 G1 → zJ X room_1 m_Law_law (zLq X L xs) false k1 j1 (hp J1 G1) 60 1462 [(0, .ref 901), (1, .ref 0), (2, .ref 40), (3, .ref 59), (4, .int (nI (5 * q)))] []) : zJ X room_1 m_Law_law (zLq X L xs) false k j (hp J G) 60 495 [(0, .ref 901), (1, .ref 0), (2, .ref 40), (3, .ref 59), (4, .int (nI (5 * q)))] [] := by
  obtain ⟨J1, G1, b, d, d1, J2, G2, hd, hd1, hC, hM, hI2⟩ := i_count X J G hI (xs (5 * q + 1))
  refine z_aload_n d_Law_law_495 rfl ?_
  refine z_aload_n d_Law_law_496 rfl ?_
  refine z_iload d_Law_law_497 rfl ?_
  refine z_iconst (v := 1) d_Law_law_499 (by decide) ?_
  refine z_iadd d_Law_law_500 ?_
  refine z_sld d_Law_law_501 (zs_in (c := 1) (by omega) hL) ?_
  refine z_callV1 d_Law_law_502 g_Law_90 hC (by omega) rfl rfl rfl ⟨(show d + 4 ≤ 11 by omega), (show 33 * d + 33 ≤ 404 by omega), (show k + 0 ≤ 601024 by omega), (show j + 0 ≤ 7293034 by omega)⟩ rfl (Nat.le_of_ble_eq_true rfl) ?_
  refine z_aload_n d_Law_law_505 rfl ?_
  refine z_aload_n d_Law_law_506 rfl ?_
  refine z_iload d_Law_law_507 rfl ?_
  refine z_iconst (v := 1) d_Law_law_509 (by decide) ?_
  refine z_iadd d_Law_law_510 ?_
  refine z_sld d_Law_law_511 (zs_in (c := 1) (by omega) hL) ?_
  refine z_callV1 d_Law_law_512 g_Law_93 hM (by omega) rfl rfl rfl ⟨(show d1 + 4 ≤ 11 by omega), (show 33 * d1 + 33 ≤ 404 by omega), (show k + 0 + 0 ≤ 601024 by omega), (show j + 0 + 0 ≤ 7293034 by omega)⟩ rfl (Nat.le_of_ble_eq_true rfl) ?_
  refine z_icmp_eq d_Law_law_515 1462 (by decide) (fun _ => ?_) (fun h9 => absurd rfl h9)
  exact z_loc (lv' := [(0, .ref 901), (1, .ref 0), (2, .ref 40), (3, .ref 59), (4, .int (nI (5 * q)))]) (by simp) (kk _ _ J2 G2 (by omega) (by omega) hI2)
set_option maxRecDepth 100000 in
set_option maxHeartbeats 4000000 in
theorem lc_5f (X : zX) {L q k j : Nat} {xs : Nat → Int32} {J : zJT} {G : zGT} (hI : zIv J G) (hq : 5 * q + 5 ≤ L) (hL : L ≤ 2560) (hk : k ≤ 5000) (hj : j ≤ 50000) (kk : ∀ k1 j1 J1 G1, k1 ≤ k + 1 → j1 ≤ j + 6 → zIv J1 G1 → zJ X room_1 m_Law_law (zLq X L xs) false k1 j1 (hp J1 G1) 60 1462 [(0, .ref 901), (1, .ref 0), (2, .ref 40), (3, .ref 59), (4, .int (nI (5 * q)))] []) (ho : (xs (5 * q + 4)) = 0) : zJ X room_1 m_Law_law (zLq X L xs) false k j (hp J G) 60 520 [(0, .ref 901), (1, .ref 0), (2, .ref 40), (3, .ref 59), (4, .int (nI (5 * q)))] [] := by
  obtain ⟨kk9, mc, ms, J1, G1, b, d, J2, G2, hmc, hms, hd, hW, hM, hT, hA, hI2⟩ := i_next X J G hI (xs (5 * q + 1)) ((xs (5 * q + 2)).toInt64 <<< ((32 : Int32).toInt64 &&& 63) ||| ((xs (5 * q + 3)).toInt64 &&& 4294967295)) false
  refine z_aload_n d_Law_law_520 rfl ?_
  refine z_aload_n d_Law_law_521 rfl ?_
  refine z_iload d_Law_law_522 rfl ?_
  refine z_iconst (v := 1) d_Law_law_524 (by decide) ?_
  refine z_iadd d_Law_law_525 ?_
  refine z_sld d_Law_law_526 (zs_in (c := 1) (by omega) hL) ?_
  refine z_aload_n d_Law_law_527 rfl ?_
  refine z_iload d_Law_law_528 rfl ?_
  refine z_iconst (v := 2) d_Law_law_530 (by decide) ?_
  refine z_iadd d_Law_law_531 ?_
  refine z_sld d_Law_law_532 (zs_in (c := 2) (by omega) hL) ?_
  refine z_i2l d_Law_law_533 ?_
  refine z_bipush (v := 32) d_Law_law_534 (by decide) ?_
  refine z_lshl d_Law_law_536 ?_
  refine z_aload_n d_Law_law_537 rfl ?_
  refine z_iload d_Law_law_538 rfl ?_
  refine z_iconst (v := 3) d_Law_law_540 (by decide) ?_
  refine z_iadd d_Law_law_541 ?_
  refine z_sld d_Law_law_542 (zs_in (c := 3) (by omega) hL) ?_
  refine z_i2l d_Law_law_543 ?_
  refine z_ldc2 (v := 4294967295) d_Law_law_544 k_Law_76 ?_
  refine z_land d_Law_law_547 ?_
  refine z_lor d_Law_law_548 ?_
  refine z_aload_n d_Law_law_549 rfl ?_
  refine z_iload d_Law_law_550 rfl ?_
  refine z_iconst (v := 4) d_Law_law_552 (by decide) ?_
  refine z_iadd d_Law_law_553 ?_
  refine z_sld d_Law_law_554 (zs_in (c := 4) (by omega) hL) ?_
  refine z_if_eq d_Law_law_555 562 (by decide) (fun _ => ?_) (fun h9 => absurd ho h9)
  refine z_iconst (v := 0) d_Law_law_562 (by decide) ?_
  refine z_aload_n d_Law_law_563 rfl ?_
  refine z_callSW d_Law_law_564 g_Law_94 hW rfl ⟨Nat.le_of_ble_eq_true rfl, Nat.le_of_ble_eq_true rfl, (show k + mc ≤ 601024 by omega), (show j + ms ≤ 7293034 by omega)⟩ rfl (Nat.le_of_ble_eq_true rfl) ?_
  refine z_istore (lv' := [(0, _), (1, _), (2, _), (3, _), (4, _), (5, _)]) d_Law_law_567 (by decide) rfl ?_
  refine z_aload_n d_Law_law_569 rfl ?_
  refine z_aload_n d_Law_law_570 rfl ?_
  refine z_iload d_Law_law_571 rfl ?_
  refine z_iconst (v := 1) d_Law_law_573 (by decide) ?_
  refine z_iadd d_Law_law_574 ?_
  refine z_sld d_Law_law_575 (zs_in (c := 1) (by omega) hL) ?_
  refine z_aload_n d_Law_law_576 rfl ?_
  refine z_iload d_Law_law_577 rfl ?_
  refine z_iconst (v := 2) d_Law_law_579 (by decide) ?_
  refine z_iadd d_Law_law_580 ?_
  refine z_sld d_Law_law_581 (zs_in (c := 2) (by omega) hL) ?_
  refine z_i2l d_Law_law_582 ?_
  refine z_bipush (v := 32) d_Law_law_583 (by decide) ?_
  refine z_lshl d_Law_law_585 ?_
  refine z_aload_n d_Law_law_586 rfl ?_
  refine z_iload d_Law_law_587 rfl ?_
  refine z_iconst (v := 3) d_Law_law_589 (by decide) ?_
  refine z_iadd d_Law_law_590 ?_
  refine z_sld d_Law_law_591 (zs_in (c := 3) (by omega) hL) ?_
  refine z_i2l d_Law_law_592 ?_
  refine z_ldc2 (v := 4294967295) d_Law_law_593 k_Law_76 ?_
  refine z_land d_Law_law_596 ?_
  refine z_lor d_Law_law_597 ?_
  refine z_aload_n d_Law_law_598 rfl ?_
  refine z_iload d_Law_law_599 rfl ?_
  refine z_iconst (v := 4) d_Law_law_601 (by decide) ?_
  refine z_iadd d_Law_law_602 ?_
  refine z_sld d_Law_law_603 (zs_in (c := 4) (by omega) hL) ?_
  refine z_if_eq d_Law_law_604 611 (by decide) (fun _ => ?_) (fun h9 => absurd ho h9)
  refine z_iconst (v := 0) d_Law_law_611 (by decide) ?_
  refine z_callV1 d_Law_law_612 g_Law_97 hM (by omega) rfl rfl rfl ⟨(show d + 4 ≤ 11 by omega), (show 33 * d + 33 ≤ 404 by omega), (show k + mc + 0 ≤ 601024 by omega), (show j + ms + 0 ≤ 7293034 by omega)⟩ rfl (Nat.le_of_ble_eq_true rfl) ?_
  refine z_lstore (lv' := [(0, _), (1, _), (2, _), (3, _), (4, _), (5, _), (6, _)]) d_Law_law_615 (by decide) rfl ?_
  refine z_aload_n d_Law_law_617 rfl ?_
  refine z_callV1 d_Law_law_618 g_Law_73 (c_Mod_thrown X J2 G2 0) (by omega) rfl rfl rfl ⟨Nat.le_of_ble_eq_true rfl, Nat.le_of_ble_eq_true rfl, (show k + mc + 0 + 0 ≤ 601024 by omega), (show j + ms + 0 + 0 ≤ 7293034 by omega)⟩ rfl (Nat.le_of_ble_eq_true rfl) ?_
  refine z_iload d_Law_law_621 rfl ?_
  refine z_icmp_eq d_Law_law_623 628 (by decide) (fun _ => ?_) (fun h9 => absurd hT h9)
  refine z_iload d_Law_law_628 rfl ?_
  by_cases hz : kk9 = 0
  · refine z_if_ne d_Law_law_630 644 (by decide) (fun h9 => absurd hz h9) (fun _ => ?_)
    refine z_aload_n d_Law_law_633 rfl ?_
    refine z_iconst (v := 0) d_Law_law_634 (by decide) ?_
    refine z_lald d_Law_law_635 (by omega) rfl ⟨rfl, by decide, by decide⟩ ?_
    refine z_lload d_Law_law_636 rfl ?_
    refine z_lcmp d_Law_law_638 ?_
    refine z_if_eq d_Law_law_639 644 (by decide) (fun _ => ?_) (fun h9 => absurd (by rw [hA hz]; exact lg_self _) h9)
    refine z_goto d_Law_law_644 1462 (by decide) ?_
    exact z_loc (lv' := [(0, .ref 901), (1, .ref 0), (2, .ref 40), (3, .ref 59), (4, .int (nI (5 * q)))]) (by simp) (kk _ _ J2 G2 (by omega) (by omega) hI2)
  · refine z_if_ne d_Law_law_630 644 (by decide) (fun _ => ?_) (fun h9 => absurd h9 hz)
    refine z_goto d_Law_law_644 1462 (by decide) ?_
    exact z_loc (lv' := [(0, .ref 901), (1, .ref 0), (2, .ref 40), (3, .ref 59), (4, .int (nI (5 * q)))]) (by simp) (kk _ _ J2 G2 (by omega) (by omega) hI2)
set_option maxRecDepth 100000 in
set_option maxHeartbeats 4000000 in
theorem lc_5t (X : zX) {L q k j : Nat} {xs : Nat → Int32} {J : zJT} {G : zGT} (hI : zIv J G) (hq : 5 * q + 5 ≤ L) (hL : L ≤ 2560) (hk : k ≤ 5000) (hj : j ≤ 50000) (kk : ∀ k1 j1 J1 G1, k1 ≤ k + 1 → j1 ≤ j + 6 → zIv J1 G1 → zJ X room_1 m_Law_law (zLq X L xs) false k1 j1 (hp J1 G1) 60 1462 [(0, .ref 901), (1, .ref 0), (2, .ref 40), (3, .ref 59), (4, .int (nI (5 * q)))] []) (ho : ¬ (xs (5 * q + 4)) = 0) : zJ X room_1 m_Law_law (zLq X L xs) false k j (hp J G) 60 520 [(0, .ref 901), (1, .ref 0), (2, .ref 40), (3, .ref 59), (4, .int (nI (5 * q)))] [] := by
  obtain ⟨kk9, mc, ms, J1, G1, b, d, J2, G2, hmc, hms, hd, hW, hM, hT, hA, hI2⟩ := i_next X J G hI (xs (5 * q + 1)) ((xs (5 * q + 2)).toInt64 <<< ((32 : Int32).toInt64 &&& 63) ||| ((xs (5 * q + 3)).toInt64 &&& 4294967295)) true
  refine z_aload_n d_Law_law_520 rfl ?_
  refine z_aload_n d_Law_law_521 rfl ?_
  refine z_iload d_Law_law_522 rfl ?_
  refine z_iconst (v := 1) d_Law_law_524 (by decide) ?_
  refine z_iadd d_Law_law_525 ?_
  refine z_sld d_Law_law_526 (zs_in (c := 1) (by omega) hL) ?_
  refine z_aload_n d_Law_law_527 rfl ?_
  refine z_iload d_Law_law_528 rfl ?_
  refine z_iconst (v := 2) d_Law_law_530 (by decide) ?_
  refine z_iadd d_Law_law_531 ?_
  refine z_sld d_Law_law_532 (zs_in (c := 2) (by omega) hL) ?_
  refine z_i2l d_Law_law_533 ?_
  refine z_bipush (v := 32) d_Law_law_534 (by decide) ?_
  refine z_lshl d_Law_law_536 ?_
  refine z_aload_n d_Law_law_537 rfl ?_
  refine z_iload d_Law_law_538 rfl ?_
  refine z_iconst (v := 3) d_Law_law_540 (by decide) ?_
  refine z_iadd d_Law_law_541 ?_
  refine z_sld d_Law_law_542 (zs_in (c := 3) (by omega) hL) ?_
  refine z_i2l d_Law_law_543 ?_
  refine z_ldc2 (v := 4294967295) d_Law_law_544 k_Law_76 ?_
  refine z_land d_Law_law_547 ?_
  refine z_lor d_Law_law_548 ?_
  refine z_aload_n d_Law_law_549 rfl ?_
  refine z_iload d_Law_law_550 rfl ?_
  refine z_iconst (v := 4) d_Law_law_552 (by decide) ?_
  refine z_iadd d_Law_law_553 ?_
  refine z_sld d_Law_law_554 (zs_in (c := 4) (by omega) hL) ?_
  refine z_if_eq d_Law_law_555 562 (by decide) (fun h9 => absurd h9 ho) (fun _ => ?_)
  refine z_iconst (v := 1) d_Law_law_558 (by decide) ?_
  refine z_goto d_Law_law_559 563 (by decide) ?_
  refine z_aload_n d_Law_law_563 rfl ?_
  refine z_callSW d_Law_law_564 g_Law_94 hW rfl ⟨Nat.le_of_ble_eq_true rfl, Nat.le_of_ble_eq_true rfl, (show k + mc ≤ 601024 by omega), (show j + ms ≤ 7293034 by omega)⟩ rfl (Nat.le_of_ble_eq_true rfl) ?_
  refine z_istore (lv' := [(0, _), (1, _), (2, _), (3, _), (4, _), (5, _)]) d_Law_law_567 (by decide) rfl ?_
  refine z_aload_n d_Law_law_569 rfl ?_
  refine z_aload_n d_Law_law_570 rfl ?_
  refine z_iload d_Law_law_571 rfl ?_
  refine z_iconst (v := 1) d_Law_law_573 (by decide) ?_
  refine z_iadd d_Law_law_574 ?_
  refine z_sld d_Law_law_575 (zs_in (c := 1) (by omega) hL) ?_
  refine z_aload_n d_Law_law_576 rfl ?_
  refine z_iload d_Law_law_577 rfl ?_
  refine z_iconst (v := 2) d_Law_law_579 (by decide) ?_
  refine z_iadd d_Law_law_580 ?_
  refine z_sld d_Law_law_581 (zs_in (c := 2) (by omega) hL) ?_
  refine z_i2l d_Law_law_582 ?_
  refine z_bipush (v := 32) d_Law_law_583 (by decide) ?_
  refine z_lshl d_Law_law_585 ?_
  refine z_aload_n d_Law_law_586 rfl ?_
  refine z_iload d_Law_law_587 rfl ?_
  refine z_iconst (v := 3) d_Law_law_589 (by decide) ?_
  refine z_iadd d_Law_law_590 ?_
  refine z_sld d_Law_law_591 (zs_in (c := 3) (by omega) hL) ?_
  refine z_i2l d_Law_law_592 ?_
  refine z_ldc2 (v := 4294967295) d_Law_law_593 k_Law_76 ?_
  refine z_land d_Law_law_596 ?_
  refine z_lor d_Law_law_597 ?_
  refine z_aload_n d_Law_law_598 rfl ?_
  refine z_iload d_Law_law_599 rfl ?_
  refine z_iconst (v := 4) d_Law_law_601 (by decide) ?_
  refine z_iadd d_Law_law_602 ?_
  refine z_sld d_Law_law_603 (zs_in (c := 4) (by omega) hL) ?_
  refine z_if_eq d_Law_law_604 611 (by decide) (fun h9 => absurd h9 ho) (fun _ => ?_)
  refine z_iconst (v := 1) d_Law_law_607 (by decide) ?_
  refine z_goto d_Law_law_608 612 (by decide) ?_
  refine z_callV1 d_Law_law_612 g_Law_97 hM (by omega) rfl rfl rfl ⟨(show d + 4 ≤ 11 by omega), (show 33 * d + 33 ≤ 404 by omega), (show k + mc + 0 ≤ 601024 by omega), (show j + ms + 0 ≤ 7293034 by omega)⟩ rfl (Nat.le_of_ble_eq_true rfl) ?_
  refine z_lstore (lv' := [(0, _), (1, _), (2, _), (3, _), (4, _), (5, _), (6, _)]) d_Law_law_615 (by decide) rfl ?_
  refine z_aload_n d_Law_law_617 rfl ?_
  refine z_callV1 d_Law_law_618 g_Law_73 (c_Mod_thrown X J2 G2 0) (by omega) rfl rfl rfl ⟨Nat.le_of_ble_eq_true rfl, Nat.le_of_ble_eq_true rfl, (show k + mc + 0 + 0 ≤ 601024 by omega), (show j + ms + 0 + 0 ≤ 7293034 by omega)⟩ rfl (Nat.le_of_ble_eq_true rfl) ?_
  refine z_iload d_Law_law_621 rfl ?_
  refine z_icmp_eq d_Law_law_623 628 (by decide) (fun _ => ?_) (fun h9 => absurd hT h9)
  refine z_iload d_Law_law_628 rfl ?_
  by_cases hz : kk9 = 0
  · refine z_if_ne d_Law_law_630 644 (by decide) (fun h9 => absurd hz h9) (fun _ => ?_)
    refine z_aload_n d_Law_law_633 rfl ?_
    refine z_iconst (v := 0) d_Law_law_634 (by decide) ?_
    refine z_lald d_Law_law_635 (by omega) rfl ⟨rfl, by decide, by decide⟩ ?_
    refine z_lload d_Law_law_636 rfl ?_
    refine z_lcmp d_Law_law_638 ?_
    refine z_if_eq d_Law_law_639 644 (by decide) (fun _ => ?_) (fun h9 => absurd (by rw [hA hz]; exact lg_self _) h9)
    refine z_goto d_Law_law_644 1462 (by decide) ?_
    exact z_loc (lv' := [(0, .ref 901), (1, .ref 0), (2, .ref 40), (3, .ref 59), (4, .int (nI (5 * q)))]) (by simp) (kk _ _ J2 G2 (by omega) (by omega) hI2)
  · refine z_if_ne d_Law_law_630 644 (by decide) (fun _ => ?_) (fun h9 => absurd h9 hz)
    refine z_goto d_Law_law_644 1462 (by decide) ?_
    exact z_loc (lv' := [(0, .ref 901), (1, .ref 0), (2, .ref 40), (3, .ref 59), (4, .int (nI (5 * q)))]) (by simp) (kk _ _ J2 G2 (by omega) (by omega) hI2)
set_option maxRecDepth 100000 in
set_option maxHeartbeats 4000000 in
theorem lc_6 (X : zX) {L q k j : Nat} {xs : Nat → Int32} {J : zJT} {G : zGT} (hI : zIv J G) (hq : 5 * q + 5 ≤ L) (hL : L ≤ 2560) (hk : k ≤ 5000) (hj : j ≤ 50000) (kk : ∀ k1 j1 J1 G1, k1 ≤ k + 1 → j1 ≤ j + 6 → zIv J1 G1 → zJ X room_1 m_Law_law (zLq X L xs) false k1 j1 (hp J1 G1) 60 1462 [(0, .ref 901), (1, .ref 0), (2, .ref 40), (3, .ref 59), (4, .int (nI (5 * q)))] []) : zJ X room_1 m_Law_law (zLq X L xs) false k j (hp J G) 60 647 [(0, .ref 901), (1, .ref 0), (2, .ref 40), (3, .ref 59), (4, .int (nI (5 * q)))] [] := by
  obtain ⟨kk9, mc, ms, J1, G1, b, d, J2, G2, hmc, hms, hd, hW, hM, hT, hA, hI2⟩ := i_value X J G hI (xs (5 * q + 1)) ((xs (5 * q + 2)).toInt64 <<< ((32 : Int32).toInt64 &&& 63) ||| ((xs (5 * q + 3)).toInt64 &&& 4294967295)) (xs (5 * q + 4))
  refine z_aload_n d_Law_law_647 rfl ?_
  refine z_aload_n d_Law_law_648 rfl ?_
  refine z_iload d_Law_law_649 rfl ?_
  refine z_iconst (v := 1) d_Law_law_651 (by decide) ?_
  refine z_iadd d_Law_law_652 ?_
  refine z_sld d_Law_law_653 (zs_in (c := 1) (by omega) hL) ?_
  refine z_aload_n d_Law_law_654 rfl ?_
  refine z_iload d_Law_law_655 rfl ?_
  refine z_iconst (v := 2) d_Law_law_657 (by decide) ?_
  refine z_iadd d_Law_law_658 ?_
  refine z_sld d_Law_law_659 (zs_in (c := 2) (by omega) hL) ?_
  refine z_i2l d_Law_law_660 ?_
  refine z_bipush (v := 32) d_Law_law_661 (by decide) ?_
  refine z_lshl d_Law_law_663 ?_
  refine z_aload_n d_Law_law_664 rfl ?_
  refine z_iload d_Law_law_665 rfl ?_
  refine z_iconst (v := 3) d_Law_law_667 (by decide) ?_
  refine z_iadd d_Law_law_668 ?_
  refine z_sld d_Law_law_669 (zs_in (c := 3) (by omega) hL) ?_
  refine z_i2l d_Law_law_670 ?_
  refine z_ldc2 (v := 4294967295) d_Law_law_671 k_Law_76 ?_
  refine z_land d_Law_law_674 ?_
  refine z_lor d_Law_law_675 ?_
  refine z_aload_n d_Law_law_676 rfl ?_
  refine z_iload d_Law_law_677 rfl ?_
  refine z_iconst (v := 4) d_Law_law_679 (by decide) ?_
  refine z_iadd d_Law_law_680 ?_
  refine z_sld d_Law_law_681 (zs_in (c := 4) (by omega) hL) ?_
  refine z_aload_n d_Law_law_682 rfl ?_
  refine z_callSW d_Law_law_683 g_Law_98 hW rfl ⟨Nat.le_of_ble_eq_true rfl, Nat.le_of_ble_eq_true rfl, (show k + mc ≤ 601024 by omega), (show j + ms ≤ 7293034 by omega)⟩ rfl (Nat.le_of_ble_eq_true rfl) ?_
  refine z_istore (lv' := [(0, _), (1, _), (2, _), (3, _), (4, _), (5, _)]) d_Law_law_686 (by decide) rfl ?_
  refine z_aload_n d_Law_law_688 rfl ?_
  refine z_aload_n d_Law_law_689 rfl ?_
  refine z_iload d_Law_law_690 rfl ?_
  refine z_iconst (v := 1) d_Law_law_692 (by decide) ?_
  refine z_iadd d_Law_law_693 ?_
  refine z_sld d_Law_law_694 (zs_in (c := 1) (by omega) hL) ?_
  refine z_aload_n d_Law_law_695 rfl ?_
  refine z_iload d_Law_law_696 rfl ?_
  refine z_iconst (v := 2) d_Law_law_698 (by decide) ?_
  refine z_iadd d_Law_law_699 ?_
  refine z_sld d_Law_law_700 (zs_in (c := 2) (by omega) hL) ?_
  refine z_i2l d_Law_law_701 ?_
  refine z_bipush (v := 32) d_Law_law_702 (by decide) ?_
  refine z_lshl d_Law_law_704 ?_
  refine z_aload_n d_Law_law_705 rfl ?_
  refine z_iload d_Law_law_706 rfl ?_
  refine z_iconst (v := 3) d_Law_law_708 (by decide) ?_
  refine z_iadd d_Law_law_709 ?_
  refine z_sld d_Law_law_710 (zs_in (c := 3) (by omega) hL) ?_
  refine z_i2l d_Law_law_711 ?_
  refine z_ldc2 (v := 4294967295) d_Law_law_712 k_Law_76 ?_
  refine z_land d_Law_law_715 ?_
  refine z_lor d_Law_law_716 ?_
  refine z_aload_n d_Law_law_717 rfl ?_
  refine z_iload d_Law_law_718 rfl ?_
  refine z_iconst (v := 4) d_Law_law_720 (by decide) ?_
  refine z_iadd d_Law_law_721 ?_
  refine z_sld d_Law_law_722 (zs_in (c := 4) (by omega) hL) ?_
  refine z_callV1 d_Law_law_723 g_Law_101 hM (by omega) rfl rfl rfl ⟨(show d + 4 ≤ 11 by omega), (show 33 * d + 33 ≤ 404 by omega), (show k + mc + 0 ≤ 601024 by omega), (show j + ms + 0 ≤ 7293034 by omega)⟩ rfl (Nat.le_of_ble_eq_true rfl) ?_
  refine z_lstore (lv' := [(0, _), (1, _), (2, _), (3, _), (4, _), (5, _), (6, _)]) d_Law_law_726 (by decide) rfl ?_
  refine z_aload_n d_Law_law_728 rfl ?_
  refine z_callV1 d_Law_law_729 g_Law_73 (c_Mod_thrown X J2 G2 0) (by omega) rfl rfl rfl ⟨Nat.le_of_ble_eq_true rfl, Nat.le_of_ble_eq_true rfl, (show k + mc + 0 + 0 ≤ 601024 by omega), (show j + ms + 0 + 0 ≤ 7293034 by omega)⟩ rfl (Nat.le_of_ble_eq_true rfl) ?_
  refine z_iload d_Law_law_732 rfl ?_
  refine z_icmp_eq d_Law_law_734 739 (by decide) (fun _ => ?_) (fun h9 => absurd hT h9)
  refine z_iload d_Law_law_739 rfl ?_
  by_cases hz : kk9 = 0
  · refine z_if_ne d_Law_law_741 755 (by decide) (fun h9 => absurd hz h9) (fun _ => ?_)
    refine z_aload_n d_Law_law_744 rfl ?_
    refine z_iconst (v := 0) d_Law_law_745 (by decide) ?_
    refine z_lald d_Law_law_746 (by omega) rfl ⟨rfl, by decide, by decide⟩ ?_
    refine z_lload d_Law_law_747 rfl ?_
    refine z_lcmp d_Law_law_749 ?_
    refine z_if_eq d_Law_law_750 755 (by decide) (fun _ => ?_) (fun h9 => absurd (by rw [hA hz]; exact lg_self _) h9)
    refine z_goto d_Law_law_755 1462 (by decide) ?_
    exact z_loc (lv' := [(0, .ref 901), (1, .ref 0), (2, .ref 40), (3, .ref 59), (4, .int (nI (5 * q)))]) (by simp) (kk _ _ J2 G2 (by omega) (by omega) hI2)
  · refine z_if_ne d_Law_law_741 755 (by decide) (fun _ => ?_) (fun h9 => absurd h9 hz)
    refine z_goto d_Law_law_755 1462 (by decide) ?_
    exact z_loc (lv' := [(0, .ref 901), (1, .ref 0), (2, .ref 40), (3, .ref 59), (4, .int (nI (5 * q)))]) (by simp) (kk _ _ J2 G2 (by omega) (by omega) hI2)
set_option maxRecDepth 100000 in
set_option maxHeartbeats 4000000 in
theorem lc_7 (X : zX) {L q k j : Nat} {xs : Nat → Int32} {J : zJT} {G : zGT} (hI : zIv J G) (hq : 5 * q + 5 ≤ L) (hL : L ≤ 2560) (hk : k ≤ 5000) (hj : j ≤ 50000) (kk : ∀ k1 j1 J1 G1, k1 ≤ k + 1 → j1 ≤ j + 6 → zIv J1 G1 → zJ X room_1 m_Law_law (zLq X L xs) false k1 j1 (hp J1 G1) 60 1462 [(0, .ref 901), (1, .ref 0), (2, .ref 40), (3, .ref 59), (4, .int (nI (5 * q)))] []) : zJ X room_1 m_Law_law (zLq X L xs) false k j (hp J G) 60 758 [(0, .ref 901), (1, .ref 0), (2, .ref 40), (3, .ref 59), (4, .int (nI (5 * q)))] [] := by
  obtain ⟨kk9, mc, ms, J1, G1, b, d, J2, G2, hmc, hms, hd, hW, hM, hT, hA, hI2⟩ := i_isNull X J G hI (xs (5 * q + 1)) ((xs (5 * q + 2)).toInt64 <<< ((32 : Int32).toInt64 &&& 63) ||| ((xs (5 * q + 3)).toInt64 &&& 4294967295)) (xs (5 * q + 4))
  cases b
  · refine z_aload_n d_Law_law_758 rfl ?_
    refine z_aload_n d_Law_law_759 rfl ?_
    refine z_iload d_Law_law_760 rfl ?_
    refine z_iconst (v := 1) d_Law_law_762 (by decide) ?_
    refine z_iadd d_Law_law_763 ?_
    refine z_sld d_Law_law_764 (zs_in (c := 1) (by omega) hL) ?_
    refine z_aload_n d_Law_law_765 rfl ?_
    refine z_iload d_Law_law_766 rfl ?_
    refine z_iconst (v := 2) d_Law_law_768 (by decide) ?_
    refine z_iadd d_Law_law_769 ?_
    refine z_sld d_Law_law_770 (zs_in (c := 2) (by omega) hL) ?_
    refine z_i2l d_Law_law_771 ?_
    refine z_bipush (v := 32) d_Law_law_772 (by decide) ?_
    refine z_lshl d_Law_law_774 ?_
    refine z_aload_n d_Law_law_775 rfl ?_
    refine z_iload d_Law_law_776 rfl ?_
    refine z_iconst (v := 3) d_Law_law_778 (by decide) ?_
    refine z_iadd d_Law_law_779 ?_
    refine z_sld d_Law_law_780 (zs_in (c := 3) (by omega) hL) ?_
    refine z_i2l d_Law_law_781 ?_
    refine z_ldc2 (v := 4294967295) d_Law_law_782 k_Law_76 ?_
    refine z_land d_Law_law_785 ?_
    refine z_lor d_Law_law_786 ?_
    refine z_aload_n d_Law_law_787 rfl ?_
    refine z_iload d_Law_law_788 rfl ?_
    refine z_iconst (v := 4) d_Law_law_790 (by decide) ?_
    refine z_iadd d_Law_law_791 ?_
    refine z_sld d_Law_law_792 (zs_in (c := 4) (by omega) hL) ?_
    refine z_aload_n d_Law_law_793 rfl ?_
    refine z_callSW d_Law_law_794 g_Law_102 hW rfl ⟨Nat.le_of_ble_eq_true rfl, Nat.le_of_ble_eq_true rfl, (show k + mc ≤ 601024 by omega), (show j + ms ≤ 7293034 by omega)⟩ rfl (Nat.le_of_ble_eq_true rfl) ?_
    refine z_istore (lv' := [(0, _), (1, _), (2, _), (3, _), (4, _), (5, _)]) d_Law_law_797 (by decide) rfl ?_
    refine z_aload_n d_Law_law_799 rfl ?_
    refine z_aload_n d_Law_law_800 rfl ?_
    refine z_iload d_Law_law_801 rfl ?_
    refine z_iconst (v := 1) d_Law_law_803 (by decide) ?_
    refine z_iadd d_Law_law_804 ?_
    refine z_sld d_Law_law_805 (zs_in (c := 1) (by omega) hL) ?_
    refine z_aload_n d_Law_law_806 rfl ?_
    refine z_iload d_Law_law_807 rfl ?_
    refine z_iconst (v := 2) d_Law_law_809 (by decide) ?_
    refine z_iadd d_Law_law_810 ?_
    refine z_sld d_Law_law_811 (zs_in (c := 2) (by omega) hL) ?_
    refine z_i2l d_Law_law_812 ?_
    refine z_bipush (v := 32) d_Law_law_813 (by decide) ?_
    refine z_lshl d_Law_law_815 ?_
    refine z_aload_n d_Law_law_816 rfl ?_
    refine z_iload d_Law_law_817 rfl ?_
    refine z_iconst (v := 3) d_Law_law_819 (by decide) ?_
    refine z_iadd d_Law_law_820 ?_
    refine z_sld d_Law_law_821 (zs_in (c := 3) (by omega) hL) ?_
    refine z_i2l d_Law_law_822 ?_
    refine z_ldc2 (v := 4294967295) d_Law_law_823 k_Law_76 ?_
    refine z_land d_Law_law_826 ?_
    refine z_lor d_Law_law_827 ?_
    refine z_aload_n d_Law_law_828 rfl ?_
    refine z_iload d_Law_law_829 rfl ?_
    refine z_iconst (v := 4) d_Law_law_831 (by decide) ?_
    refine z_iadd d_Law_law_832 ?_
    refine z_sld d_Law_law_833 (zs_in (c := 4) (by omega) hL) ?_
    refine z_callV1 d_Law_law_834 g_Law_104 hM (by omega) rfl rfl rfl ⟨(show d + 4 ≤ 11 by omega), (show 33 * d + 33 ≤ 404 by omega), (show k + mc + 0 ≤ 601024 by omega), (show j + ms + 0 ≤ 7293034 by omega)⟩ rfl (Nat.le_of_ble_eq_true rfl) ?_
    refine z_istore (lv' := [(0, _), (1, _), (2, _), (3, _), (4, _), (5, _), (6, _)]) d_Law_law_837 (by decide) rfl ?_
    refine z_aload_n d_Law_law_839 rfl ?_
    refine z_callV1 d_Law_law_840 g_Law_73 (c_Mod_thrown X J2 G2 0) (by omega) rfl rfl rfl ⟨Nat.le_of_ble_eq_true rfl, Nat.le_of_ble_eq_true rfl, (show k + mc + 0 + 0 ≤ 601024 by omega), (show j + ms + 0 + 0 ≤ 7293034 by omega)⟩ rfl (Nat.le_of_ble_eq_true rfl) ?_
    refine z_iload d_Law_law_843 rfl ?_
    refine z_icmp_eq d_Law_law_845 850 (by decide) (fun _ => ?_) (fun h9 => absurd hT h9)
    refine z_iload d_Law_law_850 rfl ?_
    by_cases hz : kk9 = 0
    · refine z_if_ne d_Law_law_852 874 (by decide) (fun h9 => absurd hz h9) (fun _ => ?_)
      refine z_aload_n d_Law_law_855 rfl ?_
      refine z_iconst (v := 0) d_Law_law_856 (by decide) ?_
      refine z_lald d_Law_law_857 (by omega) rfl ⟨rfl, by decide, by decide⟩ ?_
      refine z_iload d_Law_law_858 rfl ?_
      refine z_if_eq d_Law_law_860 867 (by decide) (fun _ => ?_) (fun h9 => absurd rfl h9)
      refine z_lconst (v := 0) d_Law_law_867 (by decide) ?_
      refine z_lcmp d_Law_law_868 ?_
      refine z_if_eq d_Law_law_869 874 (by decide) (fun _ => ?_) (fun h9 => absurd (by rw [hA hz]; exact lg_self _) h9)
      refine z_goto d_Law_law_874 1462 (by decide) ?_
      exact z_loc (lv' := [(0, .ref 901), (1, .ref 0), (2, .ref 40), (3, .ref 59), (4, .int (nI (5 * q)))]) (by simp) (kk _ _ J2 G2 (by omega) (by omega) hI2)
    · refine z_if_ne d_Law_law_852 874 (by decide) (fun _ => ?_) (fun h9 => absurd h9 hz)
      refine z_goto d_Law_law_874 1462 (by decide) ?_
      exact z_loc (lv' := [(0, .ref 901), (1, .ref 0), (2, .ref 40), (3, .ref 59), (4, .int (nI (5 * q)))]) (by simp) (kk _ _ J2 G2 (by omega) (by omega) hI2)
  · refine z_aload_n d_Law_law_758 rfl ?_
    refine z_aload_n d_Law_law_759 rfl ?_
    refine z_iload d_Law_law_760 rfl ?_
    refine z_iconst (v := 1) d_Law_law_762 (by decide) ?_
    refine z_iadd d_Law_law_763 ?_
    refine z_sld d_Law_law_764 (zs_in (c := 1) (by omega) hL) ?_
    refine z_aload_n d_Law_law_765 rfl ?_
    refine z_iload d_Law_law_766 rfl ?_
    refine z_iconst (v := 2) d_Law_law_768 (by decide) ?_
    refine z_iadd d_Law_law_769 ?_
    refine z_sld d_Law_law_770 (zs_in (c := 2) (by omega) hL) ?_
    refine z_i2l d_Law_law_771 ?_
    refine z_bipush (v := 32) d_Law_law_772 (by decide) ?_
    refine z_lshl d_Law_law_774 ?_
    refine z_aload_n d_Law_law_775 rfl ?_
    refine z_iload d_Law_law_776 rfl ?_
    refine z_iconst (v := 3) d_Law_law_778 (by decide) ?_
    refine z_iadd d_Law_law_779 ?_
    refine z_sld d_Law_law_780 (zs_in (c := 3) (by omega) hL) ?_
    refine z_i2l d_Law_law_781 ?_
    refine z_ldc2 (v := 4294967295) d_Law_law_782 k_Law_76 ?_
    refine z_land d_Law_law_785 ?_
    refine z_lor d_Law_law_786 ?_
    refine z_aload_n d_Law_law_787 rfl ?_
    refine z_iload d_Law_law_788 rfl ?_
    refine z_iconst (v := 4) d_Law_law_790 (by decide) ?_
    refine z_iadd d_Law_law_791 ?_
    refine z_sld d_Law_law_792 (zs_in (c := 4) (by omega) hL) ?_
    refine z_aload_n d_Law_law_793 rfl ?_
    refine z_callSW d_Law_law_794 g_Law_102 hW rfl ⟨Nat.le_of_ble_eq_true rfl, Nat.le_of_ble_eq_true rfl, (show k + mc ≤ 601024 by omega), (show j + ms ≤ 7293034 by omega)⟩ rfl (Nat.le_of_ble_eq_true rfl) ?_
    refine z_istore (lv' := [(0, _), (1, _), (2, _), (3, _), (4, _), (5, _)]) d_Law_law_797 (by decide) rfl ?_
    refine z_aload_n d_Law_law_799 rfl ?_
    refine z_aload_n d_Law_law_800 rfl ?_
    refine z_iload d_Law_law_801 rfl ?_
    refine z_iconst (v := 1) d_Law_law_803 (by decide) ?_
    refine z_iadd d_Law_law_804 ?_
    refine z_sld d_Law_law_805 (zs_in (c := 1) (by omega) hL) ?_
    refine z_aload_n d_Law_law_806 rfl ?_
    refine z_iload d_Law_law_807 rfl ?_
    refine z_iconst (v := 2) d_Law_law_809 (by decide) ?_
    refine z_iadd d_Law_law_810 ?_
    refine z_sld d_Law_law_811 (zs_in (c := 2) (by omega) hL) ?_
    refine z_i2l d_Law_law_812 ?_
    refine z_bipush (v := 32) d_Law_law_813 (by decide) ?_
    refine z_lshl d_Law_law_815 ?_
    refine z_aload_n d_Law_law_816 rfl ?_
    refine z_iload d_Law_law_817 rfl ?_
    refine z_iconst (v := 3) d_Law_law_819 (by decide) ?_
    refine z_iadd d_Law_law_820 ?_
    refine z_sld d_Law_law_821 (zs_in (c := 3) (by omega) hL) ?_
    refine z_i2l d_Law_law_822 ?_
    refine z_ldc2 (v := 4294967295) d_Law_law_823 k_Law_76 ?_
    refine z_land d_Law_law_826 ?_
    refine z_lor d_Law_law_827 ?_
    refine z_aload_n d_Law_law_828 rfl ?_
    refine z_iload d_Law_law_829 rfl ?_
    refine z_iconst (v := 4) d_Law_law_831 (by decide) ?_
    refine z_iadd d_Law_law_832 ?_
    refine z_sld d_Law_law_833 (zs_in (c := 4) (by omega) hL) ?_
    refine z_callV1 d_Law_law_834 g_Law_104 hM (by omega) rfl rfl rfl ⟨(show d + 4 ≤ 11 by omega), (show 33 * d + 33 ≤ 404 by omega), (show k + mc + 0 ≤ 601024 by omega), (show j + ms + 0 ≤ 7293034 by omega)⟩ rfl (Nat.le_of_ble_eq_true rfl) ?_
    refine z_istore (lv' := [(0, _), (1, _), (2, _), (3, _), (4, _), (5, _), (6, _)]) d_Law_law_837 (by decide) rfl ?_
    refine z_aload_n d_Law_law_839 rfl ?_
    refine z_callV1 d_Law_law_840 g_Law_73 (c_Mod_thrown X J2 G2 0) (by omega) rfl rfl rfl ⟨Nat.le_of_ble_eq_true rfl, Nat.le_of_ble_eq_true rfl, (show k + mc + 0 + 0 ≤ 601024 by omega), (show j + ms + 0 + 0 ≤ 7293034 by omega)⟩ rfl (Nat.le_of_ble_eq_true rfl) ?_
    refine z_iload d_Law_law_843 rfl ?_
    refine z_icmp_eq d_Law_law_845 850 (by decide) (fun _ => ?_) (fun h9 => absurd hT h9)
    refine z_iload d_Law_law_850 rfl ?_
    by_cases hz : kk9 = 0
    · refine z_if_ne d_Law_law_852 874 (by decide) (fun h9 => absurd hz h9) (fun _ => ?_)
      refine z_aload_n d_Law_law_855 rfl ?_
      refine z_iconst (v := 0) d_Law_law_856 (by decide) ?_
      refine z_lald d_Law_law_857 (by omega) rfl ⟨rfl, by decide, by decide⟩ ?_
      refine z_iload d_Law_law_858 rfl ?_
      refine z_if_eq d_Law_law_860 867 (by decide) (fun h9 => absurd h9 (by decide)) (fun _ => ?_)
      refine z_lconst (v := 1) d_Law_law_863 (by decide) ?_
      refine z_goto d_Law_law_864 868 (by decide) ?_
      refine z_lcmp d_Law_law_868 ?_
      refine z_if_eq d_Law_law_869 874 (by decide) (fun _ => ?_) (fun h9 => absurd (by rw [hA hz]; exact lg_self _) h9)
      refine z_goto d_Law_law_874 1462 (by decide) ?_
      exact z_loc (lv' := [(0, .ref 901), (1, .ref 0), (2, .ref 40), (3, .ref 59), (4, .int (nI (5 * q)))]) (by simp) (kk _ _ J2 G2 (by omega) (by omega) hI2)
    · refine z_if_ne d_Law_law_852 874 (by decide) (fun _ => ?_) (fun h9 => absurd h9 hz)
      refine z_goto d_Law_law_874 1462 (by decide) ?_
      exact z_loc (lv' := [(0, .ref 901), (1, .ref 0), (2, .ref 40), (3, .ref 59), (4, .int (nI (5 * q)))]) (by simp) (kk _ _ J2 G2 (by omega) (by omega) hI2)
set_option maxRecDepth 100000 in
set_option maxHeartbeats 4000000 in
theorem lc_8 (X : zX) {L q k j : Nat} {xs : Nat → Int32} {J : zJT} {G : zGT} (hI : zIv J G) (hq : 5 * q + 5 ≤ L) (hL : L ≤ 2560) (hk : k ≤ 5000) (hj : j ≤ 50000) (kk : ∀ k1 j1 J1 G1, k1 ≤ k + 1 → j1 ≤ j + 6 → zIv J1 G1 → zJ X room_1 m_Law_law (zLq X L xs) false k1 j1 (hp J1 G1) 60 1462 [(0, .ref 901), (1, .ref 0), (2, .ref 40), (3, .ref 59), (4, .int (nI (5 * q)))] []) : zJ X room_1 m_Law_law (zLq X L xs) false k j (hp J G) 60 877 [(0, .ref 901), (1, .ref 0), (2, .ref 40), (3, .ref 59), (4, .int (nI (5 * q)))] [] := by
  obtain ⟨kk9, mc, ms, J1, G1, b, d, J2, G2, hmc, hms, hd, hW, hM, hT, hA, hI2⟩ := i_add X J G hI (xs (5 * q + 1)) (xs (5 * q + 2)) (xs (5 * q + 3)) (xs (5 * q + 4))
  refine z_aload_n d_Law_law_877 rfl ?_
  refine z_aload_n d_Law_law_878 rfl ?_
  refine z_iload d_Law_law_879 rfl ?_
  refine z_iconst (v := 1) d_Law_law_881 (by decide) ?_
  refine z_iadd d_Law_law_882 ?_
  refine z_sld d_Law_law_883 (zs_in (c := 1) (by omega) hL) ?_
  refine z_aload_n d_Law_law_884 rfl ?_
  refine z_iload d_Law_law_885 rfl ?_
  refine z_iconst (v := 2) d_Law_law_887 (by decide) ?_
  refine z_iadd d_Law_law_888 ?_
  refine z_sld d_Law_law_889 (zs_in (c := 2) (by omega) hL) ?_
  refine z_aload_n d_Law_law_890 rfl ?_
  refine z_iload d_Law_law_891 rfl ?_
  refine z_iconst (v := 3) d_Law_law_893 (by decide) ?_
  refine z_iadd d_Law_law_894 ?_
  refine z_sld d_Law_law_895 (zs_in (c := 3) (by omega) hL) ?_
  refine z_aload_n d_Law_law_896 rfl ?_
  refine z_iload d_Law_law_897 rfl ?_
  refine z_iconst (v := 4) d_Law_law_899 (by decide) ?_
  refine z_iadd d_Law_law_900 ?_
  refine z_sld d_Law_law_901 (zs_in (c := 4) (by omega) hL) ?_
  refine z_aload_n d_Law_law_902 rfl ?_
  refine z_callSW d_Law_law_903 g_Law_105 hW rfl ⟨Nat.le_of_ble_eq_true rfl, Nat.le_of_ble_eq_true rfl, (show k + mc ≤ 601024 by omega), (show j + ms ≤ 7293034 by omega)⟩ rfl (Nat.le_of_ble_eq_true rfl) ?_
  refine z_istore (lv' := [(0, _), (1, _), (2, _), (3, _), (4, _), (5, _)]) d_Law_law_906 (by decide) rfl ?_
  refine z_aload_n d_Law_law_908 rfl ?_
  refine z_aload_n d_Law_law_909 rfl ?_
  refine z_iload d_Law_law_910 rfl ?_
  refine z_iconst (v := 1) d_Law_law_912 (by decide) ?_
  refine z_iadd d_Law_law_913 ?_
  refine z_sld d_Law_law_914 (zs_in (c := 1) (by omega) hL) ?_
  refine z_aload_n d_Law_law_915 rfl ?_
  refine z_iload d_Law_law_916 rfl ?_
  refine z_iconst (v := 2) d_Law_law_918 (by decide) ?_
  refine z_iadd d_Law_law_919 ?_
  refine z_sld d_Law_law_920 (zs_in (c := 2) (by omega) hL) ?_
  refine z_aload_n d_Law_law_921 rfl ?_
  refine z_iload d_Law_law_922 rfl ?_
  refine z_iconst (v := 3) d_Law_law_924 (by decide) ?_
  refine z_iadd d_Law_law_925 ?_
  refine z_sld d_Law_law_926 (zs_in (c := 3) (by omega) hL) ?_
  refine z_aload_n d_Law_law_927 rfl ?_
  refine z_iload d_Law_law_928 rfl ?_
  refine z_iconst (v := 4) d_Law_law_930 (by decide) ?_
  refine z_iadd d_Law_law_931 ?_
  refine z_sld d_Law_law_932 (zs_in (c := 4) (by omega) hL) ?_
  refine z_callV1 d_Law_law_933 g_Law_108 hM (by omega) rfl rfl rfl ⟨(show d + 4 ≤ 11 by omega), (show 33 * d + 33 ≤ 404 by omega), (show k + mc + 0 ≤ 601024 by omega), (show j + ms + 0 ≤ 7293034 by omega)⟩ rfl (Nat.le_of_ble_eq_true rfl) ?_
  refine z_istore (lv' := [(0, _), (1, _), (2, _), (3, _), (4, _), (5, _), (6, _)]) d_Law_law_936 (by decide) rfl ?_
  refine z_aload_n d_Law_law_938 rfl ?_
  refine z_callV1 d_Law_law_939 g_Law_73 (c_Mod_thrown X J2 G2 0) (by omega) rfl rfl rfl ⟨Nat.le_of_ble_eq_true rfl, Nat.le_of_ble_eq_true rfl, (show k + mc + 0 + 0 ≤ 601024 by omega), (show j + ms + 0 + 0 ≤ 7293034 by omega)⟩ rfl (Nat.le_of_ble_eq_true rfl) ?_
  refine z_iload d_Law_law_942 rfl ?_
  refine z_icmp_eq d_Law_law_944 949 (by decide) (fun _ => ?_) (fun h9 => absurd hT h9)
  refine z_iload d_Law_law_949 rfl ?_
  by_cases hz : kk9 = 0
  · refine z_if_ne d_Law_law_951 966 (by decide) (fun h9 => absurd hz h9) (fun _ => ?_)
    refine z_aload_n d_Law_law_954 rfl ?_
    refine z_iconst (v := 0) d_Law_law_955 (by decide) ?_
    refine z_lald d_Law_law_956 (by omega) rfl ⟨rfl, by decide, by decide⟩ ?_
    refine z_iload d_Law_law_957 rfl ?_
    refine z_i2l d_Law_law_959 ?_
    refine z_lcmp d_Law_law_960 ?_
    refine z_if_eq d_Law_law_961 966 (by decide) (fun _ => ?_) (fun h9 => absurd (by rw [hA hz]; exact lg_self _) h9)
    refine z_goto d_Law_law_966 1462 (by decide) ?_
    exact z_loc (lv' := [(0, .ref 901), (1, .ref 0), (2, .ref 40), (3, .ref 59), (4, .int (nI (5 * q)))]) (by simp) (kk _ _ J2 G2 (by omega) (by omega) hI2)
  · refine z_if_ne d_Law_law_951 966 (by decide) (fun _ => ?_) (fun h9 => absurd h9 hz)
    refine z_goto d_Law_law_966 1462 (by decide) ?_
    exact z_loc (lv' := [(0, .ref 901), (1, .ref 0), (2, .ref 40), (3, .ref 59), (4, .int (nI (5 * q)))]) (by simp) (kk _ _ J2 G2 (by omega) (by omega) hI2)
set_option maxRecDepth 100000 in
set_option maxHeartbeats 4000000 in
theorem lc_9 (X : zX) {L q k j : Nat} {xs : Nat → Int32} {J : zJT} {G : zGT} (hI : zIv J G) (hq : 5 * q + 5 ≤ L) (hL : L ≤ 2560) (hk : k ≤ 5000) (hj : j ≤ 50000) (kk : ∀ k1 j1 J1 G1, k1 ≤ k + 1 → j1 ≤ j + 6 → zIv J1 G1 → zJ X room_1 m_Law_law (zLq X L xs) false k1 j1 (hp J1 G1) 60 1462 [(0, .ref 901), (1, .ref 0), (2, .ref 40), (3, .ref 59), (4, .int (nI (5 * q)))] []) : zJ X room_1 m_Law_law (zLq X L xs) false k j (hp J G) 60 969 [(0, .ref 901), (1, .ref 0), (2, .ref 40), (3, .ref 59), (4, .int (nI (5 * q)))] [] := by
  obtain ⟨J1, J2, hC, hM, hI2⟩ := i_wipe X J G hI
  refine z_aload_n d_Law_law_969 rfl ?_
  refine z_callV0 d_Law_law_970 g_Law_109 hC (by omega) rfl rfl rfl ⟨(show 0 + 4 ≤ 11 by omega), (show 33 * 0 + 33 ≤ 404 by omega), (show k + 0 ≤ 601024 by omega), (show j + 0 ≤ 7293034 by omega)⟩ rfl (Nat.le_of_ble_eq_true rfl) ?_
  refine z_aload_n d_Law_law_973 rfl ?_
  refine z_callV0 d_Law_law_974 g_Law_112 hM (by omega) rfl rfl rfl ⟨(show 0 + 4 ≤ 11 by omega), (show 33 * 0 + 33 ≤ 404 by omega), (show k + 0 + 0 ≤ 601024 by omega), (show j + 0 + 0 ≤ 7293034 by omega)⟩ rfl (Nat.le_of_ble_eq_true rfl) ?_
  refine z_goto d_Law_law_977 1462 (by decide) ?_
  exact z_loc (lv' := [(0, .ref 901), (1, .ref 0), (2, .ref 40), (3, .ref 59), (4, .int (nI (5 * q)))]) (by simp) (kk _ _ J2 G (by omega) (by omega) hI2)
set_option maxRecDepth 100000 in
set_option maxHeartbeats 4000000 in
theorem lc_10 (X : zX) {L q k j : Nat} {xs : Nat → Int32} {J : zJT} {G : zGT} (hI : zIv J G) (hq : 5 * q + 5 ≤ L) (hL : L ≤ 2560) (hk : k ≤ 5000) (hj : j ≤ 50000) (kk : ∀ k1 j1 J1 G1, k1 ≤ k + 1 → j1 ≤ j + 6 → zIv J1 G1 → zJ X room_1 m_Law_law (zLq X L xs) false k1 j1 (hp J1 G1) 60 1462 [(0, .ref 901), (1, .ref 0), (2, .ref 40), (3, .ref 59), (4, .int (nI (5 * q)))] []) : zJ X room_1 m_Law_law (zLq X L xs) false k j (hp J G) 60 980 [(0, .ref 901), (1, .ref 0), (2, .ref 40), (3, .ref 59), (4, .int (nI (5 * q)))] [] := by
  obtain ⟨kk9, mc, ms, J1, G1, b, d, J2, G2, hmc, hms, hd, hW, hM, hT, hA, hI2⟩ := i_code X J G hI (xs (5 * q + 1)) (xs (5 * q + 2))
  refine z_aload_n d_Law_law_980 rfl ?_
  refine z_aload_n d_Law_law_981 rfl ?_
  refine z_iload d_Law_law_982 rfl ?_
  refine z_iconst (v := 1) d_Law_law_984 (by decide) ?_
  refine z_iadd d_Law_law_985 ?_
  refine z_sld d_Law_law_986 (zs_in (c := 1) (by omega) hL) ?_
  refine z_aload_n d_Law_law_987 rfl ?_
  refine z_iload d_Law_law_988 rfl ?_
  refine z_iconst (v := 2) d_Law_law_990 (by decide) ?_
  refine z_iadd d_Law_law_991 ?_
  refine z_sld d_Law_law_992 (zs_in (c := 2) (by omega) hL) ?_
  refine z_aload_n d_Law_law_993 rfl ?_
  refine z_callSW d_Law_law_994 g_Law_113 hW rfl ⟨Nat.le_of_ble_eq_true rfl, Nat.le_of_ble_eq_true rfl, (show k + mc ≤ 601024 by omega), (show j + ms ≤ 7293034 by omega)⟩ rfl (Nat.le_of_ble_eq_true rfl) ?_
  refine z_istore (lv' := [(0, _), (1, _), (2, _), (3, _), (4, _), (5, _)]) d_Law_law_997 (by decide) rfl ?_
  refine z_aload_n d_Law_law_999 rfl ?_
  refine z_aload_n d_Law_law_1000 rfl ?_
  refine z_iload d_Law_law_1001 rfl ?_
  refine z_iconst (v := 1) d_Law_law_1003 (by decide) ?_
  refine z_iadd d_Law_law_1004 ?_
  refine z_sld d_Law_law_1005 (zs_in (c := 1) (by omega) hL) ?_
  refine z_aload_n d_Law_law_1006 rfl ?_
  refine z_iload d_Law_law_1007 rfl ?_
  refine z_iconst (v := 2) d_Law_law_1009 (by decide) ?_
  refine z_iadd d_Law_law_1010 ?_
  refine z_sld d_Law_law_1011 (zs_in (c := 2) (by omega) hL) ?_
  refine z_callV1 d_Law_law_1012 g_Law_116 hM (by omega) rfl rfl rfl ⟨(show d + 4 ≤ 11 by omega), (show 33 * d + 33 ≤ 404 by omega), (show k + mc + 0 ≤ 601024 by omega), (show j + ms + 0 ≤ 7293034 by omega)⟩ rfl (Nat.le_of_ble_eq_true rfl) ?_
  refine z_istore (lv' := [(0, _), (1, _), (2, _), (3, _), (4, _), (5, _), (6, _)]) d_Law_law_1015 (by decide) rfl ?_
  refine z_aload_n d_Law_law_1017 rfl ?_
  refine z_callV1 d_Law_law_1018 g_Law_73 (c_Mod_thrown X J2 G2 0) (by omega) rfl rfl rfl ⟨Nat.le_of_ble_eq_true rfl, Nat.le_of_ble_eq_true rfl, (show k + mc + 0 + 0 ≤ 601024 by omega), (show j + ms + 0 + 0 ≤ 7293034 by omega)⟩ rfl (Nat.le_of_ble_eq_true rfl) ?_
  refine z_iload d_Law_law_1021 rfl ?_
  refine z_icmp_eq d_Law_law_1023 1028 (by decide) (fun _ => ?_) (fun h9 => absurd hT h9)
  refine z_iload d_Law_law_1028 rfl ?_
  by_cases hz : kk9 = 0
  · refine z_if_ne d_Law_law_1030 1045 (by decide) (fun h9 => absurd hz h9) (fun _ => ?_)
    refine z_aload_n d_Law_law_1033 rfl ?_
    refine z_iconst (v := 0) d_Law_law_1034 (by decide) ?_
    refine z_lald d_Law_law_1035 (by omega) rfl ⟨rfl, by decide, by decide⟩ ?_
    refine z_iload d_Law_law_1036 rfl ?_
    refine z_i2l d_Law_law_1038 ?_
    refine z_lcmp d_Law_law_1039 ?_
    refine z_if_eq d_Law_law_1040 1045 (by decide) (fun _ => ?_) (fun h9 => absurd (by rw [hA hz]; exact lg_self _) h9)
    refine z_goto d_Law_law_1045 1462 (by decide) ?_
    exact z_loc (lv' := [(0, .ref 901), (1, .ref 0), (2, .ref 40), (3, .ref 59), (4, .int (nI (5 * q)))]) (by simp) (kk _ _ J2 G2 (by omega) (by omega) hI2)
  · refine z_if_ne d_Law_law_1030 1045 (by decide) (fun _ => ?_) (fun h9 => absurd h9 hz)
    refine z_goto d_Law_law_1045 1462 (by decide) ?_
    exact z_loc (lv' := [(0, .ref 901), (1, .ref 0), (2, .ref 40), (3, .ref 59), (4, .int (nI (5 * q)))]) (by simp) (kk _ _ J2 G2 (by omega) (by omega) hI2)
set_option maxRecDepth 100000 in
set_option maxHeartbeats 4000000 in
theorem lc_11 (X : zX) {L q k j : Nat} {xs : Nat → Int32} {J : zJT} {G : zGT} (hI : zIv J G) (hq : 5 * q + 5 ≤ L) (hL : L ≤ 2560) (hk : k ≤ 5000) (hj : j ≤ 50000) (kk : ∀ k1 j1 J1 G1, k1 ≤ k + 1 → j1 ≤ j + 6 → zIv J1 G1 → zJ X room_1 m_Law_law (zLq X L xs) false k1 j1 (hp J1 G1) 60 1462 [(0, .ref 901), (1, .ref 0), (2, .ref 40), (3, .ref 59), (4, .int (nI (5 * q)))] []) : zJ X room_1 m_Law_law (zLq X L xs) false k j (hp J G) 60 1048 [(0, .ref 901), (1, .ref 0), (2, .ref 40), (3, .ref 59), (4, .int (nI (5 * q)))] [] := by
  obtain ⟨kk9, mc, ms, J1, G1, b, d, J2, G2, hmc, hms, hd, hW, hM, hT, hA, hI2⟩ := i_run X J G hI (xs (5 * q + 1))
  refine z_aload_n d_Law_law_1048 rfl ?_
  refine z_aload_n d_Law_law_1049 rfl ?_
  refine z_iload d_Law_law_1050 rfl ?_
  refine z_iconst (v := 1) d_Law_law_1052 (by decide) ?_
  refine z_iadd d_Law_law_1053 ?_
  refine z_sld d_Law_law_1054 (zs_in (c := 1) (by omega) hL) ?_
  refine z_aload_n d_Law_law_1055 rfl ?_
  refine z_callSW d_Law_law_1056 g_Law_117 hW rfl ⟨Nat.le_of_ble_eq_true rfl, Nat.le_of_ble_eq_true rfl, (show k + mc ≤ 601024 by omega), (show j + ms ≤ 7293034 by omega)⟩ rfl (Nat.le_of_ble_eq_true rfl) ?_
  refine z_istore (lv' := [(0, _), (1, _), (2, _), (3, _), (4, _), (5, _)]) d_Law_law_1059 (by decide) rfl ?_
  refine z_aload_n d_Law_law_1061 rfl ?_
  refine z_aload_n d_Law_law_1062 rfl ?_
  refine z_iload d_Law_law_1063 rfl ?_
  refine z_iconst (v := 1) d_Law_law_1065 (by decide) ?_
  refine z_iadd d_Law_law_1066 ?_
  refine z_sld d_Law_law_1067 (zs_in (c := 1) (by omega) hL) ?_
  refine z_callV1 d_Law_law_1068 g_Law_119 hM (by omega) rfl rfl rfl ⟨(show d + 4 ≤ 11 by omega), (show 33 * d + 33 ≤ 404 by omega), (show k + mc + 0 ≤ 601024 by omega), (show j + ms + 0 ≤ 7293034 by omega)⟩ rfl (Nat.le_of_ble_eq_true rfl) ?_
  refine z_istore (lv' := [(0, _), (1, _), (2, _), (3, _), (4, _), (5, _), (6, _)]) d_Law_law_1071 (by decide) rfl ?_
  refine z_aload_n d_Law_law_1073 rfl ?_
  refine z_callV1 d_Law_law_1074 g_Law_73 (c_Mod_thrown X J2 G2 0) (by omega) rfl rfl rfl ⟨Nat.le_of_ble_eq_true rfl, Nat.le_of_ble_eq_true rfl, (show k + mc + 0 + 0 ≤ 601024 by omega), (show j + ms + 0 + 0 ≤ 7293034 by omega)⟩ rfl (Nat.le_of_ble_eq_true rfl) ?_
  refine z_iload d_Law_law_1077 rfl ?_
  refine z_icmp_eq d_Law_law_1079 1084 (by decide) (fun _ => ?_) (fun h9 => absurd hT h9)
  refine z_iload d_Law_law_1084 rfl ?_
  by_cases hz : kk9 = 0
  · refine z_if_ne d_Law_law_1086 1101 (by decide) (fun h9 => absurd hz h9) (fun _ => ?_)
    refine z_aload_n d_Law_law_1089 rfl ?_
    refine z_iconst (v := 0) d_Law_law_1090 (by decide) ?_
    refine z_lald d_Law_law_1091 (by omega) rfl ⟨rfl, by decide, by decide⟩ ?_
    refine z_iload d_Law_law_1092 rfl ?_
    refine z_i2l d_Law_law_1094 ?_
    refine z_lcmp d_Law_law_1095 ?_
    refine z_if_eq d_Law_law_1096 1101 (by decide) (fun _ => ?_) (fun h9 => absurd (by rw [hA hz]; exact lg_self _) h9)
    refine z_goto d_Law_law_1101 1462 (by decide) ?_
    exact z_loc (lv' := [(0, .ref 901), (1, .ref 0), (2, .ref 40), (3, .ref 59), (4, .int (nI (5 * q)))]) (by simp) (kk _ _ J2 G2 (by omega) (by omega) hI2)
  · refine z_if_ne d_Law_law_1086 1101 (by decide) (fun _ => ?_) (fun h9 => absurd h9 hz)
    refine z_goto d_Law_law_1101 1462 (by decide) ?_
    exact z_loc (lv' := [(0, .ref 901), (1, .ref 0), (2, .ref 40), (3, .ref 59), (4, .int (nI (5 * q)))]) (by simp) (kk _ _ J2 G2 (by omega) (by omega) hI2)
set_option maxRecDepth 100000 in
set_option maxHeartbeats 4000000 in
theorem lc_12 (X : zX) {L q k j : Nat} {xs : Nat → Int32} {J : zJT} {G : zGT} (hI : zIv J G) (hq : 5 * q + 5 ≤ L) (hL : L ≤ 2560) (hk : k ≤ 5000) (hj : j ≤ 50000) (kk : ∀ k1 j1 J1 G1, k1 ≤ k + 1 → j1 ≤ j + 6 → zIv J1 G1 → zJ X room_1 m_Law_law (zLq X L xs) false k1 j1 (hp J1 G1) 60 1462 [(0, .ref 901), (1, .ref 0), (2, .ref 40), (3, .ref 59), (4, .int (nI (5 * q)))] []) : zJ X room_1 m_Law_law (zLq X L xs) false k j (hp J G) 60 1104 [(0, .ref 901), (1, .ref 0), (2, .ref 40), (3, .ref 59), (4, .int (nI (5 * q)))] [] := by
  obtain ⟨kk9, mc, ms, J1, G1, b, d, J2, G2, hmc, hms, hd, hW, hM, hT, hA, hI2⟩ := i_result X J G hI (xs (5 * q + 1)) (xs (5 * q + 2))
  refine z_aload_n d_Law_law_1104 rfl ?_
  refine z_aload_n d_Law_law_1105 rfl ?_
  refine z_iload d_Law_law_1106 rfl ?_
  refine z_iconst (v := 1) d_Law_law_1108 (by decide) ?_
  refine z_iadd d_Law_law_1109 ?_
  refine z_sld d_Law_law_1110 (zs_in (c := 1) (by omega) hL) ?_
  refine z_aload_n d_Law_law_1111 rfl ?_
  refine z_iload d_Law_law_1112 rfl ?_
  refine z_iconst (v := 2) d_Law_law_1114 (by decide) ?_
  refine z_iadd d_Law_law_1115 ?_
  refine z_sld d_Law_law_1116 (zs_in (c := 2) (by omega) hL) ?_
  refine z_aload_n d_Law_law_1117 rfl ?_
  refine z_callSW d_Law_law_1118 g_Law_120 hW rfl ⟨Nat.le_of_ble_eq_true rfl, Nat.le_of_ble_eq_true rfl, (show k + mc ≤ 601024 by omega), (show j + ms ≤ 7293034 by omega)⟩ rfl (Nat.le_of_ble_eq_true rfl) ?_
  refine z_istore (lv' := [(0, _), (1, _), (2, _), (3, _), (4, _), (5, _)]) d_Law_law_1121 (by decide) rfl ?_
  refine z_aload_n d_Law_law_1123 rfl ?_
  refine z_aload_n d_Law_law_1124 rfl ?_
  refine z_iload d_Law_law_1125 rfl ?_
  refine z_iconst (v := 1) d_Law_law_1127 (by decide) ?_
  refine z_iadd d_Law_law_1128 ?_
  refine z_sld d_Law_law_1129 (zs_in (c := 1) (by omega) hL) ?_
  refine z_aload_n d_Law_law_1130 rfl ?_
  refine z_iload d_Law_law_1131 rfl ?_
  refine z_iconst (v := 2) d_Law_law_1133 (by decide) ?_
  refine z_iadd d_Law_law_1134 ?_
  refine z_sld d_Law_law_1135 (zs_in (c := 2) (by omega) hL) ?_
  refine z_callV1 d_Law_law_1136 g_Law_122 hM (by omega) rfl rfl rfl ⟨(show d + 4 ≤ 11 by omega), (show 33 * d + 33 ≤ 404 by omega), (show k + mc + 0 ≤ 601024 by omega), (show j + ms + 0 ≤ 7293034 by omega)⟩ rfl (Nat.le_of_ble_eq_true rfl) ?_
  refine z_lstore (lv' := [(0, _), (1, _), (2, _), (3, _), (4, _), (5, _), (6, _)]) d_Law_law_1139 (by decide) rfl ?_
  refine z_aload_n d_Law_law_1141 rfl ?_
  refine z_callV1 d_Law_law_1142 g_Law_73 (c_Mod_thrown X J2 G2 0) (by omega) rfl rfl rfl ⟨Nat.le_of_ble_eq_true rfl, Nat.le_of_ble_eq_true rfl, (show k + mc + 0 + 0 ≤ 601024 by omega), (show j + ms + 0 + 0 ≤ 7293034 by omega)⟩ rfl (Nat.le_of_ble_eq_true rfl) ?_
  refine z_iload d_Law_law_1145 rfl ?_
  refine z_icmp_eq d_Law_law_1147 1152 (by decide) (fun _ => ?_) (fun h9 => absurd hT h9)
  refine z_iload d_Law_law_1152 rfl ?_
  by_cases hz : kk9 = 0
  · refine z_if_ne d_Law_law_1154 1168 (by decide) (fun h9 => absurd hz h9) (fun _ => ?_)
    refine z_aload_n d_Law_law_1157 rfl ?_
    refine z_iconst (v := 0) d_Law_law_1158 (by decide) ?_
    refine z_lald d_Law_law_1159 (by omega) rfl ⟨rfl, by decide, by decide⟩ ?_
    refine z_lload d_Law_law_1160 rfl ?_
    refine z_lcmp d_Law_law_1162 ?_
    refine z_if_eq d_Law_law_1163 1168 (by decide) (fun _ => ?_) (fun h9 => absurd (by rw [hA hz]; exact lg_self _) h9)
    refine z_goto d_Law_law_1168 1462 (by decide) ?_
    exact z_loc (lv' := [(0, .ref 901), (1, .ref 0), (2, .ref 40), (3, .ref 59), (4, .int (nI (5 * q)))]) (by simp) (kk _ _ J2 G2 (by omega) (by omega) hI2)
  · refine z_if_ne d_Law_law_1154 1168 (by decide) (fun _ => ?_) (fun h9 => absurd h9 hz)
    refine z_goto d_Law_law_1168 1462 (by decide) ?_
    exact z_loc (lv' := [(0, .ref 901), (1, .ref 0), (2, .ref 40), (3, .ref 59), (4, .int (nI (5 * q)))]) (by simp) (kk _ _ J2 G2 (by omega) (by omega) hI2)
set_option maxRecDepth 100000 in
set_option maxHeartbeats 4000000 in
theorem lc_13 (X : zX) {L q k j : Nat} {xs : Nat → Int32} {J : zJT} {G : zGT} (hI : zIv J G) (hq : 5 * q + 5 ≤ L) (hL : L ≤ 2560) (hk : k ≤ 5000) (hj : j ≤ 50000) (kk : ∀ k1 j1 J1 G1, k1 ≤ k + 1 → j1 ≤ j + 6 → zIv J1 G1 → zJ X room_1 m_Law_law (zLq X L xs) false k1 j1 (hp J1 G1) 60 1462 [(0, .ref 901), (1, .ref 0), (2, .ref 40), (3, .ref 59), (4, .int (nI (5 * q)))] []) : zJ X room_1 m_Law_law (zLq X L xs) false k j (hp J G) 60 1171 [(0, .ref 901), (1, .ref 0), (2, .ref 40), (3, .ref 59), (4, .int (nI (5 * q)))] [] := by
  obtain ⟨kk9, mc, ms, J1, G1, b, d, J2, G2, hmc, hms, hd, hW, hM, hT, hA, hI2⟩ := i_wasNull X J G hI (xs (5 * q + 1)) (xs (5 * q + 2))
  cases b
  · refine z_aload_n d_Law_law_1171 rfl ?_
    refine z_aload_n d_Law_law_1172 rfl ?_
    refine z_iload d_Law_law_1173 rfl ?_
    refine z_iconst (v := 1) d_Law_law_1175 (by decide) ?_
    refine z_iadd d_Law_law_1176 ?_
    refine z_sld d_Law_law_1177 (zs_in (c := 1) (by omega) hL) ?_
    refine z_aload_n d_Law_law_1178 rfl ?_
    refine z_iload d_Law_law_1179 rfl ?_
    refine z_iconst (v := 2) d_Law_law_1181 (by decide) ?_
    refine z_iadd d_Law_law_1182 ?_
    refine z_sld d_Law_law_1183 (zs_in (c := 2) (by omega) hL) ?_
    refine z_aload_n d_Law_law_1184 rfl ?_
    refine z_callSW d_Law_law_1185 g_Law_123 hW rfl ⟨Nat.le_of_ble_eq_true rfl, Nat.le_of_ble_eq_true rfl, (show k + mc ≤ 601024 by omega), (show j + ms ≤ 7293034 by omega)⟩ rfl (Nat.le_of_ble_eq_true rfl) ?_
    refine z_istore (lv' := [(0, _), (1, _), (2, _), (3, _), (4, _), (5, _)]) d_Law_law_1188 (by decide) rfl ?_
    refine z_aload_n d_Law_law_1190 rfl ?_
    refine z_aload_n d_Law_law_1191 rfl ?_
    refine z_iload d_Law_law_1192 rfl ?_
    refine z_iconst (v := 1) d_Law_law_1194 (by decide) ?_
    refine z_iadd d_Law_law_1195 ?_
    refine z_sld d_Law_law_1196 (zs_in (c := 1) (by omega) hL) ?_
    refine z_aload_n d_Law_law_1197 rfl ?_
    refine z_iload d_Law_law_1198 rfl ?_
    refine z_iconst (v := 2) d_Law_law_1200 (by decide) ?_
    refine z_iadd d_Law_law_1201 ?_
    refine z_sld d_Law_law_1202 (zs_in (c := 2) (by omega) hL) ?_
    refine z_callV1 d_Law_law_1203 g_Law_125 hM (by omega) rfl rfl rfl ⟨(show d + 4 ≤ 11 by omega), (show 33 * d + 33 ≤ 404 by omega), (show k + mc + 0 ≤ 601024 by omega), (show j + ms + 0 ≤ 7293034 by omega)⟩ rfl (Nat.le_of_ble_eq_true rfl) ?_
    refine z_istore (lv' := [(0, _), (1, _), (2, _), (3, _), (4, _), (5, _), (6, _)]) d_Law_law_1206 (by decide) rfl ?_
    refine z_aload_n d_Law_law_1208 rfl ?_
    refine z_callV1 d_Law_law_1209 g_Law_73 (c_Mod_thrown X J2 G2 0) (by omega) rfl rfl rfl ⟨Nat.le_of_ble_eq_true rfl, Nat.le_of_ble_eq_true rfl, (show k + mc + 0 + 0 ≤ 601024 by omega), (show j + ms + 0 + 0 ≤ 7293034 by omega)⟩ rfl (Nat.le_of_ble_eq_true rfl) ?_
    refine z_iload d_Law_law_1212 rfl ?_
    refine z_icmp_eq d_Law_law_1214 1219 (by decide) (fun _ => ?_) (fun h9 => absurd hT h9)
    refine z_iload d_Law_law_1219 rfl ?_
    by_cases hz : kk9 = 0
    · refine z_if_ne d_Law_law_1221 1243 (by decide) (fun h9 => absurd hz h9) (fun _ => ?_)
      refine z_aload_n d_Law_law_1224 rfl ?_
      refine z_iconst (v := 0) d_Law_law_1225 (by decide) ?_
      refine z_lald d_Law_law_1226 (by omega) rfl ⟨rfl, by decide, by decide⟩ ?_
      refine z_iload d_Law_law_1227 rfl ?_
      refine z_if_eq d_Law_law_1229 1236 (by decide) (fun _ => ?_) (fun h9 => absurd rfl h9)
      refine z_lconst (v := 0) d_Law_law_1236 (by decide) ?_
      refine z_lcmp d_Law_law_1237 ?_
      refine z_if_eq d_Law_law_1238 1243 (by decide) (fun _ => ?_) (fun h9 => absurd (by rw [hA hz]; exact lg_self _) h9)
      refine z_goto d_Law_law_1243 1462 (by decide) ?_
      exact z_loc (lv' := [(0, .ref 901), (1, .ref 0), (2, .ref 40), (3, .ref 59), (4, .int (nI (5 * q)))]) (by simp) (kk _ _ J2 G2 (by omega) (by omega) hI2)
    · refine z_if_ne d_Law_law_1221 1243 (by decide) (fun _ => ?_) (fun h9 => absurd h9 hz)
      refine z_goto d_Law_law_1243 1462 (by decide) ?_
      exact z_loc (lv' := [(0, .ref 901), (1, .ref 0), (2, .ref 40), (3, .ref 59), (4, .int (nI (5 * q)))]) (by simp) (kk _ _ J2 G2 (by omega) (by omega) hI2)
  · refine z_aload_n d_Law_law_1171 rfl ?_
    refine z_aload_n d_Law_law_1172 rfl ?_
    refine z_iload d_Law_law_1173 rfl ?_
    refine z_iconst (v := 1) d_Law_law_1175 (by decide) ?_
    refine z_iadd d_Law_law_1176 ?_
    refine z_sld d_Law_law_1177 (zs_in (c := 1) (by omega) hL) ?_
    refine z_aload_n d_Law_law_1178 rfl ?_
    refine z_iload d_Law_law_1179 rfl ?_
    refine z_iconst (v := 2) d_Law_law_1181 (by decide) ?_
    refine z_iadd d_Law_law_1182 ?_
    refine z_sld d_Law_law_1183 (zs_in (c := 2) (by omega) hL) ?_
    refine z_aload_n d_Law_law_1184 rfl ?_
    refine z_callSW d_Law_law_1185 g_Law_123 hW rfl ⟨Nat.le_of_ble_eq_true rfl, Nat.le_of_ble_eq_true rfl, (show k + mc ≤ 601024 by omega), (show j + ms ≤ 7293034 by omega)⟩ rfl (Nat.le_of_ble_eq_true rfl) ?_
    refine z_istore (lv' := [(0, _), (1, _), (2, _), (3, _), (4, _), (5, _)]) d_Law_law_1188 (by decide) rfl ?_
    refine z_aload_n d_Law_law_1190 rfl ?_
    refine z_aload_n d_Law_law_1191 rfl ?_
    refine z_iload d_Law_law_1192 rfl ?_
    refine z_iconst (v := 1) d_Law_law_1194 (by decide) ?_
    refine z_iadd d_Law_law_1195 ?_
    refine z_sld d_Law_law_1196 (zs_in (c := 1) (by omega) hL) ?_
    refine z_aload_n d_Law_law_1197 rfl ?_
    refine z_iload d_Law_law_1198 rfl ?_
    refine z_iconst (v := 2) d_Law_law_1200 (by decide) ?_
    refine z_iadd d_Law_law_1201 ?_
    refine z_sld d_Law_law_1202 (zs_in (c := 2) (by omega) hL) ?_
    refine z_callV1 d_Law_law_1203 g_Law_125 hM (by omega) rfl rfl rfl ⟨(show d + 4 ≤ 11 by omega), (show 33 * d + 33 ≤ 404 by omega), (show k + mc + 0 ≤ 601024 by omega), (show j + ms + 0 ≤ 7293034 by omega)⟩ rfl (Nat.le_of_ble_eq_true rfl) ?_
    refine z_istore (lv' := [(0, _), (1, _), (2, _), (3, _), (4, _), (5, _), (6, _)]) d_Law_law_1206 (by decide) rfl ?_
    refine z_aload_n d_Law_law_1208 rfl ?_
    refine z_callV1 d_Law_law_1209 g_Law_73 (c_Mod_thrown X J2 G2 0) (by omega) rfl rfl rfl ⟨Nat.le_of_ble_eq_true rfl, Nat.le_of_ble_eq_true rfl, (show k + mc + 0 + 0 ≤ 601024 by omega), (show j + ms + 0 + 0 ≤ 7293034 by omega)⟩ rfl (Nat.le_of_ble_eq_true rfl) ?_
    refine z_iload d_Law_law_1212 rfl ?_
    refine z_icmp_eq d_Law_law_1214 1219 (by decide) (fun _ => ?_) (fun h9 => absurd hT h9)
    refine z_iload d_Law_law_1219 rfl ?_
    by_cases hz : kk9 = 0
    · refine z_if_ne d_Law_law_1221 1243 (by decide) (fun h9 => absurd hz h9) (fun _ => ?_)
      refine z_aload_n d_Law_law_1224 rfl ?_
      refine z_iconst (v := 0) d_Law_law_1225 (by decide) ?_
      refine z_lald d_Law_law_1226 (by omega) rfl ⟨rfl, by decide, by decide⟩ ?_
      refine z_iload d_Law_law_1227 rfl ?_
      refine z_if_eq d_Law_law_1229 1236 (by decide) (fun h9 => absurd h9 (by decide)) (fun _ => ?_)
      refine z_lconst (v := 1) d_Law_law_1232 (by decide) ?_
      refine z_goto d_Law_law_1233 1237 (by decide) ?_
      refine z_lcmp d_Law_law_1237 ?_
      refine z_if_eq d_Law_law_1238 1243 (by decide) (fun _ => ?_) (fun h9 => absurd (by rw [hA hz]; exact lg_self _) h9)
      refine z_goto d_Law_law_1243 1462 (by decide) ?_
      exact z_loc (lv' := [(0, .ref 901), (1, .ref 0), (2, .ref 40), (3, .ref 59), (4, .int (nI (5 * q)))]) (by simp) (kk _ _ J2 G2 (by omega) (by omega) hI2)
    · refine z_if_ne d_Law_law_1221 1243 (by decide) (fun _ => ?_) (fun h9 => absurd h9 hz)
      refine z_goto d_Law_law_1243 1462 (by decide) ?_
      exact z_loc (lv' := [(0, .ref 901), (1, .ref 0), (2, .ref 40), (3, .ref 59), (4, .int (nI (5 * q)))]) (by simp) (kk _ _ J2 G2 (by omega) (by omega) hI2)
set_option maxRecDepth 100000 in
set_option maxHeartbeats 4000000 in
theorem lc_14 (X : zX) {L q k j : Nat} {xs : Nat → Int32} {J : zJT} {G : zGT} (hI : zIv J G) (hq : 5 * q + 5 ≤ L) (hL : L ≤ 2560) (hk : k ≤ 5000) (hj : j ≤ 50000) (kk : ∀ k1 j1 J1 G1, k1 ≤ k + 1 → j1 ≤ j + 6 → zIv J1 G1 → zJ X room_1 m_Law_law (zLq X L xs) false k1 j1 (hp J1 G1) 60 1462 [(0, .ref 901), (1, .ref 0), (2, .ref 40), (3, .ref 59), (4, .int (nI (5 * q)))] []) : zJ X room_1 m_Law_law (zLq X L xs) false k j (hp J G) 60 1246 [(0, .ref 901), (1, .ref 0), (2, .ref 40), (3, .ref 59), (4, .int (nI (5 * q)))] [] := by
  obtain ⟨J1, G1, b, d, d1, J2, G2, hd, hd1, hC, hM, hI2⟩ := i_ask X J G hI (xs (5 * q + 1)) (xs (5 * q + 2))
  refine z_aload_n d_Law_law_1246 rfl ?_
  refine z_aload_n d_Law_law_1247 rfl ?_
  refine z_iload d_Law_law_1248 rfl ?_
  refine z_iconst (v := 1) d_Law_law_1250 (by decide) ?_
  refine z_iadd d_Law_law_1251 ?_
  refine z_sld d_Law_law_1252 (zs_in (c := 1) (by omega) hL) ?_
  refine z_aload_n d_Law_law_1253 rfl ?_
  refine z_iload d_Law_law_1254 rfl ?_
  refine z_iconst (v := 2) d_Law_law_1256 (by decide) ?_
  refine z_iadd d_Law_law_1257 ?_
  refine z_sld d_Law_law_1258 (zs_in (c := 2) (by omega) hL) ?_
  refine z_callV1 d_Law_law_1259 g_Law_126 hC (by omega) rfl rfl rfl ⟨(show d + 4 ≤ 11 by omega), (show 33 * d + 33 ≤ 404 by omega), (show k + 0 ≤ 601024 by omega), (show j + 0 ≤ 7293034 by omega)⟩ rfl (Nat.le_of_ble_eq_true rfl) ?_
  refine z_aload_n d_Law_law_1262 rfl ?_
  refine z_aload_n d_Law_law_1263 rfl ?_
  refine z_iload d_Law_law_1264 rfl ?_
  refine z_iconst (v := 1) d_Law_law_1266 (by decide) ?_
  refine z_iadd d_Law_law_1267 ?_
  refine z_sld d_Law_law_1268 (zs_in (c := 1) (by omega) hL) ?_
  refine z_aload_n d_Law_law_1269 rfl ?_
  refine z_iload d_Law_law_1270 rfl ?_
  refine z_iconst (v := 2) d_Law_law_1272 (by decide) ?_
  refine z_iadd d_Law_law_1273 ?_
  refine z_sld d_Law_law_1274 (zs_in (c := 2) (by omega) hL) ?_
  refine z_callV1 d_Law_law_1275 g_Law_129 hM (by omega) rfl rfl rfl ⟨(show d1 + 4 ≤ 11 by omega), (show 33 * d1 + 33 ≤ 404 by omega), (show k + 0 + 0 ≤ 601024 by omega), (show j + 0 + 0 ≤ 7293034 by omega)⟩ rfl (Nat.le_of_ble_eq_true rfl) ?_
  refine z_icmp_eq d_Law_law_1278 1462 (by decide) (fun _ => ?_) (fun h9 => absurd rfl h9)
  exact z_loc (lv' := [(0, .ref 901), (1, .ref 0), (2, .ref 40), (3, .ref 59), (4, .int (nI (5 * q)))]) (by simp) (kk _ _ J2 G2 (by omega) (by omega) hI2)
set_option maxRecDepth 100000 in
set_option maxHeartbeats 4000000 in
theorem lc_15 (X : zX) {L q k j : Nat} {xs : Nat → Int32} {J : zJT} {G : zGT} (hI : zIv J G) (hq : 5 * q + 5 ≤ L) (hL : L ≤ 2560) (hk : k ≤ 5000) (hj : j ≤ 50000) (kk : ∀ k1 j1 J1 G1, k1 ≤ k + 1 → j1 ≤ j + 6 → zIv J1 G1 → zJ X room_1 m_Law_law (zLq X L xs) false k1 j1 (hp J1 G1) 60 1462 [(0, .ref 901), (1, .ref 0), (2, .ref 40), (3, .ref 59), (4, .int (nI (5 * q)))] []) : zJ X room_1 m_Law_law (zLq X L xs) false k j (hp J G) 60 1283 [(0, .ref 901), (1, .ref 0), (2, .ref 40), (3, .ref 59), (4, .int (nI (5 * q)))] [] := by
  obtain ⟨J1, G1, b, d, d1, J2, G2, hd, hd1, hC, hM, hI2⟩ := i_output X J G hI (xs (5 * q + 1)) (xs (5 * q + 2))
  refine z_aload_n d_Law_law_1283 rfl ?_
  refine z_aload_n d_Law_law_1284 rfl ?_
  refine z_iload d_Law_law_1285 rfl ?_
  refine z_iconst (v := 1) d_Law_law_1287 (by decide) ?_
  refine z_iadd d_Law_law_1288 ?_
  refine z_sld d_Law_law_1289 (zs_in (c := 1) (by omega) hL) ?_
  refine z_aload_n d_Law_law_1290 rfl ?_
  refine z_iload d_Law_law_1291 rfl ?_
  refine z_iconst (v := 2) d_Law_law_1293 (by decide) ?_
  refine z_iadd d_Law_law_1294 ?_
  refine z_sld d_Law_law_1295 (zs_in (c := 2) (by omega) hL) ?_
  refine z_callV1 d_Law_law_1296 g_Law_130 hC (by omega) rfl rfl rfl ⟨(show d + 4 ≤ 11 by omega), (show 33 * d + 33 ≤ 404 by omega), (show k + 0 ≤ 601024 by omega), (show j + 0 ≤ 7293034 by omega)⟩ rfl (Nat.le_of_ble_eq_true rfl) ?_
  refine z_aload_n d_Law_law_1299 rfl ?_
  refine z_aload_n d_Law_law_1300 rfl ?_
  refine z_iload d_Law_law_1301 rfl ?_
  refine z_iconst (v := 1) d_Law_law_1303 (by decide) ?_
  refine z_iadd d_Law_law_1304 ?_
  refine z_sld d_Law_law_1305 (zs_in (c := 1) (by omega) hL) ?_
  refine z_aload_n d_Law_law_1306 rfl ?_
  refine z_iload d_Law_law_1307 rfl ?_
  refine z_iconst (v := 2) d_Law_law_1309 (by decide) ?_
  refine z_iadd d_Law_law_1310 ?_
  refine z_sld d_Law_law_1311 (zs_in (c := 2) (by omega) hL) ?_
  refine z_callV1 d_Law_law_1312 g_Law_133 hM (by omega) rfl rfl rfl ⟨(show d1 + 4 ≤ 11 by omega), (show 33 * d1 + 33 ≤ 404 by omega), (show k + 0 + 0 ≤ 601024 by omega), (show j + 0 + 0 ≤ 7293034 by omega)⟩ rfl (Nat.le_of_ble_eq_true rfl) ?_
  refine z_icmp_eq d_Law_law_1315 1462 (by decide) (fun _ => ?_) (fun h9 => absurd rfl h9)
  exact z_loc (lv' := [(0, .ref 901), (1, .ref 0), (2, .ref 40), (3, .ref 59), (4, .int (nI (5 * q)))]) (by simp) (kk _ _ J2 G2 (by omega) (by omega) hI2)
set_option maxRecDepth 100000 in
set_option maxHeartbeats 4000000 in
theorem lc_16 (X : zX) {L q k j : Nat} {xs : Nat → Int32} {J : zJT} {G : zGT} (hI : zIv J G) (hq : 5 * q + 5 ≤ L) (hL : L ≤ 2560) (hk : k ≤ 5000) (hj : j ≤ 50000) (kk : ∀ k1 j1 J1 G1, k1 ≤ k + 1 → j1 ≤ j + 6 → zIv J1 G1 → zJ X room_1 m_Law_law (zLq X L xs) false k1 j1 (hp J1 G1) 60 1462 [(0, .ref 901), (1, .ref 0), (2, .ref 40), (3, .ref 59), (4, .int (nI (5 * q)))] []) : zJ X room_1 m_Law_law (zLq X L xs) false k j (hp J G) 60 1320 [(0, .ref 901), (1, .ref 0), (2, .ref 40), (3, .ref 59), (4, .int (nI (5 * q)))] [] := by
  obtain ⟨J1, G1, b, d, d1, J2, G2, hd, hd1, hC, hM, hI2⟩ := i_condition X J G hI (xs (5 * q + 1)) (xs (5 * q + 2)) (xs (5 * q + 3)) (xs (5 * q + 4))
  refine z_aload_n d_Law_law_1320 rfl ?_
  refine z_aload_n d_Law_law_1321 rfl ?_
  refine z_iload d_Law_law_1322 rfl ?_
  refine z_iconst (v := 1) d_Law_law_1324 (by decide) ?_
  refine z_iadd d_Law_law_1325 ?_
  refine z_sld d_Law_law_1326 (zs_in (c := 1) (by omega) hL) ?_
  refine z_aload_n d_Law_law_1327 rfl ?_
  refine z_iload d_Law_law_1328 rfl ?_
  refine z_iconst (v := 2) d_Law_law_1330 (by decide) ?_
  refine z_iadd d_Law_law_1331 ?_
  refine z_sld d_Law_law_1332 (zs_in (c := 2) (by omega) hL) ?_
  refine z_aload_n d_Law_law_1333 rfl ?_
  refine z_iload d_Law_law_1334 rfl ?_
  refine z_iconst (v := 3) d_Law_law_1336 (by decide) ?_
  refine z_iadd d_Law_law_1337 ?_
  refine z_sld d_Law_law_1338 (zs_in (c := 3) (by omega) hL) ?_
  refine z_aload_n d_Law_law_1339 rfl ?_
  refine z_iload d_Law_law_1340 rfl ?_
  refine z_iconst (v := 4) d_Law_law_1342 (by decide) ?_
  refine z_iadd d_Law_law_1343 ?_
  refine z_sld d_Law_law_1344 (zs_in (c := 4) (by omega) hL) ?_
  refine z_callV1 d_Law_law_1345 g_Law_134 hC (by omega) rfl rfl rfl ⟨(show d + 4 ≤ 11 by omega), (show 33 * d + 33 ≤ 404 by omega), (show k + 0 ≤ 601024 by omega), (show j + 0 ≤ 7293034 by omega)⟩ rfl (Nat.le_of_ble_eq_true rfl) ?_
  refine z_aload_n d_Law_law_1348 rfl ?_
  refine z_aload_n d_Law_law_1349 rfl ?_
  refine z_iload d_Law_law_1350 rfl ?_
  refine z_iconst (v := 1) d_Law_law_1352 (by decide) ?_
  refine z_iadd d_Law_law_1353 ?_
  refine z_sld d_Law_law_1354 (zs_in (c := 1) (by omega) hL) ?_
  refine z_aload_n d_Law_law_1355 rfl ?_
  refine z_iload d_Law_law_1356 rfl ?_
  refine z_iconst (v := 2) d_Law_law_1358 (by decide) ?_
  refine z_iadd d_Law_law_1359 ?_
  refine z_sld d_Law_law_1360 (zs_in (c := 2) (by omega) hL) ?_
  refine z_aload_n d_Law_law_1361 rfl ?_
  refine z_iload d_Law_law_1362 rfl ?_
  refine z_iconst (v := 3) d_Law_law_1364 (by decide) ?_
  refine z_iadd d_Law_law_1365 ?_
  refine z_sld d_Law_law_1366 (zs_in (c := 3) (by omega) hL) ?_
  refine z_aload_n d_Law_law_1367 rfl ?_
  refine z_iload d_Law_law_1368 rfl ?_
  refine z_iconst (v := 4) d_Law_law_1370 (by decide) ?_
  refine z_iadd d_Law_law_1371 ?_
  refine z_sld d_Law_law_1372 (zs_in (c := 4) (by omega) hL) ?_
  refine z_callV1 d_Law_law_1373 g_Law_138 hM (by omega) rfl rfl rfl ⟨(show d1 + 4 ≤ 11 by omega), (show 33 * d1 + 33 ≤ 404 by omega), (show k + 0 + 0 ≤ 601024 by omega), (show j + 0 + 0 ≤ 7293034 by omega)⟩ rfl (Nat.le_of_ble_eq_true rfl) ?_
  refine z_icmp_eq d_Law_law_1376 1462 (by decide) (fun _ => ?_) (fun h9 => absurd rfl h9)
  exact z_loc (lv' := [(0, .ref 901), (1, .ref 0), (2, .ref 40), (3, .ref 59), (4, .int (nI (5 * q)))]) (by simp) (kk _ _ J2 G2 (by omega) (by omega) hI2)
set_option maxRecDepth 100000 in
set_option maxHeartbeats 4000000 in
theorem lc_17 (X : zX) {L q k j : Nat} {xs : Nat → Int32} {J : zJT} {G : zGT} (hI : zIv J G) (hq : 5 * q + 5 ≤ L) (hL : L ≤ 2560) (hk : k ≤ 5000) (hj : j ≤ 50000) (kk : ∀ k1 j1 J1 G1, k1 ≤ k + 1 → j1 ≤ j + 6 → zIv J1 G1 → zJ X room_1 m_Law_law (zLq X L xs) false k1 j1 (hp J1 G1) 60 1462 [(0, .ref 901), (1, .ref 0), (2, .ref 40), (3, .ref 59), (4, .int (nI (5 * q)))] []) : zJ X room_1 m_Law_law (zLq X L xs) false k j (hp J G) 60 1381 [(0, .ref 901), (1, .ref 0), (2, .ref 40), (3, .ref 59), (4, .int (nI (5 * q)))] [] := by
  obtain ⟨J1, G1, b, d, d1, J2, G2, hd, hd1, hC, hM, hI2⟩ := i_join X J G hI (xs (5 * q + 1)) (xs (5 * q + 2))
  refine z_aload_n d_Law_law_1381 rfl ?_
  refine z_aload_n d_Law_law_1382 rfl ?_
  refine z_iload d_Law_law_1383 rfl ?_
  refine z_iconst (v := 1) d_Law_law_1385 (by decide) ?_
  refine z_iadd d_Law_law_1386 ?_
  refine z_sld d_Law_law_1387 (zs_in (c := 1) (by omega) hL) ?_
  refine z_aload_n d_Law_law_1388 rfl ?_
  refine z_iload d_Law_law_1389 rfl ?_
  refine z_iconst (v := 2) d_Law_law_1391 (by decide) ?_
  refine z_iadd d_Law_law_1392 ?_
  refine z_sld d_Law_law_1393 (zs_in (c := 2) (by omega) hL) ?_
  refine z_callV1 d_Law_law_1394 g_Law_139 hC (by omega) rfl rfl rfl ⟨(show d + 4 ≤ 11 by omega), (show 33 * d + 33 ≤ 404 by omega), (show k + 0 ≤ 601024 by omega), (show j + 0 ≤ 7293034 by omega)⟩ rfl (Nat.le_of_ble_eq_true rfl) ?_
  refine z_aload_n d_Law_law_1397 rfl ?_
  refine z_aload_n d_Law_law_1398 rfl ?_
  refine z_iload d_Law_law_1399 rfl ?_
  refine z_iconst (v := 1) d_Law_law_1401 (by decide) ?_
  refine z_iadd d_Law_law_1402 ?_
  refine z_sld d_Law_law_1403 (zs_in (c := 1) (by omega) hL) ?_
  refine z_aload_n d_Law_law_1404 rfl ?_
  refine z_iload d_Law_law_1405 rfl ?_
  refine z_iconst (v := 2) d_Law_law_1407 (by decide) ?_
  refine z_iadd d_Law_law_1408 ?_
  refine z_sld d_Law_law_1409 (zs_in (c := 2) (by omega) hL) ?_
  refine z_callV1 d_Law_law_1410 g_Law_142 hM (by omega) rfl rfl rfl ⟨(show d1 + 4 ≤ 11 by omega), (show 33 * d1 + 33 ≤ 404 by omega), (show k + 0 + 0 ≤ 601024 by omega), (show j + 0 + 0 ≤ 7293034 by omega)⟩ rfl (Nat.le_of_ble_eq_true rfl) ?_
  refine z_icmp_eq d_Law_law_1413 1462 (by decide) (fun _ => ?_) (fun h9 => absurd rfl h9)
  exact z_loc (lv' := [(0, .ref 901), (1, .ref 0), (2, .ref 40), (3, .ref 59), (4, .int (nI (5 * q)))]) (by simp) (kk _ _ J2 G2 (by omega) (by omega) hI2)
set_option maxRecDepth 100000 in
set_option maxHeartbeats 4000000 in
theorem lc_18 (X : zX) {L q k j : Nat} {xs : Nat → Int32} {J : zJT} {G : zGT} (hI : zIv J G) (hq : 5 * q + 5 ≤ L) (hL : L ≤ 2560) (hk : k ≤ 5000) (hj : j ≤ 50000) (kk : ∀ k1 j1 J1 G1, k1 ≤ k + 1 → j1 ≤ j + 6 → zIv J1 G1 → zJ X room_1 m_Law_law (zLq X L xs) false k1 j1 (hp J1 G1) 60 1462 [(0, .ref 901), (1, .ref 0), (2, .ref 40), (3, .ref 59), (4, .int (nI (5 * q)))] []) : zJ X room_1 m_Law_law (zLq X L xs) false k j (hp J G) 60 1418 [(0, .ref 901), (1, .ref 0), (2, .ref 40), (3, .ref 59), (4, .int (nI (5 * q)))] [] := by
  obtain ⟨kk9, mc, ms, J1, G1, b, d, J2, G2, hmc, hms, hd, hW, hM, hT, hA, hI2⟩ := i_compile X J G hI 
  refine z_aload_n d_Law_law_1418 rfl ?_
  refine z_aload_n d_Law_law_1419 rfl ?_
  refine z_callSW d_Law_law_1420 g_Law_143 hW rfl ⟨Nat.le_of_ble_eq_true rfl, Nat.le_of_ble_eq_true rfl, (show k + mc ≤ 601024 by omega), (show j + ms ≤ 7293034 by omega)⟩ rfl (Nat.le_of_ble_eq_true rfl) ?_
  refine z_istore (lv' := [(0, _), (1, _), (2, _), (3, _), (4, _), (5, _)]) d_Law_law_1423 (by decide) rfl ?_
  refine z_aload_n d_Law_law_1425 rfl ?_
  refine z_callV1 d_Law_law_1426 g_Law_146 hM (by omega) rfl rfl rfl ⟨(show d + 4 ≤ 11 by omega), (show 33 * d + 33 ≤ 404 by omega), (show k + mc + 0 ≤ 601024 by omega), (show j + ms + 0 ≤ 7293034 by omega)⟩ rfl (Nat.le_of_ble_eq_true rfl) ?_
  refine z_istore (lv' := [(0, _), (1, _), (2, _), (3, _), (4, _), (5, _), (6, _)]) d_Law_law_1429 (by decide) rfl ?_
  refine z_aload_n d_Law_law_1431 rfl ?_
  refine z_callV1 d_Law_law_1432 g_Law_73 (c_Mod_thrown X J2 G2 0) (by omega) rfl rfl rfl ⟨Nat.le_of_ble_eq_true rfl, Nat.le_of_ble_eq_true rfl, (show k + mc + 0 + 0 ≤ 601024 by omega), (show j + ms + 0 + 0 ≤ 7293034 by omega)⟩ rfl (Nat.le_of_ble_eq_true rfl) ?_
  refine z_iload d_Law_law_1435 rfl ?_
  refine z_icmp_eq d_Law_law_1437 1442 (by decide) (fun _ => ?_) (fun h9 => absurd hT h9)
  refine z_iload d_Law_law_1442 rfl ?_
  by_cases hz : kk9 = 0
  · refine z_if_ne d_Law_law_1444 1459 (by decide) (fun h9 => absurd hz h9) (fun _ => ?_)
    refine z_aload_n d_Law_law_1447 rfl ?_
    refine z_iconst (v := 0) d_Law_law_1448 (by decide) ?_
    refine z_lald d_Law_law_1449 (by omega) rfl ⟨rfl, by decide, by decide⟩ ?_
    refine z_iload d_Law_law_1450 rfl ?_
    refine z_i2l d_Law_law_1452 ?_
    refine z_lcmp d_Law_law_1453 ?_
    refine z_if_eq d_Law_law_1454 1459 (by decide) (fun _ => ?_) (fun h9 => absurd (by rw [hA hz]; exact lg_self _) h9)
    refine z_goto d_Law_law_1459 1462 (by decide) ?_
    exact z_loc (lv' := [(0, .ref 901), (1, .ref 0), (2, .ref 40), (3, .ref 59), (4, .int (nI (5 * q)))]) (by simp) (kk _ _ J2 G2 (by omega) (by omega) hI2)
  · refine z_if_ne d_Law_law_1444 1459 (by decide) (fun _ => ?_) (fun h9 => absurd h9 hz)
    refine z_goto d_Law_law_1459 1462 (by decide) ?_
    exact z_loc (lv' := [(0, .ref 901), (1, .ref 0), (2, .ref 40), (3, .ref 59), (4, .int (nI (5 * q)))]) (by simp) (kk _ _ J2 G2 (by omega) (by omega) hI2)
