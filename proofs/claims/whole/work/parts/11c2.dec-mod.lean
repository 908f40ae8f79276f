theorem d_Mod_withCursor_72 : decode m_Mod_withCursor.2.1 72 = .ok (.iload 6, 2) := by decide +kernel
theorem d_Mod_withCursor_74 : decode m_Mod_withCursor.2.1 74 = .ok (.ifCond .lt 10, 3) := by decide +kernel
theorem d_Mod_withCursor_77 : decode m_Mod_withCursor.2.1 77 = .ok (.aload_n 0, 1) := by decide +kernel
theorem d_Mod_withCursor_78 : decode m_Mod_withCursor.2.1 78 = .ok (.iload_n 2, 1) := by decide +kernel
theorem d_Mod_withCursor_79 : decode m_Mod_withCursor.2.1 79 = .ok (.iload 6, 2) := by decide +kernel
theorem d_Mod_withCursor_81 : decode m_Mod_withCursor.2.1 81 = .ok (.invokevirtual 131, 3) := by decide +kernel
theorem d_Mod_withCursor_84 : decode m_Mod_withCursor.2.1 84 = .ok (.iload 6, 2) := by decide +kernel
theorem d_Mod_withCursor_86 : decode m_Mod_withCursor.2.1 86 = .ok (.ifCond .lt 7, 3) := by decide +kernel
theorem d_Mod_withCursor_89 : decode m_Mod_withCursor.2.1 89 = .ok (.iconst 1, 1) := by decide +kernel
theorem d_Mod_withCursor_90 : decode m_Mod_withCursor.2.1 90 = .ok (.goto 4, 3) := by decide +kernel
theorem d_Mod_withCursor_93 : decode m_Mod_withCursor.2.1 93 = .ok (.iconst 0, 1) := by decide +kernel
theorem d_Mod_withCursor_94 : decode m_Mod_withCursor.2.1 94 = .ok (.ireturn, 1) := by decide +kernel
theorem d_Mod_withCursor_95 : decode m_Mod_withCursor.2.1 95 = .ok (.iload_n 1, 1) := by decide +kernel
theorem d_Mod_withCursor_96 : decode m_Mod_withCursor.2.1 96 = .ok (.bipush 8, 2) := by decide +kernel
theorem d_Mod_withCursor_98 : decode m_Mod_withCursor.2.1 98 = .ok (.if_icmp .ne 51, 3) := by decide +kernel
theorem d_Mod_withCursor_101 : decode m_Mod_withCursor.2.1 101 = .ok (.aload_n 0, 1) := by decide +kernel
theorem d_Mod_withCursor_102 : decode m_Mod_withCursor.2.1 102 = .ok (.iload_n 2, 1) := by decide +kernel
theorem d_Mod_withCursor_103 : decode m_Mod_withCursor.2.1 103 = .ok (.aload_n 0, 1) := by decide +kernel
theorem d_Mod_withCursor_104 : decode m_Mod_withCursor.2.1 104 = .ok (.getfield 39, 3) := by decide +kernel
theorem d_Mod_withCursor_107 : decode m_Mod_withCursor.2.1 107 = .ok (.iload 4, 2) := by decide +kernel
theorem d_Mod_withCursor_109 : decode m_Mod_withCursor.2.1 109 = .ok (.baload, 1) := by decide +kernel
theorem d_Mod_withCursor_110 : decode m_Mod_withCursor.2.1 110 = .ok (.ifCond .eq 20, 3) := by decide +kernel
theorem d_Mod_withCursor_113 : decode m_Mod_withCursor.2.1 113 = .ok (.aload_n 0, 1) := by decide +kernel
theorem d_Mod_withCursor_114 : decode m_Mod_withCursor.2.1 114 = .ok (.iload 5, 2) := by decide +kernel
theorem d_Mod_withCursor_116 : decode m_Mod_withCursor.2.1 116 = .ok (.aload_n 0, 1) := by decide +kernel
theorem d_Mod_withCursor_117 : decode m_Mod_withCursor.2.1 117 = .ok (.getfield 36, 3) := by decide +kernel
theorem d_Mod_withCursor_120 : decode m_Mod_withCursor.2.1 120 = .ok (.iload 4, 2) := by decide +kernel
theorem d_Mod_withCursor_122 : decode m_Mod_withCursor.2.1 122 = .ok (.laload, 1) := by decide +kernel
theorem d_Mod_withCursor_123 : decode m_Mod_withCursor.2.1 123 = .ok (.iconst 0, 1) := by decide +kernel
theorem d_Mod_withCursor_124 : decode m_Mod_withCursor.2.1 124 = .ok (.invokevirtual 98, 3) := by decide +kernel
theorem d_Mod_withCursor_127 : decode m_Mod_withCursor.2.1 127 = .ok (.goto 4, 3) := by decide +kernel
theorem d_Mod_withCursor_130 : decode m_Mod_withCursor.2.1 130 = .ok (.iconst (-1), 1) := by decide +kernel
theorem d_Mod_withCursor_131 : decode m_Mod_withCursor.2.1 131 = .ok (.invokevirtual 131, 3) := by decide +kernel
theorem d_Mod_withCursor_134 : decode m_Mod_withCursor.2.1 134 = .ok (.aload_n 0, 1) := by decide +kernel
theorem d_Mod_withCursor_135 : decode m_Mod_withCursor.2.1 135 = .ok (.getfield 45, 3) := by decide +kernel
theorem d_Mod_withCursor_138 : decode m_Mod_withCursor.2.1 138 = .ok (.iload_n 2, 1) := by decide +kernel
theorem d_Mod_withCursor_139 : decode m_Mod_withCursor.2.1 139 = .ok (.baload, 1) := by decide +kernel
theorem d_Mod_withCursor_140 : decode m_Mod_withCursor.2.1 140 = .ok (.ifCond .ne 7, 3) := by decide +kernel
theorem d_Mod_withCursor_143 : decode m_Mod_withCursor.2.1 143 = .ok (.iconst 1, 1) := by decide +kernel
theorem d_Mod_withCursor_144 : decode m_Mod_withCursor.2.1 144 = .ok (.goto 4, 3) := by decide +kernel
theorem d_Mod_withCursor_147 : decode m_Mod_withCursor.2.1 147 = .ok (.iconst 0, 1) := by decide +kernel
theorem d_Mod_withCursor_148 : decode m_Mod_withCursor.2.1 148 = .ok (.ireturn, 1) := by decide +kernel
theorem d_Mod_withCursor_149 : decode m_Mod_withCursor.2.1 149 = .ok (.iload_n 1, 1) := by decide +kernel
theorem d_Mod_withCursor_150 : decode m_Mod_withCursor.2.1 150 = .ok (.bipush 20, 2) := by decide +kernel
theorem d_Mod_withCursor_152 : decode m_Mod_withCursor.2.1 152 = .ok (.if_icmp .ne 112, 3) := by decide +kernel
theorem d_Mod_withCursor_155 : decode m_Mod_withCursor.2.1 155 = .ok (.aload_n 0, 1) := by decide +kernel
theorem d_Mod_withCursor_156 : decode m_Mod_withCursor.2.1 156 = .ok (.getfield 39, 3) := by decide +kernel
theorem d_Mod_withCursor_159 : decode m_Mod_withCursor.2.1 159 = .ok (.iload 4, 2) := by decide +kernel
theorem d_Mod_withCursor_161 : decode m_Mod_withCursor.2.1 161 = .ok (.baload, 1) := by decide +kernel
theorem d_Mod_withCursor_162 : decode m_Mod_withCursor.2.1 162 = .ok (.ifCond .eq 28, 3) := by decide +kernel
theorem d_Mod_withCursor_165 : decode m_Mod_withCursor.2.1 165 = .ok (.aload_n 0, 1) := by decide +kernel
theorem d_Mod_withCursor_166 : decode m_Mod_withCursor.2.1 166 = .ok (.getfield 79, 3) := by decide +kernel
theorem d_Mod_withCursor_169 : decode m_Mod_withCursor.2.1 169 = .ok (.bipush 90, 2) := by decide +kernel
theorem d_Mod_withCursor_171 : decode m_Mod_withCursor.2.1 171 = .ok (.if_icmp .eq 19, 3) := by decide +kernel
theorem d_Mod_withCursor_174 : decode m_Mod_withCursor.2.1 174 = .ok (.aload_n 0, 1) := by decide +kernel
theorem d_Mod_withCursor_175 : decode m_Mod_withCursor.2.1 175 = .ok (.iload 5, 2) := by decide +kernel
theorem d_Mod_withCursor_177 : decode m_Mod_withCursor.2.1 177 = .ok (.aload_n 0, 1) := by decide +kernel
theorem d_Mod_withCursor_178 : decode m_Mod_withCursor.2.1 178 = .ok (.getfield 36, 3) := by decide +kernel
theorem d_Mod_withCursor_181 : decode m_Mod_withCursor.2.1 181 = .ok (.iload 4, 2) := by decide +kernel
theorem d_Mod_withCursor_183 : decode m_Mod_withCursor.2.1 183 = .ok (.laload, 1) := by decide +kernel
theorem d_Mod_withCursor_184 : decode m_Mod_withCursor.2.1 184 = .ok (.invokevirtual 86, 3) := by decide +kernel
theorem d_Mod_withCursor_187 : decode m_Mod_withCursor.2.1 187 = .ok (.ifCond .lt 5, 3) := by decide +kernel
theorem d_Mod_withCursor_190 : decode m_Mod_withCursor.2.1 190 = .ok (.iconst 1, 1) := by decide +kernel
theorem d_Mod_withCursor_191 : decode m_Mod_withCursor.2.1 191 = .ok (.ireturn, 1) := by decide +kernel
theorem d_Mod_withCursor_192 : decode m_Mod_withCursor.2.1 192 = .ok (.iconst 0, 1) := by decide +kernel
theorem d_Mod_withCursor_193 : decode m_Mod_withCursor.2.1 193 = .ok (.istore 6, 2) := by decide +kernel
theorem d_Mod_withCursor_195 : decode m_Mod_withCursor.2.1 195 = .ok (.iload 6, 2) := by decide +kernel
theorem d_Mod_withCursor_197 : decode m_Mod_withCursor.2.1 197 = .ok (.aload_n 0, 1) := by decide +kernel
theorem d_Mod_withCursor_198 : decode m_Mod_withCursor.2.1 198 = .ok (.getfield 7, 3) := by decide +kernel
theorem d_Mod_withCursor_201 : decode m_Mod_withCursor.2.1 201 = .ok (.iload 5, 2) := by decide +kernel
theorem d_Mod_withCursor_203 : decode m_Mod_withCursor.2.1 203 = .ok (.iaload, 1) := by decide +kernel
theorem d_Mod_withCursor_204 : decode m_Mod_withCursor.2.1 204 = .ok (.if_icmp .ge 48, 3) := by decide +kernel
theorem d_Mod_withCursor_207 : decode m_Mod_withCursor.2.1 207 = .ok (.aload_n 0, 1) := by decide +kernel
theorem d_Mod_withCursor_208 : decode m_Mod_withCursor.2.1 208 = .ok (.iload 5, 2) := by decide +kernel
theorem d_Mod_withCursor_210 : decode m_Mod_withCursor.2.1 210 = .ok (.aload_n 0, 1) := by decide +kernel
theorem d_Mod_withCursor_211 : decode m_Mod_withCursor.2.1 211 = .ok (.getfield 36, 3) := by decide +kernel
theorem d_Mod_withCursor_214 : decode m_Mod_withCursor.2.1 214 = .ok (.iload 4, 2) := by decide +kernel
theorem d_Mod_withCursor_216 : decode m_Mod_withCursor.2.1 216 = .ok (.laload, 1) := by decide +kernel
theorem d_Mod_withCursor_217 : decode m_Mod_withCursor.2.1 217 = .ok (.iload 6, 2) := by decide +kernel
theorem d_Mod_withCursor_219 : decode m_Mod_withCursor.2.1 219 = .ok (.aload_n 0, 1) := by decide +kernel
theorem d_Mod_withCursor_220 : decode m_Mod_withCursor.2.1 220 = .ok (.getfield 39, 3) := by decide +kernel
theorem d_Mod_withCursor_223 : decode m_Mod_withCursor.2.1 223 = .ok (.iload 4, 2) := by decide +kernel
theorem d_Mod_withCursor_225 : decode m_Mod_withCursor.2.1 225 = .ok (.iconst 1, 1) := by decide +kernel
theorem d_Mod_withCursor_226 : decode m_Mod_withCursor.2.1 226 = .ok (.iadd, 1) := by decide +kernel
theorem d_Mod_withCursor_227 : decode m_Mod_withCursor.2.1 227 = .ok (.iload 6, 2) := by decide +kernel
theorem d_Mod_withCursor_229 : decode m_Mod_withCursor.2.1 229 = .ok (.iadd, 1) := by decide +kernel
theorem d_Mod_withCursor_230 : decode m_Mod_withCursor.2.1 230 = .ok (.baload, 1) := by decide +kernel
theorem d_Mod_withCursor_231 : decode m_Mod_withCursor.2.1 231 = .ok (.aload_n 0, 1) := by decide +kernel
theorem d_Mod_withCursor_232 : decode m_Mod_withCursor.2.1 232 = .ok (.getfield 36, 3) := by decide +kernel
theorem d_Mod_withCursor_235 : decode m_Mod_withCursor.2.1 235 = .ok (.iload 4, 2) := by decide +kernel
theorem d_Mod_withCursor_237 : decode m_Mod_withCursor.2.1 237 = .ok (.iconst 1, 1) := by decide +kernel
theorem d_Mod_withCursor_238 : decode m_Mod_withCursor.2.1 238 = .ok (.iadd, 1) := by decide +kernel
theorem d_Mod_withCursor_239 : decode m_Mod_withCursor.2.1 239 = .ok (.iload 6, 2) := by decide +kernel
theorem d_Mod_withCursor_241 : decode m_Mod_withCursor.2.1 241 = .ok (.iadd, 1) := by decide +kernel
theorem d_Mod_withCursor_242 : decode m_Mod_withCursor.2.1 242 = .ok (.laload, 1) := by decide +kernel
theorem d_Mod_withCursor_243 : decode m_Mod_withCursor.2.1 243 = .ok (.invokevirtual 90, 3) := by decide +kernel
theorem d_Mod_withCursor_246 : decode m_Mod_withCursor.2.1 246 = .ok (.iinc 6 1, 3) := by decide +kernel
theorem d_Mod_withCursor_249 : decode m_Mod_withCursor.2.1 249 = .ok (.goto (-54), 3) := by decide +kernel
theorem d_Mod_withCursor_252 : decode m_Mod_withCursor.2.1 252 = .ok (.aload_n 0, 1) := by decide +kernel
theorem d_Mod_withCursor_253 : decode m_Mod_withCursor.2.1 253 = .ok (.dup, 1) := by decide +kernel
theorem d_Mod_withCursor_254 : decode m_Mod_withCursor.2.1 254 = .ok (.getfield 79, 3) := by decide +kernel
theorem d_Mod_withCursor_257 : decode m_Mod_withCursor.2.1 257 = .ok (.iconst 1, 1) := by decide +kernel
theorem d_Mod_withCursor_258 : decode m_Mod_withCursor.2.1 258 = .ok (.iadd, 1) := by decide +kernel
theorem d_Mod_withCursor_259 : decode m_Mod_withCursor.2.1 259 = .ok (.putfield 79, 3) := by decide +kernel
theorem d_Mod_withCursor_262 : decode m_Mod_withCursor.2.1 262 = .ok (.iconst 0, 1) := by decide +kernel
theorem d_Mod_withCursor_263 : decode m_Mod_withCursor.2.1 263 = .ok (.ireturn, 1) := by decide +kernel
theorem d_Mod_withCursor_264 : decode m_Mod_withCursor.2.1 264 = .ok (.aload_n 0, 1) := by decide +kernel
theorem d_Mod_withCursor_265 : decode m_Mod_withCursor.2.1 265 = .ok (.iload_n 2, 1) := by decide +kernel
theorem d_Mod_withCursor_266 : decode m_Mod_withCursor.2.1 266 = .ok (.invokevirtual 135, 3) := by decide +kernel
theorem d_Mod_withCursor_269 : decode m_Mod_withCursor.2.1 269 = .ok (.istore 6, 2) := by decide +kernel
theorem d_Mod_withCursor_271 : decode m_Mod_withCursor.2.1 271 = .ok (.iload_n 1, 1) := by decide +kernel
theorem d_Mod_withCursor_272 : decode m_Mod_withCursor.2.1 272 = .ok (.iconst 4, 1) := by decide +kernel
theorem d_Mod_withCursor_273 : decode m_Mod_withCursor.2.1 273 = .ok (.if_icmp .ne 88, 3) := by decide +kernel
theorem d_Mod_withCursor_276 : decode m_Mod_withCursor.2.1 276 = .ok (.iload 6, 2) := by decide +kernel
theorem d_Mod_withCursor_278 : decode m_Mod_withCursor.2.1 278 = .ok (.ifCond .lt 18, 3) := by decide +kernel
theorem d_Mod_withCursor_281 : decode m_Mod_withCursor.2.1 281 = .ok (.iload_n 3, 1) := by decide +kernel
theorem d_Mod_withCursor_282 : decode m_Mod_withCursor.2.1 282 = .ok (.aload_n 0, 1) := by decide +kernel
theorem d_Mod_withCursor_283 : decode m_Mod_withCursor.2.1 283 = .ok (.getfield 7, 3) := by decide +kernel
theorem d_Mod_withCursor_286 : decode m_Mod_withCursor.2.1 286 = .ok (.iload 5, 2) := by decide +kernel
theorem d_Mod_withCursor_288 : decode m_Mod_withCursor.2.1 288 = .ok (.iaload, 1) := by decide +kernel
theorem d_Mod_withCursor_289 : decode m_Mod_withCursor.2.1 289 = .ok (.if_icmp .ge 7, 3) := by decide +kernel
theorem d_Mod_withCursor_292 : decode m_Mod_withCursor.2.1 292 = .ok (.iconst 1, 1) := by decide +kernel
theorem d_Mod_withCursor_293 : decode m_Mod_withCursor.2.1 293 = .ok (.goto 4, 3) := by decide +kernel
theorem d_Mod_withCursor_296 : decode m_Mod_withCursor.2.1 296 = .ok (.iconst 0, 1) := by decide +kernel
theorem d_Mod_withCursor_297 : decode m_Mod_withCursor.2.1 297 = .ok (.istore 7, 2) := by decide +kernel
theorem d_Mod_withCursor_299 : decode m_Mod_withCursor.2.1 299 = .ok (.aload_n 0, 1) := by decide +kernel
theorem d_Mod_withCursor_300 : decode m_Mod_withCursor.2.1 300 = .ok (.iload 4, 2) := by decide +kernel
theorem d_Mod_withCursor_302 : decode m_Mod_withCursor.2.1 302 = .ok (.iload 7, 2) := by decide +kernel
theorem d_Mod_withCursor_304 : decode m_Mod_withCursor.2.1 304 = .ok (.ifCond .eq 30, 3) := by decide +kernel
theorem d_Mod_withCursor_307 : decode m_Mod_withCursor.2.1 307 = .ok (.aload_n 0, 1) := by decide +kernel
theorem d_Mod_withCursor_308 : decode m_Mod_withCursor.2.1 308 = .ok (.getfield 23, 3) := by decide +kernel
theorem d_Mod_withCursor_311 : decode m_Mod_withCursor.2.1 311 = .ok (.iload 7, 2) := by decide +kernel
theorem d_Mod_withCursor_313 : decode m_Mod_withCursor.2.1 313 = .ok (.ifCond .eq 12, 3) := by decide +kernel
theorem d_Mod_withCursor_316 : decode m_Mod_withCursor.2.1 316 = .ok (.iconst 4, 1) := by decide +kernel
theorem d_Mod_withCursor_317 : decode m_Mod_withCursor.2.1 317 = .ok (.iload 6, 2) := by decide +kernel
theorem d_Mod_withCursor_319 : decode m_Mod_withCursor.2.1 319 = .ok (.imul, 1) := by decide +kernel
theorem d_Mod_withCursor_320 : decode m_Mod_withCursor.2.1 320 = .ok (.iload_n 3, 1) := by decide +kernel
theorem d_Mod_withCursor_321 : decode m_Mod_withCursor.2.1 321 = .ok (.iadd, 1) := by decide +kernel
theorem d_Mod_withCursor_322 : decode m_Mod_withCursor.2.1 322 = .ok (.goto 4, 3) := by decide +kernel
theorem d_Mod_withCursor_325 : decode m_Mod_withCursor.2.1 325 = .ok (.iconst 0, 1) := by decide +kernel
theorem d_Mod_withCursor_326 : decode m_Mod_withCursor.2.1 326 = .ok (.baload, 1) := by decide +kernel
theorem d_Mod_withCursor_327 : decode m_Mod_withCursor.2.1 327 = .ok (.ifCond .eq 7, 3) := by decide +kernel
theorem d_Mod_withCursor_330 : decode m_Mod_withCursor.2.1 330 = .ok (.iconst 1, 1) := by decide +kernel
theorem d_Mod_withCursor_331 : decode m_Mod_withCursor.2.1 331 = .ok (.goto 4, 3) := by decide +kernel
theorem d_Mod_withCursor_334 : decode m_Mod_withCursor.2.1 334 = .ok (.iconst 0, 1) := by decide +kernel
theorem d_Mod_withCursor_335 : decode m_Mod_withCursor.2.1 335 = .ok (.iload 7, 2) := by decide +kernel
theorem d_Mod_withCursor_337 : decode m_Mod_withCursor.2.1 337 = .ok (.ifCond .eq 17, 3) := by decide +kernel
theorem d_Mod_withCursor_340 : decode m_Mod_withCursor.2.1 340 = .ok (.aload_n 0, 1) := by decide +kernel
theorem d_Mod_withCursor_341 : decode m_Mod_withCursor.2.1 341 = .ok (.getfield 20, 3) := by decide +kernel
theorem d_Mod_withCursor_344 : decode m_Mod_withCursor.2.1 344 = .ok (.iconst 4, 1) := by decide +kernel
theorem d_Mod_withCursor_345 : decode m_Mod_withCursor.2.1 345 = .ok (.iload 6, 2) := by decide +kernel
theorem d_Mod_withCursor_347 : decode m_Mod_withCursor.2.1 347 = .ok (.imul, 1) := by decide +kernel
theorem d_Mod_withCursor_348 : decode m_Mod_withCursor.2.1 348 = .ok (.iload_n 3, 1) := by decide +kernel
theorem d_Mod_withCursor_349 : decode m_Mod_withCursor.2.1 349 = .ok (.iadd, 1) := by decide +kernel
theorem d_Mod_withCursor_350 : decode m_Mod_withCursor.2.1 350 = .ok (.laload, 1) := by decide +kernel
theorem d_Mod_withCursor_351 : decode m_Mod_withCursor.2.1 351 = .ok (.goto 4, 3) := by decide +kernel
theorem d_Mod_withCursor_354 : decode m_Mod_withCursor.2.1 354 = .ok (.lconst 0, 1) := by decide +kernel
theorem d_Mod_withCursor_355 : decode m_Mod_withCursor.2.1 355 = .ok (.invokevirtual 138, 3) := by decide +kernel
theorem d_Mod_withCursor_358 : decode m_Mod_withCursor.2.1 358 = .ok (.goto 43, 3) := by decide +kernel
theorem d_Mod_withCursor_361 : decode m_Mod_withCursor.2.1 361 = .ok (.iload_n 1, 1) := by decide +kernel
theorem d_Mod_withCursor_362 : decode m_Mod_withCursor.2.1 362 = .ok (.iconst 5, 1) := by decide +kernel
theorem d_Mod_withCursor_363 : decode m_Mod_withCursor.2.1 363 = .ok (.if_icmp .ne 27, 3) := by decide +kernel
theorem d_Mod_withCursor_366 : decode m_Mod_withCursor.2.1 366 = .ok (.aload_n 0, 1) := by decide +kernel
theorem d_Mod_withCursor_367 : decode m_Mod_withCursor.2.1 367 = .ok (.iload_n 3, 1) := by decide +kernel
theorem d_Mod_withCursor_368 : decode m_Mod_withCursor.2.1 368 = .ok (.iload 6, 2) := by decide +kernel
theorem d_Mod_withCursor_370 : decode m_Mod_withCursor.2.1 370 = .ok (.ifCond .lt 7, 3) := by decide +kernel
theorem d_Mod_withCursor_373 : decode m_Mod_withCursor.2.1 373 = .ok (.iconst 1, 1) := by decide +kernel
theorem d_Mod_withCursor_374 : decode m_Mod_withCursor.2.1 374 = .ok (.goto 4, 3) := by decide +kernel
theorem d_Mod_withCursor_377 : decode m_Mod_withCursor.2.1 377 = .ok (.iconst 0, 1) := by decide +kernel
theorem d_Mod_withCursor_378 : decode m_Mod_withCursor.2.1 378 = .ok (.aload_n 0, 1) := by decide +kernel
theorem d_Mod_withCursor_379 : decode m_Mod_withCursor.2.1 379 = .ok (.getfield 48, 3) := by decide +kernel
theorem d_Mod_withCursor_382 : decode m_Mod_withCursor.2.1 382 = .ok (.iload_n 2, 1) := by decide +kernel
theorem d_Mod_withCursor_383 : decode m_Mod_withCursor.2.1 383 = .ok (.laload, 1) := by decide +kernel
theorem d_Mod_withCursor_384 : decode m_Mod_withCursor.2.1 384 = .ok (.invokevirtual 138, 3) := by decide +kernel
theorem d_Mod_withCursor_387 : decode m_Mod_withCursor.2.1 387 = .ok (.goto 14, 3) := by decide +kernel
theorem d_Mod_withCursor_390 : decode m_Mod_withCursor.2.1 390 = .ok (.iload 6, 2) := by decide +kernel
theorem d_Mod_withCursor_392 : decode m_Mod_withCursor.2.1 392 = .ok (.ifCond .lt 9, 3) := by decide +kernel
theorem d_Mod_withCursor_395 : decode m_Mod_withCursor.2.1 395 = .ok (.aload_n 0, 1) := by decide +kernel
theorem d_Mod_withCursor_396 : decode m_Mod_withCursor.2.1 396 = .ok (.iload 6, 2) := by decide +kernel
theorem d_Mod_withCursor_398 : decode m_Mod_withCursor.2.1 398 = .ok (.invokevirtual 94, 3) := by decide +kernel
theorem d_Mod_withCursor_401 : decode m_Mod_withCursor.2.1 401 = .ok (.iconst 0, 1) := by decide +kernel
theorem d_Mod_withCursor_402 : decode m_Mod_withCursor.2.1 402 = .ok (.ireturn, 1) := by decide +kernel
theorem d_Mod_firstRow_0 : decode m_Mod_firstRow.2.1 0 = .ok (.iconst (-1), 1) := by decide +kernel
theorem d_Mod_firstRow_1 : decode m_Mod_firstRow.2.1 1 = .ok (.istore_n 2, 1) := by decide +kernel
theorem d_Mod_firstRow_2 : decode m_Mod_firstRow.2.1 2 = .ok (.iconst 0, 1) := by decide +kernel
theorem d_Mod_firstRow_3 : decode m_Mod_firstRow.2.1 3 = .ok (.istore_n 3, 1) := by decide +kernel
theorem d_Mod_firstRow_4 : decode m_Mod_firstRow.2.1 4 = .ok (.iload_n 3, 1) := by decide +kernel
theorem d_Mod_firstRow_5 : decode m_Mod_firstRow.2.1 5 = .ok (.aload_n 0, 1) := by decide +kernel
theorem d_Mod_firstRow_6 : decode m_Mod_firstRow.2.1 6 = .ok (.getfield 79, 3) := by decide +kernel
theorem d_Mod_firstRow_9 : decode m_Mod_firstRow.2.1 9 = .ok (.if_icmp .ge 53, 3) := by decide +kernel
theorem d_Mod_firstRow_12 : decode m_Mod_firstRow.2.1 12 = .ok (.aload_n 0, 1) := by decide +kernel
theorem d_Mod_firstRow_13 : decode m_Mod_firstRow.2.1 13 = .ok (.getfield 13, 3) := by decide +kernel
theorem d_Mod_firstRow_16 : decode m_Mod_firstRow.2.1 16 = .ok (.iload_n 3, 1) := by decide +kernel
theorem d_Mod_firstRow_17 : decode m_Mod_firstRow.2.1 17 = .ok (.iaload, 1) := by decide +kernel
theorem d_Mod_firstRow_18 : decode m_Mod_firstRow.2.1 18 = .ok (.iload_n 1, 1) := by decide +kernel
theorem d_Mod_firstRow_19 : decode m_Mod_firstRow.2.1 19 = .ok (.if_icmp .ne 35, 3) := by decide +kernel
theorem d_Mod_firstRow_22 : decode m_Mod_firstRow.2.1 22 = .ok (.iload_n 2, 1) := by decide +kernel
theorem d_Mod_firstRow_23 : decode m_Mod_firstRow.2.1 23 = .ok (.ifCond .lt 27, 3) := by decide +kernel
theorem d_Mod_firstRow_26 : decode m_Mod_firstRow.2.1 26 = .ok (.aload_n 0, 1) := by decide +kernel
theorem d_Mod_firstRow_27 : decode m_Mod_firstRow.2.1 27 = .ok (.getfield 16, 3) := by decide +kernel
theorem d_Mod_firstRow_30 : decode m_Mod_firstRow.2.1 30 = .ok (.iload_n 3, 1) := by decide +kernel
theorem d_Mod_firstRow_31 : decode m_Mod_firstRow.2.1 31 = .ok (.laload, 1) := by decide +kernel
theorem d_Mod_firstRow_32 : decode m_Mod_firstRow.2.1 32 = .ok (.aload_n 0, 1) := by decide +kernel
theorem d_Mod_firstRow_33 : decode m_Mod_firstRow.2.1 33 = .ok (.getfield 16, 3) := by decide +kernel
theorem d_Mod_firstRow_36 : decode m_Mod_firstRow.2.1 36 = .ok (.iload_n 2, 1) := by decide +kernel
theorem d_Mod_firstRow_37 : decode m_Mod_firstRow.2.1 37 = .ok (.ifCond .ge 7, 3) := by decide +kernel
theorem d_Mod_firstRow_40 : decode m_Mod_firstRow.2.1 40 = .ok (.iconst 0, 1) := by decide +kernel
theorem d_Mod_firstRow_41 : decode m_Mod_firstRow.2.1 41 = .ok (.goto 4, 3) := by decide +kernel
theorem d_Mod_firstRow_44 : decode m_Mod_firstRow.2.1 44 = .ok (.iload_n 2, 1) := by decide +kernel
theorem d_Mod_firstRow_45 : decode m_Mod_firstRow.2.1 45 = .ok (.laload, 1) := by decide +kernel
theorem d_Mod_firstRow_46 : decode m_Mod_firstRow.2.1 46 = .ok (.lcmp, 1) := by decide +kernel
theorem d_Mod_firstRow_47 : decode m_Mod_firstRow.2.1 47 = .ok (.ifCond .ge 7, 3) := by decide +kernel
theorem d_Mod_firstRow_50 : decode m_Mod_firstRow.2.1 50 = .ok (.iload_n 3, 1) := by decide +kernel
theorem d_Mod_firstRow_51 : decode m_Mod_firstRow.2.1 51 = .ok (.goto 4, 3) := by decide +kernel
theorem d_Mod_firstRow_54 : decode m_Mod_firstRow.2.1 54 = .ok (.iload_n 2, 1) := by decide +kernel
theorem d_Mod_firstRow_55 : decode m_Mod_firstRow.2.1 55 = .ok (.istore_n 2, 1) := by decide +kernel
theorem d_Mod_firstRow_56 : decode m_Mod_firstRow.2.1 56 = .ok (.iinc 3 1, 3) := by decide +kernel
theorem d_Mod_firstRow_59 : decode m_Mod_firstRow.2.1 59 = .ok (.goto (-55), 3) := by decide +kernel
theorem d_Mod_firstRow_62 : decode m_Mod_firstRow.2.1 62 = .ok (.iload_n 2, 1) := by decide +kernel
theorem d_Mod_firstRow_63 : decode m_Mod_firstRow.2.1 63 = .ok (.ireturn, 1) := by decide +kernel
theorem d_Mod_point_0 : decode m_Mod_point.2.1 0 = .ok (.aload_n 0, 1) := by decide +kernel
theorem d_Mod_point_1 : decode m_Mod_point.2.1 1 = .ok (.getfield 45, 3) := by decide +kernel
theorem d_Mod_point_4 : decode m_Mod_point.2.1 4 = .ok (.iload_n 1, 1) := by decide +kernel
theorem d_Mod_point_5 : decode m_Mod_point.2.1 5 = .ok (.iload_n 2, 1) := by decide +kernel
theorem d_Mod_point_6 : decode m_Mod_point.2.1 6 = .ok (.ifCond .lt 7, 3) := by decide +kernel
theorem d_Mod_point_9 : decode m_Mod_point.2.1 9 = .ok (.iconst 1, 1) := by decide +kernel
theorem d_Mod_point_10 : decode m_Mod_point.2.1 10 = .ok (.goto 4, 3) := by decide +kernel
theorem d_Mod_point_13 : decode m_Mod_point.2.1 13 = .ok (.iconst 0, 1) := by decide +kernel
theorem d_Mod_point_14 : decode m_Mod_point.2.1 14 = .ok (.bastore, 1) := by decide +kernel
theorem d_Mod_point_15 : decode m_Mod_point.2.1 15 = .ok (.aload_n 0, 1) := by decide +kernel
theorem d_Mod_point_16 : decode m_Mod_point.2.1 16 = .ok (.getfield 48, 3) := by decide +kernel
theorem d_Mod_point_19 : decode m_Mod_point.2.1 19 = .ok (.iload_n 1, 1) := by decide +kernel
theorem d_Mod_point_20 : decode m_Mod_point.2.1 20 = .ok (.iload_n 2, 1) := by decide +kernel
theorem d_Mod_point_21 : decode m_Mod_point.2.1 21 = .ok (.ifCond .ge 7, 3) := by decide +kernel
theorem d_Mod_point_24 : decode m_Mod_point.2.1 24 = .ok (.lconst 0, 1) := by decide +kernel
theorem d_Mod_point_25 : decode m_Mod_point.2.1 25 = .ok (.goto 9, 3) := by decide +kernel
theorem d_Mod_point_28 : decode m_Mod_point.2.1 28 = .ok (.aload_n 0, 1) := by decide +kernel
theorem d_Mod_point_29 : decode m_Mod_point.2.1 29 = .ok (.getfield 16, 3) := by decide +kernel
theorem d_Mod_point_32 : decode m_Mod_point.2.1 32 = .ok (.iload_n 2, 1) := by decide +kernel
theorem d_Mod_point_33 : decode m_Mod_point.2.1 33 = .ok (.laload, 1) := by decide +kernel
theorem d_Mod_point_34 : decode m_Mod_point.2.1 34 = .ok (.lastore, 1) := by decide +kernel
theorem d_Mod_point_35 : decode m_Mod_point.2.1 35 = .ok (.return_, 1) := by decide +kernel
theorem d_Mod_rowAt_0 : decode m_Mod_rowAt.2.1 0 = .ok (.aload_n 0, 1) := by decide +kernel
theorem d_Mod_rowAt_1 : decode m_Mod_rowAt.2.1 1 = .ok (.getfield 45, 3) := by decide +kernel
theorem d_Mod_rowAt_4 : decode m_Mod_rowAt.2.1 4 = .ok (.iload_n 1, 1) := by decide +kernel
theorem d_Mod_rowAt_5 : decode m_Mod_rowAt.2.1 5 = .ok (.baload, 1) := by decide +kernel
theorem d_Mod_rowAt_6 : decode m_Mod_rowAt.2.1 6 = .ok (.ifCond .eq 22, 3) := by decide +kernel
theorem d_Mod_rowAt_9 : decode m_Mod_rowAt.2.1 9 = .ok (.aload_n 0, 1) := by decide +kernel
theorem d_Mod_rowAt_10 : decode m_Mod_rowAt.2.1 10 = .ok (.aload_n 0, 1) := by decide +kernel
theorem d_Mod_rowAt_11 : decode m_Mod_rowAt.2.1 11 = .ok (.getfield 42, 3) := by decide +kernel
theorem d_Mod_rowAt_14 : decode m_Mod_rowAt.2.1 14 = .ok (.iload_n 1, 1) := by decide +kernel
theorem d_Mod_rowAt_15 : decode m_Mod_rowAt.2.1 15 = .ok (.iaload, 1) := by decide +kernel
theorem d_Mod_rowAt_16 : decode m_Mod_rowAt.2.1 16 = .ok (.aload_n 0, 1) := by decide +kernel
theorem d_Mod_rowAt_17 : decode m_Mod_rowAt.2.1 17 = .ok (.getfield 48, 3) := by decide +kernel
theorem d_Mod_rowAt_20 : decode m_Mod_rowAt.2.1 20 = .ok (.iload_n 1, 1) := by decide +kernel
theorem d_Mod_rowAt_21 : decode m_Mod_rowAt.2.1 21 = .ok (.laload, 1) := by decide +kernel
theorem d_Mod_rowAt_22 : decode m_Mod_rowAt.2.1 22 = .ok (.invokevirtual 86, 3) := by decide +kernel
theorem d_Mod_rowAt_25 : decode m_Mod_rowAt.2.1 25 = .ok (.goto 4, 3) := by decide +kernel
theorem d_Mod_rowAt_28 : decode m_Mod_rowAt.2.1 28 = .ok (.iconst (-1), 1) := by decide +kernel
theorem d_Mod_rowAt_29 : decode m_Mod_rowAt.2.1 29 = .ok (.ireturn, 1) := by decide +kernel
theorem d_Mod_without_0 : decode m_Mod_without.2.1 0 = .ok (.iload_n 1, 1) := by decide +kernel
theorem d_Mod_without_1 : decode m_Mod_without.2.1 1 = .ok (.iconst 1, 1) := by decide +kernel
theorem d_Mod_without_2 : decode m_Mod_without.2.1 2 = .ok (.if_icmp .ne 20, 3) := by decide +kernel
theorem d_Mod_without_5 : decode m_Mod_without.2.1 5 = .ok (.aload_n 0, 1) := by decide +kernel
theorem d_Mod_without_6 : decode m_Mod_without.2.1 6 = .ok (.getfield 42, 3) := by decide +kernel
theorem d_Mod_without_9 : decode m_Mod_without.2.1 9 = .ok (.iload_n 2, 1) := by decide +kernel
theorem d_Mod_without_10 : decode m_Mod_without.2.1 10 = .ok (.iload_n 3, 1) := by decide +kernel
theorem d_Mod_without_11 : decode m_Mod_without.2.1 11 = .ok (.iastore, 1) := by decide +kernel
theorem d_Mod_without_12 : decode m_Mod_without.2.1 12 = .ok (.aload_n 0, 1) := by decide +kernel
theorem d_Mod_without_13 : decode m_Mod_without.2.1 13 = .ok (.getfield 45, 3) := by decide +kernel
theorem d_Mod_without_16 : decode m_Mod_without.2.1 16 = .ok (.iload_n 2, 1) := by decide +kernel
theorem d_Mod_without_17 : decode m_Mod_without.2.1 17 = .ok (.iconst 0, 1) := by decide +kernel
theorem d_Mod_without_18 : decode m_Mod_without.2.1 18 = .ok (.bastore, 1) := by decide +kernel
theorem d_Mod_without_19 : decode m_Mod_without.2.1 19 = .ok (.goto 273, 3) := by decide +kernel
theorem d_Mod_without_22 : decode m_Mod_without.2.1 22 = .ok (.iload_n 1, 1) := by decide +kernel
theorem d_Mod_without_23 : decode m_Mod_without.2.1 23 = .ok (.bipush 6, 2) := by decide +kernel
theorem d_Mod_without_25 : decode m_Mod_without.2.1 25 = .ok (.if_icmp .ne 14, 3) := by decide +kernel
theorem d_Mod_without_28 : decode m_Mod_without.2.1 28 = .ok (.aload_n 0, 1) := by decide +kernel
theorem d_Mod_without_29 : decode m_Mod_without.2.1 29 = .ok (.iload_n 3, 1) := by decide +kernel
theorem d_Mod_without_30 : decode m_Mod_without.2.1 30 = .ok (.iconst 1, 1) := by decide +kernel
theorem d_Mod_without_31 : decode m_Mod_without.2.1 31 = .ok (.iload_n 2, 1) := by decide +kernel
theorem d_Mod_without_32 : decode m_Mod_without.2.1 32 = .ok (.i2l, 1) := by decide +kernel
theorem d_Mod_without_33 : decode m_Mod_without.2.1 33 = .ok (.invokevirtual 138, 3) := by decide +kernel
theorem d_Mod_without_36 : decode m_Mod_without.2.1 36 = .ok (.goto 256, 3) := by decide +kernel
theorem d_Mod_without_39 : decode m_Mod_without.2.1 39 = .ok (.iload_n 1, 1) := by decide +kernel
theorem d_Mod_without_40 : decode m_Mod_without.2.1 40 = .ok (.bipush 7, 2) := by decide +kernel
theorem d_Mod_without_42 : decode m_Mod_without.2.1 42 = .ok (.if_icmp .ne 13, 3) := by decide +kernel
theorem d_Mod_without_45 : decode m_Mod_without.2.1 45 = .ok (.aload_n 0, 1) := by decide +kernel
theorem d_Mod_without_46 : decode m_Mod_without.2.1 46 = .ok (.iload_n 2, 1) := by decide +kernel
theorem d_Mod_without_47 : decode m_Mod_without.2.1 47 = .ok (.iconst 0, 1) := by decide +kernel
theorem d_Mod_without_48 : decode m_Mod_without.2.1 48 = .ok (.lconst 0, 1) := by decide +kernel
theorem d_Mod_without_49 : decode m_Mod_without.2.1 49 = .ok (.invokevirtual 138, 3) := by decide +kernel
theorem d_Mod_without_52 : decode m_Mod_without.2.1 52 = .ok (.goto 240, 3) := by decide +kernel
theorem d_Mod_without_55 : decode m_Mod_without.2.1 55 = .ok (.iload_n 1, 1) := by decide +kernel
theorem d_Mod_without_56 : decode m_Mod_without.2.1 56 = .ok (.bipush 17, 2) := by decide +kernel
theorem d_Mod_without_58 : decode m_Mod_without.2.1 58 = .ok (.if_icmp .ne 48, 3) := by decide +kernel
theorem d_Mod_without_61 : decode m_Mod_without.2.1 61 = .ok (.aload_n 0, 1) := by decide +kernel
theorem d_Mod_without_62 : decode m_Mod_without.2.1 62 = .ok (.iload 4, 2) := by decide +kernel
theorem d_Mod_without_64 : decode m_Mod_without.2.1 64 = .ok (.aload_n 0, 1) := by decide +kernel
theorem d_Mod_without_65 : decode m_Mod_without.2.1 65 = .ok (.getfield 39, 3) := by decide +kernel
theorem d_Mod_without_68 : decode m_Mod_without.2.1 68 = .ok (.iload_n 2, 1) := by decide +kernel
theorem d_Mod_without_69 : decode m_Mod_without.2.1 69 = .ok (.baload, 1) := by decide +kernel
theorem d_Mod_without_70 : decode m_Mod_without.2.1 70 = .ok (.ifCond .eq 16, 3) := by decide +kernel
theorem d_Mod_without_73 : decode m_Mod_without.2.1 73 = .ok (.aload_n 0, 1) := by decide +kernel
theorem d_Mod_without_74 : decode m_Mod_without.2.1 74 = .ok (.getfield 39, 3) := by decide +kernel
theorem d_Mod_without_77 : decode m_Mod_without.2.1 77 = .ok (.iload_n 3, 1) := by decide +kernel
theorem d_Mod_without_78 : decode m_Mod_without.2.1 78 = .ok (.baload, 1) := by decide +kernel
theorem d_Mod_without_79 : decode m_Mod_without.2.1 79 = .ok (.ifCond .eq 7, 3) := by decide +kernel
theorem d_Mod_without_82 : decode m_Mod_without.2.1 82 = .ok (.iconst 1, 1) := by decide +kernel
theorem d_Mod_without_83 : decode m_Mod_without.2.1 83 = .ok (.goto 4, 3) := by decide +kernel
theorem d_Mod_without_86 : decode m_Mod_without.2.1 86 = .ok (.iconst 0, 1) := by decide +kernel
theorem d_Mod_without_87 : decode m_Mod_without.2.1 87 = .ok (.aload_n 0, 1) := by decide +kernel
theorem d_Mod_without_88 : decode m_Mod_without.2.1 88 = .ok (.getfield 36, 3) := by decide +kernel
theorem d_Mod_without_91 : decode m_Mod_without.2.1 91 = .ok (.iload_n 2, 1) := by decide +kernel
theorem d_Mod_without_92 : decode m_Mod_without.2.1 92 = .ok (.laload, 1) := by decide +kernel
theorem d_Mod_without_93 : decode m_Mod_without.2.1 93 = .ok (.aload_n 0, 1) := by decide +kernel
theorem d_Mod_without_94 : decode m_Mod_without.2.1 94 = .ok (.getfield 36, 3) := by decide +kernel
theorem d_Mod_without_97 : decode m_Mod_without.2.1 97 = .ok (.iload_n 3, 1) := by decide +kernel
theorem d_Mod_without_98 : decode m_Mod_without.2.1 98 = .ok (.laload, 1) := by decide +kernel
theorem d_Mod_without_99 : decode m_Mod_without.2.1 99 = .ok (.ladd, 1) := by decide +kernel
theorem d_Mod_without_100 : decode m_Mod_without.2.1 100 = .ok (.invokevirtual 138, 3) := by decide +kernel
theorem d_Mod_without_103 : decode m_Mod_without.2.1 103 = .ok (.goto 189, 3) := by decide +kernel
theorem d_Mod_without_106 : decode m_Mod_without.2.1 106 = .ok (.iload_n 1, 1) := by decide +kernel
theorem d_Mod_without_107 : decode m_Mod_without.2.1 107 = .ok (.bipush 18, 2) := by decide +kernel
theorem d_Mod_without_109 : decode m_Mod_without.2.1 109 = .ok (.if_icmp .ne 87, 3) := by decide +kernel
theorem d_Mod_without_112 : decode m_Mod_without.2.1 112 = .ok (.aload_n 0, 1) := by decide +kernel
theorem d_Mod_without_113 : decode m_Mod_without.2.1 113 = .ok (.getfield 51, 3) := by decide +kernel
theorem d_Mod_without_116 : decode m_Mod_without.2.1 116 = .ok (.aload_n 0, 1) := by decide +kernel
theorem d_Mod_without_117 : decode m_Mod_without.2.1 117 = .ok (.getfield 142, 3) := by decide +kernel
theorem d_Mod_without_120 : decode m_Mod_without.2.1 120 = .ok (.iload_n 3, 1) := by decide +kernel
theorem d_Mod_without_121 : decode m_Mod_without.2.1 121 = .ok (.iastore, 1) := by decide +kernel
theorem d_Mod_without_122 : decode m_Mod_without.2.1 122 = .ok (.iconst 0, 1) := by decide +kernel
theorem d_Mod_without_123 : decode m_Mod_without.2.1 123 = .ok (.istore 5, 2) := by decide +kernel
theorem d_Mod_without_125 : decode m_Mod_without.2.1 125 = .ok (.iload 5, 2) := by decide +kernel
theorem d_Mod_without_127 : decode m_Mod_without.2.1 127 = .ok (.iload_n 3, 1) := by decide +kernel
theorem d_Mod_without_128 : decode m_Mod_without.2.1 128 = .ok (.if_icmp .ge 55, 3) := by decide +kernel
theorem d_Mod_without_131 : decode m_Mod_without.2.1 131 = .ok (.aload_n 0, 1) := by decide +kernel
theorem d_Mod_without_132 : decode m_Mod_without.2.1 132 = .ok (.getfield 54, 3) := by decide +kernel
theorem d_Mod_without_135 : decode m_Mod_without.2.1 135 = .ok (.iconst 4, 1) := by decide +kernel
theorem d_Mod_without_136 : decode m_Mod_without.2.1 136 = .ok (.aload_n 0, 1) := by decide +kernel
theorem d_Mod_without_137 : decode m_Mod_without.2.1 137 = .ok (.getfield 142, 3) := by decide +kernel
theorem d_Mod_without_140 : decode m_Mod_without.2.1 140 = .ok (.imul, 1) := by decide +kernel
theorem d_Mod_without_141 : decode m_Mod_without.2.1 141 = .ok (.iload 5, 2) := by decide +kernel
theorem d_Mod_without_143 : decode m_Mod_without.2.1 143 = .ok (.iadd, 1) := by decide +kernel
theorem d_Mod_without_144 : decode m_Mod_without.2.1 144 = .ok (.aload_n 0, 1) := by decide +kernel
theorem d_Mod_without_145 : decode m_Mod_without.2.1 145 = .ok (.getfield 36, 3) := by decide +kernel
theorem d_Mod_without_148 : decode m_Mod_without.2.1 148 = .ok (.iload_n 2, 1) := by decide +kernel
theorem d_Mod_without_149 : decode m_Mod_without.2.1 149 = .ok (.iload 5, 2) := by decide +kernel
theorem d_Mod_without_151 : decode m_Mod_without.2.1 151 = .ok (.iadd, 1) := by decide +kernel
theorem d_Mod_without_152 : decode m_Mod_without.2.1 152 = .ok (.laload, 1) := by decide +kernel
theorem d_Mod_without_153 : decode m_Mod_without.2.1 153 = .ok (.lastore, 1) := by decide +kernel
theorem d_Mod_without_154 : decode m_Mod_without.2.1 154 = .ok (.aload_n 0, 1) := by decide +kernel
theorem d_Mod_without_155 : decode m_Mod_without.2.1 155 = .ok (.getfield 57, 3) := by decide +kernel
theorem d_Mod_without_158 : decode m_Mod_without.2.1 158 = .ok (.iconst 4, 1) := by decide +kernel
theorem d_Mod_without_159 : decode m_Mod_without.2.1 159 = .ok (.aload_n 0, 1) := by decide +kernel
theorem d_Mod_without_160 : decode m_Mod_without.2.1 160 = .ok (.getfield 142, 3) := by decide +kernel
theorem d_Mod_without_163 : decode m_Mod_without.2.1 163 = .ok (.imul, 1) := by decide +kernel
theorem d_Mod_without_164 : decode m_Mod_without.2.1 164 = .ok (.iload 5, 2) := by decide +kernel
theorem d_Mod_without_166 : decode m_Mod_without.2.1 166 = .ok (.iadd, 1) := by decide +kernel
theorem d_Mod_without_167 : decode m_Mod_without.2.1 167 = .ok (.aload_n 0, 1) := by decide +kernel
theorem d_Mod_without_168 : decode m_Mod_without.2.1 168 = .ok (.getfield 39, 3) := by decide +kernel
theorem d_Mod_without_171 : decode m_Mod_without.2.1 171 = .ok (.iload_n 2, 1) := by decide +kernel
theorem d_Mod_without_172 : decode m_Mod_without.2.1 172 = .ok (.iload 5, 2) := by decide +kernel
theorem d_Mod_without_174 : decode m_Mod_without.2.1 174 = .ok (.iadd, 1) := by decide +kernel
theorem d_Mod_without_175 : decode m_Mod_without.2.1 175 = .ok (.baload, 1) := by decide +kernel
theorem d_Mod_without_176 : decode m_Mod_without.2.1 176 = .ok (.bastore, 1) := by decide +kernel
theorem d_Mod_without_177 : decode m_Mod_without.2.1 177 = .ok (.iinc 5 1, 3) := by decide +kernel
theorem d_Mod_without_180 : decode m_Mod_without.2.1 180 = .ok (.goto (-55), 3) := by decide +kernel
theorem d_Mod_without_183 : decode m_Mod_without.2.1 183 = .ok (.aload_n 0, 1) := by decide +kernel
theorem d_Mod_without_184 : decode m_Mod_without.2.1 184 = .ok (.dup, 1) := by decide +kernel
theorem d_Mod_without_185 : decode m_Mod_without.2.1 185 = .ok (.getfield 142, 3) := by decide +kernel
theorem d_Mod_without_188 : decode m_Mod_without.2.1 188 = .ok (.iconst 1, 1) := by decide +kernel
theorem d_Mod_without_189 : decode m_Mod_without.2.1 189 = .ok (.iadd, 1) := by decide +kernel
theorem d_Mod_without_190 : decode m_Mod_without.2.1 190 = .ok (.putfield 142, 3) := by decide +kernel
theorem d_Mod_without_193 : decode m_Mod_without.2.1 193 = .ok (.goto 99, 3) := by decide +kernel
theorem d_Mod_without_196 : decode m_Mod_without.2.1 196 = .ok (.iload_n 1, 1) := by decide +kernel
theorem d_Mod_without_197 : decode m_Mod_without.2.1 197 = .ok (.bipush 15, 2) := by decide +kernel
theorem d_Mod_without_199 : decode m_Mod_without.2.1 199 = .ok (.if_icmp .eq 9, 3) := by decide +kernel
theorem d_Mod_without_202 : decode m_Mod_without.2.1 202 = .ok (.iload_n 1, 1) := by decide +kernel
theorem d_Mod_without_203 : decode m_Mod_without.2.1 203 = .ok (.bipush 16, 2) := by decide +kernel
theorem d_Mod_without_205 : decode m_Mod_without.2.1 205 = .ok (.if_icmp .ne 29, 3) := by decide +kernel
theorem d_Mod_without_208 : decode m_Mod_without.2.1 208 = .ok (.aload_n 0, 1) := by decide +kernel
theorem d_Mod_without_209 : decode m_Mod_without.2.1 209 = .ok (.getfield 39, 3) := by decide +kernel
theorem d_Mod_without_212 : decode m_Mod_without.2.1 212 = .ok (.iload_n 2, 1) := by decide +kernel
theorem d_Mod_without_213 : decode m_Mod_without.2.1 213 = .ok (.baload, 1) := by decide +kernel
theorem d_Mod_without_214 : decode m_Mod_without.2.1 214 = .ok (.iload_n 1, 1) := by decide +kernel
theorem d_Mod_without_215 : decode m_Mod_without.2.1 215 = .ok (.bipush 16, 2) := by decide +kernel
theorem d_Mod_without_217 : decode m_Mod_without.2.1 217 = .ok (.if_icmp .ne 7, 3) := by decide +kernel
theorem d_Mod_without_220 : decode m_Mod_without.2.1 220 = .ok (.iconst 1, 1) := by decide +kernel
theorem d_Mod_without_221 : decode m_Mod_without.2.1 221 = .ok (.goto 4, 3) := by decide +kernel
theorem d_Mod_without_224 : decode m_Mod_without.2.1 224 = .ok (.iconst 0, 1) := by decide +kernel
theorem d_Mod_without_225 : decode m_Mod_without.2.1 225 = .ok (.if_icmp .ne 7, 3) := by decide +kernel
theorem d_Mod_without_228 : decode m_Mod_without.2.1 228 = .ok (.iconst 1, 1) := by decide +kernel
theorem d_Mod_without_229 : decode m_Mod_without.2.1 229 = .ok (.goto 4, 3) := by decide +kernel
theorem d_Mod_without_232 : decode m_Mod_without.2.1 232 = .ok (.iconst 0, 1) := by decide +kernel
theorem d_Mod_without_233 : decode m_Mod_without.2.1 233 = .ok (.ireturn, 1) := by decide +kernel
theorem d_Mod_without_234 : decode m_Mod_without.2.1 234 = .ok (.iload_n 1, 1) := by decide +kernel
theorem d_Mod_without_235 : decode m_Mod_without.2.1 235 = .ok (.bipush 9, 2) := by decide +kernel
theorem d_Mod_without_237 : decode m_Mod_without.2.1 237 = .ok (.if_icmp .lt 55, 3) := by decide +kernel
theorem d_Mod_without_240 : decode m_Mod_without.2.1 240 = .ok (.iload_n 1, 1) := by decide +kernel
theorem d_Mod_without_241 : decode m_Mod_without.2.1 241 = .ok (.bipush 15, 2) := by decide +kernel
theorem d_Mod_without_243 : decode m_Mod_without.2.1 243 = .ok (.if_icmp .ge 49, 3) := by decide +kernel
theorem d_Mod_without_246 : decode m_Mod_without.2.1 246 = .ok (.aload_n 0, 1) := by decide +kernel
theorem d_Mod_without_247 : decode m_Mod_without.2.1 247 = .ok (.getfield 39, 3) := by decide +kernel
theorem d_Mod_without_250 : decode m_Mod_without.2.1 250 = .ok (.iload_n 2, 1) := by decide +kernel
theorem d_Mod_without_251 : decode m_Mod_without.2.1 251 = .ok (.baload, 1) := by decide +kernel
theorem d_Mod_without_252 : decode m_Mod_without.2.1 252 = .ok (.ifCond .eq 38, 3) := by decide +kernel
theorem d_Mod_without_255 : decode m_Mod_without.2.1 255 = .ok (.aload_n 0, 1) := by decide +kernel
theorem d_Mod_without_256 : decode m_Mod_without.2.1 256 = .ok (.getfield 39, 3) := by decide +kernel
theorem d_Mod_without_259 : decode m_Mod_without.2.1 259 = .ok (.iload 4, 2) := by decide +kernel
theorem d_Mod_without_261 : decode m_Mod_without.2.1 261 = .ok (.baload, 1) := by decide +kernel
theorem d_Mod_without_262 : decode m_Mod_without.2.1 262 = .ok (.ifCond .eq 28, 3) := by decide +kernel
theorem d_Mod_without_265 : decode m_Mod_without.2.1 265 = .ok (.aload_n 0, 1) := by decide +kernel
theorem d_Mod_without_266 : decode m_Mod_without.2.1 266 = .ok (.iload_n 1, 1) := by decide +kernel
theorem d_Mod_without_267 : decode m_Mod_without.2.1 267 = .ok (.aload_n 0, 1) := by decide +kernel
theorem d_Mod_without_268 : decode m_Mod_without.2.1 268 = .ok (.getfield 36, 3) := by decide +kernel
theorem d_Mod_without_271 : decode m_Mod_without.2.1 271 = .ok (.iload_n 2, 1) := by decide +kernel
theorem d_Mod_without_272 : decode m_Mod_without.2.1 272 = .ok (.laload, 1) := by decide +kernel
theorem d_Mod_without_273 : decode m_Mod_without.2.1 273 = .ok (.aload_n 0, 1) := by decide +kernel
theorem d_Mod_without_274 : decode m_Mod_without.2.1 274 = .ok (.getfield 36, 3) := by decide +kernel
theorem d_Mod_without_277 : decode m_Mod_without.2.1 277 = .ok (.iload 4, 2) := by decide +kernel
theorem d_Mod_without_279 : decode m_Mod_without.2.1 279 = .ok (.laload, 1) := by decide +kernel
theorem d_Mod_without_280 : decode m_Mod_without.2.1 280 = .ok (.invokevirtual 145, 3) := by decide +kernel
theorem d_Mod_without_283 : decode m_Mod_without.2.1 283 = .ok (.ifCond .eq 7, 3) := by decide +kernel
theorem d_Mod_without_286 : decode m_Mod_without.2.1 286 = .ok (.iconst 1, 1) := by decide +kernel
theorem d_Mod_without_287 : decode m_Mod_without.2.1 287 = .ok (.goto 4, 3) := by decide +kernel
theorem d_Mod_without_290 : decode m_Mod_without.2.1 290 = .ok (.iconst 0, 1) := by decide +kernel
theorem d_Mod_without_291 : decode m_Mod_without.2.1 291 = .ok (.ireturn, 1) := by decide +kernel
theorem d_Mod_without_292 : decode m_Mod_without.2.1 292 = .ok (.iload_n 1, 1) := by decide +kernel
theorem d_Mod_without_293 : decode m_Mod_without.2.1 293 = .ok (.bipush 19, 2) := by decide +kernel
theorem d_Mod_without_295 : decode m_Mod_without.2.1 295 = .ok (.if_icmp .ne 7, 3) := by decide +kernel
theorem d_Mod_without_298 : decode m_Mod_without.2.1 298 = .ok (.iconst 1, 1) := by decide +kernel
theorem d_Mod_without_299 : decode m_Mod_without.2.1 299 = .ok (.goto 4, 3) := by decide +kernel
theorem d_Mod_without_302 : decode m_Mod_without.2.1 302 = .ok (.iconst 0, 1) := by decide +kernel
theorem d_Mod_without_303 : decode m_Mod_without.2.1 303 = .ok (.ireturn, 1) := by decide +kernel
theorem d_Mod_compares_0 : decode m_Mod_compares.2.1 0 = .ok (.iload_n 1, 1) := by decide +kernel
theorem d_Mod_compares_1 : decode m_Mod_compares.2.1 1 = .ok (.bipush 9, 2) := by decide +kernel
theorem d_Mod_compares_3 : decode m_Mod_compares.2.1 3 = .ok (.isub, 1) := by decide +kernel
theorem d_Mod_compares_4 : decode m_Mod_compares.2.1 4 = .ok (.istore 6, 2) := by decide +kernel
theorem d_Mod_compares_6 : decode m_Mod_compares.2.1 6 = .ok (.iload 6, 2) := by decide +kernel
theorem d_Mod_compares_8 : decode m_Mod_compares.2.1 8 = .ok (.ifCond .ne 18, 3) := by decide +kernel
theorem d_Mod_compares_11 : decode m_Mod_compares.2.1 11 = .ok (.lload_n 2, 1) := by decide +kernel
theorem d_Mod_compares_12 : decode m_Mod_compares.2.1 12 = .ok (.lload 4, 2) := by decide +kernel
theorem d_Mod_compares_14 : decode m_Mod_compares.2.1 14 = .ok (.lcmp, 1) := by decide +kernel
theorem d_Mod_compares_15 : decode m_Mod_compares.2.1 15 = .ok (.ifCond .ne 7, 3) := by decide +kernel
theorem d_Mod_compares_18 : decode m_Mod_compares.2.1 18 = .ok (.iconst 1, 1) := by decide +kernel
theorem d_Mod_compares_19 : decode m_Mod_compares.2.1 19 = .ok (.goto 103, 3) := by decide +kernel
theorem d_Mod_compares_22 : decode m_Mod_compares.2.1 22 = .ok (.iconst 0, 1) := by decide +kernel
theorem d_Mod_compares_23 : decode m_Mod_compares.2.1 23 = .ok (.goto 99, 3) := by decide +kernel
theorem d_Mod_compares_26 : decode m_Mod_compares.2.1 26 = .ok (.iload 6, 2) := by decide +kernel
theorem d_Mod_compares_28 : decode m_Mod_compares.2.1 28 = .ok (.iconst 1, 1) := by decide +kernel
theorem d_Mod_compares_29 : decode m_Mod_compares.2.1 29 = .ok (.if_icmp .ne 18, 3) := by decide +kernel
theorem d_Mod_compares_32 : decode m_Mod_compares.2.1 32 = .ok (.lload_n 2, 1) := by decide +kernel
theorem d_Mod_compares_33 : decode m_Mod_compares.2.1 33 = .ok (.lload 4, 2) := by decide +kernel
theorem d_Mod_compares_35 : decode m_Mod_compares.2.1 35 = .ok (.lcmp, 1) := by decide +kernel
theorem d_Mod_compares_36 : decode m_Mod_compares.2.1 36 = .ok (.ifCond .eq 7, 3) := by decide +kernel
theorem d_Mod_compares_39 : decode m_Mod_compares.2.1 39 = .ok (.iconst 1, 1) := by decide +kernel
theorem d_Mod_compares_40 : decode m_Mod_compares.2.1 40 = .ok (.goto 82, 3) := by decide +kernel
theorem d_Mod_compares_43 : decode m_Mod_compares.2.1 43 = .ok (.iconst 0, 1) := by decide +kernel
theorem d_Mod_compares_44 : decode m_Mod_compares.2.1 44 = .ok (.goto 78, 3) := by decide +kernel
theorem d_Mod_compares_47 : decode m_Mod_compares.2.1 47 = .ok (.iload 6, 2) := by decide +kernel
theorem d_Mod_compares_49 : decode m_Mod_compares.2.1 49 = .ok (.iconst 2, 1) := by decide +kernel
theorem d_Mod_compares_50 : decode m_Mod_compares.2.1 50 = .ok (.if_icmp .ne 18, 3) := by decide +kernel
theorem d_Mod_compares_53 : decode m_Mod_compares.2.1 53 = .ok (.lload_n 2, 1) := by decide +kernel
theorem d_Mod_compares_54 : decode m_Mod_compares.2.1 54 = .ok (.lload 4, 2) := by decide +kernel
theorem d_Mod_compares_56 : decode m_Mod_compares.2.1 56 = .ok (.lcmp, 1) := by decide +kernel
theorem d_Mod_compares_57 : decode m_Mod_compares.2.1 57 = .ok (.ifCond .ge 7, 3) := by decide +kernel
theorem d_Mod_compares_60 : decode m_Mod_compares.2.1 60 = .ok (.iconst 1, 1) := by decide +kernel
theorem d_Mod_compares_61 : decode m_Mod_compares.2.1 61 = .ok (.goto 61, 3) := by decide +kernel
theorem d_Mod_compares_64 : decode m_Mod_compares.2.1 64 = .ok (.iconst 0, 1) := by decide +kernel
theorem d_Mod_compares_65 : decode m_Mod_compares.2.1 65 = .ok (.goto 57, 3) := by decide +kernel
theorem d_Mod_compares_68 : decode m_Mod_compares.2.1 68 = .ok (.iload 6, 2) := by decide +kernel
theorem d_Mod_compares_70 : decode m_Mod_compares.2.1 70 = .ok (.iconst 3, 1) := by decide +kernel
theorem d_Mod_compares_71 : decode m_Mod_compares.2.1 71 = .ok (.if_icmp .ne 18, 3) := by decide +kernel
theorem d_Mod_compares_74 : decode m_Mod_compares.2.1 74 = .ok (.lload_n 2, 1) := by decide +kernel
theorem d_Mod_compares_75 : decode m_Mod_compares.2.1 75 = .ok (.lload 4, 2) := by decide +kernel
theorem d_Mod_compares_77 : decode m_Mod_compares.2.1 77 = .ok (.lcmp, 1) := by decide +kernel
theorem d_Mod_compares_78 : decode m_Mod_compares.2.1 78 = .ok (.ifCond .gt 7, 3) := by decide +kernel
theorem d_Mod_compares_81 : decode m_Mod_compares.2.1 81 = .ok (.iconst 1, 1) := by decide +kernel
theorem d_Mod_compares_82 : decode m_Mod_compares.2.1 82 = .ok (.goto 40, 3) := by decide +kernel
theorem d_Mod_compares_85 : decode m_Mod_compares.2.1 85 = .ok (.iconst 0, 1) := by decide +kernel
theorem d_Mod_compares_86 : decode m_Mod_compares.2.1 86 = .ok (.goto 36, 3) := by decide +kernel
theorem d_Mod_compares_89 : decode m_Mod_compares.2.1 89 = .ok (.iload 6, 2) := by decide +kernel
theorem d_Mod_compares_91 : decode m_Mod_compares.2.1 91 = .ok (.iconst 4, 1) := by decide +kernel
theorem d_Mod_compares_92 : decode m_Mod_compares.2.1 92 = .ok (.if_icmp .ne 18, 3) := by decide +kernel
theorem d_Mod_compares_95 : decode m_Mod_compares.2.1 95 = .ok (.lload_n 2, 1) := by decide +kernel
theorem d_Mod_compares_96 : decode m_Mod_compares.2.1 96 = .ok (.lload 4, 2) := by decide +kernel
theorem d_Mod_compares_98 : decode m_Mod_compares.2.1 98 = .ok (.lcmp, 1) := by decide +kernel
theorem d_Mod_compares_99 : decode m_Mod_compares.2.1 99 = .ok (.ifCond .le 7, 3) := by decide +kernel
theorem d_Mod_compares_102 : decode m_Mod_compares.2.1 102 = .ok (.iconst 1, 1) := by decide +kernel
theorem d_Mod_compares_103 : decode m_Mod_compares.2.1 103 = .ok (.goto 19, 3) := by decide +kernel
theorem d_Mod_compares_106 : decode m_Mod_compares.2.1 106 = .ok (.iconst 0, 1) := by decide +kernel
theorem d_Mod_compares_107 : decode m_Mod_compares.2.1 107 = .ok (.goto 15, 3) := by decide +kernel
theorem d_Mod_compares_110 : decode m_Mod_compares.2.1 110 = .ok (.lload_n 2, 1) := by decide +kernel
theorem d_Mod_compares_111 : decode m_Mod_compares.2.1 111 = .ok (.lload 4, 2) := by decide +kernel
theorem d_Mod_compares_113 : decode m_Mod_compares.2.1 113 = .ok (.lcmp, 1) := by decide +kernel
theorem d_Mod_compares_114 : decode m_Mod_compares.2.1 114 = .ok (.ifCond .lt 7, 3) := by decide +kernel
theorem d_Mod_compares_117 : decode m_Mod_compares.2.1 117 = .ok (.iconst 1, 1) := by decide +kernel
theorem d_Mod_compares_118 : decode m_Mod_compares.2.1 118 = .ok (.goto 4, 3) := by decide +kernel
theorem d_Mod_compares_121 : decode m_Mod_compares.2.1 121 = .ok (.iconst 0, 1) := by decide +kernel
theorem d_Mod_compares_122 : decode m_Mod_compares.2.1 122 = .ok (.ireturn, 1) := by decide +kernel
theorem d_Mod_result_0 : decode m_Mod_result.2.1 0 = .ok (.aload_n 0, 1) := by decide +kernel
theorem d_Mod_result_1 : decode m_Mod_result.2.1 1 = .ok (.iconst 0, 1) := by decide +kernel
theorem d_Mod_result_2 : decode m_Mod_result.2.1 2 = .ok (.putfield 73, 3) := by decide +kernel
theorem d_Mod_result_5 : decode m_Mod_result.2.1 5 = .ok (.iload_n 1, 1) := by decide +kernel
theorem d_Mod_result_6 : decode m_Mod_result.2.1 6 = .ok (.iconst (-1), 1) := by decide +kernel
theorem d_Mod_result_7 : decode m_Mod_result.2.1 7 = .ok (.if_icmp .ne 9, 3) := by decide +kernel
theorem d_Mod_result_10 : decode m_Mod_result.2.1 10 = .ok (.aload_n 0, 1) := by decide +kernel
theorem d_Mod_result_11 : decode m_Mod_result.2.1 11 = .ok (.getfield 142, 3) := by decide +kernel
theorem d_Mod_result_14 : decode m_Mod_result.2.1 14 = .ok (.i2l, 1) := by decide +kernel
theorem d_Mod_result_15 : decode m_Mod_result.2.1 15 = .ok (.lreturn, 1) := by decide +kernel
theorem d_Mod_result_16 : decode m_Mod_result.2.1 16 = .ok (.aload_n 0, 1) := by decide +kernel
theorem d_Mod_result_17 : decode m_Mod_result.2.1 17 = .ok (.iload_n 1, 1) := by decide +kernel
theorem d_Mod_result_18 : decode m_Mod_result.2.1 18 = .ok (.ifCond .lt 11, 3) := by decide +kernel
theorem d_Mod_result_21 : decode m_Mod_result.2.1 21 = .ok (.iload_n 1, 1) := by decide +kernel
theorem d_Mod_result_22 : decode m_Mod_result.2.1 22 = .ok (.aload_n 0, 1) := by decide +kernel
theorem d_Mod_result_23 : decode m_Mod_result.2.1 23 = .ok (.getfield 142, 3) := by decide +kernel
theorem d_Mod_result_26 : decode m_Mod_result.2.1 26 = .ok (.if_icmp .lt 7, 3) := by decide +kernel
theorem d_Mod_result_29 : decode m_Mod_result.2.1 29 = .ok (.iconst 1, 1) := by decide +kernel
theorem d_Mod_result_30 : decode m_Mod_result.2.1 30 = .ok (.goto 4, 3) := by decide +kernel
theorem d_Mod_result_33 : decode m_Mod_result.2.1 33 = .ok (.iconst 0, 1) := by decide +kernel
theorem d_Mod_result_34 : decode m_Mod_result.2.1 34 = .ok (.putfield 73, 3) := by decide +kernel
theorem d_Mod_result_37 : decode m_Mod_result.2.1 37 = .ok (.aload_n 0, 1) := by decide +kernel
theorem d_Mod_result_38 : decode m_Mod_result.2.1 38 = .ok (.getfield 73, 3) := by decide +kernel
theorem d_Mod_result_41 : decode m_Mod_result.2.1 41 = .ok (.ifCond .le 5, 3) := by decide +kernel
theorem d_Mod_result_44 : decode m_Mod_result.2.1 44 = .ok (.lconst 0, 1) := by decide +kernel
theorem d_Mod_result_45 : decode m_Mod_result.2.1 45 = .ok (.lreturn, 1) := by decide +kernel
theorem d_Mod_result_46 : decode m_Mod_result.2.1 46 = .ok (.aload_n 0, 1) := by decide +kernel
theorem d_Mod_result_47 : decode m_Mod_result.2.1 47 = .ok (.iload_n 2, 1) := by decide +kernel
theorem d_Mod_result_48 : decode m_Mod_result.2.1 48 = .ok (.iconst (-1), 1) := by decide +kernel
theorem d_Mod_result_49 : decode m_Mod_result.2.1 49 = .ok (.if_icmp .lt 13, 3) := by decide +kernel
theorem d_Mod_result_52 : decode m_Mod_result.2.1 52 = .ok (.iload_n 2, 1) := by decide +kernel
theorem d_Mod_result_53 : decode m_Mod_result.2.1 53 = .ok (.aload_n 0, 1) := by decide +kernel
theorem d_Mod_result_54 : decode m_Mod_result.2.1 54 = .ok (.getfield 51, 3) := by decide +kernel
theorem d_Mod_result_57 : decode m_Mod_result.2.1 57 = .ok (.iload_n 1, 1) := by decide +kernel
theorem d_Mod_result_58 : decode m_Mod_result.2.1 58 = .ok (.iaload, 1) := by decide +kernel
theorem d_Mod_result_59 : decode m_Mod_result.2.1 59 = .ok (.if_icmp .lt 7, 3) := by decide +kernel
theorem d_Mod_result_62 : decode m_Mod_result.2.1 62 = .ok (.iconst 1, 1) := by decide +kernel
theorem d_Mod_result_63 : decode m_Mod_result.2.1 63 = .ok (.goto 4, 3) := by decide +kernel
theorem d_Mod_result_66 : decode m_Mod_result.2.1 66 = .ok (.iconst 0, 1) := by decide +kernel
theorem d_Mod_result_67 : decode m_Mod_result.2.1 67 = .ok (.putfield 73, 3) := by decide +kernel
theorem d_Mod_result_70 : decode m_Mod_result.2.1 70 = .ok (.aload_n 0, 1) := by decide +kernel
theorem d_Mod_result_71 : decode m_Mod_result.2.1 71 = .ok (.getfield 73, 3) := by decide +kernel
theorem d_Mod_result_74 : decode m_Mod_result.2.1 74 = .ok (.ifCond .le 7, 3) := by decide +kernel
theorem d_Mod_result_77 : decode m_Mod_result.2.1 77 = .ok (.lconst 0, 1) := by decide +kernel
theorem d_Mod_result_78 : decode m_Mod_result.2.1 78 = .ok (.goto 28, 3) := by decide +kernel
theorem d_Mod_result_81 : decode m_Mod_result.2.1 81 = .ok (.iload_n 2, 1) := by decide +kernel
theorem d_Mod_result_82 : decode m_Mod_result.2.1 82 = .ok (.iconst (-1), 1) := by decide +kernel
theorem d_Mod_result_83 : decode m_Mod_result.2.1 83 = .ok (.if_icmp .ne 13, 3) := by decide +kernel
theorem d_Mod_result_86 : decode m_Mod_result.2.1 86 = .ok (.aload_n 0, 1) := by decide +kernel
theorem d_Mod_result_87 : decode m_Mod_result.2.1 87 = .ok (.getfield 51, 3) := by decide +kernel
theorem d_Mod_result_90 : decode m_Mod_result.2.1 90 = .ok (.iload_n 1, 1) := by decide +kernel
theorem d_Mod_result_91 : decode m_Mod_result.2.1 91 = .ok (.iaload, 1) := by decide +kernel
theorem d_Mod_result_92 : decode m_Mod_result.2.1 92 = .ok (.i2l, 1) := by decide +kernel
theorem d_Mod_result_93 : decode m_Mod_result.2.1 93 = .ok (.goto 13, 3) := by decide +kernel
theorem d_Mod_result_96 : decode m_Mod_result.2.1 96 = .ok (.aload_n 0, 1) := by decide +kernel
theorem d_Mod_result_97 : decode m_Mod_result.2.1 97 = .ok (.getfield 54, 3) := by decide +kernel
theorem d_Mod_result_100 : decode m_Mod_result.2.1 100 = .ok (.iconst 4, 1) := by decide +kernel
theorem d_Mod_result_101 : decode m_Mod_result.2.1 101 = .ok (.iload_n 1, 1) := by decide +kernel
theorem d_Mod_result_102 : decode m_Mod_result.2.1 102 = .ok (.imul, 1) := by decide +kernel
theorem d_Mod_result_103 : decode m_Mod_result.2.1 103 = .ok (.iload_n 2, 1) := by decide +kernel
theorem d_Mod_result_104 : decode m_Mod_result.2.1 104 = .ok (.iadd, 1) := by decide +kernel
theorem d_Mod_result_105 : decode m_Mod_result.2.1 105 = .ok (.laload, 1) := by decide +kernel
theorem d_Mod_result_106 : decode m_Mod_result.2.1 106 = .ok (.lreturn, 1) := by decide +kernel
theorem d_Mod_wasNull_0 : decode m_Mod_wasNull.2.1 0 = .ok (.aload_n 0, 1) := by decide +kernel
theorem d_Mod_wasNull_1 : decode m_Mod_wasNull.2.1 1 = .ok (.iload_n 1, 1) := by decide +kernel
theorem d_Mod_wasNull_2 : decode m_Mod_wasNull.2.1 2 = .ok (.ifCond .lt 11, 3) := by decide +kernel
theorem d_Mod_wasNull_5 : decode m_Mod_wasNull.2.1 5 = .ok (.iload_n 1, 1) := by decide +kernel
theorem d_Mod_wasNull_6 : decode m_Mod_wasNull.2.1 6 = .ok (.aload_n 0, 1) := by decide +kernel
theorem d_Mod_wasNull_7 : decode m_Mod_wasNull.2.1 7 = .ok (.getfield 142, 3) := by decide +kernel
theorem d_Mod_wasNull_10 : decode m_Mod_wasNull.2.1 10 = .ok (.if_icmp .lt 7, 3) := by decide +kernel
theorem d_Mod_wasNull_13 : decode m_Mod_wasNull.2.1 13 = .ok (.iconst 1, 1) := by decide +kernel
theorem d_Mod_wasNull_14 : decode m_Mod_wasNull.2.1 14 = .ok (.goto 4, 3) := by decide +kernel
theorem d_Mod_wasNull_17 : decode m_Mod_wasNull.2.1 17 = .ok (.iconst 0, 1) := by decide +kernel
theorem d_Mod_wasNull_18 : decode m_Mod_wasNull.2.1 18 = .ok (.putfield 73, 3) := by decide +kernel
theorem d_Mod_wasNull_21 : decode m_Mod_wasNull.2.1 21 = .ok (.aload_n 0, 1) := by decide +kernel
theorem d_Mod_wasNull_22 : decode m_Mod_wasNull.2.1 22 = .ok (.getfield 73, 3) := by decide +kernel
theorem d_Mod_wasNull_25 : decode m_Mod_wasNull.2.1 25 = .ok (.ifCond .le 5, 3) := by decide +kernel
theorem d_Mod_wasNull_28 : decode m_Mod_wasNull.2.1 28 = .ok (.iconst 0, 1) := by decide +kernel
theorem d_Mod_wasNull_29 : decode m_Mod_wasNull.2.1 29 = .ok (.ireturn, 1) := by decide +kernel
theorem d_Mod_wasNull_30 : decode m_Mod_wasNull.2.1 30 = .ok (.aload_n 0, 1) := by decide +kernel
theorem d_Mod_wasNull_31 : decode m_Mod_wasNull.2.1 31 = .ok (.iload_n 2, 1) := by decide +kernel
theorem d_Mod_wasNull_32 : decode m_Mod_wasNull.2.1 32 = .ok (.ifCond .lt 13, 3) := by decide +kernel
theorem d_Mod_wasNull_35 : decode m_Mod_wasNull.2.1 35 = .ok (.iload_n 2, 1) := by decide +kernel
theorem d_Mod_wasNull_36 : decode m_Mod_wasNull.2.1 36 = .ok (.aload_n 0, 1) := by decide +kernel
theorem d_Mod_wasNull_37 : decode m_Mod_wasNull.2.1 37 = .ok (.getfield 51, 3) := by decide +kernel
theorem d_Mod_wasNull_40 : decode m_Mod_wasNull.2.1 40 = .ok (.iload_n 1, 1) := by decide +kernel
theorem d_Mod_wasNull_41 : decode m_Mod_wasNull.2.1 41 = .ok (.iaload, 1) := by decide +kernel
theorem d_Mod_wasNull_42 : decode m_Mod_wasNull.2.1 42 = .ok (.if_icmp .lt 7, 3) := by decide +kernel
theorem d_Mod_wasNull_45 : decode m_Mod_wasNull.2.1 45 = .ok (.iconst 1, 1) := by decide +kernel
theorem d_Mod_wasNull_46 : decode m_Mod_wasNull.2.1 46 = .ok (.goto 4, 3) := by decide +kernel
theorem d_Mod_wasNull_49 : decode m_Mod_wasNull.2.1 49 = .ok (.iconst 0, 1) := by decide +kernel
theorem d_Mod_wasNull_50 : decode m_Mod_wasNull.2.1 50 = .ok (.putfield 73, 3) := by decide +kernel
theorem d_Mod_wasNull_53 : decode m_Mod_wasNull.2.1 53 = .ok (.aload_n 0, 1) := by decide +kernel
theorem d_Mod_wasNull_54 : decode m_Mod_wasNull.2.1 54 = .ok (.getfield 73, 3) := by decide +kernel
theorem d_Mod_wasNull_57 : decode m_Mod_wasNull.2.1 57 = .ok (.ifCond .ne 20, 3) := by decide +kernel
theorem d_Mod_wasNull_60 : decode m_Mod_wasNull.2.1 60 = .ok (.aload_n 0, 1) := by decide +kernel
theorem d_Mod_wasNull_61 : decode m_Mod_wasNull.2.1 61 = .ok (.getfield 57, 3) := by decide +kernel
theorem d_Mod_wasNull_64 : decode m_Mod_wasNull.2.1 64 = .ok (.iconst 4, 1) := by decide +kernel
theorem d_Mod_wasNull_65 : decode m_Mod_wasNull.2.1 65 = .ok (.iload_n 1, 1) := by decide +kernel
theorem d_Mod_wasNull_66 : decode m_Mod_wasNull.2.1 66 = .ok (.imul, 1) := by decide +kernel
theorem d_Mod_wasNull_67 : decode m_Mod_wasNull.2.1 67 = .ok (.iload_n 2, 1) := by decide +kernel
theorem d_Mod_wasNull_68 : decode m_Mod_wasNull.2.1 68 = .ok (.iadd, 1) := by decide +kernel
theorem d_Mod_wasNull_69 : decode m_Mod_wasNull.2.1 69 = .ok (.baload, 1) := by decide +kernel
theorem d_Mod_wasNull_70 : decode m_Mod_wasNull.2.1 70 = .ok (.ifCond .ne 7, 3) := by decide +kernel
theorem d_Mod_wasNull_73 : decode m_Mod_wasNull.2.1 73 = .ok (.iconst 1, 1) := by decide +kernel
theorem d_Mod_wasNull_74 : decode m_Mod_wasNull.2.1 74 = .ok (.goto 4, 3) := by decide +kernel
theorem d_Mod_wasNull_77 : decode m_Mod_wasNull.2.1 77 = .ok (.iconst 0, 1) := by decide +kernel
theorem d_Mod_wasNull_78 : decode m_Mod_wasNull.2.1 78 = .ok (.ireturn, 1) := by decide +kernel
theorem d_Mod_ask_0 : decode m_Mod_ask.2.1 0 = .ok (.aload_n 0, 1) := by decide +kernel
theorem d_Mod_ask_1 : decode m_Mod_ask.2.1 1 = .ok (.iconst 0, 1) := by decide +kernel
theorem d_Mod_ask_2 : decode m_Mod_ask.2.1 2 = .ok (.putfield 73, 3) := by decide +kernel
theorem d_Mod_ask_5 : decode m_Mod_ask.2.1 5 = .ok (.aload_n 0, 1) := by decide +kernel
theorem d_Mod_ask_6 : decode m_Mod_ask.2.1 6 = .ok (.iload_n 1, 1) := by decide +kernel
theorem d_Mod_ask_7 : decode m_Mod_ask.2.1 7 = .ok (.invokevirtual 82, 3) := by decide +kernel
theorem d_Mod_ask_10 : decode m_Mod_ask.2.1 10 = .ok (.ifCond .eq 16, 3) := by decide +kernel
theorem d_Mod_ask_13 : decode m_Mod_ask.2.1 13 = .ok (.iload_n 2, 1) := by decide +kernel
theorem d_Mod_ask_14 : decode m_Mod_ask.2.1 14 = .ok (.iconst (-1), 1) := by decide +kernel
theorem d_Mod_ask_15 : decode m_Mod_ask.2.1 15 = .ok (.if_icmp .eq 13, 3) := by decide +kernel
theorem d_Mod_ask_18 : decode m_Mod_ask.2.1 18 = .ok (.aload_n 0, 1) := by decide +kernel
theorem d_Mod_ask_19 : decode m_Mod_ask.2.1 19 = .ok (.iload_n 2, 1) := by decide +kernel
theorem d_Mod_ask_20 : decode m_Mod_ask.2.1 20 = .ok (.invokevirtual 82, 3) := by decide +kernel
theorem d_Mod_ask_23 : decode m_Mod_ask.2.1 23 = .ok (.ifCond .ne 5, 3) := by decide +kernel
theorem d_Mod_ask_26 : decode m_Mod_ask.2.1 26 = .ok (.iconst 0, 1) := by decide +kernel
theorem d_Mod_ask_27 : decode m_Mod_ask.2.1 27 = .ok (.ireturn, 1) := by decide +kernel
theorem d_Mod_ask_28 : decode m_Mod_ask.2.1 28 = .ok (.aload_n 0, 1) := by decide +kernel
theorem d_Mod_ask_29 : decode m_Mod_ask.2.1 29 = .ok (.iload_n 1, 1) := by decide +kernel
theorem d_Mod_ask_30 : decode m_Mod_ask.2.1 30 = .ok (.putfield 60, 3) := by decide +kernel
theorem d_Mod_ask_33 : decode m_Mod_ask.2.1 33 = .ok (.aload_n 0, 1) := by decide +kernel
theorem d_Mod_ask_34 : decode m_Mod_ask.2.1 34 = .ok (.iload_n 2, 1) := by decide +kernel
theorem d_Mod_ask_35 : decode m_Mod_ask.2.1 35 = .ok (.putfield 64, 3) := by decide +kernel
theorem d_Mod_ask_38 : decode m_Mod_ask.2.1 38 = .ok (.aload_n 0, 1) := by decide +kernel
theorem d_Mod_ask_39 : decode m_Mod_ask.2.1 39 = .ok (.iconst 0, 1) := by decide +kernel
theorem d_Mod_ask_40 : decode m_Mod_ask.2.1 40 = .ok (.putfield 171, 3) := by decide +kernel
theorem d_Mod_ask_43 : decode m_Mod_ask.2.1 43 = .ok (.aload_n 0, 1) := by decide +kernel
theorem d_Mod_ask_44 : decode m_Mod_ask.2.1 44 = .ok (.iconst 0, 1) := by decide +kernel
theorem d_Mod_ask_45 : decode m_Mod_ask.2.1 45 = .ok (.putfield 174, 3) := by decide +kernel
theorem d_Mod_ask_48 : decode m_Mod_ask.2.1 48 = .ok (.aload_n 0, 1) := by decide +kernel
theorem d_Mod_ask_49 : decode m_Mod_ask.2.1 49 = .ok (.iconst 0, 1) := by decide +kernel
theorem d_Mod_ask_50 : decode m_Mod_ask.2.1 50 = .ok (.putfield 177, 3) := by decide +kernel
theorem d_Mod_ask_53 : decode m_Mod_ask.2.1 53 = .ok (.iconst 1, 1) := by decide +kernel
theorem d_Mod_ask_54 : decode m_Mod_ask.2.1 54 = .ok (.ireturn, 1) := by decide +kernel
theorem d_Mod_output_0 : decode m_Mod_output.2.1 0 = .ok (.aload_n 0, 1) := by decide +kernel
theorem d_Mod_output_1 : decode m_Mod_output.2.1 1 = .ok (.iconst 0, 1) := by decide +kernel
theorem d_Mod_output_2 : decode m_Mod_output.2.1 2 = .ok (.putfield 73, 3) := by decide +kernel
theorem d_Mod_output_5 : decode m_Mod_output.2.1 5 = .ok (.aload_n 0, 1) := by decide +kernel
theorem d_Mod_output_6 : decode m_Mod_output.2.1 6 = .ok (.getfield 171, 3) := by decide +kernel
theorem d_Mod_output_9 : decode m_Mod_output.2.1 9 = .ok (.iconst 4, 1) := by decide +kernel
theorem d_Mod_output_10 : decode m_Mod_output.2.1 10 = .ok (.if_icmp .eq 12, 3) := by decide +kernel
theorem d_Mod_output_13 : decode m_Mod_output.2.1 13 = .ok (.aload_n 0, 1) := by decide +kernel
