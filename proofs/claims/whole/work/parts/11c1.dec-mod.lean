theorem d_Mod_fits_151 : decode m_Mod_fits.2.1 151 = .ok (.iload_n 1, 1) := by decide +kernel
theorem d_Mod_fits_152 : decode m_Mod_fits.2.1 152 = .ok (.iconst 2, 1) := by decide +kernel
theorem d_Mod_fits_153 : decode m_Mod_fits.2.1 153 = .ok (.invokestatic 106, 3) := by decide +kernel
theorem d_Mod_fits_156 : decode m_Mod_fits.2.1 156 = .ok (.ifCond .eq 24, 3) := by decide +kernel
theorem d_Mod_fits_159 : decode m_Mod_fits.2.1 159 = .ok (.iload_n 2, 1) := by decide +kernel
theorem d_Mod_fits_160 : decode m_Mod_fits.2.1 160 = .ok (.iconst 3, 1) := by decide +kernel
theorem d_Mod_fits_161 : decode m_Mod_fits.2.1 161 = .ok (.invokestatic 106, 3) := by decide +kernel
theorem d_Mod_fits_164 : decode m_Mod_fits.2.1 164 = .ok (.ifCond .eq 16, 3) := by decide +kernel
theorem d_Mod_fits_167 : decode m_Mod_fits.2.1 167 = .ok (.iload_n 3, 1) := by decide +kernel
theorem d_Mod_fits_168 : decode m_Mod_fits.2.1 168 = .ok (.bipush 15, 2) := by decide +kernel
theorem d_Mod_fits_170 : decode m_Mod_fits.2.1 170 = .ok (.invokestatic 106, 3) := by decide +kernel
theorem d_Mod_fits_173 : decode m_Mod_fits.2.1 173 = .ok (.ifCond .eq 7, 3) := by decide +kernel
theorem d_Mod_fits_176 : decode m_Mod_fits.2.1 176 = .ok (.iconst 1, 1) := by decide +kernel
theorem d_Mod_fits_177 : decode m_Mod_fits.2.1 177 = .ok (.goto 4, 3) := by decide +kernel
theorem d_Mod_fits_180 : decode m_Mod_fits.2.1 180 = .ok (.iconst 0, 1) := by decide +kernel
theorem d_Mod_fits_181 : decode m_Mod_fits.2.1 181 = .ok (.ireturn, 1) := by decide +kernel
theorem d_Mod_fits_182 : decode m_Mod_fits.2.1 182 = .ok (.iload_n 1, 1) := by decide +kernel
theorem d_Mod_fits_183 : decode m_Mod_fits.2.1 183 = .ok (.iconst 2, 1) := by decide +kernel
theorem d_Mod_fits_184 : decode m_Mod_fits.2.1 184 = .ok (.invokestatic 106, 3) := by decide +kernel
theorem d_Mod_fits_187 : decode m_Mod_fits.2.1 187 = .ok (.ifCond .eq 16, 3) := by decide +kernel
theorem d_Mod_fits_190 : decode m_Mod_fits.2.1 190 = .ok (.iload_n 2, 1) := by decide +kernel
theorem d_Mod_fits_191 : decode m_Mod_fits.2.1 191 = .ok (.bipush 15, 2) := by decide +kernel
theorem d_Mod_fits_193 : decode m_Mod_fits.2.1 193 = .ok (.invokestatic 106, 3) := by decide +kernel
theorem d_Mod_fits_196 : decode m_Mod_fits.2.1 196 = .ok (.ifCond .eq 7, 3) := by decide +kernel
theorem d_Mod_fits_199 : decode m_Mod_fits.2.1 199 = .ok (.iconst 1, 1) := by decide +kernel
theorem d_Mod_fits_200 : decode m_Mod_fits.2.1 200 = .ok (.goto 4, 3) := by decide +kernel
theorem d_Mod_fits_203 : decode m_Mod_fits.2.1 203 = .ok (.iconst 0, 1) := by decide +kernel
theorem d_Mod_fits_204 : decode m_Mod_fits.2.1 204 = .ok (.ireturn, 1) := by decide +kernel
theorem d_Mod_fits_205 : decode m_Mod_fits.2.1 205 = .ok (.iload_n 2, 1) := by decide +kernel
theorem d_Mod_fits_206 : decode m_Mod_fits.2.1 206 = .ok (.bipush 15, 2) := by decide +kernel
theorem d_Mod_fits_208 : decode m_Mod_fits.2.1 208 = .ok (.invokestatic 106, 3) := by decide +kernel
theorem d_Mod_fits_211 : decode m_Mod_fits.2.1 211 = .ok (.ireturn, 1) := by decide +kernel
theorem d_Mod_fits_212 : decode m_Mod_fits.2.1 212 = .ok (.iload_n 1, 1) := by decide +kernel
theorem d_Mod_fits_213 : decode m_Mod_fits.2.1 213 = .ok (.bipush 15, 2) := by decide +kernel
theorem d_Mod_fits_215 : decode m_Mod_fits.2.1 215 = .ok (.invokestatic 106, 3) := by decide +kernel
theorem d_Mod_fits_218 : decode m_Mod_fits.2.1 218 = .ok (.ireturn, 1) := by decide +kernel
theorem d_Mod_fits_219 : decode m_Mod_fits.2.1 219 = .ok (.iload_n 1, 1) := by decide +kernel
theorem d_Mod_fits_220 : decode m_Mod_fits.2.1 220 = .ok (.iconst 2, 1) := by decide +kernel
theorem d_Mod_fits_221 : decode m_Mod_fits.2.1 221 = .ok (.invokestatic 106, 3) := by decide +kernel
theorem d_Mod_fits_224 : decode m_Mod_fits.2.1 224 = .ok (.ifCond .eq 25, 3) := by decide +kernel
theorem d_Mod_fits_227 : decode m_Mod_fits.2.1 227 = .ok (.iload_n 2, 1) := by decide +kernel
theorem d_Mod_fits_228 : decode m_Mod_fits.2.1 228 = .ok (.bipush 60, 2) := by decide +kernel
theorem d_Mod_fits_230 : decode m_Mod_fits.2.1 230 = .ok (.invokestatic 106, 3) := by decide +kernel
theorem d_Mod_fits_233 : decode m_Mod_fits.2.1 233 = .ok (.ifCond .eq 16, 3) := by decide +kernel
theorem d_Mod_fits_236 : decode m_Mod_fits.2.1 236 = .ok (.iload_n 3, 1) := by decide +kernel
theorem d_Mod_fits_237 : decode m_Mod_fits.2.1 237 = .ok (.bipush 15, 2) := by decide +kernel
theorem d_Mod_fits_239 : decode m_Mod_fits.2.1 239 = .ok (.invokestatic 106, 3) := by decide +kernel
theorem d_Mod_fits_242 : decode m_Mod_fits.2.1 242 = .ok (.ifCond .eq 7, 3) := by decide +kernel
theorem d_Mod_fits_245 : decode m_Mod_fits.2.1 245 = .ok (.iconst 1, 1) := by decide +kernel
theorem d_Mod_fits_246 : decode m_Mod_fits.2.1 246 = .ok (.goto 4, 3) := by decide +kernel
theorem d_Mod_fits_249 : decode m_Mod_fits.2.1 249 = .ok (.iconst 0, 1) := by decide +kernel
theorem d_Mod_fits_250 : decode m_Mod_fits.2.1 250 = .ok (.ireturn, 1) := by decide +kernel
theorem d_Mod_fits_251 : decode m_Mod_fits.2.1 251 = .ok (.iload_n 1, 1) := by decide +kernel
theorem d_Mod_fits_252 : decode m_Mod_fits.2.1 252 = .ok (.bipush 15, 2) := by decide +kernel
theorem d_Mod_fits_254 : decode m_Mod_fits.2.1 254 = .ok (.invokestatic 106, 3) := by decide +kernel
theorem d_Mod_fits_257 : decode m_Mod_fits.2.1 257 = .ok (.ifCond .eq 16, 3) := by decide +kernel
theorem d_Mod_fits_260 : decode m_Mod_fits.2.1 260 = .ok (.iload_n 2, 1) := by decide +kernel
theorem d_Mod_fits_261 : decode m_Mod_fits.2.1 261 = .ok (.bipush 60, 2) := by decide +kernel
theorem d_Mod_fits_263 : decode m_Mod_fits.2.1 263 = .ok (.invokestatic 106, 3) := by decide +kernel
theorem d_Mod_fits_266 : decode m_Mod_fits.2.1 266 = .ok (.ifCond .eq 7, 3) := by decide +kernel
theorem d_Mod_fits_269 : decode m_Mod_fits.2.1 269 = .ok (.iconst 1, 1) := by decide +kernel
theorem d_Mod_fits_270 : decode m_Mod_fits.2.1 270 = .ok (.goto 4, 3) := by decide +kernel
theorem d_Mod_fits_273 : decode m_Mod_fits.2.1 273 = .ok (.iconst 0, 1) := by decide +kernel
theorem d_Mod_fits_274 : decode m_Mod_fits.2.1 274 = .ok (.ireturn, 1) := by decide +kernel
theorem d_Mod_fits_275 : decode m_Mod_fits.2.1 275 = .ok (.iload_n 1, 1) := by decide +kernel
theorem d_Mod_fits_276 : decode m_Mod_fits.2.1 276 = .ok (.bipush 15, 2) := by decide +kernel
theorem d_Mod_fits_278 : decode m_Mod_fits.2.1 278 = .ok (.invokestatic 106, 3) := by decide +kernel
theorem d_Mod_fits_281 : decode m_Mod_fits.2.1 281 = .ok (.ifCond .eq 25, 3) := by decide +kernel
theorem d_Mod_fits_284 : decode m_Mod_fits.2.1 284 = .ok (.iload_n 2, 1) := by decide +kernel
theorem d_Mod_fits_285 : decode m_Mod_fits.2.1 285 = .ok (.bipush 15, 2) := by decide +kernel
theorem d_Mod_fits_287 : decode m_Mod_fits.2.1 287 = .ok (.invokestatic 106, 3) := by decide +kernel
theorem d_Mod_fits_290 : decode m_Mod_fits.2.1 290 = .ok (.ifCond .eq 16, 3) := by decide +kernel
theorem d_Mod_fits_293 : decode m_Mod_fits.2.1 293 = .ok (.iload_n 3, 1) := by decide +kernel
theorem d_Mod_fits_294 : decode m_Mod_fits.2.1 294 = .ok (.bipush 15, 2) := by decide +kernel
theorem d_Mod_fits_296 : decode m_Mod_fits.2.1 296 = .ok (.invokestatic 106, 3) := by decide +kernel
theorem d_Mod_fits_299 : decode m_Mod_fits.2.1 299 = .ok (.ifCond .eq 7, 3) := by decide +kernel
theorem d_Mod_fits_302 : decode m_Mod_fits.2.1 302 = .ok (.iconst 1, 1) := by decide +kernel
theorem d_Mod_fits_303 : decode m_Mod_fits.2.1 303 = .ok (.goto 4, 3) := by decide +kernel
theorem d_Mod_fits_306 : decode m_Mod_fits.2.1 306 = .ok (.iconst 0, 1) := by decide +kernel
theorem d_Mod_fits_307 : decode m_Mod_fits.2.1 307 = .ok (.ireturn, 1) := by decide +kernel
theorem d_Mod_fits_308 : decode m_Mod_fits.2.1 308 = .ok (.iload_n 1, 1) := by decide +kernel
theorem d_Mod_fits_309 : decode m_Mod_fits.2.1 309 = .ok (.bipush 15, 2) := by decide +kernel
theorem d_Mod_fits_311 : decode m_Mod_fits.2.1 311 = .ok (.invokestatic 106, 3) := by decide +kernel
theorem d_Mod_fits_314 : decode m_Mod_fits.2.1 314 = .ok (.ifCond .eq 25, 3) := by decide +kernel
theorem d_Mod_fits_317 : decode m_Mod_fits.2.1 317 = .ok (.iload_n 2, 1) := by decide +kernel
theorem d_Mod_fits_318 : decode m_Mod_fits.2.1 318 = .ok (.iconst 1, 1) := by decide +kernel
theorem d_Mod_fits_319 : decode m_Mod_fits.2.1 319 = .ok (.if_icmp .lt 20, 3) := by decide +kernel
theorem d_Mod_fits_322 : decode m_Mod_fits.2.1 322 = .ok (.iload_n 2, 1) := by decide +kernel
theorem d_Mod_fits_323 : decode m_Mod_fits.2.1 323 = .ok (.iconst 4, 1) := by decide +kernel
theorem d_Mod_fits_324 : decode m_Mod_fits.2.1 324 = .ok (.if_icmp .gt 15, 3) := by decide +kernel
theorem d_Mod_fits_327 : decode m_Mod_fits.2.1 327 = .ok (.iload_n 1, 1) := by decide +kernel
theorem d_Mod_fits_328 : decode m_Mod_fits.2.1 328 = .ok (.iload_n 2, 1) := by decide +kernel
theorem d_Mod_fits_329 : decode m_Mod_fits.2.1 329 = .ok (.iadd, 1) := by decide +kernel
theorem d_Mod_fits_330 : decode m_Mod_fits.2.1 330 = .ok (.bipush 16, 2) := by decide +kernel
theorem d_Mod_fits_332 : decode m_Mod_fits.2.1 332 = .ok (.if_icmp .gt 7, 3) := by decide +kernel
theorem d_Mod_fits_335 : decode m_Mod_fits.2.1 335 = .ok (.iconst 1, 1) := by decide +kernel
theorem d_Mod_fits_336 : decode m_Mod_fits.2.1 336 = .ok (.goto 4, 3) := by decide +kernel
theorem d_Mod_fits_339 : decode m_Mod_fits.2.1 339 = .ok (.iconst 0, 1) := by decide +kernel
theorem d_Mod_fits_340 : decode m_Mod_fits.2.1 340 = .ok (.ireturn, 1) := by decide +kernel
theorem d_Mod_fits_341 : decode m_Mod_fits.2.1 341 = .ok (.iload_n 1, 1) := by decide +kernel
theorem d_Mod_fits_342 : decode m_Mod_fits.2.1 342 = .ok (.bipush 60, 2) := by decide +kernel
theorem d_Mod_fits_344 : decode m_Mod_fits.2.1 344 = .ok (.invokestatic 106, 3) := by decide +kernel
theorem d_Mod_fits_347 : decode m_Mod_fits.2.1 347 = .ok (.ireturn, 1) := by decide +kernel
theorem d_Mod_fits_348 : decode m_Mod_fits.2.1 348 = .ok (.iload_n 1, 1) := by decide +kernel
theorem d_Mod_fits_349 : decode m_Mod_fits.2.1 349 = .ok (.iconst 2, 1) := by decide +kernel
theorem d_Mod_fits_350 : decode m_Mod_fits.2.1 350 = .ok (.invokestatic 106, 3) := by decide +kernel
theorem d_Mod_fits_353 : decode m_Mod_fits.2.1 353 = .ok (.ifCond .eq 25, 3) := by decide +kernel
theorem d_Mod_fits_356 : decode m_Mod_fits.2.1 356 = .ok (.iload_n 2, 1) := by decide +kernel
theorem d_Mod_fits_357 : decode m_Mod_fits.2.1 357 = .ok (.bipush 60, 2) := by decide +kernel
theorem d_Mod_fits_359 : decode m_Mod_fits.2.1 359 = .ok (.invokestatic 106, 3) := by decide +kernel
theorem d_Mod_fits_362 : decode m_Mod_fits.2.1 362 = .ok (.ifCond .eq 16, 3) := by decide +kernel
theorem d_Mod_fits_365 : decode m_Mod_fits.2.1 365 = .ok (.iload_n 3, 1) := by decide +kernel
theorem d_Mod_fits_366 : decode m_Mod_fits.2.1 366 = .ok (.bipush 11, 2) := by decide +kernel
theorem d_Mod_fits_368 : decode m_Mod_fits.2.1 368 = .ok (.invokestatic 106, 3) := by decide +kernel
theorem d_Mod_fits_371 : decode m_Mod_fits.2.1 371 = .ok (.ifCond .eq 7, 3) := by decide +kernel
theorem d_Mod_fits_374 : decode m_Mod_fits.2.1 374 = .ok (.iconst 1, 1) := by decide +kernel
theorem d_Mod_fits_375 : decode m_Mod_fits.2.1 375 = .ok (.goto 4, 3) := by decide +kernel
theorem d_Mod_fits_378 : decode m_Mod_fits.2.1 378 = .ok (.iconst 0, 1) := by decide +kernel
theorem d_Mod_fits_379 : decode m_Mod_fits.2.1 379 = .ok (.ireturn, 1) := by decide +kernel
theorem d_Mod_fits_380 : decode m_Mod_fits.2.1 380 = .ok (.iload_n 1, 1) := by decide +kernel
theorem d_Mod_fits_381 : decode m_Mod_fits.2.1 381 = .ok (.iconst 2, 1) := by decide +kernel
theorem d_Mod_fits_382 : decode m_Mod_fits.2.1 382 = .ok (.invokestatic 106, 3) := by decide +kernel
theorem d_Mod_fits_385 : decode m_Mod_fits.2.1 385 = .ok (.ireturn, 1) := by decide +kernel
theorem d_Mod_fits_386 : decode m_Mod_fits.2.1 386 = .ok (.iload_n 0, 1) := by decide +kernel
theorem d_Mod_fits_387 : decode m_Mod_fits.2.1 387 = .ok (.bipush 8, 2) := by decide +kernel
theorem d_Mod_fits_389 : decode m_Mod_fits.2.1 389 = .ok (.if_icmp .le 40, 3) := by decide +kernel
theorem d_Mod_fits_392 : decode m_Mod_fits.2.1 392 = .ok (.iload_n 0, 1) := by decide +kernel
theorem d_Mod_fits_393 : decode m_Mod_fits.2.1 393 = .ok (.bipush 15, 2) := by decide +kernel
theorem d_Mod_fits_395 : decode m_Mod_fits.2.1 395 = .ok (.if_icmp .ge 34, 3) := by decide +kernel
theorem d_Mod_fits_398 : decode m_Mod_fits.2.1 398 = .ok (.iload_n 1, 1) := by decide +kernel
theorem d_Mod_fits_399 : decode m_Mod_fits.2.1 399 = .ok (.bipush 15, 2) := by decide +kernel
theorem d_Mod_fits_401 : decode m_Mod_fits.2.1 401 = .ok (.invokestatic 106, 3) := by decide +kernel
theorem d_Mod_fits_404 : decode m_Mod_fits.2.1 404 = .ok (.ifCond .eq 25, 3) := by decide +kernel
theorem d_Mod_fits_407 : decode m_Mod_fits.2.1 407 = .ok (.iload_n 2, 1) := by decide +kernel
theorem d_Mod_fits_408 : decode m_Mod_fits.2.1 408 = .ok (.bipush 60, 2) := by decide +kernel
theorem d_Mod_fits_410 : decode m_Mod_fits.2.1 410 = .ok (.invokestatic 106, 3) := by decide +kernel
theorem d_Mod_fits_413 : decode m_Mod_fits.2.1 413 = .ok (.ifCond .eq 16, 3) := by decide +kernel
theorem d_Mod_fits_416 : decode m_Mod_fits.2.1 416 = .ok (.iload_n 3, 1) := by decide +kernel
theorem d_Mod_fits_417 : decode m_Mod_fits.2.1 417 = .ok (.bipush 15, 2) := by decide +kernel
theorem d_Mod_fits_419 : decode m_Mod_fits.2.1 419 = .ok (.invokestatic 106, 3) := by decide +kernel
theorem d_Mod_fits_422 : decode m_Mod_fits.2.1 422 = .ok (.ifCond .eq 7, 3) := by decide +kernel
theorem d_Mod_fits_425 : decode m_Mod_fits.2.1 425 = .ok (.iconst 1, 1) := by decide +kernel
theorem d_Mod_fits_426 : decode m_Mod_fits.2.1 426 = .ok (.goto 4, 3) := by decide +kernel
theorem d_Mod_fits_429 : decode m_Mod_fits.2.1 429 = .ok (.iconst 0, 1) := by decide +kernel
theorem d_Mod_fits_430 : decode m_Mod_fits.2.1 430 = .ok (.ireturn, 1) := by decide +kernel
theorem d_Mod_in_0 : decode m_Mod_in.2.1 0 = .ok (.iload_n 0, 1) := by decide +kernel
theorem d_Mod_in_1 : decode m_Mod_in.2.1 1 = .ok (.ifCond .lt 12, 3) := by decide +kernel
theorem d_Mod_in_4 : decode m_Mod_in.2.1 4 = .ok (.iload_n 0, 1) := by decide +kernel
theorem d_Mod_in_5 : decode m_Mod_in.2.1 5 = .ok (.iload_n 1, 1) := by decide +kernel
theorem d_Mod_in_6 : decode m_Mod_in.2.1 6 = .ok (.if_icmp .gt 7, 3) := by decide +kernel
theorem d_Mod_in_9 : decode m_Mod_in.2.1 9 = .ok (.iconst 1, 1) := by decide +kernel
theorem d_Mod_in_10 : decode m_Mod_in.2.1 10 = .ok (.goto 4, 3) := by decide +kernel
theorem d_Mod_in_13 : decode m_Mod_in.2.1 13 = .ok (.iconst 0, 1) := by decide +kernel
theorem d_Mod_in_14 : decode m_Mod_in.2.1 14 = .ok (.ireturn, 1) := by decide +kernel
theorem d_Mod_put_0 : decode m_Mod_put.2.1 0 = .ok (.iconst 4, 1) := by decide +kernel
theorem d_Mod_put_1 : decode m_Mod_put.2.1 1 = .ok (.aload_n 0, 1) := by decide +kernel
theorem d_Mod_put_2 : decode m_Mod_put.2.1 2 = .ok (.getfield 110, 3) := by decide +kernel
theorem d_Mod_put_5 : decode m_Mod_put.2.1 5 = .ok (.imul, 1) := by decide +kernel
theorem d_Mod_put_6 : decode m_Mod_put.2.1 6 = .ok (.istore 5, 2) := by decide +kernel
theorem d_Mod_put_8 : decode m_Mod_put.2.1 8 = .ok (.aload_n 0, 1) := by decide +kernel
theorem d_Mod_put_9 : decode m_Mod_put.2.1 9 = .ok (.getfield 33, 3) := by decide +kernel
theorem d_Mod_put_12 : decode m_Mod_put.2.1 12 = .ok (.iload 5, 2) := by decide +kernel
theorem d_Mod_put_14 : decode m_Mod_put.2.1 14 = .ok (.iload_n 1, 1) := by decide +kernel
theorem d_Mod_put_15 : decode m_Mod_put.2.1 15 = .ok (.iastore, 1) := by decide +kernel
theorem d_Mod_put_16 : decode m_Mod_put.2.1 16 = .ok (.aload_n 0, 1) := by decide +kernel
theorem d_Mod_put_17 : decode m_Mod_put.2.1 17 = .ok (.getfield 33, 3) := by decide +kernel
theorem d_Mod_put_20 : decode m_Mod_put.2.1 20 = .ok (.iload 5, 2) := by decide +kernel
theorem d_Mod_put_22 : decode m_Mod_put.2.1 22 = .ok (.iconst 1, 1) := by decide +kernel
theorem d_Mod_put_23 : decode m_Mod_put.2.1 23 = .ok (.iadd, 1) := by decide +kernel
theorem d_Mod_put_24 : decode m_Mod_put.2.1 24 = .ok (.iload_n 1, 1) := by decide +kernel
theorem d_Mod_put_25 : decode m_Mod_put.2.1 25 = .ok (.invokestatic 113, 3) := by decide +kernel
theorem d_Mod_put_28 : decode m_Mod_put.2.1 28 = .ok (.ifCond .le 7, 3) := by decide +kernel
theorem d_Mod_put_31 : decode m_Mod_put.2.1 31 = .ok (.iload_n 2, 1) := by decide +kernel
theorem d_Mod_put_32 : decode m_Mod_put.2.1 32 = .ok (.goto 4, 3) := by decide +kernel
theorem d_Mod_put_35 : decode m_Mod_put.2.1 35 = .ok (.iconst 0, 1) := by decide +kernel
theorem d_Mod_put_36 : decode m_Mod_put.2.1 36 = .ok (.iastore, 1) := by decide +kernel
theorem d_Mod_put_37 : decode m_Mod_put.2.1 37 = .ok (.aload_n 0, 1) := by decide +kernel
theorem d_Mod_put_38 : decode m_Mod_put.2.1 38 = .ok (.getfield 33, 3) := by decide +kernel
theorem d_Mod_put_41 : decode m_Mod_put.2.1 41 = .ok (.iload 5, 2) := by decide +kernel
theorem d_Mod_put_43 : decode m_Mod_put.2.1 43 = .ok (.iconst 2, 1) := by decide +kernel
theorem d_Mod_put_44 : decode m_Mod_put.2.1 44 = .ok (.iadd, 1) := by decide +kernel
theorem d_Mod_put_45 : decode m_Mod_put.2.1 45 = .ok (.iload_n 1, 1) := by decide +kernel
theorem d_Mod_put_46 : decode m_Mod_put.2.1 46 = .ok (.invokestatic 113, 3) := by decide +kernel
theorem d_Mod_put_49 : decode m_Mod_put.2.1 49 = .ok (.iconst 1, 1) := by decide +kernel
theorem d_Mod_put_50 : decode m_Mod_put.2.1 50 = .ok (.if_icmp .le 7, 3) := by decide +kernel
theorem d_Mod_put_53 : decode m_Mod_put.2.1 53 = .ok (.iload_n 3, 1) := by decide +kernel
theorem d_Mod_put_54 : decode m_Mod_put.2.1 54 = .ok (.goto 4, 3) := by decide +kernel
theorem d_Mod_put_57 : decode m_Mod_put.2.1 57 = .ok (.iconst 0, 1) := by decide +kernel
theorem d_Mod_put_58 : decode m_Mod_put.2.1 58 = .ok (.iastore, 1) := by decide +kernel
theorem d_Mod_put_59 : decode m_Mod_put.2.1 59 = .ok (.aload_n 0, 1) := by decide +kernel
theorem d_Mod_put_60 : decode m_Mod_put.2.1 60 = .ok (.getfield 33, 3) := by decide +kernel
theorem d_Mod_put_63 : decode m_Mod_put.2.1 63 = .ok (.iload 5, 2) := by decide +kernel
theorem d_Mod_put_65 : decode m_Mod_put.2.1 65 = .ok (.iconst 3, 1) := by decide +kernel
theorem d_Mod_put_66 : decode m_Mod_put.2.1 66 = .ok (.iadd, 1) := by decide +kernel
theorem d_Mod_put_67 : decode m_Mod_put.2.1 67 = .ok (.iload_n 1, 1) := by decide +kernel
theorem d_Mod_put_68 : decode m_Mod_put.2.1 68 = .ok (.invokestatic 113, 3) := by decide +kernel
theorem d_Mod_put_71 : decode m_Mod_put.2.1 71 = .ok (.iconst 2, 1) := by decide +kernel
theorem d_Mod_put_72 : decode m_Mod_put.2.1 72 = .ok (.if_icmp .le 8, 3) := by decide +kernel
theorem d_Mod_put_75 : decode m_Mod_put.2.1 75 = .ok (.iload 4, 2) := by decide +kernel
theorem d_Mod_put_77 : decode m_Mod_put.2.1 77 = .ok (.goto 4, 3) := by decide +kernel
theorem d_Mod_put_80 : decode m_Mod_put.2.1 80 = .ok (.iconst 0, 1) := by decide +kernel
theorem d_Mod_put_81 : decode m_Mod_put.2.1 81 = .ok (.iastore, 1) := by decide +kernel
theorem d_Mod_put_82 : decode m_Mod_put.2.1 82 = .ok (.aload_n 0, 1) := by decide +kernel
theorem d_Mod_put_83 : decode m_Mod_put.2.1 83 = .ok (.dup, 1) := by decide +kernel
theorem d_Mod_put_84 : decode m_Mod_put.2.1 84 = .ok (.getfield 110, 3) := by decide +kernel
theorem d_Mod_put_87 : decode m_Mod_put.2.1 87 = .ok (.iconst 1, 1) := by decide +kernel
theorem d_Mod_put_88 : decode m_Mod_put.2.1 88 = .ok (.iadd, 1) := by decide +kernel
theorem d_Mod_put_89 : decode m_Mod_put.2.1 89 = .ok (.putfield 110, 3) := by decide +kernel
theorem d_Mod_put_92 : decode m_Mod_put.2.1 92 = .ok (.return_, 1) := by decide +kernel
theorem d_Mod_many_0 : decode m_Mod_many.2.1 0 = .ok (.iload_n 0, 1) := by decide +kernel
theorem d_Mod_many_1 : decode m_Mod_many.2.1 1 = .ok (.ifCond .ne 5, 3) := by decide +kernel
theorem d_Mod_many_4 : decode m_Mod_many.2.1 4 = .ok (.iconst 0, 1) := by decide +kernel
theorem d_Mod_many_5 : decode m_Mod_many.2.1 5 = .ok (.ireturn, 1) := by decide +kernel
theorem d_Mod_many_6 : decode m_Mod_many.2.1 6 = .ok (.iload_n 0, 1) := by decide +kernel
theorem d_Mod_many_7 : decode m_Mod_many.2.1 7 = .ok (.bipush 7, 2) := by decide +kernel
theorem d_Mod_many_9 : decode m_Mod_many.2.1 9 = .ok (.if_icmp .eq 15, 3) := by decide +kernel
theorem d_Mod_many_12 : decode m_Mod_many.2.1 12 = .ok (.iload_n 0, 1) := by decide +kernel
theorem d_Mod_many_13 : decode m_Mod_many.2.1 13 = .ok (.bipush 19, 2) := by decide +kernel
theorem d_Mod_many_15 : decode m_Mod_many.2.1 15 = .ok (.if_icmp .eq 9, 3) := by decide +kernel
theorem d_Mod_many_18 : decode m_Mod_many.2.1 18 = .ok (.iload_n 0, 1) := by decide +kernel
theorem d_Mod_many_19 : decode m_Mod_many.2.1 19 = .ok (.bipush 21, 2) := by decide +kernel
theorem d_Mod_many_21 : decode m_Mod_many.2.1 21 = .ok (.if_icmp .ne 5, 3) := by decide +kernel
theorem d_Mod_many_24 : decode m_Mod_many.2.1 24 = .ok (.iconst 1, 1) := by decide +kernel
theorem d_Mod_many_25 : decode m_Mod_many.2.1 25 = .ok (.ireturn, 1) := by decide +kernel
theorem d_Mod_many_26 : decode m_Mod_many.2.1 26 = .ok (.iload_n 0, 1) := by decide +kernel
theorem d_Mod_many_27 : decode m_Mod_many.2.1 27 = .ok (.iconst 1, 1) := by decide +kernel
theorem d_Mod_many_28 : decode m_Mod_many.2.1 28 = .ok (.if_icmp .eq 42, 3) := by decide +kernel
theorem d_Mod_many_31 : decode m_Mod_many.2.1 31 = .ok (.iload_n 0, 1) := by decide +kernel
theorem d_Mod_many_32 : decode m_Mod_many.2.1 32 = .ok (.iconst 2, 1) := by decide +kernel
theorem d_Mod_many_33 : decode m_Mod_many.2.1 33 = .ok (.if_icmp .eq 37, 3) := by decide +kernel
theorem d_Mod_many_36 : decode m_Mod_many.2.1 36 = .ok (.iload_n 0, 1) := by decide +kernel
theorem d_Mod_many_37 : decode m_Mod_many.2.1 37 = .ok (.iconst 3, 1) := by decide +kernel
theorem d_Mod_many_38 : decode m_Mod_many.2.1 38 = .ok (.if_icmp .eq 32, 3) := by decide +kernel
theorem d_Mod_many_41 : decode m_Mod_many.2.1 41 = .ok (.iload_n 0, 1) := by decide +kernel
theorem d_Mod_many_42 : decode m_Mod_many.2.1 42 = .ok (.iconst 5, 1) := by decide +kernel
theorem d_Mod_many_43 : decode m_Mod_many.2.1 43 = .ok (.if_icmp .eq 27, 3) := by decide +kernel
theorem d_Mod_many_46 : decode m_Mod_many.2.1 46 = .ok (.iload_n 0, 1) := by decide +kernel
theorem d_Mod_many_47 : decode m_Mod_many.2.1 47 = .ok (.bipush 6, 2) := by decide +kernel
theorem d_Mod_many_49 : decode m_Mod_many.2.1 49 = .ok (.if_icmp .eq 21, 3) := by decide +kernel
theorem d_Mod_many_52 : decode m_Mod_many.2.1 52 = .ok (.iload_n 0, 1) := by decide +kernel
theorem d_Mod_many_53 : decode m_Mod_many.2.1 53 = .ok (.bipush 15, 2) := by decide +kernel
theorem d_Mod_many_55 : decode m_Mod_many.2.1 55 = .ok (.if_icmp .eq 15, 3) := by decide +kernel
theorem d_Mod_many_58 : decode m_Mod_many.2.1 58 = .ok (.iload_n 0, 1) := by decide +kernel
theorem d_Mod_many_59 : decode m_Mod_many.2.1 59 = .ok (.bipush 16, 2) := by decide +kernel
theorem d_Mod_many_61 : decode m_Mod_many.2.1 61 = .ok (.if_icmp .eq 9, 3) := by decide +kernel
theorem d_Mod_many_64 : decode m_Mod_many.2.1 64 = .ok (.iload_n 0, 1) := by decide +kernel
theorem d_Mod_many_65 : decode m_Mod_many.2.1 65 = .ok (.bipush 18, 2) := by decide +kernel
theorem d_Mod_many_67 : decode m_Mod_many.2.1 67 = .ok (.if_icmp .ne 7, 3) := by decide +kernel
theorem d_Mod_many_70 : decode m_Mod_many.2.1 70 = .ok (.iconst 2, 1) := by decide +kernel
theorem d_Mod_many_71 : decode m_Mod_many.2.1 71 = .ok (.goto 4, 3) := by decide +kernel
theorem d_Mod_many_74 : decode m_Mod_many.2.1 74 = .ok (.iconst 3, 1) := by decide +kernel
theorem d_Mod_many_75 : decode m_Mod_many.2.1 75 = .ok (.ireturn, 1) := by decide +kernel
theorem d_Mod_wipe_0 : decode m_Mod_wipe.2.1 0 = .ok (.aload_n 0, 1) := by decide +kernel
theorem d_Mod_wipe_1 : decode m_Mod_wipe.2.1 1 = .ok (.iconst 0, 1) := by decide +kernel
theorem d_Mod_wipe_2 : decode m_Mod_wipe.2.1 2 = .ok (.putfield 73, 3) := by decide +kernel
theorem d_Mod_wipe_5 : decode m_Mod_wipe.2.1 5 = .ok (.aload_n 0, 1) := by decide +kernel
theorem d_Mod_wipe_6 : decode m_Mod_wipe.2.1 6 = .ok (.iconst 0, 1) := by decide +kernel
theorem d_Mod_wipe_7 : decode m_Mod_wipe.2.1 7 = .ok (.putfield 110, 3) := by decide +kernel
theorem d_Mod_wipe_10 : decode m_Mod_wipe.2.1 10 = .ok (.return_, 1) := by decide +kernel
theorem d_Mod_code_0 : decode m_Mod_code.2.1 0 = .ok (.aload_n 0, 1) := by decide +kernel
theorem d_Mod_code_1 : decode m_Mod_code.2.1 1 = .ok (.iload_n 1, 1) := by decide +kernel
theorem d_Mod_code_2 : decode m_Mod_code.2.1 2 = .ok (.ifCond .lt 20, 3) := by decide +kernel
theorem d_Mod_code_5 : decode m_Mod_code.2.1 5 = .ok (.iload_n 1, 1) := by decide +kernel
theorem d_Mod_code_6 : decode m_Mod_code.2.1 6 = .ok (.aload_n 0, 1) := by decide +kernel
theorem d_Mod_code_7 : decode m_Mod_code.2.1 7 = .ok (.getfield 110, 3) := by decide +kernel
theorem d_Mod_code_10 : decode m_Mod_code.2.1 10 = .ok (.if_icmp .ge 12, 3) := by decide +kernel
theorem d_Mod_code_13 : decode m_Mod_code.2.1 13 = .ok (.iload_n 2, 1) := by decide +kernel
theorem d_Mod_code_14 : decode m_Mod_code.2.1 14 = .ok (.ifCond .lt 8, 3) := by decide +kernel
theorem d_Mod_code_17 : decode m_Mod_code.2.1 17 = .ok (.iload_n 2, 1) := by decide +kernel
theorem d_Mod_code_18 : decode m_Mod_code.2.1 18 = .ok (.iconst 3, 1) := by decide +kernel
theorem d_Mod_code_19 : decode m_Mod_code.2.1 19 = .ok (.if_icmp .le 7, 3) := by decide +kernel
theorem d_Mod_code_22 : decode m_Mod_code.2.1 22 = .ok (.iconst 1, 1) := by decide +kernel
theorem d_Mod_code_23 : decode m_Mod_code.2.1 23 = .ok (.goto 4, 3) := by decide +kernel
theorem d_Mod_code_26 : decode m_Mod_code.2.1 26 = .ok (.iconst 0, 1) := by decide +kernel
theorem d_Mod_code_27 : decode m_Mod_code.2.1 27 = .ok (.putfield 73, 3) := by decide +kernel
theorem d_Mod_code_30 : decode m_Mod_code.2.1 30 = .ok (.aload_n 0, 1) := by decide +kernel
theorem d_Mod_code_31 : decode m_Mod_code.2.1 31 = .ok (.getfield 73, 3) := by decide +kernel
theorem d_Mod_code_34 : decode m_Mod_code.2.1 34 = .ok (.ifCond .le 7, 3) := by decide +kernel
theorem d_Mod_code_37 : decode m_Mod_code.2.1 37 = .ok (.iconst 0, 1) := by decide +kernel
theorem d_Mod_code_38 : decode m_Mod_code.2.1 38 = .ok (.goto 13, 3) := by decide +kernel
theorem d_Mod_code_41 : decode m_Mod_code.2.1 41 = .ok (.aload_n 0, 1) := by decide +kernel
theorem d_Mod_code_42 : decode m_Mod_code.2.1 42 = .ok (.getfield 33, 3) := by decide +kernel
theorem d_Mod_code_45 : decode m_Mod_code.2.1 45 = .ok (.iconst 4, 1) := by decide +kernel
theorem d_Mod_code_46 : decode m_Mod_code.2.1 46 = .ok (.iload_n 1, 1) := by decide +kernel
theorem d_Mod_code_47 : decode m_Mod_code.2.1 47 = .ok (.imul, 1) := by decide +kernel
theorem d_Mod_code_48 : decode m_Mod_code.2.1 48 = .ok (.iload_n 2, 1) := by decide +kernel
theorem d_Mod_code_49 : decode m_Mod_code.2.1 49 = .ok (.iadd, 1) := by decide +kernel
theorem d_Mod_code_50 : decode m_Mod_code.2.1 50 = .ok (.iaload, 1) := by decide +kernel
theorem d_Mod_code_51 : decode m_Mod_code.2.1 51 = .ok (.ireturn, 1) := by decide +kernel
theorem d_Mod_run_0 : decode m_Mod_run.2.1 0 = .ok (.aload_n 0, 1) := by decide +kernel
theorem d_Mod_run_1 : decode m_Mod_run.2.1 1 = .ok (.iload_n 1, 1) := by decide +kernel
theorem d_Mod_run_2 : decode m_Mod_run.2.1 2 = .ok (.ifCond .lt 17, 3) := by decide +kernel
theorem d_Mod_run_5 : decode m_Mod_run.2.1 5 = .ok (.iload_n 1, 1) := by decide +kernel
theorem d_Mod_run_6 : decode m_Mod_run.2.1 6 = .ok (.sipush 4000, 3) := by decide +kernel
theorem d_Mod_run_9 : decode m_Mod_run.2.1 9 = .ok (.if_icmp .gt 10, 3) := by decide +kernel
theorem d_Mod_run_12 : decode m_Mod_run.2.1 12 = .ok (.aload_n 0, 1) := by decide +kernel
theorem d_Mod_run_13 : decode m_Mod_run.2.1 13 = .ok (.invokevirtual 164, 3) := by decide +kernel
theorem d_Mod_run_16 : decode m_Mod_run.2.1 16 = .ok (.ifCond .ne 7, 3) := by decide +kernel
theorem d_Mod_run_19 : decode m_Mod_run.2.1 19 = .ok (.iconst 1, 1) := by decide +kernel
theorem d_Mod_run_20 : decode m_Mod_run.2.1 20 = .ok (.goto 4, 3) := by decide +kernel
theorem d_Mod_run_23 : decode m_Mod_run.2.1 23 = .ok (.iconst 0, 1) := by decide +kernel
theorem d_Mod_run_24 : decode m_Mod_run.2.1 24 = .ok (.putfield 73, 3) := by decide +kernel
theorem d_Mod_run_27 : decode m_Mod_run.2.1 27 = .ok (.aload_n 0, 1) := by decide +kernel
theorem d_Mod_run_28 : decode m_Mod_run.2.1 28 = .ok (.getfield 73, 3) := by decide +kernel
theorem d_Mod_run_31 : decode m_Mod_run.2.1 31 = .ok (.ifCond .le 5, 3) := by decide +kernel
theorem d_Mod_run_34 : decode m_Mod_run.2.1 34 = .ok (.iconst 0, 1) := by decide +kernel
theorem d_Mod_run_35 : decode m_Mod_run.2.1 35 = .ok (.ireturn, 1) := by decide +kernel
theorem d_Mod_run_36 : decode m_Mod_run.2.1 36 = .ok (.iconst 0, 1) := by decide +kernel
theorem d_Mod_run_37 : decode m_Mod_run.2.1 37 = .ok (.istore_n 2, 1) := by decide +kernel
theorem d_Mod_run_38 : decode m_Mod_run.2.1 38 = .ok (.iload_n 2, 1) := by decide +kernel
theorem d_Mod_run_39 : decode m_Mod_run.2.1 39 = .ok (.bipush 16, 2) := by decide +kernel
theorem d_Mod_run_41 : decode m_Mod_run.2.1 41 = .ok (.if_icmp .ge 16, 3) := by decide +kernel
theorem d_Mod_run_44 : decode m_Mod_run.2.1 44 = .ok (.aload_n 0, 1) := by decide +kernel
theorem d_Mod_run_45 : decode m_Mod_run.2.1 45 = .ok (.iload_n 2, 1) := by decide +kernel
theorem d_Mod_run_46 : decode m_Mod_run.2.1 46 = .ok (.iconst 0, 1) := by decide +kernel
theorem d_Mod_run_47 : decode m_Mod_run.2.1 47 = .ok (.lconst 0, 1) := by decide +kernel
theorem d_Mod_run_48 : decode m_Mod_run.2.1 48 = .ok (.invokevirtual 138, 3) := by decide +kernel
theorem d_Mod_run_51 : decode m_Mod_run.2.1 51 = .ok (.iinc 2 1, 3) := by decide +kernel
theorem d_Mod_run_54 : decode m_Mod_run.2.1 54 = .ok (.goto (-16), 3) := by decide +kernel
theorem d_Mod_run_57 : decode m_Mod_run.2.1 57 = .ok (.iconst 0, 1) := by decide +kernel
theorem d_Mod_run_58 : decode m_Mod_run.2.1 58 = .ok (.istore_n 2, 1) := by decide +kernel
theorem d_Mod_run_59 : decode m_Mod_run.2.1 59 = .ok (.iload_n 2, 1) := by decide +kernel
theorem d_Mod_run_60 : decode m_Mod_run.2.1 60 = .ok (.iconst 3, 1) := by decide +kernel
theorem d_Mod_run_61 : decode m_Mod_run.2.1 61 = .ok (.if_icmp .ge 23, 3) := by decide +kernel
theorem d_Mod_run_64 : decode m_Mod_run.2.1 64 = .ok (.aload_n 0, 1) := by decide +kernel
theorem d_Mod_run_65 : decode m_Mod_run.2.1 65 = .ok (.getfield 42, 3) := by decide +kernel
theorem d_Mod_run_68 : decode m_Mod_run.2.1 68 = .ok (.iload_n 2, 1) := by decide +kernel
theorem d_Mod_run_69 : decode m_Mod_run.2.1 69 = .ok (.iconst (-1), 1) := by decide +kernel
theorem d_Mod_run_70 : decode m_Mod_run.2.1 70 = .ok (.iastore, 1) := by decide +kernel
theorem d_Mod_run_71 : decode m_Mod_run.2.1 71 = .ok (.aload_n 0, 1) := by decide +kernel
theorem d_Mod_run_72 : decode m_Mod_run.2.1 72 = .ok (.getfield 45, 3) := by decide +kernel
theorem d_Mod_run_75 : decode m_Mod_run.2.1 75 = .ok (.iload_n 2, 1) := by decide +kernel
theorem d_Mod_run_76 : decode m_Mod_run.2.1 76 = .ok (.iconst 0, 1) := by decide +kernel
theorem d_Mod_run_77 : decode m_Mod_run.2.1 77 = .ok (.bastore, 1) := by decide +kernel
theorem d_Mod_run_78 : decode m_Mod_run.2.1 78 = .ok (.iinc 2 1, 3) := by decide +kernel
theorem d_Mod_run_81 : decode m_Mod_run.2.1 81 = .ok (.goto (-22), 3) := by decide +kernel
theorem d_Mod_run_84 : decode m_Mod_run.2.1 84 = .ok (.aload_n 0, 1) := by decide +kernel
theorem d_Mod_run_85 : decode m_Mod_run.2.1 85 = .ok (.iconst 0, 1) := by decide +kernel
theorem d_Mod_run_86 : decode m_Mod_run.2.1 86 = .ok (.putfield 142, 3) := by decide +kernel
theorem d_Mod_run_89 : decode m_Mod_run.2.1 89 = .ok (.aload_n 0, 1) := by decide +kernel
theorem d_Mod_run_90 : decode m_Mod_run.2.1 90 = .ok (.iconst 0, 1) := by decide +kernel
theorem d_Mod_run_91 : decode m_Mod_run.2.1 91 = .ok (.putfield 155, 3) := by decide +kernel
theorem d_Mod_run_94 : decode m_Mod_run.2.1 94 = .ok (.aload_n 0, 1) := by decide +kernel
theorem d_Mod_run_95 : decode m_Mod_run.2.1 95 = .ok (.iconst 0, 1) := by decide +kernel
theorem d_Mod_run_96 : decode m_Mod_run.2.1 96 = .ok (.putfield 149, 3) := by decide +kernel
theorem d_Mod_run_99 : decode m_Mod_run.2.1 99 = .ok (.iconst 0, 1) := by decide +kernel
theorem d_Mod_run_100 : decode m_Mod_run.2.1 100 = .ok (.istore_n 2, 1) := by decide +kernel
theorem d_Mod_run_101 : decode m_Mod_run.2.1 101 = .ok (.iconst 1, 1) := by decide +kernel
theorem d_Mod_run_102 : decode m_Mod_run.2.1 102 = .ok (.istore_n 3, 1) := by decide +kernel
theorem d_Mod_run_103 : decode m_Mod_run.2.1 103 = .ok (.iload_n 3, 1) := by decide +kernel
theorem d_Mod_run_104 : decode m_Mod_run.2.1 104 = .ok (.ifCond .eq 40, 3) := by decide +kernel
theorem d_Mod_run_107 : decode m_Mod_run.2.1 107 = .ok (.aload_n 0, 1) := by decide +kernel
theorem d_Mod_run_108 : decode m_Mod_run.2.1 108 = .ok (.getfield 149, 3) := by decide +kernel
theorem d_Mod_run_111 : decode m_Mod_run.2.1 111 = .ok (.aload_n 0, 1) := by decide +kernel
theorem d_Mod_run_112 : decode m_Mod_run.2.1 112 = .ok (.getfield 110, 3) := by decide +kernel
theorem d_Mod_run_115 : decode m_Mod_run.2.1 115 = .ok (.if_icmp .ge 29, 3) := by decide +kernel
theorem d_Mod_run_118 : decode m_Mod_run.2.1 118 = .ok (.iload_n 2, 1) := by decide +kernel
theorem d_Mod_run_119 : decode m_Mod_run.2.1 119 = .ok (.iload_n 1, 1) := by decide +kernel
theorem d_Mod_run_120 : decode m_Mod_run.2.1 120 = .ok (.if_icmp .ne 13, 3) := by decide +kernel
theorem d_Mod_run_123 : decode m_Mod_run.2.1 123 = .ok (.aload_n 0, 1) := by decide +kernel
theorem d_Mod_run_124 : decode m_Mod_run.2.1 124 = .ok (.iconst 1, 1) := by decide +kernel
theorem d_Mod_run_125 : decode m_Mod_run.2.1 125 = .ok (.putfield 155, 3) := by decide +kernel
theorem d_Mod_run_128 : decode m_Mod_run.2.1 128 = .ok (.aload_n 0, 1) := by decide +kernel
theorem d_Mod_run_129 : decode m_Mod_run.2.1 129 = .ok (.getfield 155, 3) := by decide +kernel
theorem d_Mod_run_132 : decode m_Mod_run.2.1 132 = .ok (.ireturn, 1) := by decide +kernel
theorem d_Mod_run_133 : decode m_Mod_run.2.1 133 = .ok (.aload_n 0, 1) := by decide +kernel
theorem d_Mod_run_134 : decode m_Mod_run.2.1 134 = .ok (.invokevirtual 168, 3) := by decide +kernel
theorem d_Mod_run_137 : decode m_Mod_run.2.1 137 = .ok (.istore_n 3, 1) := by decide +kernel
theorem d_Mod_run_138 : decode m_Mod_run.2.1 138 = .ok (.iinc 2 1, 3) := by decide +kernel
theorem d_Mod_run_141 : decode m_Mod_run.2.1 141 = .ok (.goto (-38), 3) := by decide +kernel
theorem d_Mod_run_144 : decode m_Mod_run.2.1 144 = .ok (.aload_n 0, 1) := by decide +kernel
theorem d_Mod_run_145 : decode m_Mod_run.2.1 145 = .ok (.getfield 155, 3) := by decide +kernel
theorem d_Mod_run_148 : decode m_Mod_run.2.1 148 = .ok (.ireturn, 1) := by decide +kernel
theorem d_Mod_sound_0 : decode m_Mod_sound.2.1 0 = .ok (.iconst 1, 1) := by decide +kernel
theorem d_Mod_sound_1 : decode m_Mod_sound.2.1 1 = .ok (.istore_n 1, 1) := by decide +kernel
theorem d_Mod_sound_2 : decode m_Mod_sound.2.1 2 = .ok (.iconst 0, 1) := by decide +kernel
theorem d_Mod_sound_3 : decode m_Mod_sound.2.1 3 = .ok (.istore_n 2, 1) := by decide +kernel
theorem d_Mod_sound_4 : decode m_Mod_sound.2.1 4 = .ok (.iload_n 2, 1) := by decide +kernel
theorem d_Mod_sound_5 : decode m_Mod_sound.2.1 5 = .ok (.aload_n 0, 1) := by decide +kernel
theorem d_Mod_sound_6 : decode m_Mod_sound.2.1 6 = .ok (.getfield 110, 3) := by decide +kernel
theorem d_Mod_sound_9 : decode m_Mod_sound.2.1 9 = .ok (.if_icmp .ge 87, 3) := by decide +kernel
theorem d_Mod_sound_12 : decode m_Mod_sound.2.1 12 = .ok (.aload_n 0, 1) := by decide +kernel
theorem d_Mod_sound_13 : decode m_Mod_sound.2.1 13 = .ok (.getfield 33, 3) := by decide +kernel
theorem d_Mod_sound_16 : decode m_Mod_sound.2.1 16 = .ok (.iconst 4, 1) := by decide +kernel
theorem d_Mod_sound_17 : decode m_Mod_sound.2.1 17 = .ok (.iload_n 2, 1) := by decide +kernel
theorem d_Mod_sound_18 : decode m_Mod_sound.2.1 18 = .ok (.imul, 1) := by decide +kernel
theorem d_Mod_sound_19 : decode m_Mod_sound.2.1 19 = .ok (.iaload, 1) := by decide +kernel
theorem d_Mod_sound_20 : decode m_Mod_sound.2.1 20 = .ok (.istore_n 3, 1) := by decide +kernel
theorem d_Mod_sound_21 : decode m_Mod_sound.2.1 21 = .ok (.iload_n 1, 1) := by decide +kernel
theorem d_Mod_sound_22 : decode m_Mod_sound.2.1 22 = .ok (.ifCond .eq 29, 3) := by decide +kernel
theorem d_Mod_sound_25 : decode m_Mod_sound.2.1 25 = .ok (.iload_n 3, 1) := by decide +kernel
theorem d_Mod_sound_26 : decode m_Mod_sound.2.1 26 = .ok (.iconst 1, 1) := by decide +kernel
theorem d_Mod_sound_27 : decode m_Mod_sound.2.1 27 = .ok (.if_icmp .ne 20, 3) := by decide +kernel
theorem d_Mod_sound_30 : decode m_Mod_sound.2.1 30 = .ok (.aload_n 0, 1) := by decide +kernel
theorem d_Mod_sound_31 : decode m_Mod_sound.2.1 31 = .ok (.aload_n 0, 1) := by decide +kernel
theorem d_Mod_sound_32 : decode m_Mod_sound.2.1 32 = .ok (.getfield 33, 3) := by decide +kernel
theorem d_Mod_sound_35 : decode m_Mod_sound.2.1 35 = .ok (.iconst 4, 1) := by decide +kernel
theorem d_Mod_sound_36 : decode m_Mod_sound.2.1 36 = .ok (.iload_n 2, 1) := by decide +kernel
theorem d_Mod_sound_37 : decode m_Mod_sound.2.1 37 = .ok (.imul, 1) := by decide +kernel
theorem d_Mod_sound_38 : decode m_Mod_sound.2.1 38 = .ok (.iconst 2, 1) := by decide +kernel
theorem d_Mod_sound_39 : decode m_Mod_sound.2.1 39 = .ok (.iadd, 1) := by decide +kernel
theorem d_Mod_sound_40 : decode m_Mod_sound.2.1 40 = .ok (.iaload, 1) := by decide +kernel
theorem d_Mod_sound_41 : decode m_Mod_sound.2.1 41 = .ok (.invokevirtual 82, 3) := by decide +kernel
theorem d_Mod_sound_44 : decode m_Mod_sound.2.1 44 = .ok (.ifCond .eq 7, 3) := by decide +kernel
theorem d_Mod_sound_47 : decode m_Mod_sound.2.1 47 = .ok (.iconst 1, 1) := by decide +kernel
theorem d_Mod_sound_48 : decode m_Mod_sound.2.1 48 = .ok (.goto 4, 3) := by decide +kernel
theorem d_Mod_sound_51 : decode m_Mod_sound.2.1 51 = .ok (.iconst 0, 1) := by decide +kernel
theorem d_Mod_sound_52 : decode m_Mod_sound.2.1 52 = .ok (.istore_n 1, 1) := by decide +kernel
theorem d_Mod_sound_53 : decode m_Mod_sound.2.1 53 = .ok (.iload_n 1, 1) := by decide +kernel
theorem d_Mod_sound_54 : decode m_Mod_sound.2.1 54 = .ok (.ifCond .eq 34, 3) := by decide +kernel
theorem d_Mod_sound_57 : decode m_Mod_sound.2.1 57 = .ok (.iload_n 3, 1) := by decide +kernel
theorem d_Mod_sound_58 : decode m_Mod_sound.2.1 58 = .ok (.invokestatic 125, 3) := by decide +kernel
theorem d_Mod_sound_61 : decode m_Mod_sound.2.1 61 = .ok (.ifCond .eq 23, 3) := by decide +kernel
theorem d_Mod_sound_64 : decode m_Mod_sound.2.1 64 = .ok (.aload_n 0, 1) := by decide +kernel
theorem d_Mod_sound_65 : decode m_Mod_sound.2.1 65 = .ok (.getfield 33, 3) := by decide +kernel
theorem d_Mod_sound_68 : decode m_Mod_sound.2.1 68 = .ok (.iconst 4, 1) := by decide +kernel
theorem d_Mod_sound_69 : decode m_Mod_sound.2.1 69 = .ok (.iload_n 2, 1) := by decide +kernel
theorem d_Mod_sound_70 : decode m_Mod_sound.2.1 70 = .ok (.imul, 1) := by decide +kernel
theorem d_Mod_sound_71 : decode m_Mod_sound.2.1 71 = .ok (.iload_n 3, 1) := by decide +kernel
theorem d_Mod_sound_72 : decode m_Mod_sound.2.1 72 = .ok (.invokestatic 125, 3) := by decide +kernel
theorem d_Mod_sound_75 : decode m_Mod_sound.2.1 75 = .ok (.iadd, 1) := by decide +kernel
theorem d_Mod_sound_76 : decode m_Mod_sound.2.1 76 = .ok (.iaload, 1) := by decide +kernel
theorem d_Mod_sound_77 : decode m_Mod_sound.2.1 77 = .ok (.aload_n 0, 1) := by decide +kernel
theorem d_Mod_sound_78 : decode m_Mod_sound.2.1 78 = .ok (.getfield 110, 3) := by decide +kernel
theorem d_Mod_sound_81 : decode m_Mod_sound.2.1 81 = .ok (.if_icmp .gt 7, 3) := by decide +kernel
theorem d_Mod_sound_84 : decode m_Mod_sound.2.1 84 = .ok (.iconst 1, 1) := by decide +kernel
theorem d_Mod_sound_85 : decode m_Mod_sound.2.1 85 = .ok (.goto 4, 3) := by decide +kernel
theorem d_Mod_sound_88 : decode m_Mod_sound.2.1 88 = .ok (.iconst 0, 1) := by decide +kernel
theorem d_Mod_sound_89 : decode m_Mod_sound.2.1 89 = .ok (.istore_n 1, 1) := by decide +kernel
theorem d_Mod_sound_90 : decode m_Mod_sound.2.1 90 = .ok (.iinc 2 1, 3) := by decide +kernel
theorem d_Mod_sound_93 : decode m_Mod_sound.2.1 93 = .ok (.goto (-89), 3) := by decide +kernel
theorem d_Mod_sound_96 : decode m_Mod_sound.2.1 96 = .ok (.iload_n 1, 1) := by decide +kernel
theorem d_Mod_sound_97 : decode m_Mod_sound.2.1 97 = .ok (.ireturn, 1) := by decide +kernel
theorem d_Mod_goal_0 : decode m_Mod_goal.2.1 0 = .ok (.iload_n 0, 1) := by decide +kernel
theorem d_Mod_goal_1 : decode m_Mod_goal.2.1 1 = .ok (.bipush 19, 2) := by decide +kernel
theorem d_Mod_goal_3 : decode m_Mod_goal.2.1 3 = .ok (.if_icmp .ne 5, 3) := by decide +kernel
theorem d_Mod_goal_6 : decode m_Mod_goal.2.1 6 = .ok (.iconst 1, 1) := by decide +kernel
theorem d_Mod_goal_7 : decode m_Mod_goal.2.1 7 = .ok (.ireturn, 1) := by decide +kernel
theorem d_Mod_goal_8 : decode m_Mod_goal.2.1 8 = .ok (.iload_n 0, 1) := by decide +kernel
theorem d_Mod_goal_9 : decode m_Mod_goal.2.1 9 = .ok (.iconst 2, 1) := by decide +kernel
theorem d_Mod_goal_10 : decode m_Mod_goal.2.1 10 = .ok (.if_icmp .eq 32, 3) := by decide +kernel
theorem d_Mod_goal_13 : decode m_Mod_goal.2.1 13 = .ok (.iload_n 0, 1) := by decide +kernel
theorem d_Mod_goal_14 : decode m_Mod_goal.2.1 14 = .ok (.iconst 3, 1) := by decide +kernel
theorem d_Mod_goal_15 : decode m_Mod_goal.2.1 15 = .ok (.if_icmp .eq 27, 3) := by decide +kernel
theorem d_Mod_goal_18 : decode m_Mod_goal.2.1 18 = .ok (.iload_n 0, 1) := by decide +kernel
theorem d_Mod_goal_19 : decode m_Mod_goal.2.1 19 = .ok (.bipush 8, 2) := by decide +kernel
theorem d_Mod_goal_21 : decode m_Mod_goal.2.1 21 = .ok (.if_icmp .eq 21, 3) := by decide +kernel
theorem d_Mod_goal_24 : decode m_Mod_goal.2.1 24 = .ok (.iload_n 0, 1) := by decide +kernel
theorem d_Mod_goal_25 : decode m_Mod_goal.2.1 25 = .ok (.bipush 9, 2) := by decide +kernel
theorem d_Mod_goal_27 : decode m_Mod_goal.2.1 27 = .ok (.if_icmp .lt 9, 3) := by decide +kernel
theorem d_Mod_goal_30 : decode m_Mod_goal.2.1 30 = .ok (.iload_n 0, 1) := by decide +kernel
theorem d_Mod_goal_31 : decode m_Mod_goal.2.1 31 = .ok (.bipush 16, 2) := by decide +kernel
theorem d_Mod_goal_33 : decode m_Mod_goal.2.1 33 = .ok (.if_icmp .le 9, 3) := by decide +kernel
theorem d_Mod_goal_36 : decode m_Mod_goal.2.1 36 = .ok (.iload_n 0, 1) := by decide +kernel
theorem d_Mod_goal_37 : decode m_Mod_goal.2.1 37 = .ok (.bipush 20, 2) := by decide +kernel
theorem d_Mod_goal_39 : decode m_Mod_goal.2.1 39 = .ok (.if_icmp .ne 7, 3) := by decide +kernel
theorem d_Mod_goal_42 : decode m_Mod_goal.2.1 42 = .ok (.iconst 1, 1) := by decide +kernel
theorem d_Mod_goal_43 : decode m_Mod_goal.2.1 43 = .ok (.goto 4, 3) := by decide +kernel
theorem d_Mod_goal_46 : decode m_Mod_goal.2.1 46 = .ok (.iconst 0, 1) := by decide +kernel
theorem d_Mod_goal_47 : decode m_Mod_goal.2.1 47 = .ok (.istore_n 1, 1) := by decide +kernel
theorem d_Mod_goal_48 : decode m_Mod_goal.2.1 48 = .ok (.iload_n 1, 1) := by decide +kernel
theorem d_Mod_goal_49 : decode m_Mod_goal.2.1 49 = .ok (.ifCond .eq 7, 3) := by decide +kernel
theorem d_Mod_goal_52 : decode m_Mod_goal.2.1 52 = .ok (.iconst 2, 1) := by decide +kernel
theorem d_Mod_goal_53 : decode m_Mod_goal.2.1 53 = .ok (.goto 4, 3) := by decide +kernel
theorem d_Mod_goal_56 : decode m_Mod_goal.2.1 56 = .ok (.iconst 0, 1) := by decide +kernel
theorem d_Mod_goal_57 : decode m_Mod_goal.2.1 57 = .ok (.ireturn, 1) := by decide +kernel
theorem d_Mod_keep_0 : decode m_Mod_keep.2.1 0 = .ok (.aload_n 0, 1) := by decide +kernel
theorem d_Mod_keep_1 : decode m_Mod_keep.2.1 1 = .ok (.getfield 39, 3) := by decide +kernel
theorem d_Mod_keep_4 : decode m_Mod_keep.2.1 4 = .ok (.iload_n 1, 1) := by decide +kernel
theorem d_Mod_keep_5 : decode m_Mod_keep.2.1 5 = .ok (.iload_n 2, 1) := by decide +kernel
theorem d_Mod_keep_6 : decode m_Mod_keep.2.1 6 = .ok (.bastore, 1) := by decide +kernel
theorem d_Mod_keep_7 : decode m_Mod_keep.2.1 7 = .ok (.aload_n 0, 1) := by decide +kernel
theorem d_Mod_keep_8 : decode m_Mod_keep.2.1 8 = .ok (.getfield 36, 3) := by decide +kernel
theorem d_Mod_keep_11 : decode m_Mod_keep.2.1 11 = .ok (.iload_n 1, 1) := by decide +kernel
theorem d_Mod_keep_12 : decode m_Mod_keep.2.1 12 = .ok (.iload_n 2, 1) := by decide +kernel
theorem d_Mod_keep_13 : decode m_Mod_keep.2.1 13 = .ok (.ifCond .eq 7, 3) := by decide +kernel
theorem d_Mod_keep_16 : decode m_Mod_keep.2.1 16 = .ok (.lload_n 3, 1) := by decide +kernel
theorem d_Mod_keep_17 : decode m_Mod_keep.2.1 17 = .ok (.goto 4, 3) := by decide +kernel
theorem d_Mod_keep_20 : decode m_Mod_keep.2.1 20 = .ok (.lconst 0, 1) := by decide +kernel
theorem d_Mod_keep_21 : decode m_Mod_keep.2.1 21 = .ok (.lastore, 1) := by decide +kernel
theorem d_Mod_keep_22 : decode m_Mod_keep.2.1 22 = .ok (.return_, 1) := by decide +kernel
theorem d_Mod_step_0 : decode m_Mod_step.2.1 0 = .ok (.aload_n 0, 1) := by decide +kernel
theorem d_Mod_step_1 : decode m_Mod_step.2.1 1 = .ok (.getfield 33, 3) := by decide +kernel
theorem d_Mod_step_4 : decode m_Mod_step.2.1 4 = .ok (.iconst 4, 1) := by decide +kernel
theorem d_Mod_step_5 : decode m_Mod_step.2.1 5 = .ok (.aload_n 0, 1) := by decide +kernel
theorem d_Mod_step_6 : decode m_Mod_step.2.1 6 = .ok (.getfield 149, 3) := by decide +kernel
theorem d_Mod_step_9 : decode m_Mod_step.2.1 9 = .ok (.imul, 1) := by decide +kernel
theorem d_Mod_step_10 : decode m_Mod_step.2.1 10 = .ok (.iaload, 1) := by decide +kernel
theorem d_Mod_step_11 : decode m_Mod_step.2.1 11 = .ok (.istore_n 1, 1) := by decide +kernel
theorem d_Mod_step_12 : decode m_Mod_step.2.1 12 = .ok (.aload_n 0, 1) := by decide +kernel
theorem d_Mod_step_13 : decode m_Mod_step.2.1 13 = .ok (.getfield 33, 3) := by decide +kernel
theorem d_Mod_step_16 : decode m_Mod_step.2.1 16 = .ok (.iconst 4, 1) := by decide +kernel
theorem d_Mod_step_17 : decode m_Mod_step.2.1 17 = .ok (.aload_n 0, 1) := by decide +kernel
theorem d_Mod_step_18 : decode m_Mod_step.2.1 18 = .ok (.getfield 149, 3) := by decide +kernel
theorem d_Mod_step_21 : decode m_Mod_step.2.1 21 = .ok (.imul, 1) := by decide +kernel
theorem d_Mod_step_22 : decode m_Mod_step.2.1 22 = .ok (.iconst 1, 1) := by decide +kernel
theorem d_Mod_step_23 : decode m_Mod_step.2.1 23 = .ok (.iadd, 1) := by decide +kernel
theorem d_Mod_step_24 : decode m_Mod_step.2.1 24 = .ok (.iaload, 1) := by decide +kernel
theorem d_Mod_step_25 : decode m_Mod_step.2.1 25 = .ok (.istore_n 2, 1) := by decide +kernel
theorem d_Mod_step_26 : decode m_Mod_step.2.1 26 = .ok (.aload_n 0, 1) := by decide +kernel
theorem d_Mod_step_27 : decode m_Mod_step.2.1 27 = .ok (.getfield 33, 3) := by decide +kernel
theorem d_Mod_step_30 : decode m_Mod_step.2.1 30 = .ok (.iconst 4, 1) := by decide +kernel
theorem d_Mod_step_31 : decode m_Mod_step.2.1 31 = .ok (.aload_n 0, 1) := by decide +kernel
theorem d_Mod_step_32 : decode m_Mod_step.2.1 32 = .ok (.getfield 149, 3) := by decide +kernel
theorem d_Mod_step_35 : decode m_Mod_step.2.1 35 = .ok (.imul, 1) := by decide +kernel
theorem d_Mod_step_36 : decode m_Mod_step.2.1 36 = .ok (.iconst 2, 1) := by decide +kernel
theorem d_Mod_step_37 : decode m_Mod_step.2.1 37 = .ok (.iadd, 1) := by decide +kernel
theorem d_Mod_step_38 : decode m_Mod_step.2.1 38 = .ok (.iaload, 1) := by decide +kernel
theorem d_Mod_step_39 : decode m_Mod_step.2.1 39 = .ok (.istore_n 3, 1) := by decide +kernel
theorem d_Mod_step_40 : decode m_Mod_step.2.1 40 = .ok (.aload_n 0, 1) := by decide +kernel
theorem d_Mod_step_41 : decode m_Mod_step.2.1 41 = .ok (.getfield 33, 3) := by decide +kernel
theorem d_Mod_step_44 : decode m_Mod_step.2.1 44 = .ok (.iconst 4, 1) := by decide +kernel
theorem d_Mod_step_45 : decode m_Mod_step.2.1 45 = .ok (.aload_n 0, 1) := by decide +kernel
theorem d_Mod_step_46 : decode m_Mod_step.2.1 46 = .ok (.getfield 149, 3) := by decide +kernel
theorem d_Mod_step_49 : decode m_Mod_step.2.1 49 = .ok (.imul, 1) := by decide +kernel
theorem d_Mod_step_50 : decode m_Mod_step.2.1 50 = .ok (.iconst 3, 1) := by decide +kernel
theorem d_Mod_step_51 : decode m_Mod_step.2.1 51 = .ok (.iadd, 1) := by decide +kernel
theorem d_Mod_step_52 : decode m_Mod_step.2.1 52 = .ok (.iaload, 1) := by decide +kernel
theorem d_Mod_step_53 : decode m_Mod_step.2.1 53 = .ok (.istore 4, 2) := by decide +kernel
theorem d_Mod_step_55 : decode m_Mod_step.2.1 55 = .ok (.iload_n 1, 1) := by decide +kernel
theorem d_Mod_step_56 : decode m_Mod_step.2.1 56 = .ok (.ifCond .ne 5, 3) := by decide +kernel
theorem d_Mod_step_59 : decode m_Mod_step.2.1 59 = .ok (.iconst 0, 1) := by decide +kernel
theorem d_Mod_step_60 : decode m_Mod_step.2.1 60 = .ok (.ireturn, 1) := by decide +kernel
theorem d_Mod_step_61 : decode m_Mod_step.2.1 61 = .ok (.iload_n 1, 1) := by decide +kernel
theorem d_Mod_step_62 : decode m_Mod_step.2.1 62 = .ok (.invokestatic 152, 3) := by decide +kernel
theorem d_Mod_step_65 : decode m_Mod_step.2.1 65 = .ok (.ifCond .eq 19, 3) := by decide +kernel
theorem d_Mod_step_68 : decode m_Mod_step.2.1 68 = .ok (.aload_n 0, 1) := by decide +kernel
theorem d_Mod_step_69 : decode m_Mod_step.2.1 69 = .ok (.getfield 42, 3) := by decide +kernel
theorem d_Mod_step_72 : decode m_Mod_step.2.1 72 = .ok (.iload_n 2, 1) := by decide +kernel
theorem d_Mod_step_73 : decode m_Mod_step.2.1 73 = .ok (.iaload, 1) := by decide +kernel
theorem d_Mod_step_74 : decode m_Mod_step.2.1 74 = .ok (.ifCond .ge 10, 3) := by decide +kernel
theorem d_Mod_step_77 : decode m_Mod_step.2.1 77 = .ok (.aload_n 0, 1) := by decide +kernel
theorem d_Mod_step_78 : decode m_Mod_step.2.1 78 = .ok (.iconst 3, 1) := by decide +kernel
theorem d_Mod_step_79 : decode m_Mod_step.2.1 79 = .ok (.putfield 155, 3) := by decide +kernel
theorem d_Mod_step_82 : decode m_Mod_step.2.1 82 = .ok (.iconst 0, 1) := by decide +kernel
theorem d_Mod_step_83 : decode m_Mod_step.2.1 83 = .ok (.ireturn, 1) := by decide +kernel
theorem d_Mod_step_84 : decode m_Mod_step.2.1 84 = .ok (.iload_n 1, 1) := by decide +kernel
theorem d_Mod_step_85 : decode m_Mod_step.2.1 85 = .ok (.bipush 18, 2) := by decide +kernel
theorem d_Mod_step_87 : decode m_Mod_step.2.1 87 = .ok (.if_icmp .ne 19, 3) := by decide +kernel
theorem d_Mod_step_90 : decode m_Mod_step.2.1 90 = .ok (.aload_n 0, 1) := by decide +kernel
theorem d_Mod_step_91 : decode m_Mod_step.2.1 91 = .ok (.getfield 142, 3) := by decide +kernel
theorem d_Mod_step_94 : decode m_Mod_step.2.1 94 = .ok (.bipush 64, 2) := by decide +kernel
theorem d_Mod_step_96 : decode m_Mod_step.2.1 96 = .ok (.if_icmp .ne 10, 3) := by decide +kernel
theorem d_Mod_step_99 : decode m_Mod_step.2.1 99 = .ok (.aload_n 0, 1) := by decide +kernel
theorem d_Mod_step_100 : decode m_Mod_step.2.1 100 = .ok (.iconst 2, 1) := by decide +kernel
theorem d_Mod_step_101 : decode m_Mod_step.2.1 101 = .ok (.putfield 155, 3) := by decide +kernel
theorem d_Mod_step_104 : decode m_Mod_step.2.1 104 = .ok (.iconst 0, 1) := by decide +kernel
theorem d_Mod_step_105 : decode m_Mod_step.2.1 105 = .ok (.ireturn, 1) := by decide +kernel
theorem d_Mod_step_106 : decode m_Mod_step.2.1 106 = .ok (.iload_n 1, 1) := by decide +kernel
theorem d_Mod_step_107 : decode m_Mod_step.2.1 107 = .ok (.invokestatic 152, 3) := by decide +kernel
theorem d_Mod_step_110 : decode m_Mod_step.2.1 110 = .ok (.ifCond .eq 15, 3) := by decide +kernel
theorem d_Mod_step_113 : decode m_Mod_step.2.1 113 = .ok (.aload_n 0, 1) := by decide +kernel
theorem d_Mod_step_114 : decode m_Mod_step.2.1 114 = .ok (.iload_n 1, 1) := by decide +kernel
theorem d_Mod_step_115 : decode m_Mod_step.2.1 115 = .ok (.iload_n 2, 1) := by decide +kernel
theorem d_Mod_step_116 : decode m_Mod_step.2.1 116 = .ok (.iload_n 3, 1) := by decide +kernel
theorem d_Mod_step_117 : decode m_Mod_step.2.1 117 = .ok (.iload 4, 2) := by decide +kernel
theorem d_Mod_step_119 : decode m_Mod_step.2.1 119 = .ok (.invokevirtual 158, 3) := by decide +kernel
theorem d_Mod_step_122 : decode m_Mod_step.2.1 122 = .ok (.goto 12, 3) := by decide +kernel
theorem d_Mod_step_125 : decode m_Mod_step.2.1 125 = .ok (.aload_n 0, 1) := by decide +kernel
theorem d_Mod_step_126 : decode m_Mod_step.2.1 126 = .ok (.iload_n 1, 1) := by decide +kernel
theorem d_Mod_step_127 : decode m_Mod_step.2.1 127 = .ok (.iload_n 2, 1) := by decide +kernel
theorem d_Mod_step_128 : decode m_Mod_step.2.1 128 = .ok (.iload_n 3, 1) := by decide +kernel
theorem d_Mod_step_129 : decode m_Mod_step.2.1 129 = .ok (.iload 4, 2) := by decide +kernel
theorem d_Mod_step_131 : decode m_Mod_step.2.1 131 = .ok (.invokevirtual 161, 3) := by decide +kernel
theorem d_Mod_step_134 : decode m_Mod_step.2.1 134 = .ok (.istore 5, 2) := by decide +kernel
theorem d_Mod_step_136 : decode m_Mod_step.2.1 136 = .ok (.aload_n 0, 1) := by decide +kernel
theorem d_Mod_step_137 : decode m_Mod_step.2.1 137 = .ok (.iload 5, 2) := by decide +kernel
theorem d_Mod_step_139 : decode m_Mod_step.2.1 139 = .ok (.ifCond .eq 19, 3) := by decide +kernel
theorem d_Mod_step_142 : decode m_Mod_step.2.1 142 = .ok (.iload_n 1, 1) := by decide +kernel
theorem d_Mod_step_143 : decode m_Mod_step.2.1 143 = .ok (.invokestatic 125, 3) := by decide +kernel
theorem d_Mod_step_146 : decode m_Mod_step.2.1 146 = .ok (.iconst 1, 1) := by decide +kernel
theorem d_Mod_step_147 : decode m_Mod_step.2.1 147 = .ok (.if_icmp .ne 7, 3) := by decide +kernel
theorem d_Mod_step_150 : decode m_Mod_step.2.1 150 = .ok (.iload_n 2, 1) := by decide +kernel
theorem d_Mod_step_151 : decode m_Mod_step.2.1 151 = .ok (.goto 13, 3) := by decide +kernel
theorem d_Mod_step_154 : decode m_Mod_step.2.1 154 = .ok (.iload_n 3, 1) := by decide +kernel
theorem d_Mod_step_155 : decode m_Mod_step.2.1 155 = .ok (.goto 9, 3) := by decide +kernel
theorem d_Mod_step_158 : decode m_Mod_step.2.1 158 = .ok (.aload_n 0, 1) := by decide +kernel
theorem d_Mod_step_159 : decode m_Mod_step.2.1 159 = .ok (.getfield 149, 3) := by decide +kernel
theorem d_Mod_step_162 : decode m_Mod_step.2.1 162 = .ok (.iconst 1, 1) := by decide +kernel
theorem d_Mod_step_163 : decode m_Mod_step.2.1 163 = .ok (.iadd, 1) := by decide +kernel
theorem d_Mod_step_164 : decode m_Mod_step.2.1 164 = .ok (.putfield 149, 3) := by decide +kernel
theorem d_Mod_step_167 : decode m_Mod_step.2.1 167 = .ok (.iconst 1, 1) := by decide +kernel
theorem d_Mod_step_168 : decode m_Mod_step.2.1 168 = .ok (.ireturn, 1) := by decide +kernel
theorem d_Mod_needsOpen_0 : decode m_Mod_needsOpen.2.1 0 = .ok (.iload_n 0, 1) := by decide +kernel
theorem d_Mod_needsOpen_1 : decode m_Mod_needsOpen.2.1 1 = .ok (.iconst 2, 1) := by decide +kernel
theorem d_Mod_needsOpen_2 : decode m_Mod_needsOpen.2.1 2 = .ok (.if_icmp .eq 36, 3) := by decide +kernel
theorem d_Mod_needsOpen_5 : decode m_Mod_needsOpen.2.1 5 = .ok (.iload_n 0, 1) := by decide +kernel
theorem d_Mod_needsOpen_6 : decode m_Mod_needsOpen.2.1 6 = .ok (.iconst 3, 1) := by decide +kernel
theorem d_Mod_needsOpen_7 : decode m_Mod_needsOpen.2.1 7 = .ok (.if_icmp .eq 31, 3) := by decide +kernel
theorem d_Mod_needsOpen_10 : decode m_Mod_needsOpen.2.1 10 = .ok (.iload_n 0, 1) := by decide +kernel
theorem d_Mod_needsOpen_11 : decode m_Mod_needsOpen.2.1 11 = .ok (.iconst 4, 1) := by decide +kernel
theorem d_Mod_needsOpen_12 : decode m_Mod_needsOpen.2.1 12 = .ok (.if_icmp .eq 26, 3) := by decide +kernel
theorem d_Mod_needsOpen_15 : decode m_Mod_needsOpen.2.1 15 = .ok (.iload_n 0, 1) := by decide +kernel
theorem d_Mod_needsOpen_16 : decode m_Mod_needsOpen.2.1 16 = .ok (.iconst 5, 1) := by decide +kernel
theorem d_Mod_needsOpen_17 : decode m_Mod_needsOpen.2.1 17 = .ok (.if_icmp .eq 21, 3) := by decide +kernel
theorem d_Mod_needsOpen_20 : decode m_Mod_needsOpen.2.1 20 = .ok (.iload_n 0, 1) := by decide +kernel
theorem d_Mod_needsOpen_21 : decode m_Mod_needsOpen.2.1 21 = .ok (.bipush 8, 2) := by decide +kernel
theorem d_Mod_needsOpen_23 : decode m_Mod_needsOpen.2.1 23 = .ok (.if_icmp .eq 15, 3) := by decide +kernel
theorem d_Mod_needsOpen_26 : decode m_Mod_needsOpen.2.1 26 = .ok (.iload_n 0, 1) := by decide +kernel
theorem d_Mod_needsOpen_27 : decode m_Mod_needsOpen.2.1 27 = .ok (.bipush 20, 2) := by decide +kernel
theorem d_Mod_needsOpen_29 : decode m_Mod_needsOpen.2.1 29 = .ok (.if_icmp .eq 9, 3) := by decide +kernel
theorem d_Mod_needsOpen_32 : decode m_Mod_needsOpen.2.1 32 = .ok (.iload_n 0, 1) := by decide +kernel
theorem d_Mod_needsOpen_33 : decode m_Mod_needsOpen.2.1 33 = .ok (.bipush 21, 2) := by decide +kernel
theorem d_Mod_needsOpen_35 : decode m_Mod_needsOpen.2.1 35 = .ok (.if_icmp .ne 7, 3) := by decide +kernel
theorem d_Mod_needsOpen_38 : decode m_Mod_needsOpen.2.1 38 = .ok (.iconst 1, 1) := by decide +kernel
theorem d_Mod_needsOpen_39 : decode m_Mod_needsOpen.2.1 39 = .ok (.goto 4, 3) := by decide +kernel
theorem d_Mod_needsOpen_42 : decode m_Mod_needsOpen.2.1 42 = .ok (.iconst 0, 1) := by decide +kernel
theorem d_Mod_needsOpen_43 : decode m_Mod_needsOpen.2.1 43 = .ok (.ireturn, 1) := by decide +kernel
theorem d_Mod_withCursor_0 : decode m_Mod_withCursor.2.1 0 = .ok (.aload_n 0, 1) := by decide +kernel
theorem d_Mod_withCursor_1 : decode m_Mod_withCursor.2.1 1 = .ok (.getfield 42, 3) := by decide +kernel
theorem d_Mod_withCursor_4 : decode m_Mod_withCursor.2.1 4 = .ok (.iload_n 2, 1) := by decide +kernel
theorem d_Mod_withCursor_5 : decode m_Mod_withCursor.2.1 5 = .ok (.iaload, 1) := by decide +kernel
theorem d_Mod_withCursor_6 : decode m_Mod_withCursor.2.1 6 = .ok (.istore 5, 2) := by decide +kernel
theorem d_Mod_withCursor_8 : decode m_Mod_withCursor.2.1 8 = .ok (.iload_n 1, 1) := by decide +kernel
theorem d_Mod_withCursor_9 : decode m_Mod_withCursor.2.1 9 = .ok (.iconst 2, 1) := by decide +kernel
theorem d_Mod_withCursor_10 : decode m_Mod_withCursor.2.1 10 = .ok (.if_icmp .ne 29, 3) := by decide +kernel
theorem d_Mod_withCursor_13 : decode m_Mod_withCursor.2.1 13 = .ok (.aload_n 0, 1) := by decide +kernel
theorem d_Mod_withCursor_14 : decode m_Mod_withCursor.2.1 14 = .ok (.iload_n 2, 1) := by decide +kernel
theorem d_Mod_withCursor_15 : decode m_Mod_withCursor.2.1 15 = .ok (.aload_n 0, 1) := by decide +kernel
theorem d_Mod_withCursor_16 : decode m_Mod_withCursor.2.1 16 = .ok (.iload 5, 2) := by decide +kernel
theorem d_Mod_withCursor_18 : decode m_Mod_withCursor.2.1 18 = .ok (.invokevirtual 128, 3) := by decide +kernel
theorem d_Mod_withCursor_21 : decode m_Mod_withCursor.2.1 21 = .ok (.invokevirtual 131, 3) := by decide +kernel
theorem d_Mod_withCursor_24 : decode m_Mod_withCursor.2.1 24 = .ok (.aload_n 0, 1) := by decide +kernel
theorem d_Mod_withCursor_25 : decode m_Mod_withCursor.2.1 25 = .ok (.getfield 45, 3) := by decide +kernel
theorem d_Mod_withCursor_28 : decode m_Mod_withCursor.2.1 28 = .ok (.iload_n 2, 1) := by decide +kernel
theorem d_Mod_withCursor_29 : decode m_Mod_withCursor.2.1 29 = .ok (.baload, 1) := by decide +kernel
theorem d_Mod_withCursor_30 : decode m_Mod_withCursor.2.1 30 = .ok (.ifCond .ne 7, 3) := by decide +kernel
theorem d_Mod_withCursor_33 : decode m_Mod_withCursor.2.1 33 = .ok (.iconst 1, 1) := by decide +kernel
theorem d_Mod_withCursor_34 : decode m_Mod_withCursor.2.1 34 = .ok (.goto 4, 3) := by decide +kernel
theorem d_Mod_withCursor_37 : decode m_Mod_withCursor.2.1 37 = .ok (.iconst 0, 1) := by decide +kernel
theorem d_Mod_withCursor_38 : decode m_Mod_withCursor.2.1 38 = .ok (.ireturn, 1) := by decide +kernel
theorem d_Mod_withCursor_39 : decode m_Mod_withCursor.2.1 39 = .ok (.iload_n 1, 1) := by decide +kernel
theorem d_Mod_withCursor_40 : decode m_Mod_withCursor.2.1 40 = .ok (.iconst 3, 1) := by decide +kernel
theorem d_Mod_withCursor_41 : decode m_Mod_withCursor.2.1 41 = .ok (.if_icmp .ne 54, 3) := by decide +kernel
theorem d_Mod_withCursor_44 : decode m_Mod_withCursor.2.1 44 = .ok (.aload_n 0, 1) := by decide +kernel
theorem d_Mod_withCursor_45 : decode m_Mod_withCursor.2.1 45 = .ok (.getfield 45, 3) := by decide +kernel
theorem d_Mod_withCursor_48 : decode m_Mod_withCursor.2.1 48 = .ok (.iload_n 2, 1) := by decide +kernel
theorem d_Mod_withCursor_49 : decode m_Mod_withCursor.2.1 49 = .ok (.baload, 1) := by decide +kernel
theorem d_Mod_withCursor_50 : decode m_Mod_withCursor.2.1 50 = .ok (.ifCond .eq 19, 3) := by decide +kernel
theorem d_Mod_withCursor_53 : decode m_Mod_withCursor.2.1 53 = .ok (.aload_n 0, 1) := by decide +kernel
theorem d_Mod_withCursor_54 : decode m_Mod_withCursor.2.1 54 = .ok (.iload 5, 2) := by decide +kernel
theorem d_Mod_withCursor_56 : decode m_Mod_withCursor.2.1 56 = .ok (.aload_n 0, 1) := by decide +kernel
theorem d_Mod_withCursor_57 : decode m_Mod_withCursor.2.1 57 = .ok (.getfield 48, 3) := by decide +kernel
theorem d_Mod_withCursor_60 : decode m_Mod_withCursor.2.1 60 = .ok (.iload_n 2, 1) := by decide +kernel
theorem d_Mod_withCursor_61 : decode m_Mod_withCursor.2.1 61 = .ok (.laload, 1) := by decide +kernel
theorem d_Mod_withCursor_62 : decode m_Mod_withCursor.2.1 62 = .ok (.iconst 1, 1) := by decide +kernel
theorem d_Mod_withCursor_63 : decode m_Mod_withCursor.2.1 63 = .ok (.invokevirtual 98, 3) := by decide +kernel
theorem d_Mod_withCursor_66 : decode m_Mod_withCursor.2.1 66 = .ok (.goto 4, 3) := by decide +kernel
theorem d_Mod_withCursor_69 : decode m_Mod_withCursor.2.1 69 = .ok (.iconst (-1), 1) := by decide +kernel
theorem d_Mod_withCursor_70 : decode m_Mod_withCursor.2.1 70 = .ok (.istore 6, 2) := by decide +kernel
