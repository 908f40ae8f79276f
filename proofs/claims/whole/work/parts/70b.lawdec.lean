theorem d_Law_law_266 : decode m_Law_law.2.1 266 = .ok (.iaload, 1) := by decide +kernel
theorem d_Law_law_267 : decode m_Law_law.2.1 267 = .ok (.i2l, 1) := by decide +kernel
theorem d_Law_law_268 : decode m_Law_law.2.1 268 = .ok (.ldc2_w 76, 3) := by decide +kernel
theorem d_Law_law_271 : decode m_Law_law.2.1 271 = .ok (.land, 1) := by decide +kernel
theorem d_Law_law_272 : decode m_Law_law.2.1 272 = .ok (.lor, 1) := by decide +kernel
theorem d_Law_law_273 : decode m_Law_law.2.1 273 = .ok (.invokevirtual 82, 3) := by decide +kernel
theorem d_Law_law_276 : decode m_Law_law.2.1 276 = .ok (.if_icmp .eq 1186, 3) := by decide +kernel
theorem d_Law_law_279 : decode m_Law_law.2.1 279 = .ok (.iconst 0, 1) := by decide +kernel
theorem d_Law_law_280 : decode m_Law_law.2.1 280 = .ok (.ireturn, 1) := by decide +kernel
theorem d_Law_law_281 : decode m_Law_law.2.1 281 = .ok (.aload_n 1, 1) := by decide +kernel
theorem d_Law_law_282 : decode m_Law_law.2.1 282 = .ok (.aload_n 0, 1) := by decide +kernel
theorem d_Law_law_283 : decode m_Law_law.2.1 283 = .ok (.iload 4, 2) := by decide +kernel
theorem d_Law_law_285 : decode m_Law_law.2.1 285 = .ok (.iconst 1, 1) := by decide +kernel
theorem d_Law_law_286 : decode m_Law_law.2.1 286 = .ok (.iadd, 1) := by decide +kernel
theorem d_Law_law_287 : decode m_Law_law.2.1 287 = .ok (.iaload, 1) := by decide +kernel
theorem d_Law_law_288 : decode m_Law_law.2.1 288 = .ok (.aload_n 0, 1) := by decide +kernel
theorem d_Law_law_289 : decode m_Law_law.2.1 289 = .ok (.iload 4, 2) := by decide +kernel
theorem d_Law_law_291 : decode m_Law_law.2.1 291 = .ok (.iconst 2, 1) := by decide +kernel
theorem d_Law_law_292 : decode m_Law_law.2.1 292 = .ok (.iadd, 1) := by decide +kernel
theorem d_Law_law_293 : decode m_Law_law.2.1 293 = .ok (.iaload, 1) := by decide +kernel
theorem d_Law_law_294 : decode m_Law_law.2.1 294 = .ok (.i2l, 1) := by decide +kernel
theorem d_Law_law_295 : decode m_Law_law.2.1 295 = .ok (.bipush 32, 2) := by decide +kernel
theorem d_Law_law_297 : decode m_Law_law.2.1 297 = .ok (.lshl, 1) := by decide +kernel
theorem d_Law_law_298 : decode m_Law_law.2.1 298 = .ok (.aload_n 0, 1) := by decide +kernel
theorem d_Law_law_299 : decode m_Law_law.2.1 299 = .ok (.iload 4, 2) := by decide +kernel
theorem d_Law_law_301 : decode m_Law_law.2.1 301 = .ok (.iconst 3, 1) := by decide +kernel
theorem d_Law_law_302 : decode m_Law_law.2.1 302 = .ok (.iadd, 1) := by decide +kernel
theorem d_Law_law_303 : decode m_Law_law.2.1 303 = .ok (.iaload, 1) := by decide +kernel
theorem d_Law_law_304 : decode m_Law_law.2.1 304 = .ok (.i2l, 1) := by decide +kernel
theorem d_Law_law_305 : decode m_Law_law.2.1 305 = .ok (.ldc2_w 76, 3) := by decide +kernel
theorem d_Law_law_308 : decode m_Law_law.2.1 308 = .ok (.land, 1) := by decide +kernel
theorem d_Law_law_309 : decode m_Law_law.2.1 309 = .ok (.lor, 1) := by decide +kernel
theorem d_Law_law_310 : decode m_Law_law.2.1 310 = .ok (.aload_n 3, 1) := by decide +kernel
theorem d_Law_law_311 : decode m_Law_law.2.1 311 = .ok (.invokestatic 83, 3) := by decide +kernel
theorem d_Law_law_314 : decode m_Law_law.2.1 314 = .ok (.istore 5, 2) := by decide +kernel
theorem d_Law_law_316 : decode m_Law_law.2.1 316 = .ok (.aload_n 2, 1) := by decide +kernel
theorem d_Law_law_317 : decode m_Law_law.2.1 317 = .ok (.aload_n 0, 1) := by decide +kernel
theorem d_Law_law_318 : decode m_Law_law.2.1 318 = .ok (.iload 4, 2) := by decide +kernel
theorem d_Law_law_320 : decode m_Law_law.2.1 320 = .ok (.iconst 1, 1) := by decide +kernel
theorem d_Law_law_321 : decode m_Law_law.2.1 321 = .ok (.iadd, 1) := by decide +kernel
theorem d_Law_law_322 : decode m_Law_law.2.1 322 = .ok (.iaload, 1) := by decide +kernel
theorem d_Law_law_323 : decode m_Law_law.2.1 323 = .ok (.aload_n 0, 1) := by decide +kernel
theorem d_Law_law_324 : decode m_Law_law.2.1 324 = .ok (.iload 4, 2) := by decide +kernel
theorem d_Law_law_326 : decode m_Law_law.2.1 326 = .ok (.iconst 2, 1) := by decide +kernel
theorem d_Law_law_327 : decode m_Law_law.2.1 327 = .ok (.iadd, 1) := by decide +kernel
theorem d_Law_law_328 : decode m_Law_law.2.1 328 = .ok (.iaload, 1) := by decide +kernel
theorem d_Law_law_329 : decode m_Law_law.2.1 329 = .ok (.i2l, 1) := by decide +kernel
theorem d_Law_law_330 : decode m_Law_law.2.1 330 = .ok (.bipush 32, 2) := by decide +kernel
theorem d_Law_law_332 : decode m_Law_law.2.1 332 = .ok (.lshl, 1) := by decide +kernel
theorem d_Law_law_333 : decode m_Law_law.2.1 333 = .ok (.aload_n 0, 1) := by decide +kernel
theorem d_Law_law_334 : decode m_Law_law.2.1 334 = .ok (.iload 4, 2) := by decide +kernel
theorem d_Law_law_336 : decode m_Law_law.2.1 336 = .ok (.iconst 3, 1) := by decide +kernel
theorem d_Law_law_337 : decode m_Law_law.2.1 337 = .ok (.iadd, 1) := by decide +kernel
theorem d_Law_law_338 : decode m_Law_law.2.1 338 = .ok (.iaload, 1) := by decide +kernel
theorem d_Law_law_339 : decode m_Law_law.2.1 339 = .ok (.i2l, 1) := by decide +kernel
theorem d_Law_law_340 : decode m_Law_law.2.1 340 = .ok (.ldc2_w 76, 3) := by decide +kernel
theorem d_Law_law_343 : decode m_Law_law.2.1 343 = .ok (.land, 1) := by decide +kernel
theorem d_Law_law_344 : decode m_Law_law.2.1 344 = .ok (.lor, 1) := by decide +kernel
theorem d_Law_law_345 : decode m_Law_law.2.1 345 = .ok (.invokevirtual 86, 3) := by decide +kernel
theorem d_Law_law_348 : decode m_Law_law.2.1 348 = .ok (.istore 6, 2) := by decide +kernel
theorem d_Law_law_350 : decode m_Law_law.2.1 350 = .ok (.aload_n 2, 1) := by decide +kernel
theorem d_Law_law_351 : decode m_Law_law.2.1 351 = .ok (.invokevirtual 73, 3) := by decide +kernel
theorem d_Law_law_354 : decode m_Law_law.2.1 354 = .ok (.iload 5, 2) := by decide +kernel
theorem d_Law_law_356 : decode m_Law_law.2.1 356 = .ok (.if_icmp .eq 5, 3) := by decide +kernel
theorem d_Law_law_359 : decode m_Law_law.2.1 359 = .ok (.iconst 0, 1) := by decide +kernel
theorem d_Law_law_360 : decode m_Law_law.2.1 360 = .ok (.ireturn, 1) := by decide +kernel
theorem d_Law_law_361 : decode m_Law_law.2.1 361 = .ok (.iload 5, 2) := by decide +kernel
theorem d_Law_law_363 : decode m_Law_law.2.1 363 = .ok (.ifCond .ne 22, 3) := by decide +kernel
theorem d_Law_law_366 : decode m_Law_law.2.1 366 = .ok (.aload_n 3, 1) := by decide +kernel
theorem d_Law_law_367 : decode m_Law_law.2.1 367 = .ok (.iconst 0, 1) := by decide +kernel
theorem d_Law_law_368 : decode m_Law_law.2.1 368 = .ok (.laload, 1) := by decide +kernel
theorem d_Law_law_369 : decode m_Law_law.2.1 369 = .ok (.iload 6, 2) := by decide +kernel
theorem d_Law_law_371 : decode m_Law_law.2.1 371 = .ok (.ifCond .eq 7, 3) := by decide +kernel
theorem d_Law_law_374 : decode m_Law_law.2.1 374 = .ok (.lconst 1, 1) := by decide +kernel
theorem d_Law_law_375 : decode m_Law_law.2.1 375 = .ok (.goto 4, 3) := by decide +kernel
theorem d_Law_law_378 : decode m_Law_law.2.1 378 = .ok (.lconst 0, 1) := by decide +kernel
theorem d_Law_law_379 : decode m_Law_law.2.1 379 = .ok (.lcmp, 1) := by decide +kernel
theorem d_Law_law_380 : decode m_Law_law.2.1 380 = .ok (.ifCond .eq 5, 3) := by decide +kernel
theorem d_Law_law_383 : decode m_Law_law.2.1 383 = .ok (.iconst 0, 1) := by decide +kernel
theorem d_Law_law_384 : decode m_Law_law.2.1 384 = .ok (.ireturn, 1) := by decide +kernel
theorem d_Law_law_385 : decode m_Law_law.2.1 385 = .ok (.goto 1077, 3) := by decide +kernel
theorem d_Law_law_388 : decode m_Law_law.2.1 388 = .ok (.aload_n 1, 1) := by decide +kernel
theorem d_Law_law_389 : decode m_Law_law.2.1 389 = .ok (.aload_n 0, 1) := by decide +kernel
theorem d_Law_law_390 : decode m_Law_law.2.1 390 = .ok (.iload 4, 2) := by decide +kernel
theorem d_Law_law_392 : decode m_Law_law.2.1 392 = .ok (.iconst 1, 1) := by decide +kernel
theorem d_Law_law_393 : decode m_Law_law.2.1 393 = .ok (.iadd, 1) := by decide +kernel
theorem d_Law_law_394 : decode m_Law_law.2.1 394 = .ok (.iaload, 1) := by decide +kernel
theorem d_Law_law_395 : decode m_Law_law.2.1 395 = .ok (.aload_n 0, 1) := by decide +kernel
theorem d_Law_law_396 : decode m_Law_law.2.1 396 = .ok (.iload 4, 2) := by decide +kernel
theorem d_Law_law_398 : decode m_Law_law.2.1 398 = .ok (.iconst 2, 1) := by decide +kernel
theorem d_Law_law_399 : decode m_Law_law.2.1 399 = .ok (.iadd, 1) := by decide +kernel
theorem d_Law_law_400 : decode m_Law_law.2.1 400 = .ok (.iaload, 1) := by decide +kernel
theorem d_Law_law_401 : decode m_Law_law.2.1 401 = .ok (.i2l, 1) := by decide +kernel
theorem d_Law_law_402 : decode m_Law_law.2.1 402 = .ok (.bipush 32, 2) := by decide +kernel
theorem d_Law_law_404 : decode m_Law_law.2.1 404 = .ok (.lshl, 1) := by decide +kernel
theorem d_Law_law_405 : decode m_Law_law.2.1 405 = .ok (.aload_n 0, 1) := by decide +kernel
theorem d_Law_law_406 : decode m_Law_law.2.1 406 = .ok (.iload 4, 2) := by decide +kernel
theorem d_Law_law_408 : decode m_Law_law.2.1 408 = .ok (.iconst 3, 1) := by decide +kernel
theorem d_Law_law_409 : decode m_Law_law.2.1 409 = .ok (.iadd, 1) := by decide +kernel
theorem d_Law_law_410 : decode m_Law_law.2.1 410 = .ok (.iaload, 1) := by decide +kernel
theorem d_Law_law_411 : decode m_Law_law.2.1 411 = .ok (.i2l, 1) := by decide +kernel
theorem d_Law_law_412 : decode m_Law_law.2.1 412 = .ok (.ldc2_w 76, 3) := by decide +kernel
theorem d_Law_law_415 : decode m_Law_law.2.1 415 = .ok (.land, 1) := by decide +kernel
theorem d_Law_law_416 : decode m_Law_law.2.1 416 = .ok (.lor, 1) := by decide +kernel
theorem d_Law_law_417 : decode m_Law_law.2.1 417 = .ok (.aload_n 3, 1) := by decide +kernel
theorem d_Law_law_418 : decode m_Law_law.2.1 418 = .ok (.invokestatic 87, 3) := by decide +kernel
theorem d_Law_law_421 : decode m_Law_law.2.1 421 = .ok (.istore 5, 2) := by decide +kernel
theorem d_Law_law_423 : decode m_Law_law.2.1 423 = .ok (.aload_n 2, 1) := by decide +kernel
theorem d_Law_law_424 : decode m_Law_law.2.1 424 = .ok (.aload_n 0, 1) := by decide +kernel
theorem d_Law_law_425 : decode m_Law_law.2.1 425 = .ok (.iload 4, 2) := by decide +kernel
theorem d_Law_law_427 : decode m_Law_law.2.1 427 = .ok (.iconst 1, 1) := by decide +kernel
theorem d_Law_law_428 : decode m_Law_law.2.1 428 = .ok (.iadd, 1) := by decide +kernel
theorem d_Law_law_429 : decode m_Law_law.2.1 429 = .ok (.iaload, 1) := by decide +kernel
theorem d_Law_law_430 : decode m_Law_law.2.1 430 = .ok (.aload_n 0, 1) := by decide +kernel
theorem d_Law_law_431 : decode m_Law_law.2.1 431 = .ok (.iload 4, 2) := by decide +kernel
theorem d_Law_law_433 : decode m_Law_law.2.1 433 = .ok (.iconst 2, 1) := by decide +kernel
theorem d_Law_law_434 : decode m_Law_law.2.1 434 = .ok (.iadd, 1) := by decide +kernel
theorem d_Law_law_435 : decode m_Law_law.2.1 435 = .ok (.iaload, 1) := by decide +kernel
theorem d_Law_law_436 : decode m_Law_law.2.1 436 = .ok (.i2l, 1) := by decide +kernel
theorem d_Law_law_437 : decode m_Law_law.2.1 437 = .ok (.bipush 32, 2) := by decide +kernel
