theorem de_W_law_292 : decode bc_W_law 292 = .ok (.iadd, 1) := by decide +kernel
theorem de_W_law_293 : decode bc_W_law 293 = .ok (.iaload, 1) := by decide +kernel
theorem de_W_law_294 : decode bc_W_law 294 = .ok (.aload_n 0, 1) := by decide +kernel
theorem de_W_law_295 : decode bc_W_law 295 = .ok (.iload_n 3, 1) := by decide +kernel
theorem de_W_law_296 : decode bc_W_law 296 = .ok (.iconst 3, 1) := by decide +kernel
theorem de_W_law_297 : decode bc_W_law 297 = .ok (.iadd, 1) := by decide +kernel
theorem de_W_law_298 : decode bc_W_law 298 = .ok (.iaload, 1) := by decide +kernel
theorem de_W_law_299 : decode bc_W_law 299 = .ok (.invokevirtual 28, 3) := by decide +kernel
theorem de_W_law_302 : decode bc_W_law 302 = .ok (.aload_n 2, 1) := by decide +kernel
theorem de_W_law_303 : decode bc_W_law 303 = .ok (.aload_n 0, 1) := by decide +kernel
theorem de_W_law_304 : decode bc_W_law 304 = .ok (.iload_n 3, 1) := by decide +kernel
theorem de_W_law_305 : decode bc_W_law 305 = .ok (.iconst 1, 1) := by decide +kernel
theorem de_W_law_306 : decode bc_W_law 306 = .ok (.iadd, 1) := by decide +kernel
theorem de_W_law_307 : decode bc_W_law 307 = .ok (.iaload, 1) := by decide +kernel
theorem de_W_law_308 : decode bc_W_law 308 = .ok (.aload_n 0, 1) := by decide +kernel
theorem de_W_law_309 : decode bc_W_law 309 = .ok (.iload_n 3, 1) := by decide +kernel
theorem de_W_law_310 : decode bc_W_law 310 = .ok (.iconst 2, 1) := by decide +kernel
theorem de_W_law_311 : decode bc_W_law 311 = .ok (.iadd, 1) := by decide +kernel
theorem de_W_law_312 : decode bc_W_law 312 = .ok (.iaload, 1) := by decide +kernel
theorem de_W_law_313 : decode bc_W_law 313 = .ok (.aload_n 0, 1) := by decide +kernel
theorem de_W_law_314 : decode bc_W_law 314 = .ok (.iload_n 3, 1) := by decide +kernel
theorem de_W_law_315 : decode bc_W_law 315 = .ok (.iconst 3, 1) := by decide +kernel
theorem de_W_law_316 : decode bc_W_law 316 = .ok (.iadd, 1) := by decide +kernel
theorem de_W_law_317 : decode bc_W_law 317 = .ok (.iaload, 1) := by decide +kernel
theorem de_W_law_318 : decode bc_W_law 318 = .ok (.invokevirtual 32, 3) := by decide +kernel
theorem de_W_law_321 : decode bc_W_law 321 = .ok (.if_icmp .eq 407, 3) := by decide +kernel
theorem de_W_law_324 : decode bc_W_law 324 = .ok (.iconst 0, 1) := by decide +kernel
theorem de_W_law_325 : decode bc_W_law 325 = .ok (.ireturn, 1) := by decide +kernel
theorem de_W_law_326 : decode bc_W_law 326 = .ok (.aload_n 1, 1) := by decide +kernel
theorem de_W_law_327 : decode bc_W_law 327 = .ok (.aload_n 0, 1) := by decide +kernel
theorem de_W_law_328 : decode bc_W_law 328 = .ok (.iload_n 3, 1) := by decide +kernel
theorem de_W_law_329 : decode bc_W_law 329 = .ok (.iconst 1, 1) := by decide +kernel
theorem de_W_law_330 : decode bc_W_law 330 = .ok (.iadd, 1) := by decide +kernel
theorem de_W_law_331 : decode bc_W_law 331 = .ok (.iaload, 1) := by decide +kernel
theorem de_W_law_332 : decode bc_W_law 332 = .ok (.aload_n 0, 1) := by decide +kernel
theorem de_W_law_333 : decode bc_W_law 333 = .ok (.iload_n 3, 1) := by decide +kernel
theorem de_W_law_334 : decode bc_W_law 334 = .ok (.iconst 2, 1) := by decide +kernel
theorem de_W_law_335 : decode bc_W_law 335 = .ok (.iadd, 1) := by decide +kernel
theorem de_W_law_336 : decode bc_W_law 336 = .ok (.iaload, 1) := by decide +kernel
theorem de_W_law_337 : decode bc_W_law 337 = .ok (.invokevirtual 33, 3) := by decide +kernel
theorem de_W_law_340 : decode bc_W_law 340 = .ok (.aload_n 2, 1) := by decide +kernel
theorem de_W_law_341 : decode bc_W_law 341 = .ok (.aload_n 0, 1) := by decide +kernel
theorem de_W_law_342 : decode bc_W_law 342 = .ok (.iload_n 3, 1) := by decide +kernel
theorem de_W_law_343 : decode bc_W_law 343 = .ok (.iconst 1, 1) := by decide +kernel
theorem de_W_law_344 : decode bc_W_law 344 = .ok (.iadd, 1) := by decide +kernel
theorem de_W_law_345 : decode bc_W_law 345 = .ok (.iaload, 1) := by decide +kernel
theorem de_W_law_346 : decode bc_W_law 346 = .ok (.aload_n 0, 1) := by decide +kernel
theorem de_W_law_347 : decode bc_W_law 347 = .ok (.iload_n 3, 1) := by decide +kernel
theorem de_W_law_348 : decode bc_W_law 348 = .ok (.iconst 2, 1) := by decide +kernel
theorem de_W_law_349 : decode bc_W_law 349 = .ok (.iadd, 1) := by decide +kernel
theorem de_W_law_350 : decode bc_W_law 350 = .ok (.iaload, 1) := by decide +kernel
theorem de_W_law_351 : decode bc_W_law 351 = .ok (.invokevirtual 37, 3) := by decide +kernel
theorem de_W_law_354 : decode bc_W_law 354 = .ok (.if_icmp .eq 374, 3) := by decide +kernel
theorem de_W_law_357 : decode bc_W_law 357 = .ok (.iconst 0, 1) := by decide +kernel
theorem de_W_law_358 : decode bc_W_law 358 = .ok (.ireturn, 1) := by decide +kernel
theorem de_W_law_359 : decode bc_W_law 359 = .ok (.aload_n 1, 1) := by decide +kernel
theorem de_W_law_360 : decode bc_W_law 360 = .ok (.aload_n 0, 1) := by decide +kernel
theorem de_W_law_361 : decode bc_W_law 361 = .ok (.iload_n 3, 1) := by decide +kernel
theorem de_W_law_362 : decode bc_W_law 362 = .ok (.iconst 1, 1) := by decide +kernel
theorem de_W_law_363 : decode bc_W_law 363 = .ok (.iadd, 1) := by decide +kernel
theorem de_W_law_364 : decode bc_W_law 364 = .ok (.iaload, 1) := by decide +kernel
theorem de_W_law_365 : decode bc_W_law 365 = .ok (.invokevirtual 38, 3) := by decide +kernel
theorem de_W_law_368 : decode bc_W_law 368 = .ok (.aload_n 2, 1) := by decide +kernel
theorem de_W_law_369 : decode bc_W_law 369 = .ok (.aload_n 0, 1) := by decide +kernel
theorem de_W_law_370 : decode bc_W_law 370 = .ok (.iload_n 3, 1) := by decide +kernel
theorem de_W_law_371 : decode bc_W_law 371 = .ok (.iconst 1, 1) := by decide +kernel
theorem de_W_law_372 : decode bc_W_law 372 = .ok (.iadd, 1) := by decide +kernel
theorem de_W_law_373 : decode bc_W_law 373 = .ok (.iaload, 1) := by decide +kernel
theorem de_W_law_374 : decode bc_W_law 374 = .ok (.invokevirtual 42, 3) := by decide +kernel
theorem de_W_law_377 : decode bc_W_law 377 = .ok (.if_icmp .eq 351, 3) := by decide +kernel
theorem de_W_law_380 : decode bc_W_law 380 = .ok (.iconst 0, 1) := by decide +kernel
theorem de_W_law_381 : decode bc_W_law 381 = .ok (.ireturn, 1) := by decide +kernel
theorem de_W_law_382 : decode bc_W_law 382 = .ok (.aload_n 1, 1) := by decide +kernel
theorem de_W_law_383 : decode bc_W_law 383 = .ok (.aload_n 0, 1) := by decide +kernel
theorem de_W_law_384 : decode bc_W_law 384 = .ok (.iload_n 3, 1) := by decide +kernel
theorem de_W_law_385 : decode bc_W_law 385 = .ok (.iconst 1, 1) := by decide +kernel
theorem de_W_law_386 : decode bc_W_law 386 = .ok (.iadd, 1) := by decide +kernel
theorem de_W_law_387 : decode bc_W_law 387 = .ok (.iaload, 1) := by decide +kernel
theorem de_W_law_388 : decode bc_W_law 388 = .ok (.invokevirtual 43, 3) := by decide +kernel
theorem de_W_law_391 : decode bc_W_law 391 = .ok (.aload_n 2, 1) := by decide +kernel
