theorem dL_texts_244 : decode cL_texts 244 = .ok (.aload_n 0, 1) := by decide +kernel
theorem dL_texts_245 : decode cL_texts 245 = .ok (.invokevirtual 104, 3) := by decide +kernel
theorem dL_texts_248 : decode cL_texts 248 = .ok (.iconst 3, 1) := by decide +kernel
theorem dL_texts_249 : decode cL_texts 249 = .ok (.if_icmp .ne 64, 3) := by decide +kernel
theorem dL_texts_252 : decode cL_texts 252 = .ok (.aload_n 0, 1) := by decide +kernel
theorem dL_texts_253 : decode cL_texts 253 = .ok (.invokevirtual 109, 3) := by decide +kernel
theorem dL_texts_256 : decode cL_texts 256 = .ok (.iconst 4, 1) := by decide +kernel
theorem dL_texts_257 : decode cL_texts 257 = .ok (.if_icmp .ne 56, 3) := by decide +kernel
theorem dL_texts_260 : decode cL_texts 260 = .ok (.aload_n 0, 1) := by decide +kernel
theorem dL_texts_261 : decode cL_texts 261 = .ok (.ldc2_w 128, 3) := by decide +kernel
theorem dL_texts_264 : decode cL_texts 264 = .ok (.invokevirtual 80, 3) := by decide +kernel
theorem dL_texts_267 : decode cL_texts 267 = .ok (.ifCond .lt 46, 3) := by decide +kernel
theorem dL_texts_270 : decode cL_texts 270 = .ok (.aload_n 0, 1) := by decide +kernel
theorem dL_texts_271 : decode cL_texts 271 = .ok (.invokevirtual 104, 3) := by decide +kernel
theorem dL_texts_274 : decode cL_texts 274 = .ok (.iconst 5, 1) := by decide +kernel
theorem dL_texts_275 : decode cL_texts 275 = .ok (.if_icmp .ne 38, 3) := by decide +kernel
theorem dL_texts_278 : decode cL_texts 278 = .ok (.aload_n 0, 1) := by decide +kernel
theorem dL_texts_279 : decode cL_texts 279 = .ok (.invokevirtual 109, 3) := by decide +kernel
theorem dL_texts_282 : decode cL_texts 282 = .ok (.bipush 6, 2) := by decide +kernel
theorem dL_texts_284 : decode cL_texts 284 = .ok (.if_icmp .ne 29, 3) := by decide +kernel
theorem dL_texts_287 : decode cL_texts 287 = .ok (.aload_n 0, 1) := by decide +kernel
theorem dL_texts_288 : decode cL_texts 288 = .ok (.ldc2_w 130, 3) := by decide +kernel
theorem dL_texts_291 : decode cL_texts 291 = .ok (.invokevirtual 80, 3) := by decide +kernel
theorem dL_texts_294 : decode cL_texts 294 = .ok (.ifCond .lt 19, 3) := by decide +kernel
theorem dL_texts_297 : decode cL_texts 297 = .ok (.aload_n 0, 1) := by decide +kernel
theorem dL_texts_298 : decode cL_texts 298 = .ok (.invokevirtual 104, 3) := by decide +kernel
theorem dL_texts_301 : decode cL_texts 301 = .ok (.iconst 4, 1) := by decide +kernel
theorem dL_texts_302 : decode cL_texts 302 = .ok (.if_icmp .ne 11, 3) := by decide +kernel
theorem dL_texts_305 : decode cL_texts 305 = .ok (.aload_n 0, 1) := by decide +kernel
theorem dL_texts_306 : decode cL_texts 306 = .ok (.invokevirtual 109, 3) := by decide +kernel
theorem dL_texts_309 : decode cL_texts 309 = .ok (.iconst 5, 1) := by decide +kernel
theorem dL_texts_310 : decode cL_texts 310 = .ok (.if_icmp .eq 5, 3) := by decide +kernel
theorem dL_texts_313 : decode cL_texts 313 = .ok (.iconst 0, 1) := by decide +kernel
theorem dL_texts_314 : decode cL_texts 314 = .ok (.ireturn, 1) := by decide +kernel
theorem dL_texts_315 : decode cL_texts 315 = .ok (.aload_n 0, 1) := by decide +kernel
theorem dL_texts_316 : decode cL_texts 316 = .ok (.ldc2_w 132, 3) := by decide +kernel
theorem dL_texts_319 : decode cL_texts 319 = .ok (.invokevirtual 80, 3) := by decide +kernel
theorem dL_texts_322 : decode cL_texts 322 = .ok (.bipush 8, 2) := by decide +kernel
theorem dL_texts_324 : decode cL_texts 324 = .ok (.if_icmp .ne 98, 3) := by decide +kernel
theorem dL_texts_327 : decode cL_texts 327 = .ok (.aload_n 0, 1) := by decide +kernel
theorem dL_texts_328 : decode cL_texts 328 = .ok (.ldc2_w 134, 3) := by decide +kernel
theorem dL_texts_331 : decode cL_texts 331 = .ok (.invokevirtual 80, 3) := by decide +kernel
theorem dL_texts_334 : decode cL_texts 334 = .ok (.bipush 15, 2) := by decide +kernel
theorem dL_texts_336 : decode cL_texts 336 = .ok (.if_icmp .ne 86, 3) := by decide +kernel
theorem dL_texts_339 : decode cL_texts 339 = .ok (.aload_n 0, 1) := by decide +kernel
theorem dL_texts_340 : decode cL_texts 340 = .ok (.ldc2_w 136, 3) := by decide +kernel
theorem dL_texts_343 : decode cL_texts 343 = .ok (.invokevirtual 80, 3) := by decide +kernel
theorem dL_texts_346 : decode cL_texts 346 = .ok (.bipush 19, 2) := by decide +kernel
theorem dL_texts_348 : decode cL_texts 348 = .ok (.if_icmp .ne 74, 3) := by decide +kernel
theorem dL_texts_351 : decode cL_texts 351 = .ok (.aload_n 0, 1) := by decide +kernel
theorem dL_texts_352 : decode cL_texts 352 = .ok (.invokevirtual 104, 3) := by decide +kernel
theorem dL_texts_355 : decode cL_texts 355 = .ok (.bipush (-6), 2) := by decide +kernel
theorem dL_texts_357 : decode cL_texts 357 = .ok (.if_icmp .ne 65, 3) := by decide +kernel
theorem dL_texts_360 : decode cL_texts 360 = .ok (.aload_n 0, 1) := by decide +kernel
theorem dL_texts_361 : decode cL_texts 361 = .ok (.invokevirtual 43, 3) := by decide +kernel
theorem dL_texts_364 : decode cL_texts 364 = .ok (.iconst 3, 1) := by decide +kernel
theorem dL_texts_365 : decode cL_texts 365 = .ok (.if_icmp .ne 57, 3) := by decide +kernel
theorem dL_texts_368 : decode cL_texts 368 = .ok (.aload_n 0, 1) := by decide +kernel
theorem dL_texts_369 : decode cL_texts 369 = .ok (.iconst 0, 1) := by decide +kernel
theorem dL_texts_370 : decode cL_texts 370 = .ok (.invokevirtual 11, 3) := by decide +kernel
theorem dL_texts_373 : decode cL_texts 373 = .ok (.iconst 3, 1) := by decide +kernel
theorem dL_texts_374 : decode cL_texts 374 = .ok (.if_icmp .ne 48, 3) := by decide +kernel
theorem dL_texts_377 : decode cL_texts 377 = .ok (.aload_n 0, 1) := by decide +kernel
theorem dL_texts_378 : decode cL_texts 378 = .ok (.bipush 9, 2) := by decide +kernel
theorem dL_texts_380 : decode cL_texts 380 = .ok (.invokevirtual 11, 3) := by decide +kernel
theorem dL_texts_383 : decode cL_texts 383 = .ok (.ifCond .ne 39, 3) := by decide +kernel
theorem dL_texts_386 : decode cL_texts 386 = .ok (.aload_n 0, 1) := by decide +kernel
theorem dL_texts_387 : decode cL_texts 387 = .ok (.bipush 10, 2) := by decide +kernel
theorem dL_texts_389 : decode cL_texts 389 = .ok (.invokevirtual 11, 3) := by decide +kernel
theorem dL_texts_392 : decode cL_texts 392 = .ok (.iconst 1, 1) := by decide +kernel
theorem dL_texts_393 : decode cL_texts 393 = .ok (.if_icmp .ne 29, 3) := by decide +kernel
theorem dL_texts_396 : decode cL_texts 396 = .ok (.aload_n 0, 1) := by decide +kernel
theorem dL_texts_397 : decode cL_texts 397 = .ok (.iconst 2, 1) := by decide +kernel
theorem dL_texts_398 : decode cL_texts 398 = .ok (.iconst 0, 1) := by decide +kernel
theorem dL_texts_399 : decode cL_texts 399 = .ok (.invokevirtual 17, 3) := by decide +kernel
theorem dL_texts_402 : decode cL_texts 402 = .ok (.bipush 9, 2) := by decide +kernel
theorem dL_texts_404 : decode cL_texts 404 = .ok (.if_icmp .ne 18, 3) := by decide +kernel
theorem dL_texts_407 : decode cL_texts 407 = .ok (.aload_n 0, 1) := by decide +kernel
theorem dL_texts_408 : decode cL_texts 408 = .ok (.invokevirtual 97, 3) := by decide +kernel
theorem dL_texts_411 : decode cL_texts 411 = .ok (.ifCond .ne 11, 3) := by decide +kernel
theorem dL_texts_414 : decode cL_texts 414 = .ok (.aload_n 0, 1) := by decide +kernel
theorem dL_texts_415 : decode cL_texts 415 = .ok (.iconst 0, 1) := by decide +kernel
theorem dL_texts_416 : decode cL_texts 416 = .ok (.invokevirtual 11, 3) := by decide +kernel
theorem dL_texts_419 : decode cL_texts 419 = .ok (.ifCond .eq 5, 3) := by decide +kernel
theorem dL_texts_422 : decode cL_texts 422 = .ok (.iconst 0, 1) := by decide +kernel
theorem dL_texts_423 : decode cL_texts 423 = .ok (.ireturn, 1) := by decide +kernel
theorem dL_texts_424 : decode cL_texts 424 = .ok (.iconst 0, 1) := by decide +kernel
theorem dL_texts_425 : decode cL_texts 425 = .ok (.istore_n 1, 1) := by decide +kernel
theorem dL_texts_426 : decode cL_texts 426 = .ok (.iload_n 1, 1) := by decide +kernel
theorem dL_texts_427 : decode cL_texts 427 = .ok (.bipush 10, 2) := by decide +kernel
theorem dL_texts_429 : decode cL_texts 429 = .ok (.if_icmp .ge 28, 3) := by decide +kernel
theorem dL_texts_432 : decode cL_texts 432 = .ok (.aload_n 0, 1) := by decide +kernel
theorem dL_texts_433 : decode cL_texts 433 = .ok (.ldc2_w 138, 3) := by decide +kernel
theorem dL_texts_436 : decode cL_texts 436 = .ok (.invokevirtual 80, 3) := by decide +kernel
theorem dL_texts_439 : decode cL_texts 439 = .ok (.bipush 8, 2) := by decide +kernel
theorem dL_texts_441 : decode cL_texts 441 = .ok (.iload_n 1, 1) := by decide +kernel
theorem dL_texts_442 : decode cL_texts 442 = .ok (.imul, 1) := by decide +kernel
theorem dL_texts_443 : decode cL_texts 443 = .ok (.bipush 8, 2) := by decide +kernel
theorem dL_texts_445 : decode cL_texts 445 = .ok (.iadd, 1) := by decide +kernel
theorem dL_texts_446 : decode cL_texts 446 = .ok (.if_icmp .eq 5, 3) := by decide +kernel
theorem dL_texts_449 : decode cL_texts 449 = .ok (.iconst 0, 1) := by decide +kernel
theorem dL_texts_450 : decode cL_texts 450 = .ok (.ireturn, 1) := by decide +kernel
theorem dL_texts_451 : decode cL_texts 451 = .ok (.iinc 1 1, 3) := by decide +kernel
theorem dL_texts_454 : decode cL_texts 454 = .ok (.goto (-28), 3) := by decide +kernel
theorem dL_texts_457 : decode cL_texts 457 = .ok (.aload_n 0, 1) := by decide +kernel
theorem dL_texts_458 : decode cL_texts 458 = .ok (.ldc2_w 140, 3) := by decide +kernel
theorem dL_texts_461 : decode cL_texts 461 = .ok (.invokevirtual 80, 3) := by decide +kernel
theorem dL_texts_464 : decode cL_texts 464 = .ok (.bipush (-4), 2) := by decide +kernel
theorem dL_texts_466 : decode cL_texts 466 = .ok (.if_icmp .ne 46, 3) := by decide +kernel
theorem dL_texts_469 : decode cL_texts 469 = .ok (.aload_n 0, 1) := by decide +kernel
