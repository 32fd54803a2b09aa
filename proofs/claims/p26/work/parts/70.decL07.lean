theorem dL_corner_259 : decode cL_corner 259 = .ok (.aload_n 0, 1) := by decide +kernel
theorem dL_corner_260 : decode cL_corner 260 = .ok (.iconst 0, 1) := by decide +kernel
theorem dL_corner_261 : decode cL_corner 261 = .ok (.bipush 32, 2) := by decide +kernel
theorem dL_corner_263 : decode cL_corner 263 = .ok (.invokevirtual 47, 3) := by decide +kernel
theorem dL_corner_266 : decode cL_corner 266 = .ok (.bipush 6, 2) := by decide +kernel
theorem dL_corner_268 : decode cL_corner 268 = .ok (.if_icmp .ne 49, 3) := by decide +kernel
theorem dL_corner_271 : decode cL_corner 271 = .ok (.aload_n 0, 1) := by decide +kernel
theorem dL_corner_272 : decode cL_corner 272 = .ok (.iconst 4, 1) := by decide +kernel
theorem dL_corner_273 : decode cL_corner 273 = .ok (.invokevirtual 56, 3) := by decide +kernel
theorem dL_corner_276 : decode cL_corner 276 = .ok (.iconst 2, 1) := by decide +kernel
theorem dL_corner_277 : decode cL_corner 277 = .ok (.if_icmp .ne 40, 3) := by decide +kernel
theorem dL_corner_280 : decode cL_corner 280 = .ok (.aload_n 0, 1) := by decide +kernel
theorem dL_corner_281 : decode cL_corner 281 = .ok (.iconst 4, 1) := by decide +kernel
theorem dL_corner_282 : decode cL_corner 282 = .ok (.iconst 4, 1) := by decide +kernel
theorem dL_corner_283 : decode cL_corner 283 = .ok (.invokevirtual 21, 3) := by decide +kernel
theorem dL_corner_286 : decode cL_corner 286 = .ok (.iconst 2, 1) := by decide +kernel
theorem dL_corner_287 : decode cL_corner 287 = .ok (.if_icmp .ne 30, 3) := by decide +kernel
theorem dL_corner_290 : decode cL_corner 290 = .ok (.aload_n 0, 1) := by decide +kernel
theorem dL_corner_291 : decode cL_corner 291 = .ok (.iconst 1, 1) := by decide +kernel
theorem dL_corner_292 : decode cL_corner 292 = .ok (.iconst 5, 1) := by decide +kernel
theorem dL_corner_293 : decode cL_corner 293 = .ok (.invokevirtual 21, 3) := by decide +kernel
theorem dL_corner_296 : decode cL_corner 296 = .ok (.iconst 2, 1) := by decide +kernel
theorem dL_corner_297 : decode cL_corner 297 = .ok (.if_icmp .ne 20, 3) := by decide +kernel
theorem dL_corner_300 : decode cL_corner 300 = .ok (.aload_n 0, 1) := by decide +kernel
theorem dL_corner_301 : decode cL_corner 301 = .ok (.iconst 1, 1) := by decide +kernel
theorem dL_corner_302 : decode cL_corner 302 = .ok (.invokevirtual 56, 3) := by decide +kernel
theorem dL_corner_305 : decode cL_corner 305 = .ok (.bipush (-5), 2) := by decide +kernel
theorem dL_corner_307 : decode cL_corner 307 = .ok (.if_icmp .ne 10, 3) := by decide +kernel
theorem dL_corner_310 : decode cL_corner 310 = .ok (.aload_n 0, 1) := by decide +kernel
theorem dL_corner_311 : decode cL_corner 311 = .ok (.invokestatic 100, 3) := by decide +kernel
theorem dL_corner_314 : decode cL_corner 314 = .ok (.ifCond .ne 5, 3) := by decide +kernel
theorem dL_corner_317 : decode cL_corner 317 = .ok (.iconst 0, 1) := by decide +kernel
theorem dL_corner_318 : decode cL_corner 318 = .ok (.ireturn, 1) := by decide +kernel
theorem dL_corner_319 : decode cL_corner 319 = .ok (.aload_n 0, 1) := by decide +kernel
theorem dL_corner_320 : decode cL_corner 320 = .ok (.iconst 0, 1) := by decide +kernel
theorem dL_corner_321 : decode cL_corner 321 = .ok (.iconst 1, 1) := by decide +kernel
theorem dL_corner_322 : decode cL_corner 322 = .ok (.invokevirtual 29, 3) := by decide +kernel
theorem dL_corner_325 : decode cL_corner 325 = .ok (.bipush 19, 2) := by decide +kernel
theorem dL_corner_327 : decode cL_corner 327 = .ok (.if_icmp .ne 427, 3) := by decide +kernel
theorem dL_corner_330 : decode cL_corner 330 = .ok (.aload_n 0, 1) := by decide +kernel
theorem dL_corner_331 : decode cL_corner 331 = .ok (.iconst 3, 1) := by decide +kernel
theorem dL_corner_332 : decode cL_corner 332 = .ok (.invokevirtual 11, 3) := by decide +kernel
theorem dL_corner_335 : decode cL_corner 335 = .ok (.bipush 6, 2) := by decide +kernel
theorem dL_corner_337 : decode cL_corner 337 = .ok (.if_icmp .ne 417, 3) := by decide +kernel
theorem dL_corner_340 : decode cL_corner 340 = .ok (.aload_n 0, 1) := by decide +kernel
theorem dL_corner_341 : decode cL_corner 341 = .ok (.bipush 6, 2) := by decide +kernel
theorem dL_corner_343 : decode cL_corner 343 = .ok (.invokevirtual 11, 3) := by decide +kernel
theorem dL_corner_346 : decode cL_corner 346 = .ok (.iconst 1, 1) := by decide +kernel
theorem dL_corner_347 : decode cL_corner 347 = .ok (.if_icmp .ne 407, 3) := by decide +kernel
theorem dL_corner_350 : decode cL_corner 350 = .ok (.aload_n 0, 1) := by decide +kernel
theorem dL_corner_351 : decode cL_corner 351 = .ok (.iconst 2, 1) := by decide +kernel
theorem dL_corner_352 : decode cL_corner 352 = .ok (.invokevirtual 11, 3) := by decide +kernel
theorem dL_corner_355 : decode cL_corner 355 = .ok (.bipush 25, 2) := by decide +kernel
theorem dL_corner_357 : decode cL_corner 357 = .ok (.if_icmp .ne 397, 3) := by decide +kernel
theorem dL_corner_360 : decode cL_corner 360 = .ok (.aload_n 0, 1) := by decide +kernel
theorem dL_corner_361 : decode cL_corner 361 = .ok (.iconst 3, 1) := by decide +kernel
theorem dL_corner_362 : decode cL_corner 362 = .ok (.iconst 3, 1) := by decide +kernel
theorem dL_corner_363 : decode cL_corner 363 = .ok (.invokevirtual 17, 3) := by decide +kernel
theorem dL_corner_366 : decode cL_corner 366 = .ok (.iconst 2, 1) := by decide +kernel
theorem dL_corner_367 : decode cL_corner 367 = .ok (.if_icmp .ne 387, 3) := by decide +kernel
theorem dL_corner_370 : decode cL_corner 370 = .ok (.aload_n 0, 1) := by decide +kernel
theorem dL_corner_371 : decode cL_corner 371 = .ok (.iconst 2, 1) := by decide +kernel
theorem dL_corner_372 : decode cL_corner 372 = .ok (.iconst 3, 1) := by decide +kernel
theorem dL_corner_373 : decode cL_corner 373 = .ok (.invokevirtual 17, 3) := by decide +kernel
theorem dL_corner_376 : decode cL_corner 376 = .ok (.iconst 3, 1) := by decide +kernel
theorem dL_corner_377 : decode cL_corner 377 = .ok (.if_icmp .ne 377, 3) := by decide +kernel
theorem dL_corner_380 : decode cL_corner 380 = .ok (.aload_n 0, 1) := by decide +kernel
theorem dL_corner_381 : decode cL_corner 381 = .ok (.iconst 0, 1) := by decide +kernel
theorem dL_corner_382 : decode cL_corner 382 = .ok (.iconst 2, 1) := by decide +kernel
theorem dL_corner_383 : decode cL_corner 383 = .ok (.invokevirtual 17, 3) := by decide +kernel
theorem dL_corner_386 : decode cL_corner 386 = .ok (.sipush 4096, 3) := by decide +kernel
theorem dL_corner_389 : decode cL_corner 389 = .ok (.if_icmp .ne 365, 3) := by decide +kernel
theorem dL_corner_392 : decode cL_corner 392 = .ok (.aload_n 0, 1) := by decide +kernel
theorem dL_corner_393 : decode cL_corner 393 = .ok (.iconst 1, 1) := by decide +kernel
theorem dL_corner_394 : decode cL_corner 394 = .ok (.iconst 2, 1) := by decide +kernel
theorem dL_corner_395 : decode cL_corner 395 = .ok (.invokevirtual 17, 3) := by decide +kernel
theorem dL_corner_398 : decode cL_corner 398 = .ok (.sipush 4097, 3) := by decide +kernel
theorem dL_corner_401 : decode cL_corner 401 = .ok (.if_icmp .ne 353, 3) := by decide +kernel
theorem dL_corner_404 : decode cL_corner 404 = .ok (.aload_n 0, 1) := by decide +kernel
theorem dL_corner_405 : decode cL_corner 405 = .ok (.iconst 3, 1) := by decide +kernel
theorem dL_corner_406 : decode cL_corner 406 = .ok (.iconst 2, 1) := by decide +kernel
theorem dL_corner_407 : decode cL_corner 407 = .ok (.invokevirtual 17, 3) := by decide +kernel
theorem dL_corner_410 : decode cL_corner 410 = .ok (.sipush 4098, 3) := by decide +kernel
theorem dL_corner_413 : decode cL_corner 413 = .ok (.if_icmp .ne 341, 3) := by decide +kernel
theorem dL_corner_416 : decode cL_corner 416 = .ok (.aload_n 0, 1) := by decide +kernel
theorem dL_corner_417 : decode cL_corner 417 = .ok (.iconst 0, 1) := by decide +kernel
theorem dL_corner_418 : decode cL_corner 418 = .ok (.iconst 1, 1) := by decide +kernel
theorem dL_corner_419 : decode cL_corner 419 = .ok (.invokevirtual 29, 3) := by decide +kernel
theorem dL_corner_422 : decode cL_corner 422 = .ok (.bipush (-5), 2) := by decide +kernel
theorem dL_corner_424 : decode cL_corner 424 = .ok (.if_icmp .ne 330, 3) := by decide +kernel
theorem dL_corner_427 : decode cL_corner 427 = .ok (.aload_n 0, 1) := by decide +kernel
theorem dL_corner_428 : decode cL_corner 428 = .ok (.iconst 0, 1) := by decide +kernel
theorem dL_corner_429 : decode cL_corner 429 = .ok (.iconst 0, 1) := by decide +kernel
theorem dL_corner_430 : decode cL_corner 430 = .ok (.iconst 0, 1) := by decide +kernel
theorem dL_corner_431 : decode cL_corner 431 = .ok (.invokevirtual 66, 3) := by decide +kernel
theorem dL_corner_434 : decode cL_corner 434 = .ok (.bipush (-5), 2) := by decide +kernel
theorem dL_corner_436 : decode cL_corner 436 = .ok (.if_icmp .ne 318, 3) := by decide +kernel
theorem dL_corner_439 : decode cL_corner 439 = .ok (.aload_n 0, 1) := by decide +kernel
theorem dL_corner_440 : decode cL_corner 440 = .ok (.iconst 0, 1) := by decide +kernel
theorem dL_corner_441 : decode cL_corner 441 = .ok (.iconst 0, 1) := by decide +kernel
theorem dL_corner_442 : decode cL_corner 442 = .ok (.iconst 2, 1) := by decide +kernel
theorem dL_corner_443 : decode cL_corner 443 = .ok (.invokevirtual 66, 3) := by decide +kernel
theorem dL_corner_446 : decode cL_corner 446 = .ok (.bipush (-2), 2) := by decide +kernel
theorem dL_corner_448 : decode cL_corner 448 = .ok (.if_icmp .ne 306, 3) := by decide +kernel
theorem dL_corner_451 : decode cL_corner 451 = .ok (.aload_n 0, 1) := by decide +kernel
theorem dL_corner_452 : decode cL_corner 452 = .ok (.iconst 1, 1) := by decide +kernel
theorem dL_corner_453 : decode cL_corner 453 = .ok (.iconst 1, 1) := by decide +kernel
theorem dL_corner_454 : decode cL_corner 454 = .ok (.iconst 0, 1) := by decide +kernel
theorem dL_corner_455 : decode cL_corner 455 = .ok (.invokevirtual 66, 3) := by decide +kernel
theorem dL_corner_458 : decode cL_corner 458 = .ok (.bipush 19, 2) := by decide +kernel
