theorem dL_corner_219 : decode cL_corner 219 = .ok (.iconst 2, 1) := by decide +kernel
theorem dL_corner_220 : decode cL_corner 220 = .ok (.invokevirtual 11, 3) := by decide +kernel
theorem dL_corner_223 : decode cL_corner 223 = .ok (.iconst 5, 1) := by decide +kernel
theorem dL_corner_224 : decode cL_corner 224 = .ok (.if_icmp .ne 93, 3) := by decide +kernel
theorem dL_corner_227 : decode cL_corner 227 = .ok (.aload_n 0, 1) := by decide +kernel
theorem dL_corner_228 : decode cL_corner 228 = .ok (.iconst 0, 1) := by decide +kernel
theorem dL_corner_229 : decode cL_corner 229 = .ok (.iconst 2, 1) := by decide +kernel
theorem dL_corner_230 : decode cL_corner 230 = .ok (.invokevirtual 17, 3) := by decide +kernel
theorem dL_corner_233 : decode cL_corner 233 = .ok (.iconst 4, 1) := by decide +kernel
theorem dL_corner_234 : decode cL_corner 234 = .ok (.if_icmp .ne 83, 3) := by decide +kernel
theorem dL_corner_237 : decode cL_corner 237 = .ok (.aload_n 0, 1) := by decide +kernel
theorem dL_corner_238 : decode cL_corner 238 = .ok (.iconst 2, 1) := by decide +kernel
theorem dL_corner_239 : decode cL_corner 239 = .ok (.iconst 2, 1) := by decide +kernel
theorem dL_corner_240 : decode cL_corner 240 = .ok (.invokevirtual 17, 3) := by decide +kernel
theorem dL_corner_243 : decode cL_corner 243 = .ok (.bipush 7, 2) := by decide +kernel
theorem dL_corner_245 : decode cL_corner 245 = .ok (.if_icmp .ne 72, 3) := by decide +kernel
theorem dL_corner_248 : decode cL_corner 248 = .ok (.aload_n 0, 1) := by decide +kernel
theorem dL_corner_249 : decode cL_corner 249 = .ok (.bipush 32, 2) := by decide +kernel
theorem dL_corner_251 : decode cL_corner 251 = .ok (.iconst 0, 1) := by decide +kernel
theorem dL_corner_252 : decode cL_corner 252 = .ok (.invokevirtual 47, 3) := by decide +kernel
theorem dL_corner_255 : decode cL_corner 255 = .ok (.iconst 5, 1) := by decide +kernel
theorem dL_corner_256 : decode cL_corner 256 = .ok (.if_icmp .ne 61, 3) := by decide +kernel
theorem dL_corner_259 : decode cL_corner 259 = .ok (.aload_n 0, 1) := by decide +kernel
theorem dL_corner_260 : decode cL_corner 260 = .ok (.iconst 0, 1) := by decide +kernel
theorem dL_corner_261 : decode cL_corner 261 = .ok (.bipush 32, 2) := by decide +kernel
theorem dL_corner_263 : decode cL_corner 263 = .ok (.invokevirtual 47, 3) := by decide +kernel
theorem dL_corner_266 : decode cL_corner 266 = .ok (.bipush 6, 2) := by decide +kernel
theorem dL_corner_268 : decode cL_corner 268 = .ok (.if_icmp .ne 49, 3) := by decide +kernel
theorem dL_corner_271 : decode cL_corner 271 = .ok (.aload_n 0, 1) := by decide +kernel
theorem dL_corner_272 : decode cL_corner 272 = .ok (.iconst 4, 1) := by decide +kernel
theorem dL_corner_273 : decode cL_corner 273 = .ok (.invokevirtual 56, 3) := by decide +kernel
theorem dL_corner_276 : decode cL_corner 276 = .ok (.iconst 2, 1) := by decide +kernel
theorem dL_corner_277 : decode cL_corner 277 = .ok (.if_icmp .ne 40, 3) := by decide +kernel
theorem dL_corner_280 : decode cL_corner 280 = .ok (.aload_n 0, 1) := by decide +kernel
theorem dL_corner_281 : decode cL_corner 281 = .ok (.iconst 4, 1) := by decide +kernel
theorem dL_corner_282 : decode cL_corner 282 = .ok (.iconst 4, 1) := by decide +kernel
theorem dL_corner_283 : decode cL_corner 283 = .ok (.invokevirtual 21, 3) := by decide +kernel
theorem dL_corner_286 : decode cL_corner 286 = .ok (.iconst 2, 1) := by decide +kernel
theorem dL_corner_287 : decode cL_corner 287 = .ok (.if_icmp .ne 30, 3) := by decide +kernel
theorem dL_corner_290 : decode cL_corner 290 = .ok (.aload_n 0, 1) := by decide +kernel
theorem dL_corner_291 : decode cL_corner 291 = .ok (.iconst 1, 1) := by decide +kernel
theorem dL_corner_292 : decode cL_corner 292 = .ok (.iconst 5, 1) := by decide +kernel
theorem dL_corner_293 : decode cL_corner 293 = .ok (.invokevirtual 21, 3) := by decide +kernel
theorem dL_corner_296 : decode cL_corner 296 = .ok (.iconst 2, 1) := by decide +kernel
theorem dL_corner_297 : decode cL_corner 297 = .ok (.if_icmp .ne 20, 3) := by decide +kernel
theorem dL_corner_300 : decode cL_corner 300 = .ok (.aload_n 0, 1) := by decide +kernel
theorem dL_corner_301 : decode cL_corner 301 = .ok (.iconst 1, 1) := by decide +kernel
theorem dL_corner_302 : decode cL_corner 302 = .ok (.invokevirtual 56, 3) := by decide +kernel
theorem dL_corner_305 : decode cL_corner 305 = .ok (.bipush (-5), 2) := by decide +kernel
theorem dL_corner_307 : decode cL_corner 307 = .ok (.if_icmp .ne 10, 3) := by decide +kernel
theorem dL_corner_310 : decode cL_corner 310 = .ok (.aload_n 0, 1) := by decide +kernel
theorem dL_corner_311 : decode cL_corner 311 = .ok (.invokestatic 100, 3) := by decide +kernel
theorem dL_corner_314 : decode cL_corner 314 = .ok (.ifCond .ne 5, 3) := by decide +kernel
theorem dL_corner_317 : decode cL_corner 317 = .ok (.iconst 0, 1) := by decide +kernel
theorem dL_corner_318 : decode cL_corner 318 = .ok (.ireturn, 1) := by decide +kernel
theorem dL_corner_319 : decode cL_corner 319 = .ok (.aload_n 0, 1) := by decide +kernel
theorem dL_corner_320 : decode cL_corner 320 = .ok (.iconst 0, 1) := by decide +kernel
theorem dL_corner_321 : decode cL_corner 321 = .ok (.iconst 1, 1) := by decide +kernel
theorem dL_corner_322 : decode cL_corner 322 = .ok (.invokevirtual 29, 3) := by decide +kernel
theorem dL_corner_325 : decode cL_corner 325 = .ok (.bipush 19, 2) := by decide +kernel
theorem dL_corner_327 : decode cL_corner 327 = .ok (.if_icmp .ne 427, 3) := by decide +kernel
theorem dL_corner_330 : decode cL_corner 330 = .ok (.aload_n 0, 1) := by decide +kernel
theorem dL_corner_331 : decode cL_corner 331 = .ok (.iconst 3, 1) := by decide +kernel
theorem dL_corner_332 : decode cL_corner 332 = .ok (.invokevirtual 11, 3) := by decide +kernel
theorem dL_corner_335 : decode cL_corner 335 = .ok (.bipush 6, 2) := by decide +kernel
theorem dL_corner_337 : decode cL_corner 337 = .ok (.if_icmp .ne 417, 3) := by decide +kernel
theorem dL_corner_340 : decode cL_corner 340 = .ok (.aload_n 0, 1) := by decide +kernel
theorem dL_corner_341 : decode cL_corner 341 = .ok (.bipush 6, 2) := by decide +kernel
theorem dL_corner_343 : decode cL_corner 343 = .ok (.invokevirtual 11, 3) := by decide +kernel
theorem dL_corner_346 : decode cL_corner 346 = .ok (.iconst 1, 1) := by decide +kernel
theorem dL_corner_347 : decode cL_corner 347 = .ok (.if_icmp .ne 407, 3) := by decide +kernel
theorem dL_corner_350 : decode cL_corner 350 = .ok (.aload_n 0, 1) := by decide +kernel
theorem dL_corner_351 : decode cL_corner 351 = .ok (.iconst 2, 1) := by decide +kernel
theorem dL_corner_352 : decode cL_corner 352 = .ok (.invokevirtual 11, 3) := by decide +kernel
theorem dL_corner_355 : decode cL_corner 355 = .ok (.bipush 25, 2) := by decide +kernel
theorem dL_corner_357 : decode cL_corner 357 = .ok (.if_icmp .ne 397, 3) := by decide +kernel
theorem dL_corner_360 : decode cL_corner 360 = .ok (.aload_n 0, 1) := by decide +kernel
theorem dL_corner_361 : decode cL_corner 361 = .ok (.iconst 3, 1) := by decide +kernel
theorem dL_corner_362 : decode cL_corner 362 = .ok (.iconst 3, 1) := by decide +kernel
theorem dL_corner_363 : decode cL_corner 363 = .ok (.invokevirtual 17, 3) := by decide +kernel
theorem dL_corner_366 : decode cL_corner 366 = .ok (.iconst 2, 1) := by decide +kernel
theorem dL_corner_367 : decode cL_corner 367 = .ok (.if_icmp .ne 387, 3) := by decide +kernel
theorem dL_corner_370 : decode cL_corner 370 = .ok (.aload_n 0, 1) := by decide +kernel
theorem dL_corner_371 : decode cL_corner 371 = .ok (.iconst 2, 1) := by decide +kernel
theorem dL_corner_372 : decode cL_corner 372 = .ok (.iconst 3, 1) := by decide +kernel
theorem dL_corner_373 : decode cL_corner 373 = .ok (.invokevirtual 17, 3) := by decide +kernel
theorem dL_corner_376 : decode cL_corner 376 = .ok (.iconst 3, 1) := by decide +kernel
theorem dL_corner_377 : decode cL_corner 377 = .ok (.if_icmp .ne 377, 3) := by decide +kernel
theorem dL_corner_380 : decode cL_corner 380 = .ok (.aload_n 0, 1) := by decide +kernel
theorem dL_corner_381 : decode cL_corner 381 = .ok (.iconst 0, 1) := by decide +kernel
theorem dL_corner_382 : decode cL_corner 382 = .ok (.iconst 2, 1) := by decide +kernel
theorem dL_corner_383 : decode cL_corner 383 = .ok (.invokevirtual 17, 3) := by decide +kernel
theorem dL_corner_386 : decode cL_corner 386 = .ok (.sipush 4096, 3) := by decide +kernel
theorem dL_corner_389 : decode cL_corner 389 = .ok (.if_icmp .ne 365, 3) := by decide +kernel
theorem dL_corner_392 : decode cL_corner 392 = .ok (.aload_n 0, 1) := by decide +kernel
theorem dL_corner_393 : decode cL_corner 393 = .ok (.iconst 1, 1) := by decide +kernel
theorem dL_corner_394 : decode cL_corner 394 = .ok (.iconst 2, 1) := by decide +kernel
theorem dL_corner_395 : decode cL_corner 395 = .ok (.invokevirtual 17, 3) := by decide +kernel
theorem dL_corner_398 : decode cL_corner 398 = .ok (.sipush 4097, 3) := by decide +kernel
theorem dL_corner_401 : decode cL_corner 401 = .ok (.if_icmp .ne 353, 3) := by decide +kernel
theorem dL_corner_404 : decode cL_corner 404 = .ok (.aload_n 0, 1) := by decide +kernel
theorem dL_corner_405 : decode cL_corner 405 = .ok (.iconst 3, 1) := by decide +kernel
theorem dL_corner_406 : decode cL_corner 406 = .ok (.iconst 2, 1) := by decide +kernel
theorem dL_corner_407 : decode cL_corner 407 = .ok (.invokevirtual 17, 3) := by decide +kernel
theorem dL_corner_410 : decode cL_corner 410 = .ok (.sipush 4098, 3) := by decide +kernel
theorem dL_corner_413 : decode cL_corner 413 = .ok (.if_icmp .ne 341, 3) := by decide +kernel
theorem dL_corner_416 : decode cL_corner 416 = .ok (.aload_n 0, 1) := by decide +kernel
theorem dL_corner_417 : decode cL_corner 417 = .ok (.iconst 0, 1) := by decide +kernel
theorem dL_corner_418 : decode cL_corner 418 = .ok (.iconst 1, 1) := by decide +kernel
theorem dL_corner_419 : decode cL_corner 419 = .ok (.invokevirtual 29, 3) := by decide +kernel
theorem dL_corner_422 : decode cL_corner 422 = .ok (.bipush (-5), 2) := by decide +kernel
theorem dL_corner_424 : decode cL_corner 424 = .ok (.if_icmp .ne 330, 3) := by decide +kernel
theorem dL_corner_427 : decode cL_corner 427 = .ok (.aload_n 0, 1) := by decide +kernel
theorem dL_corner_428 : decode cL_corner 428 = .ok (.iconst 0, 1) := by decide +kernel
theorem dL_corner_429 : decode cL_corner 429 = .ok (.iconst 0, 1) := by decide +kernel
theorem dL_corner_430 : decode cL_corner 430 = .ok (.iconst 0, 1) := by decide +kernel
theorem dL_corner_431 : decode cL_corner 431 = .ok (.invokevirtual 66, 3) := by decide +kernel
theorem dL_corner_434 : decode cL_corner 434 = .ok (.bipush (-5), 2) := by decide +kernel
theorem dL_corner_436 : decode cL_corner 436 = .ok (.if_icmp .ne 318, 3) := by decide +kernel
theorem dL_corner_439 : decode cL_corner 439 = .ok (.aload_n 0, 1) := by decide +kernel
theorem dL_corner_440 : decode cL_corner 440 = .ok (.iconst 0, 1) := by decide +kernel
theorem dL_corner_441 : decode cL_corner 441 = .ok (.iconst 0, 1) := by decide +kernel
theorem dL_corner_442 : decode cL_corner 442 = .ok (.iconst 2, 1) := by decide +kernel
theorem dL_corner_443 : decode cL_corner 443 = .ok (.invokevirtual 66, 3) := by decide +kernel
theorem dL_corner_446 : decode cL_corner 446 = .ok (.bipush (-2), 2) := by decide +kernel
theorem dL_corner_448 : decode cL_corner 448 = .ok (.if_icmp .ne 306, 3) := by decide +kernel
theorem dL_corner_451 : decode cL_corner 451 = .ok (.aload_n 0, 1) := by decide +kernel
theorem dL_corner_452 : decode cL_corner 452 = .ok (.iconst 1, 1) := by decide +kernel
theorem dL_corner_453 : decode cL_corner 453 = .ok (.iconst 1, 1) := by decide +kernel
theorem dL_corner_454 : decode cL_corner 454 = .ok (.iconst 0, 1) := by decide +kernel
theorem dL_corner_455 : decode cL_corner 455 = .ok (.invokevirtual 66, 3) := by decide +kernel
theorem dL_corner_458 : decode cL_corner 458 = .ok (.bipush 19, 2) := by decide +kernel
theorem dL_corner_460 : decode cL_corner 460 = .ok (.if_icmp .ne 294, 3) := by decide +kernel
theorem dL_corner_463 : decode cL_corner 463 = .ok (.aload_n 0, 1) := by decide +kernel
theorem dL_corner_464 : decode cL_corner 464 = .ok (.iconst 1, 1) := by decide +kernel
theorem dL_corner_465 : decode cL_corner 465 = .ok (.iconst 1, 1) := by decide +kernel
theorem dL_corner_466 : decode cL_corner 466 = .ok (.iconst 1, 1) := by decide +kernel
theorem dL_corner_467 : decode cL_corner 467 = .ok (.invokevirtual 66, 3) := by decide +kernel
theorem dL_corner_470 : decode cL_corner 470 = .ok (.bipush 6, 2) := by decide +kernel
theorem dL_corner_472 : decode cL_corner 472 = .ok (.if_icmp .ne 282, 3) := by decide +kernel
theorem dL_corner_475 : decode cL_corner 475 = .ok (.aload_n 0, 1) := by decide +kernel
theorem dL_corner_476 : decode cL_corner 476 = .ok (.bipush 40, 2) := by decide +kernel
theorem dL_corner_478 : decode cL_corner 478 = .ok (.bipush 9, 2) := by decide +kernel
theorem dL_corner_480 : decode cL_corner 480 = .ok (.iconst 1, 1) := by decide +kernel
theorem dL_corner_481 : decode cL_corner 481 = .ok (.invokevirtual 66, 3) := by decide +kernel
theorem dL_corner_484 : decode cL_corner 484 = .ok (.iconst 1, 1) := by decide +kernel
theorem dL_corner_485 : decode cL_corner 485 = .ok (.if_icmp .ne 269, 3) := by decide +kernel
theorem dL_corner_488 : decode cL_corner 488 = .ok (.aload_n 0, 1) := by decide +kernel
theorem dL_corner_489 : decode cL_corner 489 = .ok (.iconst 4, 1) := by decide +kernel
theorem dL_corner_490 : decode cL_corner 490 = .ok (.invokevirtual 69, 3) := by decide +kernel
theorem dL_corner_493 : decode cL_corner 493 = .ok (.iconst 3, 1) := by decide +kernel
theorem dL_corner_494 : decode cL_corner 494 = .ok (.if_icmp .ne 260, 3) := by decide +kernel
theorem dL_corner_497 : decode cL_corner 497 = .ok (.aload_n 0, 1) := by decide +kernel
theorem dL_corner_498 : decode cL_corner 498 = .ok (.iconst 1, 1) := by decide +kernel
theorem dL_corner_499 : decode cL_corner 499 = .ok (.invokevirtual 69, 3) := by decide +kernel
theorem dL_corner_502 : decode cL_corner 502 = .ok (.iconst 4, 1) := by decide +kernel
theorem dL_corner_503 : decode cL_corner 503 = .ok (.if_icmp .ne 251, 3) := by decide +kernel
theorem dL_corner_506 : decode cL_corner 506 = .ok (.aload_n 0, 1) := by decide +kernel
theorem dL_corner_507 : decode cL_corner 507 = .ok (.bipush 18, 2) := by decide +kernel
theorem dL_corner_509 : decode cL_corner 509 = .ok (.invokevirtual 69, 3) := by decide +kernel
theorem dL_corner_512 : decode cL_corner 512 = .ok (.iconst 3, 1) := by decide +kernel
theorem dL_corner_513 : decode cL_corner 513 = .ok (.if_icmp .ne 241, 3) := by decide +kernel
theorem dL_corner_516 : decode cL_corner 516 = .ok (.aload_n 0, 1) := by decide +kernel
theorem dL_corner_517 : decode cL_corner 517 = .ok (.bipush 19, 2) := by decide +kernel
theorem dL_corner_519 : decode cL_corner 519 = .ok (.invokevirtual 69, 3) := by decide +kernel
theorem dL_corner_522 : decode cL_corner 522 = .ok (.iconst 1, 1) := by decide +kernel
theorem dL_corner_523 : decode cL_corner 523 = .ok (.if_icmp .ne 231, 3) := by decide +kernel
theorem dL_corner_526 : decode cL_corner 526 = .ok (.aload_n 0, 1) := by decide +kernel
theorem dL_corner_527 : decode cL_corner 527 = .ok (.sipush 4096, 3) := by decide +kernel
theorem dL_corner_530 : decode cL_corner 530 = .ok (.invokevirtual 69, 3) := by decide +kernel
theorem dL_corner_533 : decode cL_corner 533 = .ok (.iconst 1, 1) := by decide +kernel
theorem dL_corner_534 : decode cL_corner 534 = .ok (.if_icmp .ne 220, 3) := by decide +kernel
theorem dL_corner_537 : decode cL_corner 537 = .ok (.aload_n 0, 1) := by decide +kernel
theorem dL_corner_538 : decode cL_corner 538 = .ok (.iconst 0, 1) := by decide +kernel
theorem dL_corner_539 : decode cL_corner 539 = .ok (.iconst 0, 1) := by decide +kernel
theorem dL_corner_540 : decode cL_corner 540 = .ok (.iconst 1, 1) := by decide +kernel
theorem dL_corner_541 : decode cL_corner 541 = .ok (.iconst 1, 1) := by decide +kernel
theorem dL_corner_542 : decode cL_corner 542 = .ok (.iconst 0, 1) := by decide +kernel
theorem dL_corner_543 : decode cL_corner 543 = .ok (.invokevirtual 59, 3) := by decide +kernel
theorem dL_corner_546 : decode cL_corner 546 = .ok (.iconst 3, 1) := by decide +kernel
theorem dL_corner_547 : decode cL_corner 547 = .ok (.if_icmp .ne 207, 3) := by decide +kernel
theorem dL_corner_550 : decode cL_corner 550 = .ok (.aload_n 0, 1) := by decide +kernel
theorem dL_corner_551 : decode cL_corner 551 = .ok (.iconst 0, 1) := by decide +kernel
theorem dL_corner_552 : decode cL_corner 552 = .ok (.iconst 0, 1) := by decide +kernel
theorem dL_corner_553 : decode cL_corner 553 = .ok (.iconst 1, 1) := by decide +kernel
theorem dL_corner_554 : decode cL_corner 554 = .ok (.iconst 1, 1) := by decide +kernel
theorem dL_corner_555 : decode cL_corner 555 = .ok (.iconst 1, 1) := by decide +kernel
theorem dL_corner_556 : decode cL_corner 556 = .ok (.invokevirtual 59, 3) := by decide +kernel
theorem dL_corner_559 : decode cL_corner 559 = .ok (.iconst 4, 1) := by decide +kernel
theorem dL_corner_560 : decode cL_corner 560 = .ok (.if_icmp .ne 194, 3) := by decide +kernel
theorem dL_corner_563 : decode cL_corner 563 = .ok (.aload_n 0, 1) := by decide +kernel
theorem dL_corner_564 : decode cL_corner 564 = .ok (.iconst 0, 1) := by decide +kernel
theorem dL_corner_565 : decode cL_corner 565 = .ok (.iconst 0, 1) := by decide +kernel
theorem dL_corner_566 : decode cL_corner 566 = .ok (.iconst 1, 1) := by decide +kernel
theorem dL_corner_567 : decode cL_corner 567 = .ok (.iconst 1, 1) := by decide +kernel
theorem dL_corner_568 : decode cL_corner 568 = .ok (.iconst 2, 1) := by decide +kernel
theorem dL_corner_569 : decode cL_corner 569 = .ok (.invokevirtual 59, 3) := by decide +kernel
theorem dL_corner_572 : decode cL_corner 572 = .ok (.bipush 10, 2) := by decide +kernel
theorem dL_corner_574 : decode cL_corner 574 = .ok (.if_icmp .ne 180, 3) := by decide +kernel
theorem dL_corner_577 : decode cL_corner 577 = .ok (.aload_n 0, 1) := by decide +kernel
theorem dL_corner_578 : decode cL_corner 578 = .ok (.iconst 0, 1) := by decide +kernel
theorem dL_corner_579 : decode cL_corner 579 = .ok (.iconst 0, 1) := by decide +kernel
theorem dL_corner_580 : decode cL_corner 580 = .ok (.iconst 1, 1) := by decide +kernel
theorem dL_corner_581 : decode cL_corner 581 = .ok (.iconst 1, 1) := by decide +kernel
theorem dL_corner_582 : decode cL_corner 582 = .ok (.iconst 3, 1) := by decide +kernel
theorem dL_corner_583 : decode cL_corner 583 = .ok (.invokevirtual 59, 3) := by decide +kernel
theorem dL_corner_586 : decode cL_corner 586 = .ok (.sipush 1024, 3) := by decide +kernel
theorem dL_corner_589 : decode cL_corner 589 = .ok (.if_icmp .ne 165, 3) := by decide +kernel
theorem dL_corner_592 : decode cL_corner 592 = .ok (.aload_n 0, 1) := by decide +kernel
theorem dL_corner_593 : decode cL_corner 593 = .ok (.iconst 0, 1) := by decide +kernel
theorem dL_corner_594 : decode cL_corner 594 = .ok (.iconst 0, 1) := by decide +kernel
theorem dL_corner_595 : decode cL_corner 595 = .ok (.bipush 63, 2) := by decide +kernel
theorem dL_corner_597 : decode cL_corner 597 = .ok (.bipush 63, 2) := by decide +kernel
theorem dL_corner_599 : decode cL_corner 599 = .ok (.iconst 3, 1) := by decide +kernel
theorem dL_corner_600 : decode cL_corner 600 = .ok (.invokevirtual 59, 3) := by decide +kernel
theorem dL_corner_603 : decode cL_corner 603 = .ok (.iconst 1, 1) := by decide +kernel
theorem dL_corner_604 : decode cL_corner 604 = .ok (.if_icmp .ne 150, 3) := by decide +kernel
theorem dL_corner_607 : decode cL_corner 607 = .ok (.aload_n 0, 1) := by decide +kernel
theorem dL_corner_608 : decode cL_corner 608 = .ok (.iconst 0, 1) := by decide +kernel
theorem dL_corner_609 : decode cL_corner 609 = .ok (.iconst 0, 1) := by decide +kernel
theorem dL_corner_610 : decode cL_corner 610 = .ok (.bipush 63, 2) := by decide +kernel
theorem dL_corner_612 : decode cL_corner 612 = .ok (.bipush 63, 2) := by decide +kernel
theorem dL_corner_614 : decode cL_corner 614 = .ok (.iconst 2, 1) := by decide +kernel
theorem dL_corner_615 : decode cL_corner 615 = .ok (.invokevirtual 59, 3) := by decide +kernel
theorem dL_corner_618 : decode cL_corner 618 = .ok (.bipush 25, 2) := by decide +kernel
theorem dL_corner_620 : decode cL_corner 620 = .ok (.if_icmp .ne 134, 3) := by decide +kernel
theorem dL_corner_623 : decode cL_corner 623 = .ok (.aload_n 0, 1) := by decide +kernel
theorem dL_corner_624 : decode cL_corner 624 = .ok (.iconst 1, 1) := by decide +kernel
theorem dL_corner_625 : decode cL_corner 625 = .ok (.iconst 1, 1) := by decide +kernel
theorem dL_corner_626 : decode cL_corner 626 = .ok (.iconst 2, 1) := by decide +kernel
theorem dL_corner_627 : decode cL_corner 627 = .ok (.iconst 2, 1) := by decide +kernel
theorem dL_corner_628 : decode cL_corner 628 = .ok (.iconst 3, 1) := by decide +kernel
theorem dL_corner_629 : decode cL_corner 629 = .ok (.invokevirtual 59, 3) := by decide +kernel
theorem dL_corner_632 : decode cL_corner 632 = .ok (.sipush 256, 3) := by decide +kernel
theorem dL_corner_635 : decode cL_corner 635 = .ok (.if_icmp .ne 119, 3) := by decide +kernel
theorem dL_corner_638 : decode cL_corner 638 = .ok (.aload_n 0, 1) := by decide +kernel
theorem dL_corner_639 : decode cL_corner 639 = .ok (.iconst 5, 1) := by decide +kernel
theorem dL_corner_640 : decode cL_corner 640 = .ok (.iconst 5, 1) := by decide +kernel
theorem dL_corner_641 : decode cL_corner 641 = .ok (.iconst 5, 1) := by decide +kernel
theorem dL_corner_642 : decode cL_corner 642 = .ok (.iconst 5, 1) := by decide +kernel
theorem dL_corner_643 : decode cL_corner 643 = .ok (.iconst 1, 1) := by decide +kernel
theorem dL_corner_644 : decode cL_corner 644 = .ok (.invokevirtual 59, 3) := by decide +kernel
theorem dL_corner_647 : decode cL_corner 647 = .ok (.iconst 1, 1) := by decide +kernel
theorem dL_corner_648 : decode cL_corner 648 = .ok (.if_icmp .ne 106, 3) := by decide +kernel
theorem dL_corner_651 : decode cL_corner 651 = .ok (.aload_n 0, 1) := by decide +kernel
theorem dL_corner_652 : decode cL_corner 652 = .ok (.bipush 63, 2) := by decide +kernel
theorem dL_corner_654 : decode cL_corner 654 = .ok (.iconst 0, 1) := by decide +kernel
theorem dL_corner_655 : decode cL_corner 655 = .ok (.iconst 0, 1) := by decide +kernel
theorem dL_corner_656 : decode cL_corner 656 = .ok (.invokevirtual 63, 3) := by decide +kernel
theorem dL_corner_659 : decode cL_corner 659 = .ok (.iconst 1, 1) := by decide +kernel
theorem dL_corner_660 : decode cL_corner 660 = .ok (.if_icmp .ne 94, 3) := by decide +kernel
theorem dL_corner_663 : decode cL_corner 663 = .ok (.aload_n 0, 1) := by decide +kernel
theorem dL_corner_664 : decode cL_corner 664 = .ok (.bipush 63, 2) := by decide +kernel
theorem dL_corner_666 : decode cL_corner 666 = .ok (.iconst 0, 1) := by decide +kernel
theorem dL_corner_667 : decode cL_corner 667 = .ok (.iconst 1, 1) := by decide +kernel
theorem dL_corner_668 : decode cL_corner 668 = .ok (.invokevirtual 63, 3) := by decide +kernel
theorem dL_corner_671 : decode cL_corner 671 = .ok (.sipush 3844, 3) := by decide +kernel
theorem dL_corner_674 : decode cL_corner 674 = .ok (.if_icmp .ne 80, 3) := by decide +kernel
theorem dL_corner_677 : decode cL_corner 677 = .ok (.aload_n 0, 1) := by decide +kernel
theorem dL_corner_678 : decode cL_corner 678 = .ok (.iconst 4, 1) := by decide +kernel
theorem dL_corner_679 : decode cL_corner 679 = .ok (.iconst 0, 1) := by decide +kernel
theorem dL_corner_680 : decode cL_corner 680 = .ok (.iconst 0, 1) := by decide +kernel
theorem dL_corner_681 : decode cL_corner 681 = .ok (.invokevirtual 53, 3) := by decide +kernel
theorem dL_corner_684 : decode cL_corner 684 = .ok (.iconst 5, 1) := by decide +kernel
theorem dL_corner_685 : decode cL_corner 685 = .ok (.if_icmp .ne 69, 3) := by decide +kernel
theorem dL_corner_688 : decode cL_corner 688 = .ok (.aload_n 0, 1) := by decide +kernel
theorem dL_corner_689 : decode cL_corner 689 = .ok (.iconst 4, 1) := by decide +kernel
theorem dL_corner_690 : decode cL_corner 690 = .ok (.iconst 2, 1) := by decide +kernel
theorem dL_corner_691 : decode cL_corner 691 = .ok (.iconst 1, 1) := by decide +kernel
theorem dL_corner_692 : decode cL_corner 692 = .ok (.invokevirtual 53, 3) := by decide +kernel
theorem dL_corner_695 : decode cL_corner 695 = .ok (.bipush 6, 2) := by decide +kernel
theorem dL_corner_697 : decode cL_corner 697 = .ok (.if_icmp .ne 57, 3) := by decide +kernel
theorem dL_corner_700 : decode cL_corner 700 = .ok (.aload_n 0, 1) := by decide +kernel
theorem dL_corner_701 : decode cL_corner 701 = .ok (.iconst 4, 1) := by decide +kernel
theorem dL_corner_702 : decode cL_corner 702 = .ok (.iconst 1, 1) := by decide +kernel
theorem dL_corner_703 : decode cL_corner 703 = .ok (.iconst 0, 1) := by decide +kernel
theorem dL_corner_704 : decode cL_corner 704 = .ok (.invokevirtual 53, 3) := by decide +kernel
theorem dL_corner_707 : decode cL_corner 707 = .ok (.bipush 7, 2) := by decide +kernel
theorem dL_corner_709 : decode cL_corner 709 = .ok (.if_icmp .ne 45, 3) := by decide +kernel
theorem dL_corner_712 : decode cL_corner 712 = .ok (.aload_n 0, 1) := by decide +kernel
theorem dL_corner_713 : decode cL_corner 713 = .ok (.iconst 4, 1) := by decide +kernel
theorem dL_corner_714 : decode cL_corner 714 = .ok (.iconst 4, 1) := by decide +kernel
theorem dL_corner_715 : decode cL_corner 715 = .ok (.iconst 0, 1) := by decide +kernel
theorem dL_corner_716 : decode cL_corner 716 = .ok (.invokevirtual 53, 3) := by decide +kernel
theorem dL_corner_719 : decode cL_corner 719 = .ok (.bipush (-6), 2) := by decide +kernel
theorem dL_corner_721 : decode cL_corner 721 = .ok (.if_icmp .ne 33, 3) := by decide +kernel
theorem dL_corner_724 : decode cL_corner 724 = .ok (.aload_n 0, 1) := by decide +kernel
theorem dL_corner_725 : decode cL_corner 725 = .ok (.sipush 4096, 3) := by decide +kernel
theorem dL_corner_728 : decode cL_corner 728 = .ok (.iconst 0, 1) := by decide +kernel
theorem dL_corner_729 : decode cL_corner 729 = .ok (.iconst 0, 1) := by decide +kernel
theorem dL_corner_730 : decode cL_corner 730 = .ok (.invokevirtual 53, 3) := by decide +kernel
theorem dL_corner_733 : decode cL_corner 733 = .ok (.sipush 4097, 3) := by decide +kernel
theorem dL_corner_736 : decode cL_corner 736 = .ok (.if_icmp .ne 18, 3) := by decide +kernel
theorem dL_corner_739 : decode cL_corner 739 = .ok (.aload_n 0, 1) := by decide +kernel
theorem dL_corner_740 : decode cL_corner 740 = .ok (.sipush 4097, 3) := by decide +kernel
theorem dL_corner_743 : decode cL_corner 743 = .ok (.iconst 0, 1) := by decide +kernel
theorem dL_corner_744 : decode cL_corner 744 = .ok (.iconst 1, 1) := by decide +kernel
theorem dL_corner_745 : decode cL_corner 745 = .ok (.invokevirtual 53, 3) := by decide +kernel
theorem dL_corner_748 : decode cL_corner 748 = .ok (.sipush 1025, 3) := by decide +kernel
theorem dL_corner_751 : decode cL_corner 751 = .ok (.if_icmp .eq 5, 3) := by decide +kernel
theorem dL_corner_754 : decode cL_corner 754 = .ok (.iconst 0, 1) := by decide +kernel
theorem dL_corner_755 : decode cL_corner 755 = .ok (.ireturn, 1) := by decide +kernel
theorem dL_corner_756 : decode cL_corner 756 = .ok (.aload_n 0, 1) := by decide +kernel
theorem dL_corner_757 : decode cL_corner 757 = .ok (.iconst 1, 1) := by decide +kernel
theorem dL_corner_758 : decode cL_corner 758 = .ok (.iconst 3, 1) := by decide +kernel
theorem dL_corner_759 : decode cL_corner 759 = .ok (.invokevirtual 24, 3) := by decide +kernel
theorem dL_corner_762 : decode cL_corner 762 = .ok (.bipush 6, 2) := by decide +kernel
theorem dL_corner_764 : decode cL_corner 764 = .ok (.if_icmp .ne 255, 3) := by decide +kernel
theorem dL_corner_767 : decode cL_corner 767 = .ok (.aload_n 0, 1) := by decide +kernel
theorem dL_corner_768 : decode cL_corner 768 = .ok (.iconst 1, 1) := by decide +kernel
theorem dL_corner_769 : decode cL_corner 769 = .ok (.invokevirtual 11, 3) := by decide +kernel
theorem dL_corner_772 : decode cL_corner 772 = .ok (.bipush 10, 2) := by decide +kernel
theorem dL_corner_774 : decode cL_corner 774 = .ok (.if_icmp .ne 245, 3) := by decide +kernel
theorem dL_corner_777 : decode cL_corner 777 = .ok (.aload_n 0, 1) := by decide +kernel
theorem dL_corner_778 : decode cL_corner 778 = .ok (.iconst 0, 1) := by decide +kernel
theorem dL_corner_779 : decode cL_corner 779 = .ok (.iconst 2, 1) := by decide +kernel
theorem dL_corner_780 : decode cL_corner 780 = .ok (.invokevirtual 17, 3) := by decide +kernel
theorem dL_corner_783 : decode cL_corner 783 = .ok (.bipush 64, 2) := by decide +kernel
theorem dL_corner_785 : decode cL_corner 785 = .ok (.if_icmp .ne 234, 3) := by decide +kernel
theorem dL_corner_788 : decode cL_corner 788 = .ok (.aload_n 0, 1) := by decide +kernel
theorem dL_corner_789 : decode cL_corner 789 = .ok (.sipush 256, 3) := by decide +kernel
theorem dL_corner_792 : decode cL_corner 792 = .ok (.iconst 5, 1) := by decide +kernel
theorem dL_corner_793 : decode cL_corner 793 = .ok (.invokevirtual 21, 3) := by decide +kernel
theorem dL_corner_796 : decode cL_corner 796 = .ok (.ifCond .ne 223, 3) := by decide +kernel
theorem dL_corner_799 : decode cL_corner 799 = .ok (.aload_n 0, 1) := by decide +kernel
theorem dL_corner_800 : decode cL_corner 800 = .ok (.iconst 0, 1) := by decide +kernel
theorem dL_corner_801 : decode cL_corner 801 = .ok (.bipush 8, 2) := by decide +kernel
theorem dL_corner_803 : decode cL_corner 803 = .ok (.invokevirtual 24, 3) := by decide +kernel
theorem dL_corner_806 : decode cL_corner 806 = .ok (.iconst 2, 1) := by decide +kernel
theorem dL_corner_807 : decode cL_corner 807 = .ok (.if_icmp .ne 212, 3) := by decide +kernel
theorem dL_corner_810 : decode cL_corner 810 = .ok (.aload_n 0, 1) := by decide +kernel
theorem dL_corner_811 : decode cL_corner 811 = .ok (.iconst 1, 1) := by decide +kernel
theorem dL_corner_812 : decode cL_corner 812 = .ok (.invokevirtual 11, 3) := by decide +kernel
theorem dL_corner_815 : decode cL_corner 815 = .ok (.iconst 1, 1) := by decide +kernel
theorem dL_corner_816 : decode cL_corner 816 = .ok (.if_icmp .ne 203, 3) := by decide +kernel
theorem dL_corner_819 : decode cL_corner 819 = .ok (.aload_n 0, 1) := by decide +kernel
theorem dL_corner_820 : decode cL_corner 820 = .ok (.iconst 5, 1) := by decide +kernel
theorem dL_corner_821 : decode cL_corner 821 = .ok (.iconst 1, 1) := by decide +kernel
theorem dL_corner_822 : decode cL_corner 822 = .ok (.invokevirtual 39, 3) := by decide +kernel
theorem dL_corner_825 : decode cL_corner 825 = .ok (.iconst 1, 1) := by decide +kernel
theorem dL_corner_826 : decode cL_corner 826 = .ok (.if_icmp .ne 193, 3) := by decide +kernel
theorem dL_corner_829 : decode cL_corner 829 = .ok (.aload_n 0, 1) := by decide +kernel
theorem dL_corner_830 : decode cL_corner 830 = .ok (.iconst 5, 1) := by decide +kernel
theorem dL_corner_831 : decode cL_corner 831 = .ok (.invokevirtual 11, 3) := by decide +kernel
theorem dL_corner_834 : decode cL_corner 834 = .ok (.iconst 1, 1) := by decide +kernel
theorem dL_corner_835 : decode cL_corner 835 = .ok (.if_icmp .ne 184, 3) := by decide +kernel
theorem dL_corner_838 : decode cL_corner 838 = .ok (.aload_n 0, 1) := by decide +kernel
theorem dL_corner_839 : decode cL_corner 839 = .ok (.iconst 5, 1) := by decide +kernel
theorem dL_corner_840 : decode cL_corner 840 = .ok (.iconst 1, 1) := by decide +kernel
theorem dL_corner_841 : decode cL_corner 841 = .ok (.invokevirtual 39, 3) := by decide +kernel
theorem dL_corner_844 : decode cL_corner 844 = .ok (.bipush (-5), 2) := by decide +kernel
theorem dL_corner_846 : decode cL_corner 846 = .ok (.if_icmp .ne 173, 3) := by decide +kernel
theorem dL_corner_849 : decode cL_corner 849 = .ok (.aload_n 0, 1) := by decide +kernel
theorem dL_corner_850 : decode cL_corner 850 = .ok (.iconst 0, 1) := by decide +kernel
theorem dL_corner_851 : decode cL_corner 851 = .ok (.iconst 3, 1) := by decide +kernel
theorem dL_corner_852 : decode cL_corner 852 = .ok (.invokevirtual 24, 3) := by decide +kernel
theorem dL_corner_855 : decode cL_corner 855 = .ok (.bipush 8, 2) := by decide +kernel
theorem dL_corner_857 : decode cL_corner 857 = .ok (.if_icmp .ne 162, 3) := by decide +kernel
theorem dL_corner_860 : decode cL_corner 860 = .ok (.aload_n 0, 1) := by decide +kernel
theorem dL_corner_861 : decode cL_corner 861 = .ok (.iconst 1, 1) := by decide +kernel
theorem dL_corner_862 : decode cL_corner 862 = .ok (.invokevirtual 11, 3) := by decide +kernel
theorem dL_corner_865 : decode cL_corner 865 = .ok (.bipush 7, 2) := by decide +kernel
theorem dL_corner_867 : decode cL_corner 867 = .ok (.if_icmp .ne 152, 3) := by decide +kernel
theorem dL_corner_870 : decode cL_corner 870 = .ok (.aload_n 0, 1) := by decide +kernel
theorem dL_corner_871 : decode cL_corner 871 = .ok (.iconst 5, 1) := by decide +kernel
theorem dL_corner_872 : decode cL_corner 872 = .ok (.iconst 5, 1) := by decide +kernel
theorem dL_corner_873 : decode cL_corner 873 = .ok (.invokevirtual 21, 3) := by decide +kernel
theorem dL_corner_876 : decode cL_corner 876 = .ok (.iconst 2, 1) := by decide +kernel
theorem dL_corner_877 : decode cL_corner 877 = .ok (.if_icmp .ne 142, 3) := by decide +kernel
theorem dL_corner_880 : decode cL_corner 880 = .ok (.aload_n 0, 1) := by decide +kernel
theorem dL_corner_881 : decode cL_corner 881 = .ok (.iconst 5, 1) := by decide +kernel
theorem dL_corner_882 : decode cL_corner 882 = .ok (.bipush 6, 2) := by decide +kernel
theorem dL_corner_884 : decode cL_corner 884 = .ok (.invokevirtual 21, 3) := by decide +kernel
theorem dL_corner_887 : decode cL_corner 887 = .ok (.iconst 1, 1) := by decide +kernel
theorem dL_corner_888 : decode cL_corner 888 = .ok (.if_icmp .ne 131, 3) := by decide +kernel
theorem dL_corner_891 : decode cL_corner 891 = .ok (.aload_n 0, 1) := by decide +kernel
theorem dL_corner_892 : decode cL_corner 892 = .ok (.iconst 5, 1) := by decide +kernel
theorem dL_corner_893 : decode cL_corner 893 = .ok (.bipush 7, 2) := by decide +kernel
theorem dL_corner_895 : decode cL_corner 895 = .ok (.invokevirtual 21, 3) := by decide +kernel
theorem dL_corner_898 : decode cL_corner 898 = .ok (.iconst 4, 1) := by decide +kernel
theorem dL_corner_899 : decode cL_corner 899 = .ok (.if_icmp .ne 120, 3) := by decide +kernel
theorem dL_corner_902 : decode cL_corner 902 = .ok (.aload_n 0, 1) := by decide +kernel
theorem dL_corner_903 : decode cL_corner 903 = .ok (.bipush 20, 2) := by decide +kernel
theorem dL_corner_905 : decode cL_corner 905 = .ok (.iconst 5, 1) := by decide +kernel
theorem dL_corner_906 : decode cL_corner 906 = .ok (.invokevirtual 21, 3) := by decide +kernel
theorem dL_corner_909 : decode cL_corner 909 = .ok (.iconst 1, 1) := by decide +kernel
theorem dL_corner_910 : decode cL_corner 910 = .ok (.if_icmp .ne 109, 3) := by decide +kernel
theorem dL_corner_913 : decode cL_corner 913 = .ok (.aload_n 0, 1) := by decide +kernel
theorem dL_corner_914 : decode cL_corner 914 = .ok (.bipush 20, 2) := by decide +kernel
theorem dL_corner_916 : decode cL_corner 916 = .ok (.invokevirtual 56, 3) := by decide +kernel
theorem dL_corner_919 : decode cL_corner 919 = .ok (.iconst 3, 1) := by decide +kernel
theorem dL_corner_920 : decode cL_corner 920 = .ok (.if_icmp .ne 99, 3) := by decide +kernel
theorem dL_corner_923 : decode cL_corner 923 = .ok (.aload_n 0, 1) := by decide +kernel
theorem dL_corner_924 : decode cL_corner 924 = .ok (.iconst 4, 1) := by decide +kernel
theorem dL_corner_925 : decode cL_corner 925 = .ok (.invokevirtual 56, 3) := by decide +kernel
theorem dL_corner_928 : decode cL_corner 928 = .ok (.iconst 3, 1) := by decide +kernel
theorem dL_corner_929 : decode cL_corner 929 = .ok (.if_icmp .ne 90, 3) := by decide +kernel
theorem dL_corner_932 : decode cL_corner 932 = .ok (.aload_n 0, 1) := by decide +kernel
theorem dL_corner_933 : decode cL_corner 933 = .ok (.iconst 5, 1) := by decide +kernel
theorem dL_corner_934 : decode cL_corner 934 = .ok (.iconst 0, 1) := by decide +kernel
theorem dL_corner_935 : decode cL_corner 935 = .ok (.invokevirtual 39, 3) := by decide +kernel
theorem dL_corner_938 : decode cL_corner 938 = .ok (.iconst 4, 1) := by decide +kernel
theorem dL_corner_939 : decode cL_corner 939 = .ok (.if_icmp .ne 80, 3) := by decide +kernel
theorem dL_corner_942 : decode cL_corner 942 = .ok (.aload_n 0, 1) := by decide +kernel
theorem dL_corner_943 : decode cL_corner 943 = .ok (.iconst 5, 1) := by decide +kernel
theorem dL_corner_944 : decode cL_corner 944 = .ok (.iconst 0, 1) := by decide +kernel
theorem dL_corner_945 : decode cL_corner 945 = .ok (.invokevirtual 39, 3) := by decide +kernel
theorem dL_corner_948 : decode cL_corner 948 = .ok (.bipush (-5), 2) := by decide +kernel
theorem dL_corner_950 : decode cL_corner 950 = .ok (.if_icmp .ne 69, 3) := by decide +kernel
theorem dL_corner_953 : decode cL_corner 953 = .ok (.aload_n 0, 1) := by decide +kernel
theorem dL_corner_954 : decode cL_corner 954 = .ok (.iconst 3, 1) := by decide +kernel
theorem dL_corner_955 : decode cL_corner 955 = .ok (.invokevirtual 32, 3) := by decide +kernel
theorem dL_corner_958 : decode cL_corner 958 = .ok (.iconst 1, 1) := by decide +kernel
theorem dL_corner_959 : decode cL_corner 959 = .ok (.if_icmp .ne 60, 3) := by decide +kernel
theorem dL_corner_962 : decode cL_corner 962 = .ok (.aload_n 0, 1) := by decide +kernel
theorem dL_corner_963 : decode cL_corner 963 = .ok (.iconst 2, 1) := by decide +kernel
theorem dL_corner_964 : decode cL_corner 964 = .ok (.iconst 0, 1) := by decide +kernel
theorem dL_corner_965 : decode cL_corner 965 = .ok (.iconst 0, 1) := by decide +kernel
theorem dL_corner_966 : decode cL_corner 966 = .ok (.invokevirtual 35, 3) := by decide +kernel
theorem dL_corner_969 : decode cL_corner 969 = .ok (.bipush (-5), 2) := by decide +kernel
