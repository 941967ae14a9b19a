theorem zd_La_law_250 : decode zc_La_law 250 = .ok (.iaload, 1) := by decide +kernel
theorem zd_La_law_251 : decode zc_La_law 251 = .ok (.aload_n 0, 1) := by decide +kernel
theorem zd_La_law_252 : decode zc_La_law 252 = .ok (.iload 4, 2) := by decide +kernel
theorem zd_La_law_254 : decode zc_La_law 254 = .ok (.iconst 2, 1) := by decide +kernel
theorem zd_La_law_255 : decode zc_La_law 255 = .ok (.iadd, 1) := by decide +kernel
theorem zd_La_law_256 : decode zc_La_law 256 = .ok (.iaload, 1) := by decide +kernel
theorem zd_La_law_257 : decode zc_La_law 257 = .ok (.aload_n 0, 1) := by decide +kernel
theorem zd_La_law_258 : decode zc_La_law 258 = .ok (.iload 4, 2) := by decide +kernel
theorem zd_La_law_260 : decode zc_La_law 260 = .ok (.iconst 3, 1) := by decide +kernel
theorem zd_La_law_261 : decode zc_La_law 261 = .ok (.iadd, 1) := by decide +kernel
theorem zd_La_law_262 : decode zc_La_law 262 = .ok (.iaload, 1) := by decide +kernel
theorem zd_La_law_263 : decode zc_La_law 263 = .ok (.aload_n 0, 1) := by decide +kernel
theorem zd_La_law_264 : decode zc_La_law 264 = .ok (.iload 4, 2) := by decide +kernel
theorem zd_La_law_266 : decode zc_La_law 266 = .ok (.iconst 4, 1) := by decide +kernel
theorem zd_La_law_267 : decode zc_La_law 267 = .ok (.iadd, 1) := by decide +kernel
theorem zd_La_law_268 : decode zc_La_law 268 = .ok (.iaload, 1) := by decide +kernel
theorem zd_La_law_269 : decode zc_La_law 269 = .ok (.aload_n 0, 1) := by decide +kernel
theorem zd_La_law_270 : decode zc_La_law 270 = .ok (.iload 4, 2) := by decide +kernel
theorem zd_La_law_272 : decode zc_La_law 272 = .ok (.iconst 5, 1) := by decide +kernel
theorem zd_La_law_273 : decode zc_La_law 273 = .ok (.iadd, 1) := by decide +kernel
theorem zd_La_law_274 : decode zc_La_law 274 = .ok (.iaload, 1) := by decide +kernel
theorem zd_La_law_275 : decode zc_La_law 275 = .ok (.aload_n 0, 1) := by decide +kernel
theorem zd_La_law_276 : decode zc_La_law 276 = .ok (.iload 4, 2) := by decide +kernel
theorem zd_La_law_278 : decode zc_La_law 278 = .ok (.bipush 6, 2) := by decide +kernel
theorem zd_La_law_280 : decode zc_La_law 280 = .ok (.iadd, 1) := by decide +kernel
theorem zd_La_law_281 : decode zc_La_law 281 = .ok (.iaload, 1) := by decide +kernel
theorem zd_La_law_282 : decode zc_La_law 282 = .ok (.invokevirtual 77, 3) := by decide +kernel
theorem zd_La_law_285 : decode zc_La_law 285 = .ok (.istore 6, 2) := by decide +kernel
theorem zd_La_law_287 : decode zc_La_law 287 = .ok (.goto 442, 3) := by decide +kernel
theorem zd_La_law_290 : decode zc_La_law 290 = .ok (.aload_n 1, 1) := by decide +kernel
theorem zd_La_law_291 : decode zc_La_law 291 = .ok (.aload_n 0, 1) := by decide +kernel
theorem zd_La_law_292 : decode zc_La_law 292 = .ok (.iload 4, 2) := by decide +kernel
theorem zd_La_law_294 : decode zc_La_law 294 = .ok (.iconst 1, 1) := by decide +kernel
theorem zd_La_law_295 : decode zc_La_law 295 = .ok (.iadd, 1) := by decide +kernel
theorem zd_La_law_296 : decode zc_La_law 296 = .ok (.iaload, 1) := by decide +kernel
theorem zd_La_law_297 : decode zc_La_law 297 = .ok (.aload_n 3, 1) := by decide +kernel
theorem zd_La_law_298 : decode zc_La_law 298 = .ok (.invokestatic 78, 3) := by decide +kernel
theorem zd_La_law_301 : decode zc_La_law 301 = .ok (.istore 5, 2) := by decide +kernel
theorem zd_La_law_303 : decode zc_La_law 303 = .ok (.aload_n 2, 1) := by decide +kernel
theorem zd_La_law_304 : decode zc_La_law 304 = .ok (.aload_n 0, 1) := by decide +kernel
theorem zd_La_law_305 : decode zc_La_law 305 = .ok (.iload 4, 2) := by decide +kernel
theorem zd_La_law_307 : decode zc_La_law 307 = .ok (.iconst 1, 1) := by decide +kernel
theorem zd_La_law_308 : decode zc_La_law 308 = .ok (.iadd, 1) := by decide +kernel
theorem zd_La_law_309 : decode zc_La_law 309 = .ok (.iaload, 1) := by decide +kernel
theorem zd_La_law_310 : decode zc_La_law 310 = .ok (.invokevirtual 81, 3) := by decide +kernel
theorem zd_La_law_313 : decode zc_La_law 313 = .ok (.istore 6, 2) := by decide +kernel
theorem zd_La_law_315 : decode zc_La_law 315 = .ok (.aload_n 2, 1) := by decide +kernel
theorem zd_La_law_316 : decode zc_La_law 316 = .ok (.invokevirtual 82, 3) := by decide +kernel
theorem zd_La_law_319 : decode zc_La_law 319 = .ok (.iload 5, 2) := by decide +kernel
theorem zd_La_law_321 : decode zc_La_law 321 = .ok (.if_icmp .eq 5, 3) := by decide +kernel
theorem zd_La_law_326 : decode zc_La_law 326 = .ok (.iload 5, 2) := by decide +kernel
theorem zd_La_law_328 : decode zc_La_law 328 = .ok (.ifCond .ne 15, 3) := by decide +kernel
theorem zd_La_law_331 : decode zc_La_law 331 = .ok (.aload_n 3, 1) := by decide +kernel
theorem zd_La_law_332 : decode zc_La_law 332 = .ok (.iconst 0, 1) := by decide +kernel
theorem zd_La_law_333 : decode zc_La_law 333 = .ok (.laload, 1) := by decide +kernel
theorem zd_La_law_334 : decode zc_La_law 334 = .ok (.iload 6, 2) := by decide +kernel
theorem zd_La_law_336 : decode zc_La_law 336 = .ok (.i2l, 1) := by decide +kernel
theorem zd_La_law_337 : decode zc_La_law 337 = .ok (.lcmp, 1) := by decide +kernel
theorem zd_La_law_338 : decode zc_La_law 338 = .ok (.ifCond .eq 5, 3) := by decide +kernel
theorem zd_La_law_341 : decode zc_La_law 341 = .ok (.iconst 0, 1) := by decide +kernel
theorem zd_La_law_324 : decode zc_La_law 324 = .ok (.iconst 0, 1) := by decide +kernel
theorem zd_La_law_346 : decode zc_La_law 346 = .ok (.aload_n 1, 1) := by decide +kernel
theorem zd_La_law_347 : decode zc_La_law 347 = .ok (.aload_n 0, 1) := by decide +kernel
theorem zd_La_law_348 : decode zc_La_law 348 = .ok (.iload 4, 2) := by decide +kernel
theorem zd_La_law_350 : decode zc_La_law 350 = .ok (.iconst 1, 1) := by decide +kernel
theorem zd_La_law_351 : decode zc_La_law 351 = .ok (.iadd, 1) := by decide +kernel
theorem zd_La_law_352 : decode zc_La_law 352 = .ok (.iaload, 1) := by decide +kernel
theorem zd_La_law_353 : decode zc_La_law 353 = .ok (.aload_n 3, 1) := by decide +kernel
theorem zd_La_law_354 : decode zc_La_law 354 = .ok (.invokestatic 86, 3) := by decide +kernel
theorem zd_La_law_357 : decode zc_La_law 357 = .ok (.istore 5, 2) := by decide +kernel
theorem zd_La_law_359 : decode zc_La_law 359 = .ok (.aload_n 2, 1) := by decide +kernel
theorem zd_La_law_360 : decode zc_La_law 360 = .ok (.aload_n 0, 1) := by decide +kernel
theorem zd_La_law_361 : decode zc_La_law 361 = .ok (.iload 4, 2) := by decide +kernel
theorem zd_La_law_363 : decode zc_La_law 363 = .ok (.iconst 1, 1) := by decide +kernel
theorem zd_La_law_364 : decode zc_La_law 364 = .ok (.iadd, 1) := by decide +kernel
theorem zd_La_law_365 : decode zc_La_law 365 = .ok (.iaload, 1) := by decide +kernel
theorem zd_La_law_366 : decode zc_La_law 366 = .ok (.invokevirtual 88, 3) := by decide +kernel
theorem zd_La_law_369 : decode zc_La_law 369 = .ok (.istore 6, 2) := by decide +kernel
theorem zd_La_law_371 : decode zc_La_law 371 = .ok (.goto 358, 3) := by decide +kernel
theorem zd_La_law_374 : decode zc_La_law 374 = .ok (.aload_n 1, 1) := by decide +kernel
theorem zd_La_law_375 : decode zc_La_law 375 = .ok (.aload_n 0, 1) := by decide +kernel
theorem zd_La_law_376 : decode zc_La_law 376 = .ok (.iload 4, 2) := by decide +kernel
theorem zd_La_law_378 : decode zc_La_law 378 = .ok (.iconst 1, 1) := by decide +kernel
theorem zd_La_law_379 : decode zc_La_law 379 = .ok (.iadd, 1) := by decide +kernel
theorem zd_La_law_380 : decode zc_La_law 380 = .ok (.iaload, 1) := by decide +kernel
theorem zd_La_law_381 : decode zc_La_law 381 = .ok (.ifCond .eq 7, 3) := by decide +kernel
theorem zd_La_law_388 : decode zc_La_law 388 = .ok (.iconst 0, 1) := by decide +kernel
theorem zd_La_law_384 : decode zc_La_law 384 = .ok (.iconst 1, 1) := by decide +kernel
theorem zd_La_law_385 : decode zc_La_law 385 = .ok (.goto 4, 3) := by decide +kernel
theorem zd_La_law_430 : decode zc_La_law 430 = .ok (.aload_n 1, 1) := by decide +kernel
theorem zd_La_law_431 : decode zc_La_law 431 = .ok (.aload_n 0, 1) := by decide +kernel
theorem zd_La_law_432 : decode zc_La_law 432 = .ok (.iload 4, 2) := by decide +kernel
theorem zd_La_law_434 : decode zc_La_law 434 = .ok (.iconst 1, 1) := by decide +kernel
theorem zd_La_law_435 : decode zc_La_law 435 = .ok (.iadd, 1) := by decide +kernel
theorem zd_La_law_436 : decode zc_La_law 436 = .ok (.iaload, 1) := by decide +kernel
theorem zd_La_law_437 : decode zc_La_law 437 = .ok (.invokestatic 93, 3) := by decide +kernel
theorem zd_La_law_440 : decode zc_La_law 440 = .ok (.istore 5, 2) := by decide +kernel
theorem zd_La_law_442 : decode zc_La_law 442 = .ok (.aload_n 2, 1) := by decide +kernel
theorem zd_La_law_443 : decode zc_La_law 443 = .ok (.aload_n 0, 1) := by decide +kernel
theorem zd_La_law_444 : decode zc_La_law 444 = .ok (.iload 4, 2) := by decide +kernel
theorem zd_La_law_446 : decode zc_La_law 446 = .ok (.iconst 1, 1) := by decide +kernel
theorem zd_La_law_447 : decode zc_La_law 447 = .ok (.iadd, 1) := by decide +kernel
theorem zd_La_law_448 : decode zc_La_law 448 = .ok (.iaload, 1) := by decide +kernel
theorem zd_La_law_449 : decode zc_La_law 449 = .ok (.invokevirtual 96, 3) := by decide +kernel
theorem zd_La_law_452 : decode zc_La_law 452 = .ok (.goto 277, 3) := by decide +kernel
theorem zd_La_law_455 : decode zc_La_law 455 = .ok (.aload_n 1, 1) := by decide +kernel
theorem zd_La_law_456 : decode zc_La_law 456 = .ok (.aload_n 0, 1) := by decide +kernel
theorem zd_La_law_457 : decode zc_La_law 457 = .ok (.iload 4, 2) := by decide +kernel
theorem zd_La_law_459 : decode zc_La_law 459 = .ok (.iconst 1, 1) := by decide +kernel
theorem zd_La_law_460 : decode zc_La_law 460 = .ok (.iadd, 1) := by decide +kernel
theorem zd_La_law_461 : decode zc_La_law 461 = .ok (.iaload, 1) := by decide +kernel
theorem zd_La_law_462 : decode zc_La_law 462 = .ok (.aload_n 0, 1) := by decide +kernel
theorem zd_La_law_463 : decode zc_La_law 463 = .ok (.iload 4, 2) := by decide +kernel
theorem zd_La_law_465 : decode zc_La_law 465 = .ok (.iconst 2, 1) := by decide +kernel
theorem zd_La_law_466 : decode zc_La_law 466 = .ok (.iadd, 1) := by decide +kernel
theorem zd_La_law_467 : decode zc_La_law 467 = .ok (.iaload, 1) := by decide +kernel
theorem zd_La_law_468 : decode zc_La_law 468 = .ok (.aload_n 0, 1) := by decide +kernel
theorem zd_La_law_469 : decode zc_La_law 469 = .ok (.iload 4, 2) := by decide +kernel
theorem zd_La_law_471 : decode zc_La_law 471 = .ok (.iconst 3, 1) := by decide +kernel
theorem zd_La_law_472 : decode zc_La_law 472 = .ok (.iadd, 1) := by decide +kernel
theorem zd_La_law_473 : decode zc_La_law 473 = .ok (.iaload, 1) := by decide +kernel
theorem zd_La_law_474 : decode zc_La_law 474 = .ok (.aload_n 0, 1) := by decide +kernel
theorem zd_La_law_475 : decode zc_La_law 475 = .ok (.iload 4, 2) := by decide +kernel
theorem zd_La_law_477 : decode zc_La_law 477 = .ok (.iconst 4, 1) := by decide +kernel
theorem zd_La_law_478 : decode zc_La_law 478 = .ok (.iadd, 1) := by decide +kernel
theorem zd_La_law_479 : decode zc_La_law 479 = .ok (.iaload, 1) := by decide +kernel
theorem zd_La_law_480 : decode zc_La_law 480 = .ok (.invokestatic 97, 3) := by decide +kernel
theorem zd_La_law_483 : decode zc_La_law 483 = .ok (.istore 5, 2) := by decide +kernel
theorem zd_La_law_485 : decode zc_La_law 485 = .ok (.aload_n 2, 1) := by decide +kernel
theorem zd_La_law_486 : decode zc_La_law 486 = .ok (.aload_n 0, 1) := by decide +kernel
theorem zd_La_law_487 : decode zc_La_law 487 = .ok (.iload 4, 2) := by decide +kernel
theorem zd_La_law_489 : decode zc_La_law 489 = .ok (.iconst 1, 1) := by decide +kernel
theorem zd_La_law_490 : decode zc_La_law 490 = .ok (.iadd, 1) := by decide +kernel
theorem zd_La_law_491 : decode zc_La_law 491 = .ok (.iaload, 1) := by decide +kernel
theorem zd_La_law_492 : decode zc_La_law 492 = .ok (.aload_n 0, 1) := by decide +kernel
theorem zd_La_law_493 : decode zc_La_law 493 = .ok (.iload 4, 2) := by decide +kernel
theorem zd_La_law_495 : decode zc_La_law 495 = .ok (.iconst 2, 1) := by decide +kernel
theorem zd_La_law_496 : decode zc_La_law 496 = .ok (.iadd, 1) := by decide +kernel
theorem zd_La_law_497 : decode zc_La_law 497 = .ok (.iaload, 1) := by decide +kernel
theorem zd_La_law_498 : decode zc_La_law 498 = .ok (.aload_n 0, 1) := by decide +kernel
theorem zd_La_law_499 : decode zc_La_law 499 = .ok (.iload 4, 2) := by decide +kernel
theorem zd_La_law_501 : decode zc_La_law 501 = .ok (.iconst 3, 1) := by decide +kernel
theorem zd_La_law_502 : decode zc_La_law 502 = .ok (.iadd, 1) := by decide +kernel
theorem zd_La_law_503 : decode zc_La_law 503 = .ok (.iaload, 1) := by decide +kernel
theorem zd_La_law_504 : decode zc_La_law 504 = .ok (.aload_n 0, 1) := by decide +kernel
theorem zd_La_law_505 : decode zc_La_law 505 = .ok (.iload 4, 2) := by decide +kernel
theorem zd_La_law_507 : decode zc_La_law 507 = .ok (.iconst 4, 1) := by decide +kernel
theorem zd_La_law_508 : decode zc_La_law 508 = .ok (.iadd, 1) := by decide +kernel
theorem zd_La_law_509 : decode zc_La_law 509 = .ok (.iaload, 1) := by decide +kernel
theorem zd_La_law_510 : decode zc_La_law 510 = .ok (.invokevirtual 100, 3) := by decide +kernel
theorem zd_La_law_513 : decode zc_La_law 513 = .ok (.goto 216, 3) := by decide +kernel
theorem zd_La_law_516 : decode zc_La_law 516 = .ok (.aload_n 1, 1) := by decide +kernel
theorem zd_La_law_517 : decode zc_La_law 517 = .ok (.aload_n 0, 1) := by decide +kernel
theorem zd_La_law_518 : decode zc_La_law 518 = .ok (.iload 4, 2) := by decide +kernel
theorem zd_La_law_520 : decode zc_La_law 520 = .ok (.iconst 1, 1) := by decide +kernel
theorem zd_La_law_521 : decode zc_La_law 521 = .ok (.iadd, 1) := by decide +kernel
theorem zd_La_law_522 : decode zc_La_law 522 = .ok (.iaload, 1) := by decide +kernel
theorem zd_La_law_523 : decode zc_La_law 523 = .ok (.aload_n 0, 1) := by decide +kernel
theorem zd_La_law_524 : decode zc_La_law 524 = .ok (.iload 4, 2) := by decide +kernel
theorem zd_La_law_526 : decode zc_La_law 526 = .ok (.iconst 2, 1) := by decide +kernel
theorem zd_La_law_527 : decode zc_La_law 527 = .ok (.iadd, 1) := by decide +kernel
theorem zd_La_law_528 : decode zc_La_law 528 = .ok (.iaload, 1) := by decide +kernel
theorem zd_La_law_529 : decode zc_La_law 529 = .ok (.aload_n 3, 1) := by decide +kernel
theorem zd_La_law_530 : decode zc_La_law 530 = .ok (.invokestatic 101, 3) := by decide +kernel
theorem zd_La_law_533 : decode zc_La_law 533 = .ok (.istore 5, 2) := by decide +kernel
theorem zd_La_law_535 : decode zc_La_law 535 = .ok (.aload_n 2, 1) := by decide +kernel
theorem zd_La_law_536 : decode zc_La_law 536 = .ok (.aload_n 0, 1) := by decide +kernel
theorem zd_La_law_537 : decode zc_La_law 537 = .ok (.iload 4, 2) := by decide +kernel
theorem zd_La_law_539 : decode zc_La_law 539 = .ok (.iconst 1, 1) := by decide +kernel
theorem zd_La_law_540 : decode zc_La_law 540 = .ok (.iadd, 1) := by decide +kernel
theorem zd_La_law_541 : decode zc_La_law 541 = .ok (.iaload, 1) := by decide +kernel
theorem zd_La_law_542 : decode zc_La_law 542 = .ok (.aload_n 0, 1) := by decide +kernel
theorem zd_La_law_543 : decode zc_La_law 543 = .ok (.iload 4, 2) := by decide +kernel
theorem zd_La_law_545 : decode zc_La_law 545 = .ok (.iconst 2, 1) := by decide +kernel
theorem zd_La_law_546 : decode zc_La_law 546 = .ok (.iadd, 1) := by decide +kernel
theorem zd_La_law_547 : decode zc_La_law 547 = .ok (.iaload, 1) := by decide +kernel
theorem zd_La_law_548 : decode zc_La_law 548 = .ok (.invokevirtual 104, 3) := by decide +kernel
theorem zd_La_law_551 : decode zc_La_law 551 = .ok (.istore 6, 2) := by decide +kernel
theorem zd_La_law_553 : decode zc_La_law 553 = .ok (.goto 176, 3) := by decide +kernel
theorem zd_La_law_556 : decode zc_La_law 556 = .ok (.aload_n 1, 1) := by decide +kernel
theorem zd_La_law_557 : decode zc_La_law 557 = .ok (.aload_n 0, 1) := by decide +kernel
theorem zd_La_law_558 : decode zc_La_law 558 = .ok (.iload 4, 2) := by decide +kernel
theorem zd_La_law_560 : decode zc_La_law 560 = .ok (.iconst 1, 1) := by decide +kernel
theorem zd_La_law_561 : decode zc_La_law 561 = .ok (.iadd, 1) := by decide +kernel
theorem zd_La_law_562 : decode zc_La_law 562 = .ok (.iaload, 1) := by decide +kernel
theorem zd_La_law_563 : decode zc_La_law 563 = .ok (.aload_n 0, 1) := by decide +kernel
theorem zd_La_law_564 : decode zc_La_law 564 = .ok (.iload 4, 2) := by decide +kernel
theorem zd_La_law_566 : decode zc_La_law 566 = .ok (.iconst 2, 1) := by decide +kernel
theorem zd_La_law_567 : decode zc_La_law 567 = .ok (.iadd, 1) := by decide +kernel
theorem zd_La_law_568 : decode zc_La_law 568 = .ok (.iaload, 1) := by decide +kernel
theorem zd_La_law_569 : decode zc_La_law 569 = .ok (.aload_n 0, 1) := by decide +kernel
theorem zd_La_law_570 : decode zc_La_law 570 = .ok (.iload 4, 2) := by decide +kernel
theorem zd_La_law_572 : decode zc_La_law 572 = .ok (.iconst 3, 1) := by decide +kernel
theorem zd_La_law_573 : decode zc_La_law 573 = .ok (.iadd, 1) := by decide +kernel
theorem zd_La_law_574 : decode zc_La_law 574 = .ok (.iaload, 1) := by decide +kernel
theorem zd_La_law_575 : decode zc_La_law 575 = .ok (.aload_n 3, 1) := by decide +kernel
theorem zd_La_law_576 : decode zc_La_law 576 = .ok (.invokestatic 105, 3) := by decide +kernel
theorem zd_La_law_579 : decode zc_La_law 579 = .ok (.istore 5, 2) := by decide +kernel
theorem zd_La_law_581 : decode zc_La_law 581 = .ok (.aload_n 2, 1) := by decide +kernel
theorem zd_La_law_582 : decode zc_La_law 582 = .ok (.aload_n 0, 1) := by decide +kernel
theorem zd_La_law_583 : decode zc_La_law 583 = .ok (.iload 4, 2) := by decide +kernel
theorem zd_La_law_585 : decode zc_La_law 585 = .ok (.iconst 1, 1) := by decide +kernel
theorem zd_La_law_586 : decode zc_La_law 586 = .ok (.iadd, 1) := by decide +kernel
theorem zd_La_law_587 : decode zc_La_law 587 = .ok (.iaload, 1) := by decide +kernel
theorem zd_La_law_588 : decode zc_La_law 588 = .ok (.aload_n 0, 1) := by decide +kernel
theorem zd_La_law_589 : decode zc_La_law 589 = .ok (.iload 4, 2) := by decide +kernel
theorem zd_La_law_591 : decode zc_La_law 591 = .ok (.iconst 2, 1) := by decide +kernel
theorem zd_La_law_592 : decode zc_La_law 592 = .ok (.iadd, 1) := by decide +kernel
theorem zd_La_law_593 : decode zc_La_law 593 = .ok (.iaload, 1) := by decide +kernel
theorem zd_La_law_594 : decode zc_La_law 594 = .ok (.aload_n 0, 1) := by decide +kernel
theorem zd_La_law_595 : decode zc_La_law 595 = .ok (.iload 4, 2) := by decide +kernel
theorem zd_La_law_597 : decode zc_La_law 597 = .ok (.iconst 3, 1) := by decide +kernel
theorem zd_La_law_598 : decode zc_La_law 598 = .ok (.iadd, 1) := by decide +kernel
theorem zd_La_law_599 : decode zc_La_law 599 = .ok (.iaload, 1) := by decide +kernel
theorem zd_La_law_600 : decode zc_La_law 600 = .ok (.invokevirtual 107, 3) := by decide +kernel
theorem zd_La_law_603 : decode zc_La_law 603 = .ok (.istore 6, 2) := by decide +kernel
theorem zd_La_law_605 : decode zc_La_law 605 = .ok (.goto 124, 3) := by decide +kernel
theorem zd_La_law_608 : decode zc_La_law 608 = .ok (.aload_n 1, 1) := by decide +kernel
theorem zd_La_law_609 : decode zc_La_law 609 = .ok (.aload_n 0, 1) := by decide +kernel
theorem zd_La_law_610 : decode zc_La_law 610 = .ok (.iload 4, 2) := by decide +kernel
theorem zd_La_law_612 : decode zc_La_law 612 = .ok (.iconst 1, 1) := by decide +kernel
theorem zd_La_law_613 : decode zc_La_law 613 = .ok (.iadd, 1) := by decide +kernel
theorem zd_La_law_614 : decode zc_La_law 614 = .ok (.iaload, 1) := by decide +kernel
theorem zd_La_law_615 : decode zc_La_law 615 = .ok (.aload_n 0, 1) := by decide +kernel
theorem zd_La_law_616 : decode zc_La_law 616 = .ok (.iload 4, 2) := by decide +kernel
theorem zd_La_law_618 : decode zc_La_law 618 = .ok (.iconst 2, 1) := by decide +kernel
theorem zd_La_law_619 : decode zc_La_law 619 = .ok (.iadd, 1) := by decide +kernel
theorem zd_La_law_620 : decode zc_La_law 620 = .ok (.iaload, 1) := by decide +kernel
theorem zd_La_law_621 : decode zc_La_law 621 = .ok (.aload_n 3, 1) := by decide +kernel
theorem zd_La_law_622 : decode zc_La_law 622 = .ok (.invokestatic 108, 3) := by decide +kernel
theorem zd_La_law_625 : decode zc_La_law 625 = .ok (.istore 5, 2) := by decide +kernel
theorem zd_La_law_627 : decode zc_La_law 627 = .ok (.aload_n 2, 1) := by decide +kernel
theorem zd_La_law_628 : decode zc_La_law 628 = .ok (.aload_n 0, 1) := by decide +kernel
theorem zd_La_law_629 : decode zc_La_law 629 = .ok (.iload 4, 2) := by decide +kernel
theorem zd_La_law_631 : decode zc_La_law 631 = .ok (.iconst 1, 1) := by decide +kernel
theorem zd_La_law_632 : decode zc_La_law 632 = .ok (.iadd, 1) := by decide +kernel
theorem zd_La_law_633 : decode zc_La_law 633 = .ok (.iaload, 1) := by decide +kernel
theorem zd_La_law_634 : decode zc_La_law 634 = .ok (.aload_n 0, 1) := by decide +kernel
theorem zd_La_law_635 : decode zc_La_law 635 = .ok (.iload 4, 2) := by decide +kernel
theorem zd_La_law_637 : decode zc_La_law 637 = .ok (.iconst 2, 1) := by decide +kernel
theorem zd_La_law_638 : decode zc_La_law 638 = .ok (.iadd, 1) := by decide +kernel
theorem zd_La_law_639 : decode zc_La_law 639 = .ok (.iaload, 1) := by decide +kernel
theorem zd_La_law_640 : decode zc_La_law 640 = .ok (.invokevirtual 110, 3) := by decide +kernel
theorem zd_La_law_643 : decode zc_La_law 643 = .ok (.istore 6, 2) := by decide +kernel
theorem zd_La_law_645 : decode zc_La_law 645 = .ok (.goto 84, 3) := by decide +kernel
theorem zd_La_law_648 : decode zc_La_law 648 = .ok (.aload_n 1, 1) := by decide +kernel
theorem zd_La_law_649 : decode zc_La_law 649 = .ok (.aload_n 0, 1) := by decide +kernel
theorem zd_La_law_650 : decode zc_La_law 650 = .ok (.iload 4, 2) := by decide +kernel
theorem zd_La_law_652 : decode zc_La_law 652 = .ok (.iconst 1, 1) := by decide +kernel
theorem zd_La_law_653 : decode zc_La_law 653 = .ok (.iadd, 1) := by decide +kernel
theorem zd_La_law_654 : decode zc_La_law 654 = .ok (.iaload, 1) := by decide +kernel
theorem zd_La_law_655 : decode zc_La_law 655 = .ok (.aload_n 3, 1) := by decide +kernel
theorem zd_La_law_656 : decode zc_La_law 656 = .ok (.invokestatic 111, 3) := by decide +kernel
theorem zd_La_law_659 : decode zc_La_law 659 = .ok (.istore 5, 2) := by decide +kernel
theorem zd_La_law_661 : decode zc_La_law 661 = .ok (.aload_n 2, 1) := by decide +kernel
theorem zd_La_law_662 : decode zc_La_law 662 = .ok (.aload_n 0, 1) := by decide +kernel
theorem zd_La_law_663 : decode zc_La_law 663 = .ok (.iload 4, 2) := by decide +kernel
theorem zd_La_law_665 : decode zc_La_law 665 = .ok (.iconst 1, 1) := by decide +kernel
theorem zd_La_law_666 : decode zc_La_law 666 = .ok (.iadd, 1) := by decide +kernel
theorem zd_La_law_667 : decode zc_La_law 667 = .ok (.iaload, 1) := by decide +kernel
theorem zd_La_law_668 : decode zc_La_law 668 = .ok (.invokevirtual 113, 3) := by decide +kernel
theorem zd_La_law_671 : decode zc_La_law 671 = .ok (.istore 6, 2) := by decide +kernel
theorem zd_La_law_673 : decode zc_La_law 673 = .ok (.goto 56, 3) := by decide +kernel
theorem zd_La_law_676 : decode zc_La_law 676 = .ok (.aload_n 1, 1) := by decide +kernel
theorem zd_La_law_677 : decode zc_La_law 677 = .ok (.invokevirtual 114, 3) := by decide +kernel
theorem zd_La_law_680 : decode zc_La_law 680 = .ok (.pop, 1) := by decide +kernel
theorem zd_La_law_681 : decode zc_La_law 681 = .ok (.aload_n 2, 1) := by decide +kernel
theorem zd_La_law_682 : decode zc_La_law 682 = .ok (.invokevirtual 117, 3) := by decide +kernel
theorem zd_La_law_685 : decode zc_La_law 685 = .ok (.pop, 1) := by decide +kernel
theorem zd_La_law_686 : decode zc_La_law 686 = .ok (.goto 43, 3) := by decide +kernel
theorem zd_La_law_689 : decode zc_La_law 689 = .ok (.aload_n 1, 1) := by decide +kernel
theorem zd_La_law_690 : decode zc_La_law 690 = .ok (.aload_n 0, 1) := by decide +kernel
theorem zd_La_law_691 : decode zc_La_law 691 = .ok (.iload 4, 2) := by decide +kernel
theorem zd_La_law_693 : decode zc_La_law 693 = .ok (.iconst 1, 1) := by decide +kernel
theorem zd_La_law_694 : decode zc_La_law 694 = .ok (.iadd, 1) := by decide +kernel
theorem zd_La_law_695 : decode zc_La_law 695 = .ok (.iaload, 1) := by decide +kernel
theorem zd_La_law_696 : decode zc_La_law 696 = .ok (.aload_n 0, 1) := by decide +kernel
theorem zd_La_law_697 : decode zc_La_law 697 = .ok (.iload 4, 2) := by decide +kernel
theorem zd_La_law_699 : decode zc_La_law 699 = .ok (.iconst 2, 1) := by decide +kernel
theorem zd_La_law_700 : decode zc_La_law 700 = .ok (.iadd, 1) := by decide +kernel
theorem zd_La_law_701 : decode zc_La_law 701 = .ok (.iaload, 1) := by decide +kernel
theorem zd_La_law_702 : decode zc_La_law 702 = .ok (.aload_n 3, 1) := by decide +kernel
theorem zd_La_law_703 : decode zc_La_law 703 = .ok (.invokestatic 118, 3) := by decide +kernel
theorem zd_La_law_706 : decode zc_La_law 706 = .ok (.istore 5, 2) := by decide +kernel
theorem zd_La_law_708 : decode zc_La_law 708 = .ok (.aload_n 2, 1) := by decide +kernel
theorem zd_La_law_709 : decode zc_La_law 709 = .ok (.aload_n 0, 1) := by decide +kernel
theorem zd_La_law_710 : decode zc_La_law 710 = .ok (.iload 4, 2) := by decide +kernel
theorem zd_La_law_712 : decode zc_La_law 712 = .ok (.iconst 1, 1) := by decide +kernel
theorem zd_La_law_713 : decode zc_La_law 713 = .ok (.iadd, 1) := by decide +kernel
theorem zd_La_law_714 : decode zc_La_law 714 = .ok (.iaload, 1) := by decide +kernel
theorem zd_La_law_715 : decode zc_La_law 715 = .ok (.aload_n 0, 1) := by decide +kernel
theorem zd_La_law_716 : decode zc_La_law 716 = .ok (.iload 4, 2) := by decide +kernel
theorem zd_La_law_718 : decode zc_La_law 718 = .ok (.iconst 2, 1) := by decide +kernel
theorem zd_La_law_719 : decode zc_La_law 719 = .ok (.iadd, 1) := by decide +kernel
theorem zd_La_law_720 : decode zc_La_law 720 = .ok (.iaload, 1) := by decide +kernel
theorem zd_La_law_721 : decode zc_La_law 721 = .ok (.invokevirtual 120, 3) := by decide +kernel
theorem zd_La_law_724 : decode zc_La_law 724 = .ok (.istore 6, 2) := by decide +kernel
theorem zd_La_law_726 : decode zc_La_law 726 = .ok (.goto 3, 3) := by decide +kernel
theorem zd_La_law_343 : decode zc_La_law 343 = .ok (.goto 386, 3) := by decide +kernel
theorem zd_La_law_389 : decode zc_La_law 389 = .ok (.aload_n 0, 1) := by decide +kernel
theorem zd_La_law_390 : decode zc_La_law 390 = .ok (.iload 4, 2) := by decide +kernel
theorem zd_La_law_392 : decode zc_La_law 392 = .ok (.iconst 2, 1) := by decide +kernel
theorem zd_La_law_393 : decode zc_La_law 393 = .ok (.iadd, 1) := by decide +kernel
theorem zd_La_law_394 : decode zc_La_law 394 = .ok (.iaload, 1) := by decide +kernel
theorem zd_La_law_395 : decode zc_La_law 395 = .ok (.aload_n 3, 1) := by decide +kernel
theorem zd_La_law_396 : decode zc_La_law 396 = .ok (.invokestatic 89, 3) := by decide +kernel
theorem zd_La_law_399 : decode zc_La_law 399 = .ok (.istore 5, 2) := by decide +kernel
theorem zd_La_law_401 : decode zc_La_law 401 = .ok (.aload_n 2, 1) := by decide +kernel
theorem zd_La_law_402 : decode zc_La_law 402 = .ok (.aload_n 0, 1) := by decide +kernel
theorem zd_La_law_403 : decode zc_La_law 403 = .ok (.iload 4, 2) := by decide +kernel
theorem zd_La_law_405 : decode zc_La_law 405 = .ok (.iconst 1, 1) := by decide +kernel
theorem zd_La_law_406 : decode zc_La_law 406 = .ok (.iadd, 1) := by decide +kernel
theorem zd_La_law_407 : decode zc_La_law 407 = .ok (.iaload, 1) := by decide +kernel
theorem zd_La_law_408 : decode zc_La_law 408 = .ok (.ifCond .eq 7, 3) := by decide +kernel
theorem zd_La_law_415 : decode zc_La_law 415 = .ok (.iconst 0, 1) := by decide +kernel
theorem zd_La_law_411 : decode zc_La_law 411 = .ok (.iconst 1, 1) := by decide +kernel
theorem zd_La_law_412 : decode zc_La_law 412 = .ok (.goto 4, 3) := by decide +kernel
theorem zd_La_law_416 : decode zc_La_law 416 = .ok (.aload_n 0, 1) := by decide +kernel
theorem zd_La_law_417 : decode zc_La_law 417 = .ok (.iload 4, 2) := by decide +kernel
theorem zd_La_law_419 : decode zc_La_law 419 = .ok (.iconst 2, 1) := by decide +kernel
theorem zd_La_law_420 : decode zc_La_law 420 = .ok (.iadd, 1) := by decide +kernel
theorem zd_La_law_421 : decode zc_La_law 421 = .ok (.iaload, 1) := by decide +kernel
theorem zd_La_law_422 : decode zc_La_law 422 = .ok (.invokevirtual 92, 3) := by decide +kernel
theorem zd_La_law_425 : decode zc_La_law 425 = .ok (.istore 6, 2) := by decide +kernel
theorem zd_La_law_427 : decode zc_La_law 427 = .ok (.goto 302, 3) := by decide +kernel
theorem zd_La_law_729 : decode zc_La_law 729 = .ok (.iinc 4 7, 3) := by decide +kernel
theorem zd_La_law_732 : decode zc_La_law 732 = .ok (.goto (-669), 3) := by decide +kernel
