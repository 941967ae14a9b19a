theorem zd_La_law_265 : decode zc_La_law 265 = .ok (.iaload, 1) := by decide +kernel
theorem zd_La_law_266 : decode zc_La_law 266 = .ok (.aload_n 0, 1) := by decide +kernel
theorem zd_La_law_267 : decode zc_La_law 267 = .ok (.iload 4, 2) := by decide +kernel
theorem zd_La_law_269 : decode zc_La_law 269 = .ok (.bipush 6, 2) := by decide +kernel
theorem zd_La_law_271 : decode zc_La_law 271 = .ok (.iadd, 1) := by decide +kernel
theorem zd_La_law_272 : decode zc_La_law 272 = .ok (.iaload, 1) := by decide +kernel
theorem zd_La_law_273 : decode zc_La_law 273 = .ok (.aload_n 3, 1) := by decide +kernel
theorem zd_La_law_274 : decode zc_La_law 274 = .ok (.invokestatic 78, 3) := by decide +kernel
theorem zd_La_law_277 : decode zc_La_law 277 = .ok (.istore 5, 2) := by decide +kernel
theorem zd_La_law_279 : decode zc_La_law 279 = .ok (.aload_n 2, 1) := by decide +kernel
theorem zd_La_law_280 : decode zc_La_law 280 = .ok (.aload_n 0, 1) := by decide +kernel
theorem zd_La_law_281 : decode zc_La_law 281 = .ok (.iload 4, 2) := by decide +kernel
theorem zd_La_law_283 : decode zc_La_law 283 = .ok (.iconst 1, 1) := by decide +kernel
theorem zd_La_law_284 : decode zc_La_law 284 = .ok (.iadd, 1) := by decide +kernel
theorem zd_La_law_285 : decode zc_La_law 285 = .ok (.iaload, 1) := by decide +kernel
theorem zd_La_law_286 : decode zc_La_law 286 = .ok (.aload_n 0, 1) := by decide +kernel
theorem zd_La_law_287 : decode zc_La_law 287 = .ok (.iload 4, 2) := by decide +kernel
theorem zd_La_law_289 : decode zc_La_law 289 = .ok (.iconst 2, 1) := by decide +kernel
theorem zd_La_law_290 : decode zc_La_law 290 = .ok (.iadd, 1) := by decide +kernel
theorem zd_La_law_291 : decode zc_La_law 291 = .ok (.iaload, 1) := by decide +kernel
theorem zd_La_law_292 : decode zc_La_law 292 = .ok (.aload_n 0, 1) := by decide +kernel
theorem zd_La_law_293 : decode zc_La_law 293 = .ok (.iload 4, 2) := by decide +kernel
theorem zd_La_law_295 : decode zc_La_law 295 = .ok (.iconst 3, 1) := by decide +kernel
theorem zd_La_law_296 : decode zc_La_law 296 = .ok (.iadd, 1) := by decide +kernel
theorem zd_La_law_297 : decode zc_La_law 297 = .ok (.iaload, 1) := by decide +kernel
theorem zd_La_law_298 : decode zc_La_law 298 = .ok (.aload_n 0, 1) := by decide +kernel
theorem zd_La_law_299 : decode zc_La_law 299 = .ok (.iload 4, 2) := by decide +kernel
theorem zd_La_law_301 : decode zc_La_law 301 = .ok (.iconst 4, 1) := by decide +kernel
theorem zd_La_law_302 : decode zc_La_law 302 = .ok (.iadd, 1) := by decide +kernel
theorem zd_La_law_303 : decode zc_La_law 303 = .ok (.iaload, 1) := by decide +kernel
theorem zd_La_law_304 : decode zc_La_law 304 = .ok (.aload_n 0, 1) := by decide +kernel
theorem zd_La_law_305 : decode zc_La_law 305 = .ok (.iload 4, 2) := by decide +kernel
theorem zd_La_law_307 : decode zc_La_law 307 = .ok (.iconst 5, 1) := by decide +kernel
theorem zd_La_law_308 : decode zc_La_law 308 = .ok (.iadd, 1) := by decide +kernel
theorem zd_La_law_309 : decode zc_La_law 309 = .ok (.iaload, 1) := by decide +kernel
theorem zd_La_law_310 : decode zc_La_law 310 = .ok (.aload_n 0, 1) := by decide +kernel
theorem zd_La_law_311 : decode zc_La_law 311 = .ok (.iload 4, 2) := by decide +kernel
theorem zd_La_law_313 : decode zc_La_law 313 = .ok (.bipush 6, 2) := by decide +kernel
theorem zd_La_law_315 : decode zc_La_law 315 = .ok (.iadd, 1) := by decide +kernel
theorem zd_La_law_316 : decode zc_La_law 316 = .ok (.iaload, 1) := by decide +kernel
theorem zd_La_law_317 : decode zc_La_law 317 = .ok (.invokevirtual 81, 3) := by decide +kernel
theorem zd_La_law_320 : decode zc_La_law 320 = .ok (.istore 6, 2) := by decide +kernel
theorem zd_La_law_322 : decode zc_La_law 322 = .ok (.goto 414, 3) := by decide +kernel
theorem zd_La_law_325 : decode zc_La_law 325 = .ok (.aload_n 1, 1) := by decide +kernel
theorem zd_La_law_326 : decode zc_La_law 326 = .ok (.aload_n 0, 1) := by decide +kernel
theorem zd_La_law_327 : decode zc_La_law 327 = .ok (.iload 4, 2) := by decide +kernel
theorem zd_La_law_329 : decode zc_La_law 329 = .ok (.iconst 1, 1) := by decide +kernel
theorem zd_La_law_330 : decode zc_La_law 330 = .ok (.iadd, 1) := by decide +kernel
theorem zd_La_law_331 : decode zc_La_law 331 = .ok (.iaload, 1) := by decide +kernel
theorem zd_La_law_332 : decode zc_La_law 332 = .ok (.aload_n 3, 1) := by decide +kernel
theorem zd_La_law_333 : decode zc_La_law 333 = .ok (.invokestatic 82, 3) := by decide +kernel
theorem zd_La_law_336 : decode zc_La_law 336 = .ok (.istore 5, 2) := by decide +kernel
theorem zd_La_law_338 : decode zc_La_law 338 = .ok (.aload_n 2, 1) := by decide +kernel
theorem zd_La_law_339 : decode zc_La_law 339 = .ok (.aload_n 0, 1) := by decide +kernel
theorem zd_La_law_340 : decode zc_La_law 340 = .ok (.iload 4, 2) := by decide +kernel
theorem zd_La_law_342 : decode zc_La_law 342 = .ok (.iconst 1, 1) := by decide +kernel
theorem zd_La_law_343 : decode zc_La_law 343 = .ok (.iadd, 1) := by decide +kernel
theorem zd_La_law_344 : decode zc_La_law 344 = .ok (.iaload, 1) := by decide +kernel
theorem zd_La_law_345 : decode zc_La_law 345 = .ok (.invokevirtual 85, 3) := by decide +kernel
theorem zd_La_law_348 : decode zc_La_law 348 = .ok (.istore 6, 2) := by decide +kernel
theorem zd_La_law_350 : decode zc_La_law 350 = .ok (.goto 386, 3) := by decide +kernel
theorem zd_La_law_353 : decode zc_La_law 353 = .ok (.aload_n 1, 1) := by decide +kernel
theorem zd_La_law_354 : decode zc_La_law 354 = .ok (.aload_n 0, 1) := by decide +kernel
theorem zd_La_law_355 : decode zc_La_law 355 = .ok (.iload 4, 2) := by decide +kernel
theorem zd_La_law_357 : decode zc_La_law 357 = .ok (.iconst 1, 1) := by decide +kernel
theorem zd_La_law_358 : decode zc_La_law 358 = .ok (.iadd, 1) := by decide +kernel
theorem zd_La_law_359 : decode zc_La_law 359 = .ok (.iaload, 1) := by decide +kernel
theorem zd_La_law_360 : decode zc_La_law 360 = .ok (.aload_n 3, 1) := by decide +kernel
theorem zd_La_law_361 : decode zc_La_law 361 = .ok (.invokestatic 86, 3) := by decide +kernel
theorem zd_La_law_364 : decode zc_La_law 364 = .ok (.istore 5, 2) := by decide +kernel
theorem zd_La_law_366 : decode zc_La_law 366 = .ok (.aload_n 2, 1) := by decide +kernel
theorem zd_La_law_367 : decode zc_La_law 367 = .ok (.aload_n 0, 1) := by decide +kernel
theorem zd_La_law_368 : decode zc_La_law 368 = .ok (.iload 4, 2) := by decide +kernel
theorem zd_La_law_370 : decode zc_La_law 370 = .ok (.iconst 1, 1) := by decide +kernel
theorem zd_La_law_371 : decode zc_La_law 371 = .ok (.iadd, 1) := by decide +kernel
theorem zd_La_law_372 : decode zc_La_law 372 = .ok (.iaload, 1) := by decide +kernel
theorem zd_La_law_373 : decode zc_La_law 373 = .ok (.invokevirtual 88, 3) := by decide +kernel
theorem zd_La_law_376 : decode zc_La_law 376 = .ok (.istore 6, 2) := by decide +kernel
theorem zd_La_law_378 : decode zc_La_law 378 = .ok (.goto 358, 3) := by decide +kernel
theorem zd_La_law_381 : decode zc_La_law 381 = .ok (.aload_n 1, 1) := by decide +kernel
theorem zd_La_law_382 : decode zc_La_law 382 = .ok (.aload_n 0, 1) := by decide +kernel
theorem zd_La_law_383 : decode zc_La_law 383 = .ok (.iload 4, 2) := by decide +kernel
theorem zd_La_law_385 : decode zc_La_law 385 = .ok (.iconst 1, 1) := by decide +kernel
theorem zd_La_law_386 : decode zc_La_law 386 = .ok (.iadd, 1) := by decide +kernel
theorem zd_La_law_387 : decode zc_La_law 387 = .ok (.iaload, 1) := by decide +kernel
theorem zd_La_law_388 : decode zc_La_law 388 = .ok (.ifCond .eq 7, 3) := by decide +kernel
theorem zd_La_law_395 : decode zc_La_law 395 = .ok (.iconst 0, 1) := by decide +kernel
theorem zd_La_law_391 : decode zc_La_law 391 = .ok (.iconst 1, 1) := by decide +kernel
theorem zd_La_law_392 : decode zc_La_law 392 = .ok (.goto 4, 3) := by decide +kernel
theorem zd_La_law_437 : decode zc_La_law 437 = .ok (.aload_n 1, 1) := by decide +kernel
theorem zd_La_law_438 : decode zc_La_law 438 = .ok (.aload_n 0, 1) := by decide +kernel
theorem zd_La_law_439 : decode zc_La_law 439 = .ok (.iload 4, 2) := by decide +kernel
theorem zd_La_law_441 : decode zc_La_law 441 = .ok (.iconst 1, 1) := by decide +kernel
theorem zd_La_law_442 : decode zc_La_law 442 = .ok (.iadd, 1) := by decide +kernel
theorem zd_La_law_443 : decode zc_La_law 443 = .ok (.iaload, 1) := by decide +kernel
theorem zd_La_law_444 : decode zc_La_law 444 = .ok (.invokestatic 93, 3) := by decide +kernel
theorem zd_La_law_447 : decode zc_La_law 447 = .ok (.istore 5, 2) := by decide +kernel
theorem zd_La_law_449 : decode zc_La_law 449 = .ok (.aload_n 2, 1) := by decide +kernel
theorem zd_La_law_450 : decode zc_La_law 450 = .ok (.aload_n 0, 1) := by decide +kernel
theorem zd_La_law_451 : decode zc_La_law 451 = .ok (.iload 4, 2) := by decide +kernel
theorem zd_La_law_453 : decode zc_La_law 453 = .ok (.iconst 1, 1) := by decide +kernel
theorem zd_La_law_454 : decode zc_La_law 454 = .ok (.iadd, 1) := by decide +kernel
theorem zd_La_law_455 : decode zc_La_law 455 = .ok (.iaload, 1) := by decide +kernel
theorem zd_La_law_456 : decode zc_La_law 456 = .ok (.invokevirtual 96, 3) := by decide +kernel
theorem zd_La_law_459 : decode zc_La_law 459 = .ok (.goto 277, 3) := by decide +kernel
theorem zd_La_law_462 : decode zc_La_law 462 = .ok (.aload_n 1, 1) := by decide +kernel
theorem zd_La_law_463 : decode zc_La_law 463 = .ok (.aload_n 0, 1) := by decide +kernel
theorem zd_La_law_464 : decode zc_La_law 464 = .ok (.iload 4, 2) := by decide +kernel
theorem zd_La_law_466 : decode zc_La_law 466 = .ok (.iconst 1, 1) := by decide +kernel
theorem zd_La_law_467 : decode zc_La_law 467 = .ok (.iadd, 1) := by decide +kernel
theorem zd_La_law_468 : decode zc_La_law 468 = .ok (.iaload, 1) := by decide +kernel
theorem zd_La_law_469 : decode zc_La_law 469 = .ok (.aload_n 0, 1) := by decide +kernel
theorem zd_La_law_470 : decode zc_La_law 470 = .ok (.iload 4, 2) := by decide +kernel
theorem zd_La_law_472 : decode zc_La_law 472 = .ok (.iconst 2, 1) := by decide +kernel
theorem zd_La_law_473 : decode zc_La_law 473 = .ok (.iadd, 1) := by decide +kernel
theorem zd_La_law_474 : decode zc_La_law 474 = .ok (.iaload, 1) := by decide +kernel
theorem zd_La_law_475 : decode zc_La_law 475 = .ok (.aload_n 0, 1) := by decide +kernel
theorem zd_La_law_476 : decode zc_La_law 476 = .ok (.iload 4, 2) := by decide +kernel
theorem zd_La_law_478 : decode zc_La_law 478 = .ok (.iconst 3, 1) := by decide +kernel
theorem zd_La_law_479 : decode zc_La_law 479 = .ok (.iadd, 1) := by decide +kernel
theorem zd_La_law_480 : decode zc_La_law 480 = .ok (.iaload, 1) := by decide +kernel
theorem zd_La_law_481 : decode zc_La_law 481 = .ok (.aload_n 0, 1) := by decide +kernel
theorem zd_La_law_482 : decode zc_La_law 482 = .ok (.iload 4, 2) := by decide +kernel
theorem zd_La_law_484 : decode zc_La_law 484 = .ok (.iconst 4, 1) := by decide +kernel
theorem zd_La_law_485 : decode zc_La_law 485 = .ok (.iadd, 1) := by decide +kernel
theorem zd_La_law_486 : decode zc_La_law 486 = .ok (.iaload, 1) := by decide +kernel
theorem zd_La_law_487 : decode zc_La_law 487 = .ok (.invokestatic 97, 3) := by decide +kernel
theorem zd_La_law_490 : decode zc_La_law 490 = .ok (.istore 5, 2) := by decide +kernel
theorem zd_La_law_492 : decode zc_La_law 492 = .ok (.aload_n 2, 1) := by decide +kernel
theorem zd_La_law_493 : decode zc_La_law 493 = .ok (.aload_n 0, 1) := by decide +kernel
theorem zd_La_law_494 : decode zc_La_law 494 = .ok (.iload 4, 2) := by decide +kernel
theorem zd_La_law_496 : decode zc_La_law 496 = .ok (.iconst 1, 1) := by decide +kernel
theorem zd_La_law_497 : decode zc_La_law 497 = .ok (.iadd, 1) := by decide +kernel
theorem zd_La_law_498 : decode zc_La_law 498 = .ok (.iaload, 1) := by decide +kernel
theorem zd_La_law_499 : decode zc_La_law 499 = .ok (.aload_n 0, 1) := by decide +kernel
theorem zd_La_law_500 : decode zc_La_law 500 = .ok (.iload 4, 2) := by decide +kernel
theorem zd_La_law_502 : decode zc_La_law 502 = .ok (.iconst 2, 1) := by decide +kernel
theorem zd_La_law_503 : decode zc_La_law 503 = .ok (.iadd, 1) := by decide +kernel
theorem zd_La_law_504 : decode zc_La_law 504 = .ok (.iaload, 1) := by decide +kernel
theorem zd_La_law_505 : decode zc_La_law 505 = .ok (.aload_n 0, 1) := by decide +kernel
theorem zd_La_law_506 : decode zc_La_law 506 = .ok (.iload 4, 2) := by decide +kernel
theorem zd_La_law_508 : decode zc_La_law 508 = .ok (.iconst 3, 1) := by decide +kernel
theorem zd_La_law_509 : decode zc_La_law 509 = .ok (.iadd, 1) := by decide +kernel
theorem zd_La_law_510 : decode zc_La_law 510 = .ok (.iaload, 1) := by decide +kernel
theorem zd_La_law_511 : decode zc_La_law 511 = .ok (.aload_n 0, 1) := by decide +kernel
theorem zd_La_law_512 : decode zc_La_law 512 = .ok (.iload 4, 2) := by decide +kernel
theorem zd_La_law_514 : decode zc_La_law 514 = .ok (.iconst 4, 1) := by decide +kernel
theorem zd_La_law_515 : decode zc_La_law 515 = .ok (.iadd, 1) := by decide +kernel
theorem zd_La_law_516 : decode zc_La_law 516 = .ok (.iaload, 1) := by decide +kernel
theorem zd_La_law_517 : decode zc_La_law 517 = .ok (.invokevirtual 100, 3) := by decide +kernel
theorem zd_La_law_520 : decode zc_La_law 520 = .ok (.goto 216, 3) := by decide +kernel
theorem zd_La_law_523 : decode zc_La_law 523 = .ok (.aload_n 1, 1) := by decide +kernel
theorem zd_La_law_524 : decode zc_La_law 524 = .ok (.aload_n 0, 1) := by decide +kernel
theorem zd_La_law_525 : decode zc_La_law 525 = .ok (.iload 4, 2) := by decide +kernel
theorem zd_La_law_527 : decode zc_La_law 527 = .ok (.iconst 1, 1) := by decide +kernel
theorem zd_La_law_528 : decode zc_La_law 528 = .ok (.iadd, 1) := by decide +kernel
theorem zd_La_law_529 : decode zc_La_law 529 = .ok (.iaload, 1) := by decide +kernel
theorem zd_La_law_530 : decode zc_La_law 530 = .ok (.aload_n 0, 1) := by decide +kernel
theorem zd_La_law_531 : decode zc_La_law 531 = .ok (.iload 4, 2) := by decide +kernel
theorem zd_La_law_533 : decode zc_La_law 533 = .ok (.iconst 2, 1) := by decide +kernel
theorem zd_La_law_534 : decode zc_La_law 534 = .ok (.iadd, 1) := by decide +kernel
theorem zd_La_law_535 : decode zc_La_law 535 = .ok (.iaload, 1) := by decide +kernel
theorem zd_La_law_536 : decode zc_La_law 536 = .ok (.aload_n 3, 1) := by decide +kernel
theorem zd_La_law_537 : decode zc_La_law 537 = .ok (.invokestatic 101, 3) := by decide +kernel
theorem zd_La_law_540 : decode zc_La_law 540 = .ok (.istore 5, 2) := by decide +kernel
theorem zd_La_law_542 : decode zc_La_law 542 = .ok (.aload_n 2, 1) := by decide +kernel
theorem zd_La_law_543 : decode zc_La_law 543 = .ok (.aload_n 0, 1) := by decide +kernel
theorem zd_La_law_544 : decode zc_La_law 544 = .ok (.iload 4, 2) := by decide +kernel
theorem zd_La_law_546 : decode zc_La_law 546 = .ok (.iconst 1, 1) := by decide +kernel
theorem zd_La_law_547 : decode zc_La_law 547 = .ok (.iadd, 1) := by decide +kernel
theorem zd_La_law_548 : decode zc_La_law 548 = .ok (.iaload, 1) := by decide +kernel
theorem zd_La_law_549 : decode zc_La_law 549 = .ok (.aload_n 0, 1) := by decide +kernel
theorem zd_La_law_550 : decode zc_La_law 550 = .ok (.iload 4, 2) := by decide +kernel
theorem zd_La_law_552 : decode zc_La_law 552 = .ok (.iconst 2, 1) := by decide +kernel
theorem zd_La_law_553 : decode zc_La_law 553 = .ok (.iadd, 1) := by decide +kernel
theorem zd_La_law_554 : decode zc_La_law 554 = .ok (.iaload, 1) := by decide +kernel
theorem zd_La_law_555 : decode zc_La_law 555 = .ok (.invokevirtual 104, 3) := by decide +kernel
theorem zd_La_law_558 : decode zc_La_law 558 = .ok (.istore 6, 2) := by decide +kernel
theorem zd_La_law_560 : decode zc_La_law 560 = .ok (.goto 176, 3) := by decide +kernel
theorem zd_La_law_563 : decode zc_La_law 563 = .ok (.aload_n 1, 1) := by decide +kernel
theorem zd_La_law_564 : decode zc_La_law 564 = .ok (.aload_n 0, 1) := by decide +kernel
theorem zd_La_law_565 : decode zc_La_law 565 = .ok (.iload 4, 2) := by decide +kernel
theorem zd_La_law_567 : decode zc_La_law 567 = .ok (.iconst 1, 1) := by decide +kernel
theorem zd_La_law_568 : decode zc_La_law 568 = .ok (.iadd, 1) := by decide +kernel
theorem zd_La_law_569 : decode zc_La_law 569 = .ok (.iaload, 1) := by decide +kernel
theorem zd_La_law_570 : decode zc_La_law 570 = .ok (.aload_n 0, 1) := by decide +kernel
theorem zd_La_law_571 : decode zc_La_law 571 = .ok (.iload 4, 2) := by decide +kernel
theorem zd_La_law_573 : decode zc_La_law 573 = .ok (.iconst 2, 1) := by decide +kernel
theorem zd_La_law_574 : decode zc_La_law 574 = .ok (.iadd, 1) := by decide +kernel
theorem zd_La_law_575 : decode zc_La_law 575 = .ok (.iaload, 1) := by decide +kernel
theorem zd_La_law_576 : decode zc_La_law 576 = .ok (.aload_n 0, 1) := by decide +kernel
theorem zd_La_law_577 : decode zc_La_law 577 = .ok (.iload 4, 2) := by decide +kernel
theorem zd_La_law_579 : decode zc_La_law 579 = .ok (.iconst 3, 1) := by decide +kernel
theorem zd_La_law_580 : decode zc_La_law 580 = .ok (.iadd, 1) := by decide +kernel
theorem zd_La_law_581 : decode zc_La_law 581 = .ok (.iaload, 1) := by decide +kernel
theorem zd_La_law_582 : decode zc_La_law 582 = .ok (.aload_n 3, 1) := by decide +kernel
theorem zd_La_law_583 : decode zc_La_law 583 = .ok (.invokestatic 105, 3) := by decide +kernel
theorem zd_La_law_586 : decode zc_La_law 586 = .ok (.istore 5, 2) := by decide +kernel
theorem zd_La_law_588 : decode zc_La_law 588 = .ok (.aload_n 2, 1) := by decide +kernel
theorem zd_La_law_589 : decode zc_La_law 589 = .ok (.aload_n 0, 1) := by decide +kernel
theorem zd_La_law_590 : decode zc_La_law 590 = .ok (.iload 4, 2) := by decide +kernel
theorem zd_La_law_592 : decode zc_La_law 592 = .ok (.iconst 1, 1) := by decide +kernel
theorem zd_La_law_593 : decode zc_La_law 593 = .ok (.iadd, 1) := by decide +kernel
theorem zd_La_law_594 : decode zc_La_law 594 = .ok (.iaload, 1) := by decide +kernel
theorem zd_La_law_595 : decode zc_La_law 595 = .ok (.aload_n 0, 1) := by decide +kernel
theorem zd_La_law_596 : decode zc_La_law 596 = .ok (.iload 4, 2) := by decide +kernel
theorem zd_La_law_598 : decode zc_La_law 598 = .ok (.iconst 2, 1) := by decide +kernel
theorem zd_La_law_599 : decode zc_La_law 599 = .ok (.iadd, 1) := by decide +kernel
theorem zd_La_law_600 : decode zc_La_law 600 = .ok (.iaload, 1) := by decide +kernel
theorem zd_La_law_601 : decode zc_La_law 601 = .ok (.aload_n 0, 1) := by decide +kernel
theorem zd_La_law_602 : decode zc_La_law 602 = .ok (.iload 4, 2) := by decide +kernel
theorem zd_La_law_604 : decode zc_La_law 604 = .ok (.iconst 3, 1) := by decide +kernel
theorem zd_La_law_605 : decode zc_La_law 605 = .ok (.iadd, 1) := by decide +kernel
theorem zd_La_law_606 : decode zc_La_law 606 = .ok (.iaload, 1) := by decide +kernel
theorem zd_La_law_607 : decode zc_La_law 607 = .ok (.invokevirtual 107, 3) := by decide +kernel
theorem zd_La_law_610 : decode zc_La_law 610 = .ok (.istore 6, 2) := by decide +kernel
theorem zd_La_law_612 : decode zc_La_law 612 = .ok (.goto 124, 3) := by decide +kernel
theorem zd_La_law_615 : decode zc_La_law 615 = .ok (.aload_n 1, 1) := by decide +kernel
theorem zd_La_law_616 : decode zc_La_law 616 = .ok (.aload_n 0, 1) := by decide +kernel
theorem zd_La_law_617 : decode zc_La_law 617 = .ok (.iload 4, 2) := by decide +kernel
theorem zd_La_law_619 : decode zc_La_law 619 = .ok (.iconst 1, 1) := by decide +kernel
theorem zd_La_law_620 : decode zc_La_law 620 = .ok (.iadd, 1) := by decide +kernel
theorem zd_La_law_621 : decode zc_La_law 621 = .ok (.iaload, 1) := by decide +kernel
theorem zd_La_law_622 : decode zc_La_law 622 = .ok (.aload_n 0, 1) := by decide +kernel
theorem zd_La_law_623 : decode zc_La_law 623 = .ok (.iload 4, 2) := by decide +kernel
theorem zd_La_law_625 : decode zc_La_law 625 = .ok (.iconst 2, 1) := by decide +kernel
theorem zd_La_law_626 : decode zc_La_law 626 = .ok (.iadd, 1) := by decide +kernel
theorem zd_La_law_627 : decode zc_La_law 627 = .ok (.iaload, 1) := by decide +kernel
theorem zd_La_law_628 : decode zc_La_law 628 = .ok (.aload_n 3, 1) := by decide +kernel
theorem zd_La_law_629 : decode zc_La_law 629 = .ok (.invokestatic 108, 3) := by decide +kernel
theorem zd_La_law_632 : decode zc_La_law 632 = .ok (.istore 5, 2) := by decide +kernel
theorem zd_La_law_634 : decode zc_La_law 634 = .ok (.aload_n 2, 1) := by decide +kernel
theorem zd_La_law_635 : decode zc_La_law 635 = .ok (.aload_n 0, 1) := by decide +kernel
theorem zd_La_law_636 : decode zc_La_law 636 = .ok (.iload 4, 2) := by decide +kernel
theorem zd_La_law_638 : decode zc_La_law 638 = .ok (.iconst 1, 1) := by decide +kernel
theorem zd_La_law_639 : decode zc_La_law 639 = .ok (.iadd, 1) := by decide +kernel
theorem zd_La_law_640 : decode zc_La_law 640 = .ok (.iaload, 1) := by decide +kernel
theorem zd_La_law_641 : decode zc_La_law 641 = .ok (.aload_n 0, 1) := by decide +kernel
theorem zd_La_law_642 : decode zc_La_law 642 = .ok (.iload 4, 2) := by decide +kernel
theorem zd_La_law_644 : decode zc_La_law 644 = .ok (.iconst 2, 1) := by decide +kernel
theorem zd_La_law_645 : decode zc_La_law 645 = .ok (.iadd, 1) := by decide +kernel
theorem zd_La_law_646 : decode zc_La_law 646 = .ok (.iaload, 1) := by decide +kernel
theorem zd_La_law_647 : decode zc_La_law 647 = .ok (.invokevirtual 110, 3) := by decide +kernel
theorem zd_La_law_650 : decode zc_La_law 650 = .ok (.istore 6, 2) := by decide +kernel
theorem zd_La_law_652 : decode zc_La_law 652 = .ok (.goto 84, 3) := by decide +kernel
theorem zd_La_law_655 : decode zc_La_law 655 = .ok (.aload_n 1, 1) := by decide +kernel
theorem zd_La_law_656 : decode zc_La_law 656 = .ok (.aload_n 0, 1) := by decide +kernel
theorem zd_La_law_657 : decode zc_La_law 657 = .ok (.iload 4, 2) := by decide +kernel
theorem zd_La_law_659 : decode zc_La_law 659 = .ok (.iconst 1, 1) := by decide +kernel
theorem zd_La_law_660 : decode zc_La_law 660 = .ok (.iadd, 1) := by decide +kernel
theorem zd_La_law_661 : decode zc_La_law 661 = .ok (.iaload, 1) := by decide +kernel
theorem zd_La_law_662 : decode zc_La_law 662 = .ok (.aload_n 3, 1) := by decide +kernel
theorem zd_La_law_663 : decode zc_La_law 663 = .ok (.invokestatic 111, 3) := by decide +kernel
theorem zd_La_law_666 : decode zc_La_law 666 = .ok (.istore 5, 2) := by decide +kernel
theorem zd_La_law_668 : decode zc_La_law 668 = .ok (.aload_n 2, 1) := by decide +kernel
theorem zd_La_law_669 : decode zc_La_law 669 = .ok (.aload_n 0, 1) := by decide +kernel
theorem zd_La_law_670 : decode zc_La_law 670 = .ok (.iload 4, 2) := by decide +kernel
theorem zd_La_law_672 : decode zc_La_law 672 = .ok (.iconst 1, 1) := by decide +kernel
theorem zd_La_law_673 : decode zc_La_law 673 = .ok (.iadd, 1) := by decide +kernel
theorem zd_La_law_674 : decode zc_La_law 674 = .ok (.iaload, 1) := by decide +kernel
theorem zd_La_law_675 : decode zc_La_law 675 = .ok (.invokevirtual 113, 3) := by decide +kernel
theorem zd_La_law_678 : decode zc_La_law 678 = .ok (.istore 6, 2) := by decide +kernel
theorem zd_La_law_680 : decode zc_La_law 680 = .ok (.goto 56, 3) := by decide +kernel
theorem zd_La_law_683 : decode zc_La_law 683 = .ok (.aload_n 1, 1) := by decide +kernel
theorem zd_La_law_684 : decode zc_La_law 684 = .ok (.invokevirtual 114, 3) := by decide +kernel
theorem zd_La_law_687 : decode zc_La_law 687 = .ok (.pop, 1) := by decide +kernel
theorem zd_La_law_688 : decode zc_La_law 688 = .ok (.aload_n 2, 1) := by decide +kernel
theorem zd_La_law_689 : decode zc_La_law 689 = .ok (.invokevirtual 117, 3) := by decide +kernel
theorem zd_La_law_692 : decode zc_La_law 692 = .ok (.pop, 1) := by decide +kernel
theorem zd_La_law_693 : decode zc_La_law 693 = .ok (.goto 43, 3) := by decide +kernel
theorem zd_La_law_696 : decode zc_La_law 696 = .ok (.aload_n 1, 1) := by decide +kernel
theorem zd_La_law_697 : decode zc_La_law 697 = .ok (.aload_n 0, 1) := by decide +kernel
theorem zd_La_law_698 : decode zc_La_law 698 = .ok (.iload 4, 2) := by decide +kernel
theorem zd_La_law_700 : decode zc_La_law 700 = .ok (.iconst 1, 1) := by decide +kernel
theorem zd_La_law_701 : decode zc_La_law 701 = .ok (.iadd, 1) := by decide +kernel
theorem zd_La_law_702 : decode zc_La_law 702 = .ok (.iaload, 1) := by decide +kernel
theorem zd_La_law_703 : decode zc_La_law 703 = .ok (.aload_n 0, 1) := by decide +kernel
theorem zd_La_law_704 : decode zc_La_law 704 = .ok (.iload 4, 2) := by decide +kernel
theorem zd_La_law_706 : decode zc_La_law 706 = .ok (.iconst 2, 1) := by decide +kernel
theorem zd_La_law_707 : decode zc_La_law 707 = .ok (.iadd, 1) := by decide +kernel
theorem zd_La_law_708 : decode zc_La_law 708 = .ok (.iaload, 1) := by decide +kernel
theorem zd_La_law_709 : decode zc_La_law 709 = .ok (.aload_n 3, 1) := by decide +kernel
theorem zd_La_law_710 : decode zc_La_law 710 = .ok (.invokestatic 118, 3) := by decide +kernel
theorem zd_La_law_713 : decode zc_La_law 713 = .ok (.istore 5, 2) := by decide +kernel
theorem zd_La_law_715 : decode zc_La_law 715 = .ok (.aload_n 2, 1) := by decide +kernel
theorem zd_La_law_716 : decode zc_La_law 716 = .ok (.aload_n 0, 1) := by decide +kernel
theorem zd_La_law_717 : decode zc_La_law 717 = .ok (.iload 4, 2) := by decide +kernel
theorem zd_La_law_719 : decode zc_La_law 719 = .ok (.iconst 1, 1) := by decide +kernel
theorem zd_La_law_720 : decode zc_La_law 720 = .ok (.iadd, 1) := by decide +kernel
theorem zd_La_law_721 : decode zc_La_law 721 = .ok (.iaload, 1) := by decide +kernel
theorem zd_La_law_722 : decode zc_La_law 722 = .ok (.aload_n 0, 1) := by decide +kernel
theorem zd_La_law_723 : decode zc_La_law 723 = .ok (.iload 4, 2) := by decide +kernel
theorem zd_La_law_725 : decode zc_La_law 725 = .ok (.iconst 2, 1) := by decide +kernel
theorem zd_La_law_726 : decode zc_La_law 726 = .ok (.iadd, 1) := by decide +kernel
theorem zd_La_law_727 : decode zc_La_law 727 = .ok (.iaload, 1) := by decide +kernel
theorem zd_La_law_728 : decode zc_La_law 728 = .ok (.invokevirtual 120, 3) := by decide +kernel
theorem zd_La_law_731 : decode zc_La_law 731 = .ok (.istore 6, 2) := by decide +kernel
theorem zd_La_law_733 : decode zc_La_law 733 = .ok (.goto 3, 3) := by decide +kernel
theorem zd_La_law_226 : decode zc_La_law 226 = .ok (.lcmp, 1) := by decide +kernel
theorem zd_La_law_227 : decode zc_La_law 227 = .ok (.ifCond .eq 5, 3) := by decide +kernel
theorem zd_La_law_230 : decode zc_La_law 230 = .ok (.iconst 0, 1) := by decide +kernel
theorem zd_La_law_232 : decode zc_La_law 232 = .ok (.goto 504, 3) := by decide +kernel
theorem zd_La_law_396 : decode zc_La_law 396 = .ok (.aload_n 0, 1) := by decide +kernel
theorem zd_La_law_397 : decode zc_La_law 397 = .ok (.iload 4, 2) := by decide +kernel
theorem zd_La_law_399 : decode zc_La_law 399 = .ok (.iconst 2, 1) := by decide +kernel
theorem zd_La_law_400 : decode zc_La_law 400 = .ok (.iadd, 1) := by decide +kernel
theorem zd_La_law_401 : decode zc_La_law 401 = .ok (.iaload, 1) := by decide +kernel
theorem zd_La_law_402 : decode zc_La_law 402 = .ok (.aload_n 3, 1) := by decide +kernel
theorem zd_La_law_403 : decode zc_La_law 403 = .ok (.invokestatic 89, 3) := by decide +kernel
theorem zd_La_law_406 : decode zc_La_law 406 = .ok (.istore 5, 2) := by decide +kernel
theorem zd_La_law_408 : decode zc_La_law 408 = .ok (.aload_n 2, 1) := by decide +kernel
theorem zd_La_law_409 : decode zc_La_law 409 = .ok (.aload_n 0, 1) := by decide +kernel
theorem zd_La_law_410 : decode zc_La_law 410 = .ok (.iload 4, 2) := by decide +kernel
theorem zd_La_law_412 : decode zc_La_law 412 = .ok (.iconst 1, 1) := by decide +kernel
theorem zd_La_law_413 : decode zc_La_law 413 = .ok (.iadd, 1) := by decide +kernel
theorem zd_La_law_414 : decode zc_La_law 414 = .ok (.iaload, 1) := by decide +kernel
theorem zd_La_law_415 : decode zc_La_law 415 = .ok (.ifCond .eq 7, 3) := by decide +kernel
theorem zd_La_law_422 : decode zc_La_law 422 = .ok (.iconst 0, 1) := by decide +kernel
theorem zd_La_law_418 : decode zc_La_law 418 = .ok (.iconst 1, 1) := by decide +kernel
theorem zd_La_law_419 : decode zc_La_law 419 = .ok (.goto 4, 3) := by decide +kernel
theorem zd_La_law_423 : decode zc_La_law 423 = .ok (.aload_n 0, 1) := by decide +kernel
theorem zd_La_law_424 : decode zc_La_law 424 = .ok (.iload 4, 2) := by decide +kernel
theorem zd_La_law_426 : decode zc_La_law 426 = .ok (.iconst 2, 1) := by decide +kernel
theorem zd_La_law_427 : decode zc_La_law 427 = .ok (.iadd, 1) := by decide +kernel
theorem zd_La_law_428 : decode zc_La_law 428 = .ok (.iaload, 1) := by decide +kernel
theorem zd_La_law_429 : decode zc_La_law 429 = .ok (.invokevirtual 92, 3) := by decide +kernel
theorem zd_La_law_432 : decode zc_La_law 432 = .ok (.istore 6, 2) := by decide +kernel
theorem zd_La_law_434 : decode zc_La_law 434 = .ok (.goto 302, 3) := by decide +kernel
theorem zd_La_law_736 : decode zc_La_law 736 = .ok (.iinc 4 7, 3) := by decide +kernel
theorem zd_La_law_739 : decode zc_La_law 739 = .ok (.goto (-676), 3) := by decide +kernel
