theorem zd_La_law_265 : decode zc_La_law 265 = .ok (.iaload, 1) := by decide +kernel
theorem zd_La_law_266 : decode zc_La_law 266 = .ok (.aload_n 0, 1) := by decide +kernel
theorem zd_La_law_267 : decode zc_La_law 267 = .ok (.iload 4, 2) := by decide +kernel
theorem zd_La_law_269 : decode zc_La_law 269 = .ok (.bipush 6, 2) := by decide +kernel
theorem zd_La_law_271 : decode zc_La_law 271 = .ok (.iadd, 1) := by decide +kernel
theorem zd_La_law_272 : decode zc_La_law 272 = .ok (.iaload, 1) := by decide +kernel
theorem zd_La_law_273 : decode zc_La_law 273 = .ok (.aload_n 3, 1) := by decide +kernel
theorem zd_La_law_274 : decode zc_La_law 274 = .ok (.invokestatic 78, 3) := by decide +kernel
theorem zd_La_law_277 : decode zc_La_law 277 = .ok (.istore 5, 2) := by decide +kernel
theorem zd_La_law_279 : decode zc_La_law 279 = .ok (.aload_n 2, 1) := by decide +kernel
theorem zd_La_law_280 : decode zc_La_law 280 = .ok (.aload_n 0, 1) := by decide +kernel
theorem zd_La_law_281 : decode zc_La_law 281 = .ok (.iload 4, 2) := by decide +kernel
theorem zd_La_law_283 : decode zc_La_law 283 = .ok (.iconst 1, 1) := by decide +kernel
theorem zd_La_law_284 : decode zc_La_law 284 = .ok (.iadd, 1) := by decide +kernel
theorem zd_La_law_285 : decode zc_La_law 285 = .ok (.iaload, 1) := by decide +kernel
theorem zd_La_law_286 : decode zc_La_law 286 = .ok (.aload_n 0, 1) := by decide +kernel
theorem zd_La_law_287 : decode zc_La_law 287 = .ok (.iload 4, 2) := by decide +kernel
theorem zd_La_law_289 : decode zc_La_law 289 = .ok (.iconst 2, 1) := by decide +kernel
theorem zd_La_law_290 : decode zc_La_law 290 = .ok (.iadd, 1) := by decide +kernel
theorem zd_La_law_291 : decode zc_La_law 291 = .ok (.iaload, 1) := by decide +kernel
theorem zd_La_law_292 : decode zc_La_law 292 = .ok (.aload_n 0, 1) := by decide +kernel
theorem zd_La_law_293 : decode zc_La_law 293 = .ok (.iload 4, 2) := by decide +kernel
theorem zd_La_law_295 : decode zc_La_law 295 = .ok (.iconst 3, 1) := by decide +kernel
theorem zd_La_law_296 : decode zc_La_law 296 = .ok (.iadd, 1) := by decide +kernel
theorem zd_La_law_297 : decode zc_La_law 297 = .ok (.iaload, 1) := by decide +kernel
theorem zd_La_law_298 : decode zc_La_law 298 = .ok (.aload_n 0, 1) := by decide +kernel
theorem zd_La_law_299 : decode zc_La_law 299 = .ok (.iload 4, 2) := by decide +kernel
theorem zd_La_law_301 : decode zc_La_law 301 = .ok (.iconst 4, 1) := by decide +kernel
theorem zd_La_law_302 : decode zc_La_law 302 = .ok (.iadd, 1) := by decide +kernel
theorem zd_La_law_303 : decode zc_La_law 303 = .ok (.iaload, 1) := by decide +kernel
theorem zd_La_law_304 : decode zc_La_law 304 = .ok (.aload_n 0, 1) := by decide +kernel
theorem zd_La_law_305 : decode zc_La_law 305 = .ok (.iload 4, 2) := by decide +kernel
theorem zd_La_law_307 : decode zc_La_law 307 = .ok (.iconst 5, 1) := by decide +kernel
theorem zd_La_law_308 : decode zc_La_law 308 = .ok (.iadd, 1) := by decide +kernel
theorem zd_La_law_309 : decode zc_La_law 309 = .ok (.iaload, 1) := by decide +kernel
theorem zd_La_law_310 : decode zc_La_law 310 = .ok (.aload_n 0, 1) := by decide +kernel
theorem zd_La_law_311 : decode zc_La_law 311 = .ok (.iload 4, 2) := by decide +kernel
theorem zd_La_law_313 : decode zc_La_law 313 = .ok (.bipush 6, 2) := by decide +kernel
theorem zd_La_law_315 : decode zc_La_law 315 = .ok (.iadd, 1) := by decide +kernel
theorem zd_La_law_316 : decode zc_La_law 316 = .ok (.iaload, 1) := by decide +kernel
theorem zd_La_law_317 : decode zc_La_law 317 = .ok (.invokevirtual 81, 3) := by decide +kernel
theorem zd_La_law_320 : decode zc_La_law 320 = .ok (.istore 6, 2) := by decide +kernel
theorem zd_La_law_322 : decode zc_La_law 322 = .ok (.aload_n 2, 1) := by decide +kernel
theorem zd_La_law_323 : decode zc_La_law 323 = .ok (.invokevirtual 74, 3) := by decide +kernel
theorem zd_La_law_326 : decode zc_La_law 326 = .ok (.iload 5, 2) := by decide +kernel
theorem zd_La_law_328 : decode zc_La_law 328 = .ok (.if_icmp .eq 5, 3) := by decide +kernel
theorem zd_La_law_333 : decode zc_La_law 333 = .ok (.iload 5, 2) := by decide +kernel
theorem zd_La_law_335 : decode zc_La_law 335 = .ok (.ifCond .ne 15, 3) := by decide +kernel
theorem zd_La_law_338 : decode zc_La_law 338 = .ok (.aload_n 3, 1) := by decide +kernel
theorem zd_La_law_339 : decode zc_La_law 339 = .ok (.iconst 0, 1) := by decide +kernel
theorem zd_La_law_340 : decode zc_La_law 340 = .ok (.laload, 1) := by decide +kernel
theorem zd_La_law_341 : decode zc_La_law 341 = .ok (.iload 6, 2) := by decide +kernel
theorem zd_La_law_343 : decode zc_La_law 343 = .ok (.i2l, 1) := by decide +kernel
theorem zd_La_law_344 : decode zc_La_law 344 = .ok (.lcmp, 1) := by decide +kernel
theorem zd_La_law_345 : decode zc_La_law 345 = .ok (.ifCond .eq 5, 3) := by decide +kernel
theorem zd_La_law_348 : decode zc_La_law 348 = .ok (.iconst 0, 1) := by decide +kernel
theorem zd_La_law_331 : decode zc_La_law 331 = .ok (.iconst 0, 1) := by decide +kernel
theorem zd_La_law_353 : decode zc_La_law 353 = .ok (.aload_n 1, 1) := by decide +kernel
theorem zd_La_law_354 : decode zc_La_law 354 = .ok (.aload_n 0, 1) := by decide +kernel
theorem zd_La_law_355 : decode zc_La_law 355 = .ok (.iload 4, 2) := by decide +kernel
theorem zd_La_law_357 : decode zc_La_law 357 = .ok (.iconst 1, 1) := by decide +kernel
theorem zd_La_law_358 : decode zc_La_law 358 = .ok (.iadd, 1) := by decide +kernel
theorem zd_La_law_359 : decode zc_La_law 359 = .ok (.iaload, 1) := by decide +kernel
theorem zd_La_law_360 : decode zc_La_law 360 = .ok (.aload_n 3, 1) := by decide +kernel
theorem zd_La_law_361 : decode zc_La_law 361 = .ok (.invokestatic 82, 3) := by decide +kernel
theorem zd_La_law_364 : decode zc_La_law 364 = .ok (.istore 5, 2) := by decide +kernel
theorem zd_La_law_366 : decode zc_La_law 366 = .ok (.aload_n 2, 1) := by decide +kernel
theorem zd_La_law_367 : decode zc_La_law 367 = .ok (.aload_n 0, 1) := by decide +kernel
theorem zd_La_law_368 : decode zc_La_law 368 = .ok (.iload 4, 2) := by decide +kernel
theorem zd_La_law_370 : decode zc_La_law 370 = .ok (.iconst 1, 1) := by decide +kernel
theorem zd_La_law_371 : decode zc_La_law 371 = .ok (.iadd, 1) := by decide +kernel
theorem zd_La_law_372 : decode zc_La_law 372 = .ok (.iaload, 1) := by decide +kernel
theorem zd_La_law_373 : decode zc_La_law 373 = .ok (.invokevirtual 85, 3) := by decide +kernel
theorem zd_La_law_376 : decode zc_La_law 376 = .ok (.istore 6, 2) := by decide +kernel
theorem zd_La_law_378 : decode zc_La_law 378 = .ok (.aload_n 2, 1) := by decide +kernel
theorem zd_La_law_379 : decode zc_La_law 379 = .ok (.invokevirtual 74, 3) := by decide +kernel
theorem zd_La_law_382 : decode zc_La_law 382 = .ok (.iload 5, 2) := by decide +kernel
theorem zd_La_law_384 : decode zc_La_law 384 = .ok (.if_icmp .eq 5, 3) := by decide +kernel
theorem zd_La_law_389 : decode zc_La_law 389 = .ok (.iload 5, 2) := by decide +kernel
theorem zd_La_law_391 : decode zc_La_law 391 = .ok (.ifCond .ne 15, 3) := by decide +kernel
theorem zd_La_law_394 : decode zc_La_law 394 = .ok (.aload_n 3, 1) := by decide +kernel
theorem zd_La_law_395 : decode zc_La_law 395 = .ok (.iconst 0, 1) := by decide +kernel
theorem zd_La_law_396 : decode zc_La_law 396 = .ok (.laload, 1) := by decide +kernel
theorem zd_La_law_397 : decode zc_La_law 397 = .ok (.iload 6, 2) := by decide +kernel
theorem zd_La_law_399 : decode zc_La_law 399 = .ok (.i2l, 1) := by decide +kernel
theorem zd_La_law_400 : decode zc_La_law 400 = .ok (.lcmp, 1) := by decide +kernel
theorem zd_La_law_401 : decode zc_La_law 401 = .ok (.ifCond .eq 5, 3) := by decide +kernel
theorem zd_La_law_404 : decode zc_La_law 404 = .ok (.iconst 0, 1) := by decide +kernel
theorem zd_La_law_387 : decode zc_La_law 387 = .ok (.iconst 0, 1) := by decide +kernel
theorem zd_La_law_409 : decode zc_La_law 409 = .ok (.aload_n 1, 1) := by decide +kernel
theorem zd_La_law_410 : decode zc_La_law 410 = .ok (.aload_n 0, 1) := by decide +kernel
theorem zd_La_law_411 : decode zc_La_law 411 = .ok (.iload 4, 2) := by decide +kernel
theorem zd_La_law_413 : decode zc_La_law 413 = .ok (.iconst 1, 1) := by decide +kernel
theorem zd_La_law_414 : decode zc_La_law 414 = .ok (.iadd, 1) := by decide +kernel
theorem zd_La_law_415 : decode zc_La_law 415 = .ok (.iaload, 1) := by decide +kernel
theorem zd_La_law_416 : decode zc_La_law 416 = .ok (.aload_n 3, 1) := by decide +kernel
theorem zd_La_law_417 : decode zc_La_law 417 = .ok (.invokestatic 86, 3) := by decide +kernel
theorem zd_La_law_420 : decode zc_La_law 420 = .ok (.istore 5, 2) := by decide +kernel
theorem zd_La_law_422 : decode zc_La_law 422 = .ok (.aload_n 2, 1) := by decide +kernel
theorem zd_La_law_423 : decode zc_La_law 423 = .ok (.aload_n 0, 1) := by decide +kernel
theorem zd_La_law_424 : decode zc_La_law 424 = .ok (.iload 4, 2) := by decide +kernel
theorem zd_La_law_426 : decode zc_La_law 426 = .ok (.iconst 1, 1) := by decide +kernel
theorem zd_La_law_427 : decode zc_La_law 427 = .ok (.iadd, 1) := by decide +kernel
theorem zd_La_law_428 : decode zc_La_law 428 = .ok (.iaload, 1) := by decide +kernel
theorem zd_La_law_429 : decode zc_La_law 429 = .ok (.invokevirtual 88, 3) := by decide +kernel
theorem zd_La_law_432 : decode zc_La_law 432 = .ok (.istore 6, 2) := by decide +kernel
theorem zd_La_law_434 : decode zc_La_law 434 = .ok (.aload_n 2, 1) := by decide +kernel
theorem zd_La_law_435 : decode zc_La_law 435 = .ok (.invokevirtual 74, 3) := by decide +kernel
theorem zd_La_law_438 : decode zc_La_law 438 = .ok (.iload 5, 2) := by decide +kernel
theorem zd_La_law_440 : decode zc_La_law 440 = .ok (.if_icmp .eq 5, 3) := by decide +kernel
theorem zd_La_law_445 : decode zc_La_law 445 = .ok (.iload 5, 2) := by decide +kernel
theorem zd_La_law_447 : decode zc_La_law 447 = .ok (.ifCond .ne 15, 3) := by decide +kernel
theorem zd_La_law_450 : decode zc_La_law 450 = .ok (.aload_n 3, 1) := by decide +kernel
theorem zd_La_law_451 : decode zc_La_law 451 = .ok (.iconst 0, 1) := by decide +kernel
theorem zd_La_law_452 : decode zc_La_law 452 = .ok (.laload, 1) := by decide +kernel
theorem zd_La_law_453 : decode zc_La_law 453 = .ok (.iload 6, 2) := by decide +kernel
theorem zd_La_law_455 : decode zc_La_law 455 = .ok (.i2l, 1) := by decide +kernel
theorem zd_La_law_456 : decode zc_La_law 456 = .ok (.lcmp, 1) := by decide +kernel
theorem zd_La_law_457 : decode zc_La_law 457 = .ok (.ifCond .eq 5, 3) := by decide +kernel
theorem zd_La_law_460 : decode zc_La_law 460 = .ok (.iconst 0, 1) := by decide +kernel
theorem zd_La_law_443 : decode zc_La_law 443 = .ok (.iconst 0, 1) := by decide +kernel
theorem zd_La_law_465 : decode zc_La_law 465 = .ok (.aload_n 1, 1) := by decide +kernel
theorem zd_La_law_466 : decode zc_La_law 466 = .ok (.aload_n 0, 1) := by decide +kernel
theorem zd_La_law_467 : decode zc_La_law 467 = .ok (.iload 4, 2) := by decide +kernel
theorem zd_La_law_469 : decode zc_La_law 469 = .ok (.iconst 1, 1) := by decide +kernel
theorem zd_La_law_470 : decode zc_La_law 470 = .ok (.iadd, 1) := by decide +kernel
theorem zd_La_law_471 : decode zc_La_law 471 = .ok (.iaload, 1) := by decide +kernel
theorem zd_La_law_472 : decode zc_La_law 472 = .ok (.ifCond .eq 7, 3) := by decide +kernel
theorem zd_La_law_479 : decode zc_La_law 479 = .ok (.iconst 0, 1) := by decide +kernel
theorem zd_La_law_475 : decode zc_La_law 475 = .ok (.iconst 1, 1) := by decide +kernel
theorem zd_La_law_476 : decode zc_La_law 476 = .ok (.goto 4, 3) := by decide +kernel
theorem zd_La_law_549 : decode zc_La_law 549 = .ok (.aload_n 1, 1) := by decide +kernel
theorem zd_La_law_550 : decode zc_La_law 550 = .ok (.aload_n 0, 1) := by decide +kernel
theorem zd_La_law_551 : decode zc_La_law 551 = .ok (.iload 4, 2) := by decide +kernel
theorem zd_La_law_553 : decode zc_La_law 553 = .ok (.iconst 1, 1) := by decide +kernel
theorem zd_La_law_554 : decode zc_La_law 554 = .ok (.iadd, 1) := by decide +kernel
theorem zd_La_law_555 : decode zc_La_law 555 = .ok (.iaload, 1) := by decide +kernel
theorem zd_La_law_556 : decode zc_La_law 556 = .ok (.invokestatic 93, 3) := by decide +kernel
theorem zd_La_law_559 : decode zc_La_law 559 = .ok (.istore 5, 2) := by decide +kernel
theorem zd_La_law_561 : decode zc_La_law 561 = .ok (.aload_n 2, 1) := by decide +kernel
theorem zd_La_law_562 : decode zc_La_law 562 = .ok (.aload_n 0, 1) := by decide +kernel
theorem zd_La_law_563 : decode zc_La_law 563 = .ok (.iload 4, 2) := by decide +kernel
theorem zd_La_law_565 : decode zc_La_law 565 = .ok (.iconst 1, 1) := by decide +kernel
theorem zd_La_law_566 : decode zc_La_law 566 = .ok (.iadd, 1) := by decide +kernel
theorem zd_La_law_567 : decode zc_La_law 567 = .ok (.iaload, 1) := by decide +kernel
theorem zd_La_law_568 : decode zc_La_law 568 = .ok (.invokevirtual 96, 3) := by decide +kernel
theorem zd_La_law_571 : decode zc_La_law 571 = .ok (.aload_n 2, 1) := by decide +kernel
theorem zd_La_law_572 : decode zc_La_law 572 = .ok (.invokevirtual 74, 3) := by decide +kernel
theorem zd_La_law_575 : decode zc_La_law 575 = .ok (.iload 5, 2) := by decide +kernel
theorem zd_La_law_577 : decode zc_La_law 577 = .ok (.if_icmp .eq 5, 3) := by decide +kernel
theorem zd_La_law_582 : decode zc_La_law 582 = .ok (.goto 442, 3) := by decide +kernel
theorem zd_La_law_580 : decode zc_La_law 580 = .ok (.iconst 0, 1) := by decide +kernel
theorem zd_La_law_585 : decode zc_La_law 585 = .ok (.aload_n 1, 1) := by decide +kernel
theorem zd_La_law_586 : decode zc_La_law 586 = .ok (.aload_n 0, 1) := by decide +kernel
theorem zd_La_law_587 : decode zc_La_law 587 = .ok (.iload 4, 2) := by decide +kernel
theorem zd_La_law_589 : decode zc_La_law 589 = .ok (.iconst 1, 1) := by decide +kernel
theorem zd_La_law_590 : decode zc_La_law 590 = .ok (.iadd, 1) := by decide +kernel
theorem zd_La_law_591 : decode zc_La_law 591 = .ok (.iaload, 1) := by decide +kernel
theorem zd_La_law_592 : decode zc_La_law 592 = .ok (.aload_n 0, 1) := by decide +kernel
theorem zd_La_law_593 : decode zc_La_law 593 = .ok (.iload 4, 2) := by decide +kernel
theorem zd_La_law_595 : decode zc_La_law 595 = .ok (.iconst 2, 1) := by decide +kernel
theorem zd_La_law_596 : decode zc_La_law 596 = .ok (.iadd, 1) := by decide +kernel
theorem zd_La_law_597 : decode zc_La_law 597 = .ok (.iaload, 1) := by decide +kernel
theorem zd_La_law_598 : decode zc_La_law 598 = .ok (.aload_n 0, 1) := by decide +kernel
theorem zd_La_law_599 : decode zc_La_law 599 = .ok (.iload 4, 2) := by decide +kernel
theorem zd_La_law_601 : decode zc_La_law 601 = .ok (.iconst 3, 1) := by decide +kernel
theorem zd_La_law_602 : decode zc_La_law 602 = .ok (.iadd, 1) := by decide +kernel
theorem zd_La_law_603 : decode zc_La_law 603 = .ok (.iaload, 1) := by decide +kernel
theorem zd_La_law_604 : decode zc_La_law 604 = .ok (.aload_n 0, 1) := by decide +kernel
theorem zd_La_law_605 : decode zc_La_law 605 = .ok (.iload 4, 2) := by decide +kernel
theorem zd_La_law_607 : decode zc_La_law 607 = .ok (.iconst 4, 1) := by decide +kernel
theorem zd_La_law_608 : decode zc_La_law 608 = .ok (.iadd, 1) := by decide +kernel
theorem zd_La_law_609 : decode zc_La_law 609 = .ok (.iaload, 1) := by decide +kernel
theorem zd_La_law_610 : decode zc_La_law 610 = .ok (.invokestatic 97, 3) := by decide +kernel
theorem zd_La_law_613 : decode zc_La_law 613 = .ok (.istore 5, 2) := by decide +kernel
theorem zd_La_law_615 : decode zc_La_law 615 = .ok (.aload_n 2, 1) := by decide +kernel
theorem zd_La_law_616 : decode zc_La_law 616 = .ok (.aload_n 0, 1) := by decide +kernel
theorem zd_La_law_617 : decode zc_La_law 617 = .ok (.iload 4, 2) := by decide +kernel
theorem zd_La_law_619 : decode zc_La_law 619 = .ok (.iconst 1, 1) := by decide +kernel
theorem zd_La_law_620 : decode zc_La_law 620 = .ok (.iadd, 1) := by decide +kernel
theorem zd_La_law_621 : decode zc_La_law 621 = .ok (.iaload, 1) := by decide +kernel
theorem zd_La_law_622 : decode zc_La_law 622 = .ok (.aload_n 0, 1) := by decide +kernel
theorem zd_La_law_623 : decode zc_La_law 623 = .ok (.iload 4, 2) := by decide +kernel
theorem zd_La_law_625 : decode zc_La_law 625 = .ok (.iconst 2, 1) := by decide +kernel
theorem zd_La_law_626 : decode zc_La_law 626 = .ok (.iadd, 1) := by decide +kernel
theorem zd_La_law_627 : decode zc_La_law 627 = .ok (.iaload, 1) := by decide +kernel
theorem zd_La_law_628 : decode zc_La_law 628 = .ok (.aload_n 0, 1) := by decide +kernel
theorem zd_La_law_629 : decode zc_La_law 629 = .ok (.iload 4, 2) := by decide +kernel
theorem zd_La_law_631 : decode zc_La_law 631 = .ok (.iconst 3, 1) := by decide +kernel
theorem zd_La_law_632 : decode zc_La_law 632 = .ok (.iadd, 1) := by decide +kernel
theorem zd_La_law_633 : decode zc_La_law 633 = .ok (.iaload, 1) := by decide +kernel
theorem zd_La_law_634 : decode zc_La_law 634 = .ok (.aload_n 0, 1) := by decide +kernel
theorem zd_La_law_635 : decode zc_La_law 635 = .ok (.iload 4, 2) := by decide +kernel
theorem zd_La_law_637 : decode zc_La_law 637 = .ok (.iconst 4, 1) := by decide +kernel
theorem zd_La_law_638 : decode zc_La_law 638 = .ok (.iadd, 1) := by decide +kernel
theorem zd_La_law_639 : decode zc_La_law 639 = .ok (.iaload, 1) := by decide +kernel
theorem zd_La_law_640 : decode zc_La_law 640 = .ok (.invokevirtual 100, 3) := by decide +kernel
theorem zd_La_law_643 : decode zc_La_law 643 = .ok (.aload_n 2, 1) := by decide +kernel
theorem zd_La_law_644 : decode zc_La_law 644 = .ok (.invokevirtual 74, 3) := by decide +kernel
theorem zd_La_law_647 : decode zc_La_law 647 = .ok (.iload 5, 2) := by decide +kernel
theorem zd_La_law_649 : decode zc_La_law 649 = .ok (.if_icmp .eq 5, 3) := by decide +kernel
theorem zd_La_law_654 : decode zc_La_law 654 = .ok (.goto 370, 3) := by decide +kernel
theorem zd_La_law_652 : decode zc_La_law 652 = .ok (.iconst 0, 1) := by decide +kernel
theorem zd_La_law_657 : decode zc_La_law 657 = .ok (.aload_n 1, 1) := by decide +kernel
theorem zd_La_law_658 : decode zc_La_law 658 = .ok (.aload_n 0, 1) := by decide +kernel
theorem zd_La_law_659 : decode zc_La_law 659 = .ok (.iload 4, 2) := by decide +kernel
theorem zd_La_law_661 : decode zc_La_law 661 = .ok (.iconst 1, 1) := by decide +kernel
theorem zd_La_law_662 : decode zc_La_law 662 = .ok (.iadd, 1) := by decide +kernel
theorem zd_La_law_663 : decode zc_La_law 663 = .ok (.iaload, 1) := by decide +kernel
theorem zd_La_law_664 : decode zc_La_law 664 = .ok (.aload_n 0, 1) := by decide +kernel
theorem zd_La_law_665 : decode zc_La_law 665 = .ok (.iload 4, 2) := by decide +kernel
theorem zd_La_law_667 : decode zc_La_law 667 = .ok (.iconst 2, 1) := by decide +kernel
theorem zd_La_law_668 : decode zc_La_law 668 = .ok (.iadd, 1) := by decide +kernel
theorem zd_La_law_669 : decode zc_La_law 669 = .ok (.iaload, 1) := by decide +kernel
theorem zd_La_law_670 : decode zc_La_law 670 = .ok (.aload_n 3, 1) := by decide +kernel
theorem zd_La_law_671 : decode zc_La_law 671 = .ok (.invokestatic 101, 3) := by decide +kernel
theorem zd_La_law_674 : decode zc_La_law 674 = .ok (.istore 5, 2) := by decide +kernel
theorem zd_La_law_676 : decode zc_La_law 676 = .ok (.aload_n 2, 1) := by decide +kernel
theorem zd_La_law_677 : decode zc_La_law 677 = .ok (.aload_n 0, 1) := by decide +kernel
theorem zd_La_law_678 : decode zc_La_law 678 = .ok (.iload 4, 2) := by decide +kernel
theorem zd_La_law_680 : decode zc_La_law 680 = .ok (.iconst 1, 1) := by decide +kernel
theorem zd_La_law_681 : decode zc_La_law 681 = .ok (.iadd, 1) := by decide +kernel
theorem zd_La_law_682 : decode zc_La_law 682 = .ok (.iaload, 1) := by decide +kernel
theorem zd_La_law_683 : decode zc_La_law 683 = .ok (.aload_n 0, 1) := by decide +kernel
theorem zd_La_law_684 : decode zc_La_law 684 = .ok (.iload 4, 2) := by decide +kernel
theorem zd_La_law_686 : decode zc_La_law 686 = .ok (.iconst 2, 1) := by decide +kernel
theorem zd_La_law_687 : decode zc_La_law 687 = .ok (.iadd, 1) := by decide +kernel
theorem zd_La_law_688 : decode zc_La_law 688 = .ok (.iaload, 1) := by decide +kernel
theorem zd_La_law_689 : decode zc_La_law 689 = .ok (.invokevirtual 104, 3) := by decide +kernel
theorem zd_La_law_692 : decode zc_La_law 692 = .ok (.istore 6, 2) := by decide +kernel
theorem zd_La_law_694 : decode zc_La_law 694 = .ok (.aload_n 2, 1) := by decide +kernel
theorem zd_La_law_695 : decode zc_La_law 695 = .ok (.invokevirtual 74, 3) := by decide +kernel
theorem zd_La_law_698 : decode zc_La_law 698 = .ok (.iload 5, 2) := by decide +kernel
theorem zd_La_law_700 : decode zc_La_law 700 = .ok (.if_icmp .eq 5, 3) := by decide +kernel
theorem zd_La_law_705 : decode zc_La_law 705 = .ok (.iload 5, 2) := by decide +kernel
theorem zd_La_law_707 : decode zc_La_law 707 = .ok (.ifCond .ne 22, 3) := by decide +kernel
theorem zd_La_law_710 : decode zc_La_law 710 = .ok (.aload_n 3, 1) := by decide +kernel
theorem zd_La_law_711 : decode zc_La_law 711 = .ok (.iconst 0, 1) := by decide +kernel
theorem zd_La_law_712 : decode zc_La_law 712 = .ok (.laload, 1) := by decide +kernel
theorem zd_La_law_713 : decode zc_La_law 713 = .ok (.iload 6, 2) := by decide +kernel
theorem zd_La_law_715 : decode zc_La_law 715 = .ok (.ifCond .eq 7, 3) := by decide +kernel
theorem zd_La_law_722 : decode zc_La_law 722 = .ok (.lconst 0, 1) := by decide +kernel
theorem zd_La_law_718 : decode zc_La_law 718 = .ok (.lconst 1, 1) := by decide +kernel
theorem zd_La_law_719 : decode zc_La_law 719 = .ok (.goto 4, 3) := by decide +kernel
theorem zd_La_law_703 : decode zc_La_law 703 = .ok (.iconst 0, 1) := by decide +kernel
theorem zd_La_law_732 : decode zc_La_law 732 = .ok (.aload_n 1, 1) := by decide +kernel
theorem zd_La_law_733 : decode zc_La_law 733 = .ok (.aload_n 0, 1) := by decide +kernel
theorem zd_La_law_734 : decode zc_La_law 734 = .ok (.iload 4, 2) := by decide +kernel
theorem zd_La_law_736 : decode zc_La_law 736 = .ok (.iconst 1, 1) := by decide +kernel
theorem zd_La_law_737 : decode zc_La_law 737 = .ok (.iadd, 1) := by decide +kernel
theorem zd_La_law_738 : decode zc_La_law 738 = .ok (.iaload, 1) := by decide +kernel
theorem zd_La_law_739 : decode zc_La_law 739 = .ok (.aload_n 0, 1) := by decide +kernel
theorem zd_La_law_740 : decode zc_La_law 740 = .ok (.iload 4, 2) := by decide +kernel
theorem zd_La_law_742 : decode zc_La_law 742 = .ok (.iconst 2, 1) := by decide +kernel
theorem zd_La_law_743 : decode zc_La_law 743 = .ok (.iadd, 1) := by decide +kernel
theorem zd_La_law_744 : decode zc_La_law 744 = .ok (.iaload, 1) := by decide +kernel
theorem zd_La_law_745 : decode zc_La_law 745 = .ok (.aload_n 0, 1) := by decide +kernel
theorem zd_La_law_746 : decode zc_La_law 746 = .ok (.iload 4, 2) := by decide +kernel
theorem zd_La_law_748 : decode zc_La_law 748 = .ok (.iconst 3, 1) := by decide +kernel
theorem zd_La_law_749 : decode zc_La_law 749 = .ok (.iadd, 1) := by decide +kernel
theorem zd_La_law_750 : decode zc_La_law 750 = .ok (.iaload, 1) := by decide +kernel
theorem zd_La_law_751 : decode zc_La_law 751 = .ok (.aload_n 3, 1) := by decide +kernel
theorem zd_La_law_752 : decode zc_La_law 752 = .ok (.invokestatic 105, 3) := by decide +kernel
theorem zd_La_law_755 : decode zc_La_law 755 = .ok (.istore 5, 2) := by decide +kernel
theorem zd_La_law_757 : decode zc_La_law 757 = .ok (.aload_n 2, 1) := by decide +kernel
theorem zd_La_law_758 : decode zc_La_law 758 = .ok (.aload_n 0, 1) := by decide +kernel
theorem zd_La_law_759 : decode zc_La_law 759 = .ok (.iload 4, 2) := by decide +kernel
theorem zd_La_law_761 : decode zc_La_law 761 = .ok (.iconst 1, 1) := by decide +kernel
theorem zd_La_law_762 : decode zc_La_law 762 = .ok (.iadd, 1) := by decide +kernel
theorem zd_La_law_763 : decode zc_La_law 763 = .ok (.iaload, 1) := by decide +kernel
theorem zd_La_law_764 : decode zc_La_law 764 = .ok (.aload_n 0, 1) := by decide +kernel
theorem zd_La_law_765 : decode zc_La_law 765 = .ok (.iload 4, 2) := by decide +kernel
theorem zd_La_law_767 : decode zc_La_law 767 = .ok (.iconst 2, 1) := by decide +kernel
theorem zd_La_law_768 : decode zc_La_law 768 = .ok (.iadd, 1) := by decide +kernel
theorem zd_La_law_769 : decode zc_La_law 769 = .ok (.iaload, 1) := by decide +kernel
theorem zd_La_law_770 : decode zc_La_law 770 = .ok (.aload_n 0, 1) := by decide +kernel
theorem zd_La_law_771 : decode zc_La_law 771 = .ok (.iload 4, 2) := by decide +kernel
theorem zd_La_law_773 : decode zc_La_law 773 = .ok (.iconst 3, 1) := by decide +kernel
theorem zd_La_law_774 : decode zc_La_law 774 = .ok (.iadd, 1) := by decide +kernel
theorem zd_La_law_775 : decode zc_La_law 775 = .ok (.iaload, 1) := by decide +kernel
theorem zd_La_law_776 : decode zc_La_law 776 = .ok (.invokevirtual 107, 3) := by decide +kernel
theorem zd_La_law_779 : decode zc_La_law 779 = .ok (.istore 6, 2) := by decide +kernel
theorem zd_La_law_781 : decode zc_La_law 781 = .ok (.aload_n 2, 1) := by decide +kernel
theorem zd_La_law_782 : decode zc_La_law 782 = .ok (.invokevirtual 74, 3) := by decide +kernel
theorem zd_La_law_785 : decode zc_La_law 785 = .ok (.iload 5, 2) := by decide +kernel
theorem zd_La_law_787 : decode zc_La_law 787 = .ok (.if_icmp .eq 5, 3) := by decide +kernel
theorem zd_La_law_792 : decode zc_La_law 792 = .ok (.iload 5, 2) := by decide +kernel
theorem zd_La_law_794 : decode zc_La_law 794 = .ok (.ifCond .ne 15, 3) := by decide +kernel
theorem zd_La_law_797 : decode zc_La_law 797 = .ok (.aload_n 3, 1) := by decide +kernel
theorem zd_La_law_798 : decode zc_La_law 798 = .ok (.iconst 0, 1) := by decide +kernel
theorem zd_La_law_799 : decode zc_La_law 799 = .ok (.laload, 1) := by decide +kernel
theorem zd_La_law_800 : decode zc_La_law 800 = .ok (.iload 6, 2) := by decide +kernel
theorem zd_La_law_802 : decode zc_La_law 802 = .ok (.i2l, 1) := by decide +kernel
theorem zd_La_law_803 : decode zc_La_law 803 = .ok (.lcmp, 1) := by decide +kernel
theorem zd_La_law_804 : decode zc_La_law 804 = .ok (.ifCond .eq 5, 3) := by decide +kernel
theorem zd_La_law_807 : decode zc_La_law 807 = .ok (.iconst 0, 1) := by decide +kernel
theorem zd_La_law_790 : decode zc_La_law 790 = .ok (.iconst 0, 1) := by decide +kernel
theorem zd_La_law_812 : decode zc_La_law 812 = .ok (.aload_n 1, 1) := by decide +kernel
theorem zd_La_law_813 : decode zc_La_law 813 = .ok (.aload_n 0, 1) := by decide +kernel
theorem zd_La_law_814 : decode zc_La_law 814 = .ok (.iload 4, 2) := by decide +kernel
theorem zd_La_law_816 : decode zc_La_law 816 = .ok (.iconst 1, 1) := by decide +kernel
theorem zd_La_law_817 : decode zc_La_law 817 = .ok (.iadd, 1) := by decide +kernel
theorem zd_La_law_818 : decode zc_La_law 818 = .ok (.iaload, 1) := by decide +kernel
theorem zd_La_law_819 : decode zc_La_law 819 = .ok (.aload_n 0, 1) := by decide +kernel
theorem zd_La_law_820 : decode zc_La_law 820 = .ok (.iload 4, 2) := by decide +kernel
theorem zd_La_law_822 : decode zc_La_law 822 = .ok (.iconst 2, 1) := by decide +kernel
theorem zd_La_law_823 : decode zc_La_law 823 = .ok (.iadd, 1) := by decide +kernel
theorem zd_La_law_824 : decode zc_La_law 824 = .ok (.iaload, 1) := by decide +kernel
theorem zd_La_law_825 : decode zc_La_law 825 = .ok (.aload_n 3, 1) := by decide +kernel
theorem zd_La_law_826 : decode zc_La_law 826 = .ok (.invokestatic 108, 3) := by decide +kernel
theorem zd_La_law_829 : decode zc_La_law 829 = .ok (.istore 5, 2) := by decide +kernel
theorem zd_La_law_831 : decode zc_La_law 831 = .ok (.aload_n 2, 1) := by decide +kernel
theorem zd_La_law_832 : decode zc_La_law 832 = .ok (.aload_n 0, 1) := by decide +kernel
theorem zd_La_law_833 : decode zc_La_law 833 = .ok (.iload 4, 2) := by decide +kernel
theorem zd_La_law_835 : decode zc_La_law 835 = .ok (.iconst 1, 1) := by decide +kernel
theorem zd_La_law_836 : decode zc_La_law 836 = .ok (.iadd, 1) := by decide +kernel
theorem zd_La_law_837 : decode zc_La_law 837 = .ok (.iaload, 1) := by decide +kernel
theorem zd_La_law_838 : decode zc_La_law 838 = .ok (.aload_n 0, 1) := by decide +kernel
theorem zd_La_law_839 : decode zc_La_law 839 = .ok (.iload 4, 2) := by decide +kernel
theorem zd_La_law_841 : decode zc_La_law 841 = .ok (.iconst 2, 1) := by decide +kernel
theorem zd_La_law_842 : decode zc_La_law 842 = .ok (.iadd, 1) := by decide +kernel
theorem zd_La_law_843 : decode zc_La_law 843 = .ok (.iaload, 1) := by decide +kernel
theorem zd_La_law_844 : decode zc_La_law 844 = .ok (.invokevirtual 110, 3) := by decide +kernel
theorem zd_La_law_847 : decode zc_La_law 847 = .ok (.istore 6, 2) := by decide +kernel
theorem zd_La_law_849 : decode zc_La_law 849 = .ok (.aload_n 2, 1) := by decide +kernel
theorem zd_La_law_850 : decode zc_La_law 850 = .ok (.invokevirtual 74, 3) := by decide +kernel
theorem zd_La_law_853 : decode zc_La_law 853 = .ok (.iload 5, 2) := by decide +kernel
theorem zd_La_law_855 : decode zc_La_law 855 = .ok (.if_icmp .eq 5, 3) := by decide +kernel
theorem zd_La_law_860 : decode zc_La_law 860 = .ok (.iload 5, 2) := by decide +kernel
theorem zd_La_law_862 : decode zc_La_law 862 = .ok (.ifCond .ne 22, 3) := by decide +kernel
theorem zd_La_law_865 : decode zc_La_law 865 = .ok (.aload_n 3, 1) := by decide +kernel
theorem zd_La_law_866 : decode zc_La_law 866 = .ok (.iconst 0, 1) := by decide +kernel
theorem zd_La_law_867 : decode zc_La_law 867 = .ok (.laload, 1) := by decide +kernel
theorem zd_La_law_868 : decode zc_La_law 868 = .ok (.iload 6, 2) := by decide +kernel
theorem zd_La_law_870 : decode zc_La_law 870 = .ok (.ifCond .eq 7, 3) := by decide +kernel
theorem zd_La_law_877 : decode zc_La_law 877 = .ok (.lconst 0, 1) := by decide +kernel
theorem zd_La_law_873 : decode zc_La_law 873 = .ok (.lconst 1, 1) := by decide +kernel
theorem zd_La_law_874 : decode zc_La_law 874 = .ok (.goto 4, 3) := by decide +kernel
theorem zd_La_law_858 : decode zc_La_law 858 = .ok (.iconst 0, 1) := by decide +kernel
theorem zd_La_law_887 : decode zc_La_law 887 = .ok (.aload_n 1, 1) := by decide +kernel
theorem zd_La_law_888 : decode zc_La_law 888 = .ok (.aload_n 0, 1) := by decide +kernel
theorem zd_La_law_889 : decode zc_La_law 889 = .ok (.iload 4, 2) := by decide +kernel
theorem zd_La_law_891 : decode zc_La_law 891 = .ok (.iconst 1, 1) := by decide +kernel
theorem zd_La_law_892 : decode zc_La_law 892 = .ok (.iadd, 1) := by decide +kernel
theorem zd_La_law_893 : decode zc_La_law 893 = .ok (.iaload, 1) := by decide +kernel
theorem zd_La_law_894 : decode zc_La_law 894 = .ok (.aload_n 3, 1) := by decide +kernel
theorem zd_La_law_895 : decode zc_La_law 895 = .ok (.invokestatic 111, 3) := by decide +kernel
theorem zd_La_law_898 : decode zc_La_law 898 = .ok (.istore 5, 2) := by decide +kernel
theorem zd_La_law_900 : decode zc_La_law 900 = .ok (.aload_n 2, 1) := by decide +kernel
theorem zd_La_law_901 : decode zc_La_law 901 = .ok (.aload_n 0, 1) := by decide +kernel
theorem zd_La_law_902 : decode zc_La_law 902 = .ok (.iload 4, 2) := by decide +kernel
theorem zd_La_law_904 : decode zc_La_law 904 = .ok (.iconst 1, 1) := by decide +kernel
theorem zd_La_law_905 : decode zc_La_law 905 = .ok (.iadd, 1) := by decide +kernel
theorem zd_La_law_906 : decode zc_La_law 906 = .ok (.iaload, 1) := by decide +kernel
theorem zd_La_law_907 : decode zc_La_law 907 = .ok (.invokevirtual 113, 3) := by decide +kernel
theorem zd_La_law_910 : decode zc_La_law 910 = .ok (.istore 6, 2) := by decide +kernel
theorem zd_La_law_912 : decode zc_La_law 912 = .ok (.aload_n 2, 1) := by decide +kernel
theorem zd_La_law_913 : decode zc_La_law 913 = .ok (.invokevirtual 74, 3) := by decide +kernel
theorem zd_La_law_916 : decode zc_La_law 916 = .ok (.iload 5, 2) := by decide +kernel
theorem zd_La_law_918 : decode zc_La_law 918 = .ok (.if_icmp .eq 5, 3) := by decide +kernel
theorem zd_La_law_923 : decode zc_La_law 923 = .ok (.iload 5, 2) := by decide +kernel
theorem zd_La_law_925 : decode zc_La_law 925 = .ok (.ifCond .ne 15, 3) := by decide +kernel
theorem zd_La_law_928 : decode zc_La_law 928 = .ok (.aload_n 3, 1) := by decide +kernel
theorem zd_La_law_929 : decode zc_La_law 929 = .ok (.iconst 0, 1) := by decide +kernel
theorem zd_La_law_930 : decode zc_La_law 930 = .ok (.laload, 1) := by decide +kernel
theorem zd_La_law_931 : decode zc_La_law 931 = .ok (.iload 6, 2) := by decide +kernel
theorem zd_La_law_933 : decode zc_La_law 933 = .ok (.i2l, 1) := by decide +kernel
theorem zd_La_law_934 : decode zc_La_law 934 = .ok (.lcmp, 1) := by decide +kernel
theorem zd_La_law_935 : decode zc_La_law 935 = .ok (.ifCond .eq 5, 3) := by decide +kernel
theorem zd_La_law_938 : decode zc_La_law 938 = .ok (.iconst 0, 1) := by decide +kernel
theorem zd_La_law_921 : decode zc_La_law 921 = .ok (.iconst 0, 1) := by decide +kernel
theorem zd_La_law_943 : decode zc_La_law 943 = .ok (.aload_n 1, 1) := by decide +kernel
theorem zd_La_law_944 : decode zc_La_law 944 = .ok (.invokevirtual 114, 3) := by decide +kernel
theorem zd_La_law_947 : decode zc_La_law 947 = .ok (.aload_n 2, 1) := by decide +kernel
theorem zd_La_law_948 : decode zc_La_law 948 = .ok (.invokevirtual 117, 3) := by decide +kernel
theorem zd_La_law_951 : decode zc_La_law 951 = .ok (.if_icmp .eq 73, 3) := by decide +kernel
theorem zd_La_law_954 : decode zc_La_law 954 = .ok (.iconst 0, 1) := by decide +kernel
theorem zd_La_law_956 : decode zc_La_law 956 = .ok (.aload_n 1, 1) := by decide +kernel
theorem zd_La_law_957 : decode zc_La_law 957 = .ok (.aload_n 0, 1) := by decide +kernel
theorem zd_La_law_958 : decode zc_La_law 958 = .ok (.iload 4, 2) := by decide +kernel
theorem zd_La_law_960 : decode zc_La_law 960 = .ok (.iconst 1, 1) := by decide +kernel
theorem zd_La_law_961 : decode zc_La_law 961 = .ok (.iadd, 1) := by decide +kernel
theorem zd_La_law_962 : decode zc_La_law 962 = .ok (.iaload, 1) := by decide +kernel
theorem zd_La_law_963 : decode zc_La_law 963 = .ok (.aload_n 0, 1) := by decide +kernel
theorem zd_La_law_964 : decode zc_La_law 964 = .ok (.iload 4, 2) := by decide +kernel
theorem zd_La_law_966 : decode zc_La_law 966 = .ok (.iconst 2, 1) := by decide +kernel
theorem zd_La_law_967 : decode zc_La_law 967 = .ok (.iadd, 1) := by decide +kernel
theorem zd_La_law_968 : decode zc_La_law 968 = .ok (.iaload, 1) := by decide +kernel
theorem zd_La_law_969 : decode zc_La_law 969 = .ok (.aload_n 3, 1) := by decide +kernel
theorem zd_La_law_970 : decode zc_La_law 970 = .ok (.invokestatic 118, 3) := by decide +kernel
theorem zd_La_law_973 : decode zc_La_law 973 = .ok (.istore 5, 2) := by decide +kernel
theorem zd_La_law_975 : decode zc_La_law 975 = .ok (.aload_n 2, 1) := by decide +kernel
theorem zd_La_law_976 : decode zc_La_law 976 = .ok (.aload_n 0, 1) := by decide +kernel
theorem zd_La_law_977 : decode zc_La_law 977 = .ok (.iload 4, 2) := by decide +kernel
theorem zd_La_law_979 : decode zc_La_law 979 = .ok (.iconst 1, 1) := by decide +kernel
theorem zd_La_law_980 : decode zc_La_law 980 = .ok (.iadd, 1) := by decide +kernel
theorem zd_La_law_981 : decode zc_La_law 981 = .ok (.iaload, 1) := by decide +kernel
theorem zd_La_law_982 : decode zc_La_law 982 = .ok (.aload_n 0, 1) := by decide +kernel
theorem zd_La_law_983 : decode zc_La_law 983 = .ok (.iload 4, 2) := by decide +kernel
theorem zd_La_law_985 : decode zc_La_law 985 = .ok (.iconst 2, 1) := by decide +kernel
