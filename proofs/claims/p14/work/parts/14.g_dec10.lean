theorem zd_La_law_250 : decode zc_La_law 250 = .ok (.iaload, 1) := by decide +kernel
theorem zd_La_law_251 : decode zc_La_law 251 = .ok (.aload_n 0, 1) := by decide +kernel
theorem zd_La_law_252 : decode zc_La_law 252 = .ok (.iload 4, 2) := by decide +kernel
theorem zd_La_law_254 : decode zc_La_law 254 = .ok (.iconst 2, 1) := by decide +kernel
theorem zd_La_law_255 : decode zc_La_law 255 = .ok (.iadd, 1) := by decide +kernel
theorem zd_La_law_256 : decode zc_La_law 256 = .ok (.iaload, 1) := by decide +kernel
theorem zd_La_law_257 : decode zc_La_law 257 = .ok (.aload_n 0, 1) := by decide +kernel
theorem zd_La_law_258 : decode zc_La_law 258 = .ok (.iload 4, 2) := by decide +kernel
theorem zd_La_law_260 : decode zc_La_law 260 = .ok (.iconst 3, 1) := by decide +kernel
theorem zd_La_law_261 : decode zc_La_law 261 = .ok (.iadd, 1) := by decide +kernel
theorem zd_La_law_262 : decode zc_La_law 262 = .ok (.iaload, 1) := by decide +kernel
theorem zd_La_law_263 : decode zc_La_law 263 = .ok (.aload_n 0, 1) := by decide +kernel
theorem zd_La_law_264 : decode zc_La_law 264 = .ok (.iload 4, 2) := by decide +kernel
theorem zd_La_law_266 : decode zc_La_law 266 = .ok (.iconst 4, 1) := by decide +kernel
theorem zd_La_law_267 : decode zc_La_law 267 = .ok (.iadd, 1) := by decide +kernel
theorem zd_La_law_268 : decode zc_La_law 268 = .ok (.iaload, 1) := by decide +kernel
theorem zd_La_law_269 : decode zc_La_law 269 = .ok (.aload_n 0, 1) := by decide +kernel
theorem zd_La_law_270 : decode zc_La_law 270 = .ok (.iload 4, 2) := by decide +kernel
theorem zd_La_law_272 : decode zc_La_law 272 = .ok (.iconst 5, 1) := by decide +kernel
theorem zd_La_law_273 : decode zc_La_law 273 = .ok (.iadd, 1) := by decide +kernel
theorem zd_La_law_274 : decode zc_La_law 274 = .ok (.iaload, 1) := by decide +kernel
theorem zd_La_law_275 : decode zc_La_law 275 = .ok (.aload_n 0, 1) := by decide +kernel
theorem zd_La_law_276 : decode zc_La_law 276 = .ok (.iload 4, 2) := by decide +kernel
theorem zd_La_law_278 : decode zc_La_law 278 = .ok (.bipush 6, 2) := by decide +kernel
theorem zd_La_law_280 : decode zc_La_law 280 = .ok (.iadd, 1) := by decide +kernel
theorem zd_La_law_281 : decode zc_La_law 281 = .ok (.iaload, 1) := by decide +kernel
theorem zd_La_law_282 : decode zc_La_law 282 = .ok (.invokevirtual 77, 3) := by decide +kernel
theorem zd_La_law_285 : decode zc_La_law 285 = .ok (.istore 6, 2) := by decide +kernel
theorem zd_La_law_287 : decode zc_La_law 287 = .ok (.goto 442, 3) := by decide +kernel
theorem zd_La_law_290 : decode zc_La_law 290 = .ok (.aload_n 1, 1) := by decide +kernel
theorem zd_La_law_291 : decode zc_La_law 291 = .ok (.aload_n 0, 1) := by decide +kernel
theorem zd_La_law_292 : decode zc_La_law 292 = .ok (.iload 4, 2) := by decide +kernel
theorem zd_La_law_294 : decode zc_La_law 294 = .ok (.iconst 1, 1) := by decide +kernel
theorem zd_La_law_295 : decode zc_La_law 295 = .ok (.iadd, 1) := by decide +kernel
theorem zd_La_law_296 : decode zc_La_law 296 = .ok (.iaload, 1) := by decide +kernel
theorem zd_La_law_297 : decode zc_La_law 297 = .ok (.aload_n 3, 1) := by decide +kernel
theorem zd_La_law_298 : decode zc_La_law 298 = .ok (.invokestatic 78, 3) := by decide +kernel
theorem zd_La_law_301 : decode zc_La_law 301 = .ok (.istore 5, 2) := by decide +kernel
theorem zd_La_law_303 : decode zc_La_law 303 = .ok (.aload_n 2, 1) := by decide +kernel
theorem zd_La_law_304 : decode zc_La_law 304 = .ok (.aload_n 0, 1) := by decide +kernel
theorem zd_La_law_305 : decode zc_La_law 305 = .ok (.iload 4, 2) := by decide +kernel
theorem zd_La_law_307 : decode zc_La_law 307 = .ok (.iconst 1, 1) := by decide +kernel
theorem zd_La_law_308 : decode zc_La_law 308 = .ok (.iadd, 1) := by decide +kernel
theorem zd_La_law_309 : decode zc_La_law 309 = .ok (.iaload, 1) := by decide +kernel
theorem zd_La_law_310 : decode zc_La_law 310 = .ok (.invokevirtual 81, 3) := by decide +kernel
theorem zd_La_law_313 : decode zc_La_law 313 = .ok (.istore 6, 2) := by decide +kernel
theorem zd_La_law_315 : decode zc_La_law 315 = .ok (.goto 414, 3) := by decide +kernel
theorem zd_La_law_318 : decode zc_La_law 318 = .ok (.aload_n 1, 1) := by decide +kernel
theorem zd_La_law_319 : decode zc_La_law 319 = .ok (.aload_n 0, 1) := by decide +kernel
theorem zd_La_law_320 : decode zc_La_law 320 = .ok (.iload 4, 2) := by decide +kernel
theorem zd_La_law_322 : decode zc_La_law 322 = .ok (.iconst 1, 1) := by decide +kernel
theorem zd_La_law_323 : decode zc_La_law 323 = .ok (.iadd, 1) := by decide +kernel
theorem zd_La_law_324 : decode zc_La_law 324 = .ok (.iaload, 1) := by decide +kernel
theorem zd_La_law_325 : decode zc_La_law 325 = .ok (.aload_n 3, 1) := by decide +kernel
theorem zd_La_law_326 : decode zc_La_law 326 = .ok (.invokestatic 82, 3) := by decide +kernel
theorem zd_La_law_329 : decode zc_La_law 329 = .ok (.istore 5, 2) := by decide +kernel
theorem zd_La_law_331 : decode zc_La_law 331 = .ok (.aload_n 2, 1) := by decide +kernel
theorem zd_La_law_332 : decode zc_La_law 332 = .ok (.aload_n 0, 1) := by decide +kernel
theorem zd_La_law_333 : decode zc_La_law 333 = .ok (.iload 4, 2) := by decide +kernel
theorem zd_La_law_335 : decode zc_La_law 335 = .ok (.iconst 1, 1) := by decide +kernel
theorem zd_La_law_336 : decode zc_La_law 336 = .ok (.iadd, 1) := by decide +kernel
theorem zd_La_law_337 : decode zc_La_law 337 = .ok (.iaload, 1) := by decide +kernel
theorem zd_La_law_338 : decode zc_La_law 338 = .ok (.invokevirtual 84, 3) := by decide +kernel
theorem zd_La_law_341 : decode zc_La_law 341 = .ok (.istore 6, 2) := by decide +kernel
theorem zd_La_law_343 : decode zc_La_law 343 = .ok (.goto 386, 3) := by decide +kernel
theorem zd_La_law_346 : decode zc_La_law 346 = .ok (.aload_n 1, 1) := by decide +kernel
theorem zd_La_law_347 : decode zc_La_law 347 = .ok (.aload_n 0, 1) := by decide +kernel
theorem zd_La_law_348 : decode zc_La_law 348 = .ok (.iload 4, 2) := by decide +kernel
theorem zd_La_law_350 : decode zc_La_law 350 = .ok (.iconst 1, 1) := by decide +kernel
theorem zd_La_law_351 : decode zc_La_law 351 = .ok (.iadd, 1) := by decide +kernel
theorem zd_La_law_352 : decode zc_La_law 352 = .ok (.iaload, 1) := by decide +kernel
theorem zd_La_law_353 : decode zc_La_law 353 = .ok (.ifCond .eq 7, 3) := by decide +kernel
theorem zd_La_law_360 : decode zc_La_law 360 = .ok (.iconst 0, 1) := by decide +kernel
theorem zd_La_law_356 : decode zc_La_law 356 = .ok (.iconst 1, 1) := by decide +kernel
theorem zd_La_law_357 : decode zc_La_law 357 = .ok (.goto 4, 3) := by decide +kernel
theorem zd_La_law_402 : decode zc_La_law 402 = .ok (.aload_n 1, 1) := by decide +kernel
theorem zd_La_law_403 : decode zc_La_law 403 = .ok (.aload_n 0, 1) := by decide +kernel
theorem zd_La_law_404 : decode zc_La_law 404 = .ok (.iload 4, 2) := by decide +kernel
theorem zd_La_law_406 : decode zc_La_law 406 = .ok (.iconst 1, 1) := by decide +kernel
theorem zd_La_law_407 : decode zc_La_law 407 = .ok (.iadd, 1) := by decide +kernel
theorem zd_La_law_408 : decode zc_La_law 408 = .ok (.iaload, 1) := by decide +kernel
theorem zd_La_law_409 : decode zc_La_law 409 = .ok (.invokestatic 89, 3) := by decide +kernel
theorem zd_La_law_412 : decode zc_La_law 412 = .ok (.istore 5, 2) := by decide +kernel
theorem zd_La_law_414 : decode zc_La_law 414 = .ok (.aload_n 2, 1) := by decide +kernel
theorem zd_La_law_415 : decode zc_La_law 415 = .ok (.aload_n 0, 1) := by decide +kernel
theorem zd_La_law_416 : decode zc_La_law 416 = .ok (.iload 4, 2) := by decide +kernel
theorem zd_La_law_418 : decode zc_La_law 418 = .ok (.iconst 1, 1) := by decide +kernel
theorem zd_La_law_419 : decode zc_La_law 419 = .ok (.iadd, 1) := by decide +kernel
theorem zd_La_law_420 : decode zc_La_law 420 = .ok (.iaload, 1) := by decide +kernel
theorem zd_La_law_421 : decode zc_La_law 421 = .ok (.invokevirtual 92, 3) := by decide +kernel
theorem zd_La_law_424 : decode zc_La_law 424 = .ok (.goto 305, 3) := by decide +kernel
theorem zd_La_law_427 : decode zc_La_law 427 = .ok (.aload_n 1, 1) := by decide +kernel
theorem zd_La_law_428 : decode zc_La_law 428 = .ok (.aload_n 0, 1) := by decide +kernel
theorem zd_La_law_429 : decode zc_La_law 429 = .ok (.iload 4, 2) := by decide +kernel
theorem zd_La_law_431 : decode zc_La_law 431 = .ok (.iconst 1, 1) := by decide +kernel
theorem zd_La_law_432 : decode zc_La_law 432 = .ok (.iadd, 1) := by decide +kernel
theorem zd_La_law_433 : decode zc_La_law 433 = .ok (.iaload, 1) := by decide +kernel
theorem zd_La_law_434 : decode zc_La_law 434 = .ok (.aload_n 0, 1) := by decide +kernel
theorem zd_La_law_435 : decode zc_La_law 435 = .ok (.iload 4, 2) := by decide +kernel
theorem zd_La_law_437 : decode zc_La_law 437 = .ok (.iconst 2, 1) := by decide +kernel
theorem zd_La_law_438 : decode zc_La_law 438 = .ok (.iadd, 1) := by decide +kernel
theorem zd_La_law_439 : decode zc_La_law 439 = .ok (.iaload, 1) := by decide +kernel
theorem zd_La_law_440 : decode zc_La_law 440 = .ok (.aload_n 0, 1) := by decide +kernel
theorem zd_La_law_441 : decode zc_La_law 441 = .ok (.iload 4, 2) := by decide +kernel
theorem zd_La_law_443 : decode zc_La_law 443 = .ok (.iconst 3, 1) := by decide +kernel
theorem zd_La_law_444 : decode zc_La_law 444 = .ok (.iadd, 1) := by decide +kernel
theorem zd_La_law_445 : decode zc_La_law 445 = .ok (.iaload, 1) := by decide +kernel
theorem zd_La_law_446 : decode zc_La_law 446 = .ok (.aload_n 0, 1) := by decide +kernel
theorem zd_La_law_447 : decode zc_La_law 447 = .ok (.iload 4, 2) := by decide +kernel
theorem zd_La_law_449 : decode zc_La_law 449 = .ok (.iconst 4, 1) := by decide +kernel
theorem zd_La_law_450 : decode zc_La_law 450 = .ok (.iadd, 1) := by decide +kernel
theorem zd_La_law_451 : decode zc_La_law 451 = .ok (.iaload, 1) := by decide +kernel
theorem zd_La_law_452 : decode zc_La_law 452 = .ok (.invokestatic 93, 3) := by decide +kernel
theorem zd_La_law_455 : decode zc_La_law 455 = .ok (.istore 5, 2) := by decide +kernel
theorem zd_La_law_457 : decode zc_La_law 457 = .ok (.aload_n 2, 1) := by decide +kernel
theorem zd_La_law_458 : decode zc_La_law 458 = .ok (.aload_n 0, 1) := by decide +kernel
theorem zd_La_law_459 : decode zc_La_law 459 = .ok (.iload 4, 2) := by decide +kernel
theorem zd_La_law_461 : decode zc_La_law 461 = .ok (.iconst 1, 1) := by decide +kernel
theorem zd_La_law_462 : decode zc_La_law 462 = .ok (.iadd, 1) := by decide +kernel
theorem zd_La_law_463 : decode zc_La_law 463 = .ok (.iaload, 1) := by decide +kernel
theorem zd_La_law_464 : decode zc_La_law 464 = .ok (.aload_n 0, 1) := by decide +kernel
theorem zd_La_law_465 : decode zc_La_law 465 = .ok (.iload 4, 2) := by decide +kernel
theorem zd_La_law_467 : decode zc_La_law 467 = .ok (.iconst 2, 1) := by decide +kernel
theorem zd_La_law_468 : decode zc_La_law 468 = .ok (.iadd, 1) := by decide +kernel
theorem zd_La_law_469 : decode zc_La_law 469 = .ok (.iaload, 1) := by decide +kernel
theorem zd_La_law_470 : decode zc_La_law 470 = .ok (.aload_n 0, 1) := by decide +kernel
theorem zd_La_law_471 : decode zc_La_law 471 = .ok (.iload 4, 2) := by decide +kernel
theorem zd_La_law_473 : decode zc_La_law 473 = .ok (.iconst 3, 1) := by decide +kernel
theorem zd_La_law_474 : decode zc_La_law 474 = .ok (.iadd, 1) := by decide +kernel
theorem zd_La_law_475 : decode zc_La_law 475 = .ok (.iaload, 1) := by decide +kernel
theorem zd_La_law_476 : decode zc_La_law 476 = .ok (.aload_n 0, 1) := by decide +kernel
theorem zd_La_law_477 : decode zc_La_law 477 = .ok (.iload 4, 2) := by decide +kernel
theorem zd_La_law_479 : decode zc_La_law 479 = .ok (.iconst 4, 1) := by decide +kernel
theorem zd_La_law_480 : decode zc_La_law 480 = .ok (.iadd, 1) := by decide +kernel
theorem zd_La_law_481 : decode zc_La_law 481 = .ok (.iaload, 1) := by decide +kernel
theorem zd_La_law_482 : decode zc_La_law 482 = .ok (.invokevirtual 96, 3) := by decide +kernel
theorem zd_La_law_485 : decode zc_La_law 485 = .ok (.goto 244, 3) := by decide +kernel
theorem zd_La_law_488 : decode zc_La_law 488 = .ok (.aload_n 1, 1) := by decide +kernel
theorem zd_La_law_489 : decode zc_La_law 489 = .ok (.aload_n 0, 1) := by decide +kernel
theorem zd_La_law_490 : decode zc_La_law 490 = .ok (.iload 4, 2) := by decide +kernel
theorem zd_La_law_492 : decode zc_La_law 492 = .ok (.iconst 1, 1) := by decide +kernel
theorem zd_La_law_493 : decode zc_La_law 493 = .ok (.iadd, 1) := by decide +kernel
theorem zd_La_law_494 : decode zc_La_law 494 = .ok (.iaload, 1) := by decide +kernel
theorem zd_La_law_495 : decode zc_La_law 495 = .ok (.aload_n 0, 1) := by decide +kernel
theorem zd_La_law_496 : decode zc_La_law 496 = .ok (.iload 4, 2) := by decide +kernel
theorem zd_La_law_498 : decode zc_La_law 498 = .ok (.iconst 2, 1) := by decide +kernel
theorem zd_La_law_499 : decode zc_La_law 499 = .ok (.iadd, 1) := by decide +kernel
theorem zd_La_law_500 : decode zc_La_law 500 = .ok (.iaload, 1) := by decide +kernel
theorem zd_La_law_501 : decode zc_La_law 501 = .ok (.aload_n 3, 1) := by decide +kernel
theorem zd_La_law_502 : decode zc_La_law 502 = .ok (.invokestatic 97, 3) := by decide +kernel
theorem zd_La_law_505 : decode zc_La_law 505 = .ok (.istore 5, 2) := by decide +kernel
theorem zd_La_law_507 : decode zc_La_law 507 = .ok (.aload_n 2, 1) := by decide +kernel
theorem zd_La_law_508 : decode zc_La_law 508 = .ok (.aload_n 0, 1) := by decide +kernel
theorem zd_La_law_509 : decode zc_La_law 509 = .ok (.iload 4, 2) := by decide +kernel
theorem zd_La_law_511 : decode zc_La_law 511 = .ok (.iconst 1, 1) := by decide +kernel
theorem zd_La_law_512 : decode zc_La_law 512 = .ok (.iadd, 1) := by decide +kernel
theorem zd_La_law_513 : decode zc_La_law 513 = .ok (.iaload, 1) := by decide +kernel
theorem zd_La_law_514 : decode zc_La_law 514 = .ok (.aload_n 0, 1) := by decide +kernel
theorem zd_La_law_515 : decode zc_La_law 515 = .ok (.iload 4, 2) := by decide +kernel
theorem zd_La_law_517 : decode zc_La_law 517 = .ok (.iconst 2, 1) := by decide +kernel
theorem zd_La_law_518 : decode zc_La_law 518 = .ok (.iadd, 1) := by decide +kernel
theorem zd_La_law_519 : decode zc_La_law 519 = .ok (.iaload, 1) := by decide +kernel
theorem zd_La_law_520 : decode zc_La_law 520 = .ok (.invokevirtual 100, 3) := by decide +kernel
theorem zd_La_law_523 : decode zc_La_law 523 = .ok (.istore 6, 2) := by decide +kernel
theorem zd_La_law_525 : decode zc_La_law 525 = .ok (.goto 204, 3) := by decide +kernel
theorem zd_La_law_528 : decode zc_La_law 528 = .ok (.aload_n 1, 1) := by decide +kernel
theorem zd_La_law_529 : decode zc_La_law 529 = .ok (.aload_n 0, 1) := by decide +kernel
theorem zd_La_law_530 : decode zc_La_law 530 = .ok (.iload 4, 2) := by decide +kernel
theorem zd_La_law_532 : decode zc_La_law 532 = .ok (.iconst 1, 1) := by decide +kernel
theorem zd_La_law_533 : decode zc_La_law 533 = .ok (.iadd, 1) := by decide +kernel
theorem zd_La_law_534 : decode zc_La_law 534 = .ok (.iaload, 1) := by decide +kernel
theorem zd_La_law_535 : decode zc_La_law 535 = .ok (.aload_n 0, 1) := by decide +kernel
theorem zd_La_law_536 : decode zc_La_law 536 = .ok (.iload 4, 2) := by decide +kernel
theorem zd_La_law_538 : decode zc_La_law 538 = .ok (.iconst 2, 1) := by decide +kernel
theorem zd_La_law_539 : decode zc_La_law 539 = .ok (.iadd, 1) := by decide +kernel
theorem zd_La_law_540 : decode zc_La_law 540 = .ok (.iaload, 1) := by decide +kernel
theorem zd_La_law_541 : decode zc_La_law 541 = .ok (.aload_n 0, 1) := by decide +kernel
theorem zd_La_law_542 : decode zc_La_law 542 = .ok (.iload 4, 2) := by decide +kernel
theorem zd_La_law_544 : decode zc_La_law 544 = .ok (.iconst 3, 1) := by decide +kernel
theorem zd_La_law_545 : decode zc_La_law 545 = .ok (.iadd, 1) := by decide +kernel
theorem zd_La_law_546 : decode zc_La_law 546 = .ok (.iaload, 1) := by decide +kernel
theorem zd_La_law_547 : decode zc_La_law 547 = .ok (.aload_n 3, 1) := by decide +kernel
theorem zd_La_law_548 : decode zc_La_law 548 = .ok (.invokestatic 101, 3) := by decide +kernel
theorem zd_La_law_551 : decode zc_La_law 551 = .ok (.istore 5, 2) := by decide +kernel
theorem zd_La_law_553 : decode zc_La_law 553 = .ok (.aload_n 2, 1) := by decide +kernel
theorem zd_La_law_554 : decode zc_La_law 554 = .ok (.aload_n 0, 1) := by decide +kernel
theorem zd_La_law_555 : decode zc_La_law 555 = .ok (.iload 4, 2) := by decide +kernel
theorem zd_La_law_557 : decode zc_La_law 557 = .ok (.iconst 1, 1) := by decide +kernel
theorem zd_La_law_558 : decode zc_La_law 558 = .ok (.iadd, 1) := by decide +kernel
theorem zd_La_law_559 : decode zc_La_law 559 = .ok (.iaload, 1) := by decide +kernel
theorem zd_La_law_560 : decode zc_La_law 560 = .ok (.aload_n 0, 1) := by decide +kernel
theorem zd_La_law_561 : decode zc_La_law 561 = .ok (.iload 4, 2) := by decide +kernel
theorem zd_La_law_563 : decode zc_La_law 563 = .ok (.iconst 2, 1) := by decide +kernel
theorem zd_La_law_564 : decode zc_La_law 564 = .ok (.iadd, 1) := by decide +kernel
theorem zd_La_law_565 : decode zc_La_law 565 = .ok (.iaload, 1) := by decide +kernel
theorem zd_La_law_566 : decode zc_La_law 566 = .ok (.aload_n 0, 1) := by decide +kernel
theorem zd_La_law_567 : decode zc_La_law 567 = .ok (.iload 4, 2) := by decide +kernel
theorem zd_La_law_569 : decode zc_La_law 569 = .ok (.iconst 3, 1) := by decide +kernel
theorem zd_La_law_570 : decode zc_La_law 570 = .ok (.iadd, 1) := by decide +kernel
theorem zd_La_law_571 : decode zc_La_law 571 = .ok (.iaload, 1) := by decide +kernel
theorem zd_La_law_572 : decode zc_La_law 572 = .ok (.invokevirtual 103, 3) := by decide +kernel
theorem zd_La_law_575 : decode zc_La_law 575 = .ok (.istore 6, 2) := by decide +kernel
theorem zd_La_law_577 : decode zc_La_law 577 = .ok (.goto 152, 3) := by decide +kernel
theorem zd_La_law_580 : decode zc_La_law 580 = .ok (.aload_n 1, 1) := by decide +kernel
theorem zd_La_law_581 : decode zc_La_law 581 = .ok (.aload_n 0, 1) := by decide +kernel
theorem zd_La_law_582 : decode zc_La_law 582 = .ok (.iload 4, 2) := by decide +kernel
theorem zd_La_law_584 : decode zc_La_law 584 = .ok (.iconst 1, 1) := by decide +kernel
theorem zd_La_law_585 : decode zc_La_law 585 = .ok (.iadd, 1) := by decide +kernel
theorem zd_La_law_586 : decode zc_La_law 586 = .ok (.iaload, 1) := by decide +kernel
theorem zd_La_law_587 : decode zc_La_law 587 = .ok (.aload_n 0, 1) := by decide +kernel
theorem zd_La_law_588 : decode zc_La_law 588 = .ok (.iload 4, 2) := by decide +kernel
theorem zd_La_law_590 : decode zc_La_law 590 = .ok (.iconst 2, 1) := by decide +kernel
theorem zd_La_law_591 : decode zc_La_law 591 = .ok (.iadd, 1) := by decide +kernel
theorem zd_La_law_592 : decode zc_La_law 592 = .ok (.iaload, 1) := by decide +kernel
theorem zd_La_law_593 : decode zc_La_law 593 = .ok (.aload_n 3, 1) := by decide +kernel
theorem zd_La_law_594 : decode zc_La_law 594 = .ok (.invokestatic 104, 3) := by decide +kernel
theorem zd_La_law_597 : decode zc_La_law 597 = .ok (.istore 5, 2) := by decide +kernel
theorem zd_La_law_599 : decode zc_La_law 599 = .ok (.aload_n 2, 1) := by decide +kernel
theorem zd_La_law_600 : decode zc_La_law 600 = .ok (.aload_n 0, 1) := by decide +kernel
theorem zd_La_law_601 : decode zc_La_law 601 = .ok (.iload 4, 2) := by decide +kernel
theorem zd_La_law_603 : decode zc_La_law 603 = .ok (.iconst 1, 1) := by decide +kernel
theorem zd_La_law_604 : decode zc_La_law 604 = .ok (.iadd, 1) := by decide +kernel
theorem zd_La_law_605 : decode zc_La_law 605 = .ok (.iaload, 1) := by decide +kernel
theorem zd_La_law_606 : decode zc_La_law 606 = .ok (.aload_n 0, 1) := by decide +kernel
theorem zd_La_law_607 : decode zc_La_law 607 = .ok (.iload 4, 2) := by decide +kernel
theorem zd_La_law_609 : decode zc_La_law 609 = .ok (.iconst 2, 1) := by decide +kernel
theorem zd_La_law_610 : decode zc_La_law 610 = .ok (.iadd, 1) := by decide +kernel
theorem zd_La_law_611 : decode zc_La_law 611 = .ok (.iaload, 1) := by decide +kernel
theorem zd_La_law_612 : decode zc_La_law 612 = .ok (.invokevirtual 106, 3) := by decide +kernel
theorem zd_La_law_615 : decode zc_La_law 615 = .ok (.istore 6, 2) := by decide +kernel
theorem zd_La_law_617 : decode zc_La_law 617 = .ok (.goto 112, 3) := by decide +kernel
theorem zd_La_law_620 : decode zc_La_law 620 = .ok (.aload_n 1, 1) := by decide +kernel
theorem zd_La_law_621 : decode zc_La_law 621 = .ok (.aload_n 0, 1) := by decide +kernel
theorem zd_La_law_622 : decode zc_La_law 622 = .ok (.iload 4, 2) := by decide +kernel
theorem zd_La_law_624 : decode zc_La_law 624 = .ok (.iconst 1, 1) := by decide +kernel
theorem zd_La_law_625 : decode zc_La_law 625 = .ok (.iadd, 1) := by decide +kernel
theorem zd_La_law_626 : decode zc_La_law 626 = .ok (.iaload, 1) := by decide +kernel
theorem zd_La_law_627 : decode zc_La_law 627 = .ok (.aload_n 3, 1) := by decide +kernel
theorem zd_La_law_628 : decode zc_La_law 628 = .ok (.invokestatic 107, 3) := by decide +kernel
theorem zd_La_law_631 : decode zc_La_law 631 = .ok (.istore 5, 2) := by decide +kernel
theorem zd_La_law_633 : decode zc_La_law 633 = .ok (.aload_n 2, 1) := by decide +kernel
theorem zd_La_law_634 : decode zc_La_law 634 = .ok (.aload_n 0, 1) := by decide +kernel
theorem zd_La_law_635 : decode zc_La_law 635 = .ok (.iload 4, 2) := by decide +kernel
theorem zd_La_law_637 : decode zc_La_law 637 = .ok (.iconst 1, 1) := by decide +kernel
theorem zd_La_law_638 : decode zc_La_law 638 = .ok (.iadd, 1) := by decide +kernel
theorem zd_La_law_639 : decode zc_La_law 639 = .ok (.iaload, 1) := by decide +kernel
theorem zd_La_law_640 : decode zc_La_law 640 = .ok (.invokevirtual 109, 3) := by decide +kernel
theorem zd_La_law_643 : decode zc_La_law 643 = .ok (.istore 6, 2) := by decide +kernel
theorem zd_La_law_645 : decode zc_La_law 645 = .ok (.goto 84, 3) := by decide +kernel
theorem zd_La_law_648 : decode zc_La_law 648 = .ok (.aload_n 1, 1) := by decide +kernel
theorem zd_La_law_649 : decode zc_La_law 649 = .ok (.invokevirtual 110, 3) := by decide +kernel
theorem zd_La_law_652 : decode zc_La_law 652 = .ok (.pop, 1) := by decide +kernel
theorem zd_La_law_653 : decode zc_La_law 653 = .ok (.aload_n 2, 1) := by decide +kernel
theorem zd_La_law_654 : decode zc_La_law 654 = .ok (.invokevirtual 114, 3) := by decide +kernel
theorem zd_La_law_657 : decode zc_La_law 657 = .ok (.pop, 1) := by decide +kernel
theorem zd_La_law_658 : decode zc_La_law 658 = .ok (.goto 71, 3) := by decide +kernel
theorem zd_La_law_661 : decode zc_La_law 661 = .ok (.aload_n 1, 1) := by decide +kernel
theorem zd_La_law_662 : decode zc_La_law 662 = .ok (.aload_n 0, 1) := by decide +kernel
theorem zd_La_law_663 : decode zc_La_law 663 = .ok (.iload 4, 2) := by decide +kernel
theorem zd_La_law_665 : decode zc_La_law 665 = .ok (.iconst 1, 1) := by decide +kernel
theorem zd_La_law_666 : decode zc_La_law 666 = .ok (.iadd, 1) := by decide +kernel
theorem zd_La_law_667 : decode zc_La_law 667 = .ok (.iaload, 1) := by decide +kernel
theorem zd_La_law_668 : decode zc_La_law 668 = .ok (.aload_n 0, 1) := by decide +kernel
theorem zd_La_law_669 : decode zc_La_law 669 = .ok (.iload 4, 2) := by decide +kernel
theorem zd_La_law_671 : decode zc_La_law 671 = .ok (.iconst 2, 1) := by decide +kernel
theorem zd_La_law_672 : decode zc_La_law 672 = .ok (.iadd, 1) := by decide +kernel
theorem zd_La_law_673 : decode zc_La_law 673 = .ok (.iaload, 1) := by decide +kernel
theorem zd_La_law_674 : decode zc_La_law 674 = .ok (.aload_n 3, 1) := by decide +kernel
theorem zd_La_law_675 : decode zc_La_law 675 = .ok (.invokestatic 115, 3) := by decide +kernel
theorem zd_La_law_678 : decode zc_La_law 678 = .ok (.istore 5, 2) := by decide +kernel
theorem zd_La_law_680 : decode zc_La_law 680 = .ok (.aload_n 2, 1) := by decide +kernel
theorem zd_La_law_681 : decode zc_La_law 681 = .ok (.aload_n 0, 1) := by decide +kernel
theorem zd_La_law_682 : decode zc_La_law 682 = .ok (.iload 4, 2) := by decide +kernel
theorem zd_La_law_684 : decode zc_La_law 684 = .ok (.iconst 1, 1) := by decide +kernel
theorem zd_La_law_685 : decode zc_La_law 685 = .ok (.iadd, 1) := by decide +kernel
theorem zd_La_law_686 : decode zc_La_law 686 = .ok (.iaload, 1) := by decide +kernel
theorem zd_La_law_687 : decode zc_La_law 687 = .ok (.aload_n 0, 1) := by decide +kernel
theorem zd_La_law_688 : decode zc_La_law 688 = .ok (.iload 4, 2) := by decide +kernel
theorem zd_La_law_690 : decode zc_La_law 690 = .ok (.iconst 2, 1) := by decide +kernel
theorem zd_La_law_691 : decode zc_La_law 691 = .ok (.iadd, 1) := by decide +kernel
theorem zd_La_law_692 : decode zc_La_law 692 = .ok (.iaload, 1) := by decide +kernel
theorem zd_La_law_693 : decode zc_La_law 693 = .ok (.invokevirtual 117, 3) := by decide +kernel
theorem zd_La_law_696 : decode zc_La_law 696 = .ok (.istore 6, 2) := by decide +kernel
theorem zd_La_law_698 : decode zc_La_law 698 = .ok (.aload_n 2, 1) := by decide +kernel
theorem zd_La_law_699 : decode zc_La_law 699 = .ok (.invokevirtual 118, 3) := by decide +kernel
theorem zd_La_law_702 : decode zc_La_law 702 = .ok (.iload 5, 2) := by decide +kernel
theorem zd_La_law_704 : decode zc_La_law 704 = .ok (.if_icmp .eq 5, 3) := by decide +kernel
theorem zd_La_law_709 : decode zc_La_law 709 = .ok (.iload 5, 2) := by decide +kernel
theorem zd_La_law_711 : decode zc_La_law 711 = .ok (.ifCond .ne 15, 3) := by decide +kernel
theorem zd_La_law_714 : decode zc_La_law 714 = .ok (.aload_n 3, 1) := by decide +kernel
theorem zd_La_law_715 : decode zc_La_law 715 = .ok (.iconst 0, 1) := by decide +kernel
theorem zd_La_law_716 : decode zc_La_law 716 = .ok (.laload, 1) := by decide +kernel
theorem zd_La_law_717 : decode zc_La_law 717 = .ok (.iload 6, 2) := by decide +kernel
theorem zd_La_law_719 : decode zc_La_law 719 = .ok (.i2l, 1) := by decide +kernel
theorem zd_La_law_720 : decode zc_La_law 720 = .ok (.lcmp, 1) := by decide +kernel
theorem zd_La_law_721 : decode zc_La_law 721 = .ok (.ifCond .eq 5, 3) := by decide +kernel
theorem zd_La_law_724 : decode zc_La_law 724 = .ok (.iconst 0, 1) := by decide +kernel
theorem zd_La_law_707 : decode zc_La_law 707 = .ok (.iconst 0, 1) := by decide +kernel
theorem zd_La_law_361 : decode zc_La_law 361 = .ok (.aload_n 0, 1) := by decide +kernel
theorem zd_La_law_362 : decode zc_La_law 362 = .ok (.iload 4, 2) := by decide +kernel
theorem zd_La_law_364 : decode zc_La_law 364 = .ok (.iconst 2, 1) := by decide +kernel
theorem zd_La_law_365 : decode zc_La_law 365 = .ok (.iadd, 1) := by decide +kernel
theorem zd_La_law_366 : decode zc_La_law 366 = .ok (.iaload, 1) := by decide +kernel
theorem zd_La_law_367 : decode zc_La_law 367 = .ok (.aload_n 3, 1) := by decide +kernel
theorem zd_La_law_368 : decode zc_La_law 368 = .ok (.invokestatic 85, 3) := by decide +kernel
theorem zd_La_law_371 : decode zc_La_law 371 = .ok (.istore 5, 2) := by decide +kernel
theorem zd_La_law_373 : decode zc_La_law 373 = .ok (.aload_n 2, 1) := by decide +kernel
theorem zd_La_law_374 : decode zc_La_law 374 = .ok (.aload_n 0, 1) := by decide +kernel
theorem zd_La_law_375 : decode zc_La_law 375 = .ok (.iload 4, 2) := by decide +kernel
theorem zd_La_law_377 : decode zc_La_law 377 = .ok (.iconst 1, 1) := by decide +kernel
theorem zd_La_law_378 : decode zc_La_law 378 = .ok (.iadd, 1) := by decide +kernel
theorem zd_La_law_379 : decode zc_La_law 379 = .ok (.iaload, 1) := by decide +kernel
theorem zd_La_law_380 : decode zc_La_law 380 = .ok (.ifCond .eq 7, 3) := by decide +kernel
theorem zd_La_law_387 : decode zc_La_law 387 = .ok (.iconst 0, 1) := by decide +kernel
theorem zd_La_law_383 : decode zc_La_law 383 = .ok (.iconst 1, 1) := by decide +kernel
theorem zd_La_law_384 : decode zc_La_law 384 = .ok (.goto 4, 3) := by decide +kernel
theorem zd_La_law_388 : decode zc_La_law 388 = .ok (.aload_n 0, 1) := by decide +kernel
theorem zd_La_law_389 : decode zc_La_law 389 = .ok (.iload 4, 2) := by decide +kernel
theorem zd_La_law_391 : decode zc_La_law 391 = .ok (.iconst 2, 1) := by decide +kernel
theorem zd_La_law_392 : decode zc_La_law 392 = .ok (.iadd, 1) := by decide +kernel
theorem zd_La_law_393 : decode zc_La_law 393 = .ok (.iaload, 1) := by decide +kernel
theorem zd_La_law_394 : decode zc_La_law 394 = .ok (.invokevirtual 88, 3) := by decide +kernel
theorem zd_La_law_397 : decode zc_La_law 397 = .ok (.istore 6, 2) := by decide +kernel
theorem zd_La_law_399 : decode zc_La_law 399 = .ok (.goto 330, 3) := by decide +kernel
theorem zd_La_law_726 : decode zc_La_law 726 = .ok (.goto 3, 3) := by decide +kernel
theorem zd_La_law_729 : decode zc_La_law 729 = .ok (.iinc 4 7, 3) := by decide +kernel
theorem zd_La_law_732 : decode zc_La_law 732 = .ok (.goto (-669), 3) := by decide +kernel
