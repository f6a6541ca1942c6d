theorem dL_refuses_282 : decode cL_refuses 282 = .ok (.iconst 0, 1) := by decide +kernel
theorem dL_refuses_283 : decode cL_refuses 283 = .ok (.iconst 1, 1) := by decide +kernel
theorem dL_refuses_284 : decode cL_refuses 284 = .ok (.iconst 5, 1) := by decide +kernel
theorem dL_refuses_285 : decode cL_refuses 285 = .ok (.invokestatic 121, 3) := by decide +kernel
theorem dL_refuses_288 : decode cL_refuses 288 = .ok (.ldc 15, 2) := by decide +kernel
theorem dL_refuses_290 : decode cL_refuses 290 = .ok (.if_icmp .ne 263, 3) := by decide +kernel
theorem dL_refuses_293 : decode cL_refuses 293 = .ok (.aload_n 0, 1) := by decide +kernel
theorem dL_refuses_294 : decode cL_refuses 294 = .ok (.iconst (-1), 1) := by decide +kernel
theorem dL_refuses_295 : decode cL_refuses 295 = .ok (.iconst 0, 1) := by decide +kernel
theorem dL_refuses_296 : decode cL_refuses 296 = .ok (.iconst 0, 1) := by decide +kernel
theorem dL_refuses_297 : decode cL_refuses 297 = .ok (.iconst 1, 1) := by decide +kernel
theorem dL_refuses_298 : decode cL_refuses 298 = .ok (.iconst 5, 1) := by decide +kernel
theorem dL_refuses_299 : decode cL_refuses 299 = .ok (.invokestatic 121, 3) := by decide +kernel
theorem dL_refuses_302 : decode cL_refuses 302 = .ok (.ldc 15, 2) := by decide +kernel
theorem dL_refuses_304 : decode cL_refuses 304 = .ok (.if_icmp .ne 249, 3) := by decide +kernel
theorem dL_refuses_307 : decode cL_refuses 307 = .ok (.aload_n 0, 1) := by decide +kernel
theorem dL_refuses_308 : decode cL_refuses 308 = .ok (.iconst 0, 1) := by decide +kernel
theorem dL_refuses_309 : decode cL_refuses 309 = .ok (.bipush 6, 2) := by decide +kernel
theorem dL_refuses_311 : decode cL_refuses 311 = .ok (.iload_n 1, 1) := by decide +kernel
theorem dL_refuses_312 : decode cL_refuses 312 = .ok (.iadd, 1) := by decide +kernel
theorem dL_refuses_313 : decode cL_refuses 313 = .ok (.iconst 0, 1) := by decide +kernel
theorem dL_refuses_314 : decode cL_refuses 314 = .ok (.iconst 1, 1) := by decide +kernel
theorem dL_refuses_315 : decode cL_refuses 315 = .ok (.iconst 5, 1) := by decide +kernel
theorem dL_refuses_316 : decode cL_refuses 316 = .ok (.invokestatic 121, 3) := by decide +kernel
theorem dL_refuses_319 : decode cL_refuses 319 = .ok (.ldc 15, 2) := by decide +kernel
theorem dL_refuses_321 : decode cL_refuses 321 = .ok (.if_icmp .ne 232, 3) := by decide +kernel
theorem dL_refuses_324 : decode cL_refuses 324 = .ok (.aload_n 0, 1) := by decide +kernel
theorem dL_refuses_325 : decode cL_refuses 325 = .ok (.iconst 0, 1) := by decide +kernel
theorem dL_refuses_326 : decode cL_refuses 326 = .ok (.iconst 0, 1) := by decide +kernel
theorem dL_refuses_327 : decode cL_refuses 327 = .ok (.iconst (-1), 1) := by decide +kernel
theorem dL_refuses_328 : decode cL_refuses 328 = .ok (.iload_n 1, 1) := by decide +kernel
theorem dL_refuses_329 : decode cL_refuses 329 = .ok (.isub, 1) := by decide +kernel
theorem dL_refuses_330 : decode cL_refuses 330 = .ok (.iconst 1, 1) := by decide +kernel
theorem dL_refuses_331 : decode cL_refuses 331 = .ok (.iconst 5, 1) := by decide +kernel
theorem dL_refuses_332 : decode cL_refuses 332 = .ok (.invokestatic 121, 3) := by decide +kernel
theorem dL_refuses_335 : decode cL_refuses 335 = .ok (.ldc 15, 2) := by decide +kernel
theorem dL_refuses_337 : decode cL_refuses 337 = .ok (.if_icmp .ne 216, 3) := by decide +kernel
theorem dL_refuses_340 : decode cL_refuses 340 = .ok (.aload_n 0, 1) := by decide +kernel
theorem dL_refuses_341 : decode cL_refuses 341 = .ok (.iconst 0, 1) := by decide +kernel
theorem dL_refuses_342 : decode cL_refuses 342 = .ok (.iconst 0, 1) := by decide +kernel
theorem dL_refuses_343 : decode cL_refuses 343 = .ok (.iconst 0, 1) := by decide +kernel
theorem dL_refuses_344 : decode cL_refuses 344 = .ok (.iconst 1, 1) := by decide +kernel
theorem dL_refuses_345 : decode cL_refuses 345 = .ok (.iload_n 1, 1) := by decide +kernel
theorem dL_refuses_346 : decode cL_refuses 346 = .ok (.ineg, 1) := by decide +kernel
theorem dL_refuses_347 : decode cL_refuses 347 = .ok (.invokestatic 121, 3) := by decide +kernel
theorem dL_refuses_350 : decode cL_refuses 350 = .ok (.ldc 15, 2) := by decide +kernel
theorem dL_refuses_352 : decode cL_refuses 352 = .ok (.if_icmp .ne 201, 3) := by decide +kernel
theorem dL_refuses_355 : decode cL_refuses 355 = .ok (.aload_n 0, 1) := by decide +kernel
theorem dL_refuses_356 : decode cL_refuses 356 = .ok (.iload_n 2, 1) := by decide +kernel
theorem dL_refuses_357 : decode cL_refuses 357 = .ok (.iconst 0, 1) := by decide +kernel
theorem dL_refuses_358 : decode cL_refuses 358 = .ok (.invokestatic 125, 3) := by decide +kernel
theorem dL_refuses_361 : decode cL_refuses 361 = .ok (.ldc 25, 2) := by decide +kernel
theorem dL_refuses_363 : decode cL_refuses 363 = .ok (.if_icmp .ne 190, 3) := by decide +kernel
theorem dL_refuses_366 : decode cL_refuses 366 = .ok (.aload_n 0, 1) := by decide +kernel
theorem dL_refuses_367 : decode cL_refuses 367 = .ok (.iload_n 3, 1) := by decide +kernel
theorem dL_refuses_368 : decode cL_refuses 368 = .ok (.invokestatic 128, 3) := by decide +kernel
theorem dL_refuses_371 : decode cL_refuses 371 = .ok (.ldc 25, 2) := by decide +kernel
theorem dL_refuses_373 : decode cL_refuses 373 = .ok (.if_icmp .ne 180, 3) := by decide +kernel
theorem dL_refuses_376 : decode cL_refuses 376 = .ok (.aload_n 0, 1) := by decide +kernel
theorem dL_refuses_377 : decode cL_refuses 377 = .ok (.iload_n 3, 1) := by decide +kernel
theorem dL_refuses_378 : decode cL_refuses 378 = .ok (.invokestatic 130, 3) := by decide +kernel
theorem dL_refuses_381 : decode cL_refuses 381 = .ok (.ldc 25, 2) := by decide +kernel
theorem dL_refuses_383 : decode cL_refuses 383 = .ok (.if_icmp .ne 170, 3) := by decide +kernel
theorem dL_refuses_386 : decode cL_refuses 386 = .ok (.aload_n 0, 1) := by decide +kernel
theorem dL_refuses_387 : decode cL_refuses 387 = .ok (.iload_n 3, 1) := by decide +kernel
theorem dL_refuses_388 : decode cL_refuses 388 = .ok (.invokestatic 133, 3) := by decide +kernel
theorem dL_refuses_391 : decode cL_refuses 391 = .ok (.ldc 25, 2) := by decide +kernel
theorem dL_refuses_393 : decode cL_refuses 393 = .ok (.if_icmp .ne 160, 3) := by decide +kernel
theorem dL_refuses_396 : decode cL_refuses 396 = .ok (.aload_n 0, 1) := by decide +kernel
theorem dL_refuses_397 : decode cL_refuses 397 = .ok (.iload 4, 2) := by decide +kernel
theorem dL_refuses_399 : decode cL_refuses 399 = .ok (.iconst 0, 1) := by decide +kernel
theorem dL_refuses_400 : decode cL_refuses 400 = .ok (.invokestatic 136, 3) := by decide +kernel
theorem dL_refuses_403 : decode cL_refuses 403 = .ok (.ldc 15, 2) := by decide +kernel
theorem dL_refuses_405 : decode cL_refuses 405 = .ok (.if_icmp .ne 148, 3) := by decide +kernel
theorem dL_refuses_408 : decode cL_refuses 408 = .ok (.aload_n 0, 1) := by decide +kernel
theorem dL_refuses_409 : decode cL_refuses 409 = .ok (.iload_n 1, 1) := by decide +kernel
theorem dL_refuses_410 : decode cL_refuses 410 = .ok (.bipush 8, 2) := by decide +kernel
theorem dL_refuses_412 : decode cL_refuses 412 = .ok (.irem, 1) := by decide +kernel
theorem dL_refuses_413 : decode cL_refuses 413 = .ok (.bipush 10, 2) := by decide +kernel
theorem dL_refuses_415 : decode cL_refuses 415 = .ok (.iload_n 1, 1) := by decide +kernel
theorem dL_refuses_416 : decode cL_refuses 416 = .ok (.iadd, 1) := by decide +kernel
theorem dL_refuses_417 : decode cL_refuses 417 = .ok (.invokestatic 136, 3) := by decide +kernel
theorem dL_refuses_420 : decode cL_refuses 420 = .ok (.ldc 15, 2) := by decide +kernel
theorem dL_refuses_422 : decode cL_refuses 422 = .ok (.if_icmp .ne 131, 3) := by decide +kernel
theorem dL_refuses_425 : decode cL_refuses 425 = .ok (.aload_n 0, 1) := by decide +kernel
theorem dL_refuses_426 : decode cL_refuses 426 = .ok (.iload_n 1, 1) := by decide +kernel
theorem dL_refuses_427 : decode cL_refuses 427 = .ok (.bipush 8, 2) := by decide +kernel
theorem dL_refuses_429 : decode cL_refuses 429 = .ok (.irem, 1) := by decide +kernel
theorem dL_refuses_430 : decode cL_refuses 430 = .ok (.iconst (-1), 1) := by decide +kernel
theorem dL_refuses_431 : decode cL_refuses 431 = .ok (.invokestatic 136, 3) := by decide +kernel
theorem dL_refuses_434 : decode cL_refuses 434 = .ok (.ldc 15, 2) := by decide +kernel
theorem dL_refuses_436 : decode cL_refuses 436 = .ok (.if_icmp .ne 117, 3) := by decide +kernel
theorem dL_refuses_439 : decode cL_refuses 439 = .ok (.aload_n 0, 1) := by decide +kernel
theorem dL_refuses_440 : decode cL_refuses 440 = .ok (.iload_n 2, 1) := by decide +kernel
theorem dL_refuses_441 : decode cL_refuses 441 = .ok (.invokestatic 138, 3) := by decide +kernel
theorem dL_refuses_444 : decode cL_refuses 444 = .ok (.ldc 25, 2) := by decide +kernel
theorem dL_refuses_446 : decode cL_refuses 446 = .ok (.if_icmp .ne 107, 3) := by decide +kernel
theorem dL_refuses_449 : decode cL_refuses 449 = .ok (.aload_n 0, 1) := by decide +kernel
theorem dL_refuses_450 : decode cL_refuses 450 = .ok (.iload_n 2, 1) := by decide +kernel
theorem dL_refuses_451 : decode cL_refuses 451 = .ok (.invokestatic 140, 3) := by decide +kernel
theorem dL_refuses_454 : decode cL_refuses 454 = .ok (.ldc 25, 2) := by decide +kernel
theorem dL_refuses_456 : decode cL_refuses 456 = .ok (.if_icmp .ne 97, 3) := by decide +kernel
theorem dL_refuses_459 : decode cL_refuses 459 = .ok (.aload_n 0, 1) := by decide +kernel
theorem dL_refuses_460 : decode cL_refuses 460 = .ok (.iload_n 2, 1) := by decide +kernel
theorem dL_refuses_461 : decode cL_refuses 461 = .ok (.invokestatic 142, 3) := by decide +kernel
theorem dL_refuses_464 : decode cL_refuses 464 = .ok (.ldc 25, 2) := by decide +kernel
theorem dL_refuses_466 : decode cL_refuses 466 = .ok (.if_icmp .ne 87, 3) := by decide +kernel
theorem dL_refuses_469 : decode cL_refuses 469 = .ok (.aload_n 0, 1) := by decide +kernel
theorem dL_refuses_470 : decode cL_refuses 470 = .ok (.iconst 0, 1) := by decide +kernel
theorem dL_refuses_471 : decode cL_refuses 471 = .ok (.invokestatic 144, 3) := by decide +kernel
theorem dL_refuses_474 : decode cL_refuses 474 = .ok (.ldc 15, 2) := by decide +kernel
theorem dL_refuses_476 : decode cL_refuses 476 = .ok (.if_icmp .ne 77, 3) := by decide +kernel
theorem dL_refuses_479 : decode cL_refuses 479 = .ok (.aload_n 0, 1) := by decide +kernel
theorem dL_refuses_480 : decode cL_refuses 480 = .ok (.sipush 3001, 3) := by decide +kernel
theorem dL_refuses_483 : decode cL_refuses 483 = .ok (.iload_n 1, 1) := by decide +kernel
theorem dL_refuses_484 : decode cL_refuses 484 = .ok (.iadd, 1) := by decide +kernel
theorem dL_refuses_485 : decode cL_refuses 485 = .ok (.invokestatic 144, 3) := by decide +kernel
theorem dL_refuses_488 : decode cL_refuses 488 = .ok (.ldc 15, 2) := by decide +kernel
theorem dL_refuses_490 : decode cL_refuses 490 = .ok (.if_icmp .ne 63, 3) := by decide +kernel
theorem dL_refuses_493 : decode cL_refuses 493 = .ok (.aload_n 0, 1) := by decide +kernel
theorem dL_refuses_494 : decode cL_refuses 494 = .ok (.invokevirtual 82, 3) := by decide +kernel
theorem dL_refuses_497 : decode cL_refuses 497 = .ok (.bipush 16, 2) := by decide +kernel
theorem dL_refuses_499 : decode cL_refuses 499 = .ok (.if_icmp .lt 14, 3) := by decide +kernel
theorem dL_refuses_502 : decode cL_refuses 502 = .ok (.aload_n 0, 1) := by decide +kernel
theorem dL_refuses_503 : decode cL_refuses 503 = .ok (.iconst 0, 1) := by decide +kernel
theorem dL_refuses_504 : decode cL_refuses 504 = .ok (.iconst 0, 1) := by decide +kernel
theorem dL_refuses_505 : decode cL_refuses 505 = .ok (.invokestatic 89, 3) := by decide +kernel
theorem dL_refuses_508 : decode cL_refuses 508 = .ok (.ldc 18, 2) := by decide +kernel
theorem dL_refuses_510 : decode cL_refuses 510 = .ok (.if_icmp .ne 43, 3) := by decide +kernel
theorem dL_refuses_513 : decode cL_refuses 513 = .ok (.aload_n 0, 1) := by decide +kernel
theorem dL_refuses_514 : decode cL_refuses 514 = .ok (.invokevirtual 86, 3) := by decide +kernel
theorem dL_refuses_517 : decode cL_refuses 517 = .ok (.bipush 120, 2) := by decide +kernel
theorem dL_refuses_519 : decode cL_refuses 519 = .ok (.if_icmp .lt 30, 3) := by decide +kernel
theorem dL_refuses_522 : decode cL_refuses 522 = .ok (.aload_n 0, 1) := by decide +kernel
theorem dL_refuses_523 : decode cL_refuses 523 = .ok (.iconst 0, 1) := by decide +kernel
theorem dL_refuses_524 : decode cL_refuses 524 = .ok (.iconst 0, 1) := by decide +kernel
theorem dL_refuses_525 : decode cL_refuses 525 = .ok (.iconst 1, 1) := by decide +kernel
theorem dL_refuses_526 : decode cL_refuses 526 = .ok (.iconst 5, 1) := by decide +kernel
theorem dL_refuses_527 : decode cL_refuses 527 = .ok (.invokestatic 117, 3) := by decide +kernel
theorem dL_refuses_530 : decode cL_refuses 530 = .ok (.ldc 18, 2) := by decide +kernel
theorem dL_refuses_532 : decode cL_refuses 532 = .ok (.if_icmp .ne 21, 3) := by decide +kernel
theorem dL_refuses_535 : decode cL_refuses 535 = .ok (.aload_n 0, 1) := by decide +kernel
theorem dL_refuses_536 : decode cL_refuses 536 = .ok (.iconst 0, 1) := by decide +kernel
theorem dL_refuses_537 : decode cL_refuses 537 = .ok (.iconst 0, 1) := by decide +kernel
theorem dL_refuses_538 : decode cL_refuses 538 = .ok (.iconst 0, 1) := by decide +kernel
theorem dL_refuses_539 : decode cL_refuses 539 = .ok (.iconst 1, 1) := by decide +kernel
theorem dL_refuses_540 : decode cL_refuses 540 = .ok (.iconst 5, 1) := by decide +kernel
theorem dL_refuses_541 : decode cL_refuses 541 = .ok (.invokestatic 121, 3) := by decide +kernel
theorem dL_refuses_544 : decode cL_refuses 544 = .ok (.ldc 18, 2) := by decide +kernel
theorem dL_refuses_546 : decode cL_refuses 546 = .ok (.if_icmp .ne 7, 3) := by decide +kernel
theorem dL_refuses_549 : decode cL_refuses 549 = .ok (.iconst 1, 1) := by decide +kernel
theorem dL_refuses_550 : decode cL_refuses 550 = .ok (.goto 4, 3) := by decide +kernel
theorem dL_refuses_553 : decode cL_refuses 553 = .ok (.iconst 0, 1) := by decide +kernel
theorem dL_refuses_554 : decode cL_refuses 554 = .ok (.istore 5, 2) := by decide +kernel
theorem dL_refuses_556 : decode cL_refuses 556 = .ok (.iload 5, 2) := by decide +kernel
theorem dL_refuses_558 : decode cL_refuses 558 = .ok (.ifCond .eq 153, 3) := by decide +kernel
theorem dL_refuses_561 : decode cL_refuses 561 = .ok (.aload_n 0, 1) := by decide +kernel
theorem dL_refuses_562 : decode cL_refuses 562 = .ok (.invokevirtual 82, 3) := by decide +kernel
theorem dL_refuses_565 : decode cL_refuses 565 = .ok (.ifCond .le 146, 3) := by decide +kernel
theorem dL_refuses_568 : decode cL_refuses 568 = .ok (.iload_n 1, 1) := by decide +kernel
theorem dL_refuses_569 : decode cL_refuses 569 = .ok (.aload_n 0, 1) := by decide +kernel
theorem dL_refuses_570 : decode cL_refuses 570 = .ok (.invokevirtual 82, 3) := by decide +kernel
theorem dL_refuses_573 : decode cL_refuses 573 = .ok (.irem, 1) := by decide +kernel
theorem dL_refuses_574 : decode cL_refuses 574 = .ok (.istore 6, 2) := by decide +kernel
theorem dL_refuses_576 : decode cL_refuses 576 = .ok (.aload_n 0, 1) := by decide +kernel
theorem dL_refuses_577 : decode cL_refuses 577 = .ok (.iload 6, 2) := by decide +kernel
theorem dL_refuses_579 : decode cL_refuses 579 = .ok (.iconst (-1), 1) := by decide +kernel
theorem dL_refuses_580 : decode cL_refuses 580 = .ok (.iload_n 1, 1) := by decide +kernel
theorem dL_refuses_581 : decode cL_refuses 581 = .ok (.isub, 1) := by decide +kernel
theorem dL_refuses_582 : decode cL_refuses 582 = .ok (.iconst 5, 1) := by decide +kernel
theorem dL_refuses_583 : decode cL_refuses 583 = .ok (.invokestatic 102, 3) := by decide +kernel
theorem dL_refuses_586 : decode cL_refuses 586 = .ok (.ldc 15, 2) := by decide +kernel
theorem dL_refuses_588 : decode cL_refuses 588 = .ok (.if_icmp .ne 52, 3) := by decide +kernel
theorem dL_refuses_591 : decode cL_refuses 591 = .ok (.aload_n 0, 1) := by decide +kernel
theorem dL_refuses_592 : decode cL_refuses 592 = .ok (.iload 6, 2) := by decide +kernel
theorem dL_refuses_594 : decode cL_refuses 594 = .ok (.iconst 5, 1) := by decide +kernel
theorem dL_refuses_595 : decode cL_refuses 595 = .ok (.sipush 1440, 3) := by decide +kernel
theorem dL_refuses_598 : decode cL_refuses 598 = .ok (.iload_n 1, 1) := by decide +kernel
theorem dL_refuses_599 : decode cL_refuses 599 = .ok (.iadd, 1) := by decide +kernel
theorem dL_refuses_600 : decode cL_refuses 600 = .ok (.invokestatic 102, 3) := by decide +kernel
theorem dL_refuses_603 : decode cL_refuses 603 = .ok (.ldc 15, 2) := by decide +kernel
theorem dL_refuses_605 : decode cL_refuses 605 = .ok (.if_icmp .ne 35, 3) := by decide +kernel
theorem dL_refuses_608 : decode cL_refuses 608 = .ok (.aload_n 0, 1) := by decide +kernel
theorem dL_refuses_609 : decode cL_refuses 609 = .ok (.iload 6, 2) := by decide +kernel
theorem dL_refuses_611 : decode cL_refuses 611 = .ok (.bipush 6, 2) := by decide +kernel
theorem dL_refuses_613 : decode cL_refuses 613 = .ok (.iload_n 1, 1) := by decide +kernel
theorem dL_refuses_614 : decode cL_refuses 614 = .ok (.iadd, 1) := by decide +kernel
theorem dL_refuses_615 : decode cL_refuses 615 = .ok (.iconst 1, 1) := by decide +kernel
theorem dL_refuses_616 : decode cL_refuses 616 = .ok (.invokestatic 106, 3) := by decide +kernel
theorem dL_refuses_619 : decode cL_refuses 619 = .ok (.ldc 15, 2) := by decide +kernel
theorem dL_refuses_621 : decode cL_refuses 621 = .ok (.if_icmp .ne 19, 3) := by decide +kernel
theorem dL_refuses_624 : decode cL_refuses 624 = .ok (.aload_n 0, 1) := by decide +kernel
theorem dL_refuses_625 : decode cL_refuses 625 = .ok (.iload 6, 2) := by decide +kernel
theorem dL_refuses_627 : decode cL_refuses 627 = .ok (.iload_n 3, 1) := by decide +kernel
theorem dL_refuses_628 : decode cL_refuses 628 = .ok (.invokestatic 125, 3) := by decide +kernel
theorem dL_refuses_631 : decode cL_refuses 631 = .ok (.ldc 25, 2) := by decide +kernel
theorem dL_refuses_633 : decode cL_refuses 633 = .ok (.if_icmp .ne 7, 3) := by decide +kernel
theorem dL_refuses_636 : decode cL_refuses 636 = .ok (.iconst 1, 1) := by decide +kernel
theorem dL_refuses_637 : decode cL_refuses 637 = .ok (.goto 4, 3) := by decide +kernel
theorem dL_refuses_640 : decode cL_refuses 640 = .ok (.iconst 0, 1) := by decide +kernel
theorem dL_refuses_641 : decode cL_refuses 641 = .ok (.istore 5, 2) := by decide +kernel
theorem dL_refuses_643 : decode cL_refuses 643 = .ok (.iload 5, 2) := by decide +kernel
theorem dL_refuses_645 : decode cL_refuses 645 = .ok (.ifCond .eq 66, 3) := by decide +kernel
theorem dL_refuses_648 : decode cL_refuses 648 = .ok (.aload_n 0, 1) := by decide +kernel
theorem dL_refuses_649 : decode cL_refuses 649 = .ok (.invokevirtual 86, 3) := by decide +kernel
theorem dL_refuses_652 : decode cL_refuses 652 = .ok (.ifCond .le 59, 3) := by decide +kernel
theorem dL_refuses_655 : decode cL_refuses 655 = .ok (.iload_n 1, 1) := by decide +kernel
theorem dL_refuses_656 : decode cL_refuses 656 = .ok (.bipush 16, 2) := by decide +kernel
theorem dL_refuses_658 : decode cL_refuses 658 = .ok (.idiv, 1) := by decide +kernel
theorem dL_refuses_659 : decode cL_refuses 659 = .ok (.aload_n 0, 1) := by decide +kernel
theorem dL_refuses_660 : decode cL_refuses 660 = .ok (.invokevirtual 86, 3) := by decide +kernel
theorem dL_refuses_663 : decode cL_refuses 663 = .ok (.irem, 1) := by decide +kernel
theorem dL_refuses_664 : decode cL_refuses 664 = .ok (.istore 7, 2) := by decide +kernel
theorem dL_refuses_666 : decode cL_refuses 666 = .ok (.aload_n 0, 1) := by decide +kernel
theorem dL_refuses_667 : decode cL_refuses 667 = .ok (.iload 7, 2) := by decide +kernel
theorem dL_refuses_669 : decode cL_refuses 669 = .ok (.invokestatic 133, 3) := by decide +kernel
theorem dL_refuses_672 : decode cL_refuses 672 = .ok (.iload 6, 2) := by decide +kernel
theorem dL_refuses_674 : decode cL_refuses 674 = .ok (.ishr, 1) := by decide +kernel
theorem dL_refuses_675 : decode cL_refuses 675 = .ok (.iconst 1, 1) := by decide +kernel
theorem dL_refuses_676 : decode cL_refuses 676 = .ok (.iand, 1) := by decide +kernel
theorem dL_refuses_677 : decode cL_refuses 677 = .ok (.iconst 1, 1) := by decide +kernel
theorem dL_refuses_678 : decode cL_refuses 678 = .ok (.if_icmp .ne 13, 3) := by decide +kernel
theorem dL_refuses_681 : decode cL_refuses 681 = .ok (.aload_n 0, 1) := by decide +kernel
theorem dL_refuses_682 : decode cL_refuses 682 = .ok (.iload 7, 2) := by decide +kernel
theorem dL_refuses_684 : decode cL_refuses 684 = .ok (.invokestatic 128, 3) := by decide +kernel
theorem dL_refuses_687 : decode cL_refuses 687 = .ok (.iconst 1, 1) := by decide +kernel
theorem dL_refuses_688 : decode cL_refuses 688 = .ok (.if_icmp .eq 16, 3) := by decide +kernel
theorem dL_refuses_691 : decode cL_refuses 691 = .ok (.aload_n 0, 1) := by decide +kernel
theorem dL_refuses_692 : decode cL_refuses 692 = .ok (.iload 6, 2) := by decide +kernel
theorem dL_refuses_694 : decode cL_refuses 694 = .ok (.iload 7, 2) := by decide +kernel
theorem dL_refuses_696 : decode cL_refuses 696 = .ok (.invokestatic 125, 3) := by decide +kernel
theorem dL_refuses_699 : decode cL_refuses 699 = .ok (.ldc 18, 2) := by decide +kernel
theorem dL_refuses_701 : decode cL_refuses 701 = .ok (.if_icmp .ne 7, 3) := by decide +kernel
theorem dL_refuses_704 : decode cL_refuses 704 = .ok (.iconst 1, 1) := by decide +kernel
theorem dL_refuses_705 : decode cL_refuses 705 = .ok (.goto 4, 3) := by decide +kernel
theorem dL_refuses_708 : decode cL_refuses 708 = .ok (.iconst 0, 1) := by decide +kernel
theorem dL_refuses_709 : decode cL_refuses 709 = .ok (.istore 5, 2) := by decide +kernel
theorem dL_refuses_711 : decode cL_refuses 711 = .ok (.iload 5, 2) := by decide +kernel
theorem dL_refuses_713 : decode cL_refuses 713 = .ok (.ireturn, 1) := by decide +kernel
set_option maxRecDepth 20000 in
theorem ggL_act_X0_devices : GoodIn wsL_act wsX0_devices := goodIn_r _ [5, 6, 226, 227, 228, 229, 230, 231, 232, 233, 234, 235, 236, 237, 238, 239, 240, 241, 242, 243, 244] (by decide +kernel) (by decide +kernel)
set_option maxRecDepth 20000 in
theorem gL_act_X0_devices : GoodIn wsL_act (wsV RL 82 RX0 yX0_devices wsX0_devices) := goodIn_app (goodIn_of _ (by decide +kernel)) ggL_act_X0_devices
set_option maxRecDepth 20000 in
theorem ggL_act_L_adds : GoodIn wsL_act wsL_adds := goodIn_ca (goodIn_ca (goodIn_r _ [10, 11, 12, 13, 14, 15, 16, 17, 4, 18, 19, 20, 6, 21, 22, 23, 24, 25, 26, 27, 28, 29, 30, 31, 32, 226, 227, 228, 229, 230, 231, 232, 233, 234, 235, 236, 237, 238, 239, 240, 241, 242, 243, 244] (by decide +kernel) (by decide +kernel)) (goodIn_sub (fun _ h => List.mem_cons_of_mem _ (List.mem_append_left _ (List.mem_append_left _ (List.mem_append_right _ h)))) (by decide +kernel))) (goodIn_sub (fun _ h => List.mem_cons_of_mem _ (List.mem_append_left _ (List.mem_append_right _ h))) (by decide +kernel))
set_option maxRecDepth 20000 in
theorem gL_act_L_adds : GoodIn wsL_act (va_wsS RL 89 yL_adds wsL_adds) := goodIn_app (goodIn_of _ (by decide +kernel)) ggL_act_L_adds
set_option maxRecDepth 20000 in
theorem ggL_act_L_online : GoodIn wsL_act wsL_online := goodIn_ca (goodIn_r _ [35, 36, 37, 38, 39, 40, 4, 41, 24, 42, 43, 44, 45, 46, 47, 6, 48, 49, 50, 30, 31, 32, 51, 52, 53, 54, 55, 56, 57, 58, 59, 60, 61, 62, 63, 64, 65, 66, 67, 68, 69, 70, 71, 72, 73, 21, 74, 75, 76, 77, 78, 79, 80, 81, 82, 83, 84, 85, 86, 87, 88, 89, 90, 91, 92, 93, 94, 95, 96, 97, 98, 99, 100, 101, 102, 103, 104, 105, 106, 107, 108, 109, 110, 111, 112, 113, 114, 115, 116, 226, 227, 228, 229, 230, 231, 232, 233, 234, 235, 236, 237, 238, 239, 240, 241, 242, 243, 244] (by decide +kernel) (by decide +kernel)) (goodIn_sub (fun _ h => List.mem_cons_of_mem _ (List.mem_append_right _ h)) (by decide +kernel))
set_option maxRecDepth 20000 in
theorem gL_act_L_online : GoodIn wsL_act (va_wsS RL 95 yL_online wsL_online) := goodIn_app (goodIn_of _ (by decide +kernel)) ggL_act_L_online
set_option maxRecDepth 20000 in
theorem ggL_act_L_dozes : GoodIn wsL_act wsL_dozes := goodIn_ca (goodIn_r _ [119, 36, 37, 120, 121, 122, 4, 123, 63, 42, 43, 44, 45, 46, 47, 6, 48, 49, 50, 30, 31, 32, 51, 52, 53, 54, 55, 56, 57, 58, 59, 60, 61, 62, 24, 64, 65, 66, 67, 68, 69, 70, 71, 72, 73, 21, 74, 75, 76, 77, 78, 79, 80, 81, 82, 83, 84, 85, 86, 87, 88, 89, 90, 91, 92, 93, 94, 95, 96, 97, 98, 99, 100, 101, 102, 103, 104, 105, 106, 107, 108, 109, 110, 111, 112, 113, 114, 115, 116, 226, 227, 228, 229, 230, 231, 232, 233, 234, 235, 236, 237, 238, 239, 240, 241, 242, 243, 244] (by decide +kernel) (by decide +kernel)) (goodIn_sub (fun _ h => List.mem_cons_of_mem _ (List.mem_append_right _ h)) (by decide +kernel))
set_option maxRecDepth 20000 in
theorem gL_act_L_dozes : GoodIn wsL_act (va_wsS RL 99 yL_dozes wsL_dozes) := goodIn_app (goodIn_of _ (by decide +kernel)) ggL_act_L_dozes
set_option maxRecDepth 20000 in
theorem ggL_act_L_quiets : GoodIn wsL_act wsL_quiets := goodIn_ca (goodIn_ca (goodIn_r _ [126, 36, 11, 37, 13, 127, 128, 129, 4, 130, 68, 69, 42, 43, 44, 45, 46, 47, 6, 25, 26, 27, 28, 29, 51, 52, 53, 54, 55, 56, 57, 58, 59, 60, 61, 62, 24, 63, 64, 65, 66, 67, 70, 71, 72, 73, 21, 74, 75, 76, 77, 48, 49, 50, 30, 31, 32, 78, 79, 80, 81, 82, 83, 84, 85, 86, 87, 88, 89, 90, 91, 92, 93, 94, 95, 96, 97, 98, 99, 100, 101, 102, 103, 104, 105, 106, 107, 108, 109, 110, 111, 112, 113, 114, 115, 116, 226, 227, 228, 229, 230, 231, 232, 233, 234, 235, 236, 237, 238, 239, 240, 241, 242, 243, 244] (by decide +kernel) (by decide +kernel)) (goodIn_sub (fun _ h => List.mem_cons_of_mem _ (List.mem_append_right _ h)) (by decide +kernel))) (goodIn_sub (fun _ h => List.mem_cons_of_mem _ (List.mem_append_left _ (List.mem_append_right _ h))) (by decide +kernel))
set_option maxRecDepth 20000 in
theorem gL_act_L_quiets : GoodIn wsL_act (va_wsS RL 102 yL_quiets wsL_quiets) := goodIn_app (goodIn_of _ (by decide +kernel)) ggL_act_L_quiets
set_option maxRecDepth 20000 in
theorem ggL_act_L_joins : GoodIn wsL_act wsL_joins := goodIn_ca (goodIn_ca (goodIn_r _ [133, 36, 11, 37, 13, 134, 135, 136, 4, 137, 138, 42, 43, 44, 45, 46, 47, 6, 25, 26, 27, 28, 29, 92, 93, 94, 30, 31, 32, 48, 49, 50, 226, 227, 228, 229, 230, 231, 232, 233, 234, 235, 236, 237, 238, 239, 240, 241, 242, 243, 244] (by decide +kernel) (by decide +kernel)) (goodIn_sub (fun _ h => List.mem_cons_of_mem _ (List.mem_append_right _ h)) (by decide +kernel))) (goodIn_sub (fun _ h => List.mem_cons_of_mem _ (List.mem_append_left _ (List.mem_append_right _ h))) (by decide +kernel))
set_option maxRecDepth 20000 in
theorem gL_act_L_joins : GoodIn wsL_act (va_wsS RL 106 yL_joins wsL_joins) := goodIn_app (goodIn_of _ (by decide +kernel)) ggL_act_L_joins
set_option maxRecDepth 20000 in
theorem ggL_act_L_kills : GoodIn wsL_act wsL_kills := goodIn_ca (goodIn_ca (goodIn_r _ [141, 36, 12, 37, 14, 142, 143, 144, 4, 145, 19, 20, 23, 56, 82, 42, 43, 44, 45, 46, 47, 6, 92, 93, 94, 30, 31, 32, 146, 147, 148, 149, 78, 79, 80, 81, 83, 84, 85, 86, 62, 87, 48, 49, 50, 226, 227, 228, 229, 230, 231, 232, 233, 234, 235, 236, 237, 238, 239, 240, 241, 242, 243, 244] (by decide +kernel) (by decide +kernel)) (goodIn_sub (fun _ h => List.mem_cons_of_mem _ (List.mem_append_left _ (List.mem_append_left _ (List.mem_append_right _ h)))) (by decide +kernel))) (goodIn_sub (fun _ h => List.mem_cons_of_mem _ (List.mem_append_right _ h)) (by decide +kernel))
set_option maxRecDepth 20000 in
theorem gL_act_L_kills : GoodIn wsL_act (va_wsS RL 110 yL_kills wsL_kills) := goodIn_app (goodIn_of _ (by decide +kernel)) ggL_act_L_kills
set_option maxRecDepth 20000 in
theorem ggL_act_L_quota : GoodIn wsL_act wsL_quota := goodIn_ca (goodIn_r _ [152, 36, 37, 153, 154, 155, 4, 156, 42, 43, 44, 45, 46, 47, 6, 95, 96, 97, 98, 99, 62, 100, 226, 227, 228, 229, 230, 231, 232, 233, 234, 235, 236, 237, 238, 239, 240, 241, 242, 243, 244] (by decide +kernel) (by decide +kernel)) (goodIn_sub (fun _ h => List.mem_cons_of_mem _ (List.mem_append_right _ h)) (by decide +kernel))
set_option maxRecDepth 20000 in
theorem gL_act_L_quota : GoodIn wsL_act (va_wsS RL 142 yL_quota wsL_quota) := goodIn_app (goodIn_of _ (by decide +kernel)) ggL_act_L_quota
set_option maxRecDepth 20000 in
theorem ggL_act_L_sends : GoodIn wsL_act wsL_sends := goodIn_ca (goodIn_ca (goodIn_r _ [159, 11, 12, 13, 14, 160, 161, 162, 4, 163, 22, 25, 26, 27, 28, 29, 164, 165, 166, 167, 19, 20, 56, 168, 169, 170, 171, 172, 173, 174, 175, 83, 84, 85, 86, 62, 87, 176, 177, 178, 179, 180, 181, 182, 183, 57, 82, 23, 51, 52, 53, 54, 55, 58, 59, 60, 61, 24, 63, 6, 64, 65, 66, 67, 68, 69, 70, 71, 72, 73, 21, 74, 75, 76, 77, 48, 49, 50, 30, 31, 32, 78, 79, 80, 81, 88, 89, 90, 91, 92, 93, 94, 95, 96, 97, 98, 99, 100, 101, 102, 103, 104, 105, 106, 107, 108, 109, 110, 111, 112, 113, 114, 115, 116, 226, 227, 228, 229, 230, 231, 232, 233, 234, 235, 236, 237, 238, 239, 240, 241, 242, 243, 244] (by decide +kernel) (by decide +kernel)) (goodIn_sub (fun _ h => List.mem_cons_of_mem _ (List.mem_append_left _ (List.mem_append_right _ h))) (by decide +kernel))) (goodIn_sub (fun _ h => List.mem_cons_of_mem _ (List.mem_append_left _ (List.mem_append_left _ (List.mem_append_right _ h)))) (by decide +kernel))
set_option maxRecDepth 20000 in
theorem gL_act_L_sends : GoodIn wsL_act (va_wsS RL 117 yL_sends wsL_sends) := goodIn_app (goodIn_of _ (by decide +kernel)) ggL_act_L_sends
set_option maxRecDepth 20000 in
theorem ggL_act_L_sendsBy : GoodIn wsL_act wsL_sendsBy := goodIn_ca (goodIn_ca (goodIn_r _ [186, 11, 12, 13, 14, 187, 188, 189, 4, 190, 25, 26, 27, 28, 29, 164, 165, 166, 167, 19, 20, 56, 191, 192, 193, 194, 138, 180, 181, 182, 183, 57, 87, 62, 82, 23, 51, 52, 53, 54, 55, 58, 59, 60, 61, 24, 63, 6, 64, 65, 66, 67, 68, 69, 70, 71, 72, 73, 21, 74, 75, 76, 77, 48, 49, 50, 30, 31, 32, 78, 79, 80, 81, 83, 84, 85, 86, 88, 89, 90, 91, 92, 93, 94, 95, 96, 97, 98, 99, 100, 101, 102, 103, 104, 105, 106, 107, 108, 109, 110, 111, 112, 113, 114, 115, 116, 226, 227, 228, 229, 230, 231, 232, 233, 234, 235, 236, 237, 238, 239, 240, 241, 242, 243, 244] (by decide +kernel) (by decide +kernel)) (goodIn_sub (fun _ h => List.mem_cons_of_mem _ (List.mem_append_left _ (List.mem_append_right _ h))) (by decide +kernel))) (goodIn_sub (fun _ h => List.mem_cons_of_mem _ (List.mem_append_left _ (List.mem_append_left _ (List.mem_append_right _ h)))) (by decide +kernel))
set_option maxRecDepth 20000 in
theorem gL_act_L_sendsBy : GoodIn wsL_act (va_wsS RL 121 yL_sendsBy wsL_sendsBy) := goodIn_app (goodIn_of _ (by decide +kernel)) ggL_act_L_sendsBy
set_option maxRecDepth 20000 in
theorem ggL_act_X0_sent : GoodIn wsL_act wsX0_sent := goodIn_r _ [198, 56, 226, 227, 228, 229, 230, 231, 232, 233, 234, 235, 236, 237, 238, 239, 240, 241, 242, 243, 244] (by decide +kernel) (by decide +kernel)
set_option maxRecDepth 20000 in
theorem gL_act_X0_sent : GoodIn wsL_act (wsV RL 86 RX0 yX0_sent wsX0_sent) := goodIn_app (goodIn_of _ (by decide +kernel)) ggL_act_X0_sent
set_option maxRecDepth 20000 in
theorem ggL_act_L_reads : GoodIn wsL_act wsL_reads := goodIn_ca (goodIn_ca (goodIn_r _ [201, 36, 12, 37, 14, 202, 203, 204, 4, 205, 19, 20, 105, 42, 43, 44, 45, 46, 47, 6, 206, 207, 208, 209, 56, 92, 93, 94, 30, 31, 32, 83, 84, 85, 86, 62, 87, 78, 79, 80, 81, 82, 106, 107, 108, 109, 110, 111, 112, 176, 177, 178, 179, 226, 227, 228, 229, 230, 231, 232, 233, 234, 235, 236, 237, 238, 239, 240, 241, 242, 243, 244] (by decide +kernel) (by decide +kernel)) (goodIn_sub (fun _ h => List.mem_cons_of_mem _ (List.mem_append_left _ (List.mem_append_left _ (List.mem_append_right _ h)))) (by decide +kernel))) (goodIn_sub (fun _ h => List.mem_cons_of_mem _ (List.mem_append_right _ h)) (by decide +kernel))
set_option maxRecDepth 20000 in
theorem gL_act_L_reads : GoodIn wsL_act (va_wsS RL 125 yL_reads wsL_reads) := goodIn_app (goodIn_of _ (by decide +kernel)) ggL_act_L_reads
set_option maxRecDepth 20000 in
theorem ggL_act_L_passes : GoodIn wsL_act wsL_passes := goodIn_ca (goodIn_ca (goodIn_r _ [212, 11, 12, 13, 14, 213, 214, 215, 4, 216, 19, 20, 62, 217, 218, 219, 220, 221, 25, 26, 27, 28, 29, 222, 223, 224, 225, 6, 69, 64, 65, 66, 67, 68, 70, 71, 72, 73, 21, 74, 75, 76, 77, 51, 52, 53, 54, 55, 56, 57, 58, 59, 60, 61, 24, 63, 48, 49, 50, 30, 31, 32, 78, 79, 80, 81, 82, 83, 84, 85, 86, 87, 88, 89, 90, 91, 92, 93, 94, 95, 96, 97, 98, 99, 100, 101, 102, 103, 104, 105, 106, 107, 108, 109, 110, 111, 112, 113, 114, 115, 116, 226, 227, 228, 229, 230, 231, 232, 233, 234, 235, 236, 237, 238, 239, 240, 241, 242, 243, 244] (by decide +kernel) (by decide +kernel)) (goodIn_sub (fun _ h => List.mem_cons_of_mem _ (List.mem_append_left _ (List.mem_append_left _ (List.mem_append_right _ h)))) (by decide +kernel))) (goodIn_sub (fun _ h => List.mem_cons_of_mem _ (List.mem_append_left _ (List.mem_append_right _ h))) (by decide +kernel))
set_option maxRecDepth 20000 in
theorem gL_act_L_passes : GoodIn wsL_act (va_wsS RL 144 yL_passes wsL_passes) := goodIn_app (goodIn_of _ (by decide +kernel)) ggL_act_L_passes
theorem dL_act_0 : decode cL_act 0 = .ok (.iload_n 1, 1) := by decide +kernel
theorem dL_act_1 : decode cL_act 1 = .ok (.bipush 16, 2) := by decide +kernel
theorem dL_act_3 : decode cL_act 3 = .ok (.idiv, 1) := by decide +kernel
theorem dL_act_4 : decode cL_act 4 = .ok (.istore_n 3, 1) := by decide +kernel
theorem dL_act_5 : decode cL_act 5 = .ok (.aload_n 0, 1) := by decide +kernel
theorem dL_act_6 : decode cL_act 6 = .ok (.invokevirtual 82, 3) := by decide +kernel
theorem dL_act_9 : decode cL_act 9 = .ok (.ifCond .ne 7, 3) := by decide +kernel
theorem dL_act_12 : decode cL_act 12 = .ok (.iconst 0, 1) := by decide +kernel
theorem dL_act_13 : decode cL_act 13 = .ok (.goto 9, 3) := by decide +kernel
theorem dL_act_16 : decode cL_act 16 = .ok (.iload_n 3, 1) := by decide +kernel
theorem dL_act_17 : decode cL_act 17 = .ok (.aload_n 0, 1) := by decide +kernel
theorem dL_act_18 : decode cL_act 18 = .ok (.invokevirtual 82, 3) := by decide +kernel
theorem dL_act_21 : decode cL_act 21 = .ok (.irem, 1) := by decide +kernel
theorem dL_act_22 : decode cL_act 22 = .ok (.istore 4, 2) := by decide +kernel
theorem dL_act_24 : decode cL_act 24 = .ok (.iload_n 3, 1) := by decide +kernel
theorem dL_act_25 : decode cL_act 25 = .ok (.bipush 16, 2) := by decide +kernel
theorem dL_act_27 : decode cL_act 27 = .ok (.idiv, 1) := by decide +kernel
theorem dL_act_28 : decode cL_act 28 = .ok (.iconst 2, 1) := by decide +kernel
theorem dL_act_29 : decode cL_act 29 = .ok (.irem, 1) := by decide +kernel
theorem dL_act_30 : decode cL_act 30 = .ok (.ifCond .ne 7, 3) := by decide +kernel
theorem dL_act_33 : decode cL_act 33 = .ok (.iconst 1, 1) := by decide +kernel
theorem dL_act_34 : decode cL_act 34 = .ok (.goto 4, 3) := by decide +kernel
theorem dL_act_37 : decode cL_act 37 = .ok (.iconst 0, 1) := by decide +kernel
theorem dL_act_38 : decode cL_act 38 = .ok (.istore 5, 2) := by decide +kernel
theorem dL_act_40 : decode cL_act 40 = .ok (.iload_n 1, 1) := by decide +kernel
theorem dL_act_41 : decode cL_act 41 = .ok (.bipush 16, 2) := by decide +kernel
theorem dL_act_43 : decode cL_act 43 = .ok (.irem, 1) := by decide +kernel
theorem dL_act_44 : decode cL_act 44 = .ok (.tableswitch 264 0 12 #[68, 68, 87, 96, 105, 128, 143, 168, 168, 168, 206, 237, 237], 68) := by decide +kernel
theorem dL_act_112 : decode cL_act 112 = .ok (.aload_n 0, 1) := by decide +kernel
theorem dL_act_113 : decode cL_act 113 = .ok (.iload_n 3, 1) := by decide +kernel
theorem dL_act_114 : decode cL_act 114 = .ok (.iconst 3, 1) := by decide +kernel
theorem dL_act_115 : decode cL_act 115 = .ok (.irem, 1) := by decide +kernel
theorem dL_act_116 : decode cL_act 116 = .ok (.iload_n 3, 1) := by decide +kernel
theorem dL_act_117 : decode cL_act 117 = .ok (.iconst 3, 1) := by decide +kernel
theorem dL_act_118 : decode cL_act 118 = .ok (.idiv, 1) := by decide +kernel
theorem dL_act_119 : decode cL_act 119 = .ok (.sipush 1561, 3) := by decide +kernel
theorem dL_act_122 : decode cL_act 122 = .ok (.irem, 1) := by decide +kernel
theorem dL_act_123 : decode cL_act 123 = .ok (.sipush 720, 3) := by decide +kernel
theorem dL_act_126 : decode cL_act 126 = .ok (.isub, 1) := by decide +kernel
theorem dL_act_127 : decode cL_act 127 = .ok (.invokestatic 89, 3) := by decide +kernel
theorem dL_act_130 : decode cL_act 130 = .ok (.ireturn, 1) := by decide +kernel
theorem dL_act_131 : decode cL_act 131 = .ok (.aload_n 0, 1) := by decide +kernel
theorem dL_act_132 : decode cL_act 132 = .ok (.iload 4, 2) := by decide +kernel
theorem dL_act_134 : decode cL_act 134 = .ok (.iload 5, 2) := by decide +kernel
theorem dL_act_136 : decode cL_act 136 = .ok (.invokestatic 95, 3) := by decide +kernel
theorem dL_act_139 : decode cL_act 139 = .ok (.ireturn, 1) := by decide +kernel
theorem dL_act_140 : decode cL_act 140 = .ok (.aload_n 0, 1) := by decide +kernel
theorem dL_act_141 : decode cL_act 141 = .ok (.iload 4, 2) := by decide +kernel
theorem dL_act_143 : decode cL_act 143 = .ok (.iload 5, 2) := by decide +kernel
theorem dL_act_145 : decode cL_act 145 = .ok (.invokestatic 99, 3) := by decide +kernel
theorem dL_act_148 : decode cL_act 148 = .ok (.ireturn, 1) := by decide +kernel
theorem dL_act_149 : decode cL_act 149 = .ok (.aload_n 0, 1) := by decide +kernel
theorem dL_act_150 : decode cL_act 150 = .ok (.iload 4, 2) := by decide +kernel
theorem dL_act_152 : decode cL_act 152 = .ok (.iload_n 3, 1) := by decide +kernel
theorem dL_act_153 : decode cL_act 153 = .ok (.bipush 16, 2) := by decide +kernel
theorem dL_act_155 : decode cL_act 155 = .ok (.idiv, 1) := by decide +kernel
theorem dL_act_156 : decode cL_act 156 = .ok (.sipush 1440, 3) := by decide +kernel
theorem dL_act_159 : decode cL_act 159 = .ok (.irem, 1) := by decide +kernel
theorem dL_act_160 : decode cL_act 160 = .ok (.iload_n 3, 1) := by decide +kernel
theorem dL_act_161 : decode cL_act 161 = .ok (.bipush 23, 2) := by decide +kernel
theorem dL_act_163 : decode cL_act 163 = .ok (.idiv, 1) := by decide +kernel
theorem dL_act_164 : decode cL_act 164 = .ok (.sipush 1440, 3) := by decide +kernel
theorem dL_act_167 : decode cL_act 167 = .ok (.irem, 1) := by decide +kernel
theorem dL_act_168 : decode cL_act 168 = .ok (.invokestatic 102, 3) := by decide +kernel
theorem dL_act_171 : decode cL_act 171 = .ok (.ireturn, 1) := by decide +kernel
theorem dL_act_172 : decode cL_act 172 = .ok (.aload_n 0, 1) := by decide +kernel
theorem dL_act_173 : decode cL_act 173 = .ok (.iload 4, 2) := by decide +kernel
theorem dL_act_175 : decode cL_act 175 = .ok (.iload_n 3, 1) := by decide +kernel
theorem dL_act_176 : decode cL_act 176 = .ok (.bipush 32, 2) := by decide +kernel
theorem dL_act_178 : decode cL_act 178 = .ok (.idiv, 1) := by decide +kernel
theorem dL_act_179 : decode cL_act 179 = .ok (.iconst 3, 1) := by decide +kernel
theorem dL_act_180 : decode cL_act 180 = .ok (.irem, 1) := by decide +kernel
theorem dL_act_181 : decode cL_act 181 = .ok (.iload 5, 2) := by decide +kernel
theorem dL_act_183 : decode cL_act 183 = .ok (.invokestatic 106, 3) := by decide +kernel
theorem dL_act_186 : decode cL_act 186 = .ok (.ireturn, 1) := by decide +kernel
theorem dL_act_187 : decode cL_act 187 = .ok (.iload_n 3, 1) := by decide +kernel
theorem dL_act_188 : decode cL_act 188 = .ok (.bipush 16, 2) := by decide +kernel
theorem dL_act_190 : decode cL_act 190 = .ok (.idiv, 1) := by decide +kernel
theorem dL_act_191 : decode cL_act 191 = .ok (.iconst 5, 1) := by decide +kernel
theorem dL_act_192 : decode cL_act 192 = .ok (.irem, 1) := by decide +kernel
theorem dL_act_193 : decode cL_act 193 = .ok (.ifCond .ne 12, 3) := by decide +kernel
theorem dL_act_196 : decode cL_act 196 = .ok (.aload_n 0, 1) := by decide +kernel
theorem dL_act_197 : decode cL_act 197 = .ok (.iload 4, 2) := by decide +kernel
theorem dL_act_199 : decode cL_act 199 = .ok (.invokestatic 110, 3) := by decide +kernel
theorem dL_act_202 : decode cL_act 202 = .ok (.goto 9, 3) := by decide +kernel
theorem dL_act_205 : decode cL_act 205 = .ok (.aload_n 0, 1) := by decide +kernel
theorem dL_act_206 : decode cL_act 206 = .ok (.iload 4, 2) := by decide +kernel
theorem dL_act_208 : decode cL_act 208 = .ok (.invokestatic 142, 3) := by decide +kernel
theorem dL_act_211 : decode cL_act 211 = .ok (.ireturn, 1) := by decide +kernel
theorem dL_act_212 : decode cL_act 212 = .ok (.aload_n 0, 1) := by decide +kernel
theorem dL_act_213 : decode cL_act 213 = .ok (.iload_n 3, 1) := by decide +kernel
theorem dL_act_214 : decode cL_act 214 = .ok (.iconst 3, 1) := by decide +kernel
theorem dL_act_215 : decode cL_act 215 = .ok (.irem, 1) := by decide +kernel
theorem dL_act_216 : decode cL_act 216 = .ok (.iload_n 3, 1) := by decide +kernel
theorem dL_act_217 : decode cL_act 217 = .ok (.iconst 3, 1) := by decide +kernel
theorem dL_act_218 : decode cL_act 218 = .ok (.idiv, 1) := by decide +kernel
theorem dL_act_219 : decode cL_act 219 = .ok (.iconst 4, 1) := by decide +kernel
theorem dL_act_220 : decode cL_act 220 = .ok (.irem, 1) := by decide +kernel
theorem dL_act_221 : decode cL_act 221 = .ok (.iconst 1, 1) := by decide +kernel
theorem dL_act_222 : decode cL_act 222 = .ok (.isub, 1) := by decide +kernel
theorem dL_act_223 : decode cL_act 223 = .ok (.iload 5, 2) := by decide +kernel
theorem dL_act_225 : decode cL_act 225 = .ok (.iconst 1, 1) := by decide +kernel
theorem dL_act_226 : decode cL_act 226 = .ok (.iload_n 3, 1) := by decide +kernel
theorem dL_act_227 : decode cL_act 227 = .ok (.bipush 96, 2) := by decide +kernel
theorem dL_act_229 : decode cL_act 229 = .ok (.idiv, 1) := by decide +kernel
theorem dL_act_230 : decode cL_act 230 = .ok (.iload_n 3, 1) := by decide +kernel
theorem dL_act_231 : decode cL_act 231 = .ok (.iconst 2, 1) := by decide +kernel
theorem dL_act_232 : decode cL_act 232 = .ok (.irem, 1) := by decide +kernel
theorem dL_act_233 : decode cL_act 233 = .ok (.ifCond .ne 8, 3) := by decide +kernel
theorem dL_act_236 : decode cL_act 236 = .ok (.bipush 40, 2) := by decide +kernel
theorem dL_act_238 : decode cL_act 238 = .ok (.goto 6, 3) := by decide +kernel
theorem dL_act_241 : decode cL_act 241 = .ok (.sipush 3000, 3) := by decide +kernel
theorem dL_act_244 : decode cL_act 244 = .ok (.irem, 1) := by decide +kernel
theorem dL_act_245 : decode cL_act 245 = .ok (.iadd, 1) := by decide +kernel
theorem dL_act_246 : decode cL_act 246 = .ok (.invokestatic 117, 3) := by decide +kernel
theorem dL_act_249 : decode cL_act 249 = .ok (.ireturn, 1) := by decide +kernel
theorem dL_act_250 : decode cL_act 250 = .ok (.aload_n 0, 1) := by decide +kernel
theorem dL_act_251 : decode cL_act 251 = .ok (.iload_n 3, 1) := by decide +kernel
theorem dL_act_252 : decode cL_act 252 = .ok (.iconst 3, 1) := by decide +kernel
theorem dL_act_253 : decode cL_act 253 = .ok (.irem, 1) := by decide +kernel
theorem dL_act_254 : decode cL_act 254 = .ok (.iload_n 3, 1) := by decide +kernel
theorem dL_act_255 : decode cL_act 255 = .ok (.iconst 3, 1) := by decide +kernel
theorem dL_act_256 : decode cL_act 256 = .ok (.idiv, 1) := by decide +kernel
theorem dL_act_257 : decode cL_act 257 = .ok (.iconst 3, 1) := by decide +kernel
theorem dL_act_258 : decode cL_act 258 = .ok (.irem, 1) := by decide +kernel
theorem dL_act_259 : decode cL_act 259 = .ok (.iload_n 3, 1) := by decide +kernel
theorem dL_act_260 : decode cL_act 260 = .ok (.bipush 9, 2) := by decide +kernel
theorem dL_act_262 : decode cL_act 262 = .ok (.idiv, 1) := by decide +kernel
theorem dL_act_263 : decode cL_act 263 = .ok (.iconst 3, 1) := by decide +kernel
theorem dL_act_264 : decode cL_act 264 = .ok (.irem, 1) := by decide +kernel
theorem dL_act_265 : decode cL_act 265 = .ok (.iload 5, 2) := by decide +kernel
theorem dL_act_267 : decode cL_act 267 = .ok (.iconst 1, 1) := by decide +kernel
theorem dL_act_268 : decode cL_act 268 = .ok (.iload_n 3, 1) := by decide +kernel
theorem dL_act_269 : decode cL_act 269 = .ok (.bipush 96, 2) := by decide +kernel
theorem dL_act_271 : decode cL_act 271 = .ok (.idiv, 1) := by decide +kernel
theorem dL_act_272 : decode cL_act 272 = .ok (.sipush 3000, 3) := by decide +kernel
theorem dL_act_275 : decode cL_act 275 = .ok (.irem, 1) := by decide +kernel
theorem dL_act_276 : decode cL_act 276 = .ok (.iadd, 1) := by decide +kernel
theorem dL_act_277 : decode cL_act 277 = .ok (.invokestatic 121, 3) := by decide +kernel
theorem dL_act_280 : decode cL_act 280 = .ok (.ireturn, 1) := by decide +kernel
theorem dL_act_281 : decode cL_act 281 = .ok (.aload_n 0, 1) := by decide +kernel
theorem dL_act_282 : decode cL_act 282 = .ok (.iload 4, 2) := by decide +kernel
theorem dL_act_284 : decode cL_act 284 = .ok (.aload_n 0, 1) := by decide +kernel
theorem dL_act_285 : decode cL_act 285 = .ok (.invokevirtual 86, 3) := by decide +kernel
theorem dL_act_288 : decode cL_act 288 = .ok (.ifCond .ne 7, 3) := by decide +kernel
theorem dL_act_291 : decode cL_act 291 = .ok (.iconst 0, 1) := by decide +kernel
theorem dL_act_292 : decode cL_act 292 = .ok (.goto 12, 3) := by decide +kernel
theorem dL_act_295 : decode cL_act 295 = .ok (.iload_n 3, 1) := by decide +kernel
theorem dL_act_296 : decode cL_act 296 = .ok (.bipush 16, 2) := by decide +kernel
theorem dL_act_298 : decode cL_act 298 = .ok (.idiv, 1) := by decide +kernel
theorem dL_act_299 : decode cL_act 299 = .ok (.aload_n 0, 1) := by decide +kernel
theorem dL_act_300 : decode cL_act 300 = .ok (.invokevirtual 86, 3) := by decide +kernel
theorem dL_act_303 : decode cL_act 303 = .ok (.irem, 1) := by decide +kernel
theorem dL_act_304 : decode cL_act 304 = .ok (.invokestatic 125, 3) := by decide +kernel
theorem dL_act_307 : decode cL_act 307 = .ok (.ireturn, 1) := by decide +kernel
theorem dL_act_308 : decode cL_act 308 = .ok (.iconst 1, 1) := by decide +kernel
theorem dL_act_309 : decode cL_act 309 = .ok (.iload_n 3, 1) := by decide +kernel
theorem dL_act_310 : decode cL_act 310 = .ok (.iload_n 3, 1) := by decide +kernel
theorem dL_act_311 : decode cL_act 311 = .ok (.iconst 5, 1) := by decide +kernel
theorem dL_act_312 : decode cL_act 312 = .ok (.irem, 1) := by decide +kernel
theorem dL_act_313 : decode cL_act 313 = .ok (.ifCond .ne 9, 3) := by decide +kernel
theorem dL_act_316 : decode cL_act 316 = .ok (.sipush 150, 3) := by decide +kernel
theorem dL_act_319 : decode cL_act 319 = .ok (.goto 5, 3) := by decide +kernel
theorem dL_act_322 : decode cL_act 322 = .ok (.bipush 30, 2) := by decide +kernel
theorem dL_act_324 : decode cL_act 324 = .ok (.irem, 1) := by decide +kernel
theorem dL_act_325 : decode cL_act 325 = .ok (.iadd, 1) := by decide +kernel
theorem dL_act_326 : decode cL_act 326 = .ok (.istore 6, 2) := by decide +kernel
theorem dL_act_328 : decode cL_act 328 = .ok (.iconst 0, 1) := by decide +kernel
theorem dL_act_329 : decode cL_act 329 = .ok (.istore 7, 2) := by decide +kernel
theorem dL_act_331 : decode cL_act 331 = .ok (.iconst 0, 1) := by decide +kernel
theorem dL_act_332 : decode cL_act 332 = .ok (.istore 8, 2) := by decide +kernel
theorem dL_act_334 : decode cL_act 334 = .ok (.iload 8, 2) := by decide +kernel
theorem dL_act_336 : decode cL_act 336 = .ok (.iload 6, 2) := by decide +kernel
theorem dL_act_338 : decode cL_act 338 = .ok (.if_icmp .ge 23, 3) := by decide +kernel
theorem dL_act_341 : decode cL_act 341 = .ok (.iload_n 2, 1) := by decide +kernel
theorem dL_act_342 : decode cL_act 342 = .ok (.ifCond .eq 19, 3) := by decide +kernel
theorem dL_act_345 : decode cL_act 345 = .ok (.iload 7, 2) := by decide +kernel
theorem dL_act_347 : decode cL_act 347 = .ok (.aload_n 0, 1) := by decide +kernel
theorem dL_act_348 : decode cL_act 348 = .ok (.iconst 1, 1) := by decide +kernel
theorem dL_act_349 : decode cL_act 349 = .ok (.invokestatic 144, 3) := by decide +kernel
theorem dL_act_352 : decode cL_act 352 = .ok (.iadd, 1) := by decide +kernel
theorem dL_act_353 : decode cL_act 353 = .ok (.istore 7, 2) := by decide +kernel
theorem dL_act_355 : decode cL_act 355 = .ok (.iinc 8 1, 3) := by decide +kernel
theorem dL_act_358 : decode cL_act 358 = .ok (.goto (-24), 3) := by decide +kernel
theorem dL_act_361 : decode cL_act 361 = .ok (.iload_n 2, 1) := by decide +kernel
theorem dL_act_362 : decode cL_act 362 = .ok (.ifCond .eq 8, 3) := by decide +kernel
theorem dL_act_365 : decode cL_act 365 = .ok (.iload 7, 2) := by decide +kernel
theorem dL_act_367 : decode cL_act 367 = .ok (.goto 9, 3) := by decide +kernel
theorem dL_act_370 : decode cL_act 370 = .ok (.aload_n 0, 1) := by decide +kernel
theorem dL_act_371 : decode cL_act 371 = .ok (.iload 6, 2) := by decide +kernel
theorem dL_act_373 : decode cL_act 373 = .ok (.invokestatic 144, 3) := by decide +kernel
theorem dL_act_376 : decode cL_act 376 = .ok (.ireturn, 1) := by decide +kernel
set_option maxRecDepth 20000 in
theorem ggL_alike_X0_clock : GoodIn wsL_alike wsX0_clock := goodIn_r _ [5, 6, 126, 127, 128, 129, 130, 131, 132, 133, 134, 135, 136, 137, 138, 139, 140, 141, 142, 143, 144] (by decide +kernel) (by decide +kernel)
set_option maxRecDepth 20000 in
theorem gL_alike_X0_clock : GoodIn wsL_alike (wsV RL 147 RX0 yX0_clock wsX0_clock) := goodIn_app (goodIn_of _ (by decide +kernel)) ggL_alike_X0_clock
set_option maxRecDepth 20000 in
theorem ggL_alike_X0_devices : GoodIn wsL_alike wsX0_devices := goodIn_r _ [10, 11, 126, 127, 128, 129, 130, 131, 132, 133, 134, 135, 136, 137, 138, 139, 140, 141, 142, 143, 144] (by decide +kernel) (by decide +kernel)
set_option maxRecDepth 20000 in
theorem gL_alike_X0_devices : GoodIn wsL_alike (wsV RL 82 RX0 yX0_devices wsX0_devices) := goodIn_app (goodIn_of _ (by decide +kernel)) ggL_alike_X0_devices
set_option maxRecDepth 20000 in
theorem ggL_alike_X0_sent : GoodIn wsL_alike wsX0_sent := goodIn_r _ [15, 16, 126, 127, 128, 129, 130, 131, 132, 133, 134, 135, 136, 137, 138, 139, 140, 141, 142, 143, 144] (by decide +kernel) (by decide +kernel)
set_option maxRecDepth 20000 in
theorem gL_alike_X0_sent : GoodIn wsL_alike (wsV RL 86 RX0 yX0_sent wsX0_sent) := goodIn_app (goodIn_of _ (by decide +kernel)) ggL_alike_X0_sent
set_option maxRecDepth 20000 in
theorem ggL_alike_X0_deliveries : GoodIn wsL_alike wsX0_deliveries := goodIn_r _ [20, 21, 126, 127, 128, 129, 130, 131, 132, 133, 134, 135, 136, 137, 138, 139, 140, 141, 142, 143, 144] (by decide +kernel) (by decide +kernel)
set_option maxRecDepth 20000 in
theorem gL_alike_X0_deliveries : GoodIn wsL_alike (wsV RL 150 RX0 yX0_deliveries wsX0_deliveries) := goodIn_app (goodIn_of _ (by decide +kernel)) ggL_alike_X0_deliveries
