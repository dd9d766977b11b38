theorem dL_law_323 : decode cL_law 323 = .ok (.invokestatic 107, 3) := by decide +kernel
theorem dL_law_326 : decode cL_law 326 = .ok (.goto 92, 3) := by decide +kernel
theorem dL_law_329 : decode cL_law 329 = .ok (.iload 12, 2) := by decide +kernel
theorem dL_law_331 : decode cL_law 331 = .ok (.bipush 6, 2) := by decide +kernel
theorem dL_law_333 : decode cL_law 333 = .ok (.if_icmp .ne 18, 3) := by decide +kernel
theorem dL_law_336 : decode cL_law 336 = .ok (.bipush 10, 2) := by decide +kernel
theorem dL_law_338 : decode cL_law 338 = .ok (.iload 11, 2) := by decide +kernel
theorem dL_law_340 : decode cL_law 340 = .ok (.iconst 3, 1) := by decide +kernel
theorem dL_law_341 : decode cL_law 341 = .ok (.ishr, 1) := by decide +kernel
theorem dL_law_342 : decode cL_law 342 = .ok (.bipush 81, 2) := by decide +kernel
theorem dL_law_344 : decode cL_law 344 = .ok (.invokestatic 107, 3) := by decide +kernel
theorem dL_law_347 : decode cL_law 347 = .ok (.iadd, 1) := by decide +kernel
theorem dL_law_348 : decode cL_law 348 = .ok (.goto 70, 3) := by decide +kernel
theorem dL_law_351 : decode cL_law 351 = .ok (.iload 12, 2) := by decide +kernel
theorem dL_law_353 : decode cL_law 353 = .ok (.bipush 7, 2) := by decide +kernel
theorem dL_law_355 : decode cL_law 355 = .ok (.if_icmp .ne 17, 3) := by decide +kernel
theorem dL_law_358 : decode cL_law 358 = .ok (.iconst 5, 1) := by decide +kernel
theorem dL_law_359 : decode cL_law 359 = .ok (.iload 11, 2) := by decide +kernel
theorem dL_law_361 : decode cL_law 361 = .ok (.iconst 3, 1) := by decide +kernel
theorem dL_law_362 : decode cL_law 362 = .ok (.ishr, 1) := by decide +kernel
theorem dL_law_363 : decode cL_law 363 = .ok (.bipush 36, 2) := by decide +kernel
theorem dL_law_365 : decode cL_law 365 = .ok (.invokestatic 107, 3) := by decide +kernel
theorem dL_law_368 : decode cL_law 368 = .ok (.iadd, 1) := by decide +kernel
theorem dL_law_369 : decode cL_law 369 = .ok (.goto 49, 3) := by decide +kernel
theorem dL_law_372 : decode cL_law 372 = .ok (.iload 13, 2) := by decide +kernel
theorem dL_law_374 : decode cL_law 374 = .ok (.ifCond .ne 15, 3) := by decide +kernel
theorem dL_law_377 : decode cL_law 377 = .ok (.iload 11, 2) := by decide +kernel
theorem dL_law_379 : decode cL_law 379 = .ok (.iconst 3, 1) := by decide +kernel
theorem dL_law_380 : decode cL_law 380 = .ok (.ishr, 1) := by decide +kernel
theorem dL_law_381 : decode cL_law 381 = .ok (.bipush 10, 2) := by decide +kernel
theorem dL_law_383 : decode cL_law 383 = .ok (.invokestatic 107, 3) := by decide +kernel
theorem dL_law_386 : decode cL_law 386 = .ok (.goto 32, 3) := by decide +kernel
theorem dL_law_389 : decode cL_law 389 = .ok (.iload 13, 2) := by decide +kernel
theorem dL_law_391 : decode cL_law 391 = .ok (.iconst 1, 1) := by decide +kernel
theorem dL_law_392 : decode cL_law 392 = .ok (.if_icmp .ne 15, 3) := by decide +kernel
theorem dL_law_395 : decode cL_law 395 = .ok (.iload 11, 2) := by decide +kernel
theorem dL_law_397 : decode cL_law 397 = .ok (.iconst 3, 1) := by decide +kernel
theorem dL_law_398 : decode cL_law 398 = .ok (.ishr, 1) := by decide +kernel
theorem dL_law_399 : decode cL_law 399 = .ok (.bipush 51, 2) := by decide +kernel
theorem dL_law_401 : decode cL_law 401 = .ok (.invokestatic 107, 3) := by decide +kernel
theorem dL_law_404 : decode cL_law 404 = .ok (.goto 14, 3) := by decide +kernel
theorem dL_law_407 : decode cL_law 407 = .ok (.iconst 1, 1) := by decide +kernel
theorem dL_law_408 : decode cL_law 408 = .ok (.iload 11, 2) := by decide +kernel
theorem dL_law_410 : decode cL_law 410 = .ok (.iconst 3, 1) := by decide +kernel
theorem dL_law_411 : decode cL_law 411 = .ok (.ishr, 1) := by decide +kernel
theorem dL_law_412 : decode cL_law 412 = .ok (.bipush 30, 2) := by decide +kernel
theorem dL_law_414 : decode cL_law 414 = .ok (.invokestatic 107, 3) := by decide +kernel
theorem dL_law_417 : decode cL_law 417 = .ok (.iadd, 1) := by decide +kernel
theorem dL_law_418 : decode cL_law 418 = .ok (.istore 14, 2) := by decide +kernel
theorem dL_law_420 : decode cL_law 420 = .ok (.iload 12, 2) := by decide +kernel
theorem dL_law_422 : decode cL_law 422 = .ok (.ifCond .eq 9, 3) := by decide +kernel
theorem dL_law_425 : decode cL_law 425 = .ok (.iload 12, 2) := by decide +kernel
theorem dL_law_427 : decode cL_law 427 = .ok (.iconst 3, 1) := by decide +kernel
theorem dL_law_428 : decode cL_law 428 = .ok (.if_icmp .ne 15, 3) := by decide +kernel
theorem dL_law_431 : decode cL_law 431 = .ok (.iload 11, 2) := by decide +kernel
theorem dL_law_433 : decode cL_law 433 = .ok (.bipush 10, 2) := by decide +kernel
theorem dL_law_435 : decode cL_law 435 = .ok (.ishr, 1) := by decide +kernel
theorem dL_law_436 : decode cL_law 436 = .ok (.iconst 4, 1) := by decide +kernel
theorem dL_law_437 : decode cL_law 437 = .ok (.invokestatic 107, 3) := by decide +kernel
theorem dL_law_440 : decode cL_law 440 = .ok (.goto 17, 3) := by decide +kernel
theorem dL_law_443 : decode cL_law 443 = .ok (.bipush 50, 2) := by decide +kernel
theorem dL_law_445 : decode cL_law 445 = .ok (.iload 11, 2) := by decide +kernel
theorem dL_law_447 : decode cL_law 447 = .ok (.bipush 10, 2) := by decide +kernel
theorem dL_law_449 : decode cL_law 449 = .ok (.ishr, 1) := by decide +kernel
theorem dL_law_450 : decode cL_law 450 = .ok (.sipush 851, 3) := by decide +kernel
theorem dL_law_453 : decode cL_law 453 = .ok (.invokestatic 107, 3) := by decide +kernel
theorem dL_law_456 : decode cL_law 456 = .ok (.iadd, 1) := by decide +kernel
theorem dL_law_457 : decode cL_law 457 = .ok (.istore 15, 2) := by decide +kernel
theorem dL_law_459 : decode cL_law 459 = .ok (.iconst 1, 1) := by decide +kernel
theorem dL_law_460 : decode cL_law 460 = .ok (.iload 11, 2) := by decide +kernel
theorem dL_law_462 : decode cL_law 462 = .ok (.bipush 12, 2) := by decide +kernel
theorem dL_law_464 : decode cL_law 464 = .ok (.ishr, 1) := by decide +kernel
theorem dL_law_465 : decode cL_law 465 = .ok (.iload 11, 2) := by decide +kernel
theorem dL_law_467 : decode cL_law 467 = .ok (.bipush 20, 2) := by decide +kernel
theorem dL_law_469 : decode cL_law 469 = .ok (.ishr, 1) := by decide +kernel
theorem dL_law_470 : decode cL_law 470 = .ok (.iconst 4, 1) := by decide +kernel
theorem dL_law_471 : decode cL_law 471 = .ok (.invokestatic 107, 3) := by decide +kernel
theorem dL_law_474 : decode cL_law 474 = .ok (.ifCond .ne 8, 3) := by decide +kernel
theorem dL_law_477 : decode cL_law 477 = .ok (.bipush 12, 2) := by decide +kernel
theorem dL_law_479 : decode cL_law 479 = .ok (.goto 4, 3) := by decide +kernel
theorem dL_law_482 : decode cL_law 482 = .ok (.iconst 3, 1) := by decide +kernel
theorem dL_law_483 : decode cL_law 483 = .ok (.invokestatic 107, 3) := by decide +kernel
theorem dL_law_486 : decode cL_law 486 = .ok (.iadd, 1) := by decide +kernel
theorem dL_law_487 : decode cL_law 487 = .ok (.istore 16, 2) := by decide +kernel
theorem dL_law_489 : decode cL_law 489 = .ok (.aload_n 1, 1) := by decide +kernel
theorem dL_law_490 : decode cL_law 490 = .ok (.invokestatic 174, 3) := by decide +kernel
theorem dL_law_493 : decode cL_law 493 = .ok (.lstore 17, 2) := by decide +kernel
theorem dL_law_495 : decode cL_law 495 = .ok (.aload_n 1, 1) := by decide +kernel
theorem dL_law_496 : decode cL_law 496 = .ok (.iload 12, 2) := by decide +kernel
theorem dL_law_498 : decode cL_law 498 = .ok (.iload 13, 2) := by decide +kernel
theorem dL_law_500 : decode cL_law 500 = .ok (.iload 14, 2) := by decide +kernel
theorem dL_law_502 : decode cL_law 502 = .ok (.iload 15, 2) := by decide +kernel
theorem dL_law_504 : decode cL_law 504 = .ok (.iload 16, 2) := by decide +kernel
theorem dL_law_506 : decode cL_law 506 = .ok (.invokestatic 178, 3) := by decide +kernel
theorem dL_law_509 : decode cL_law 509 = .ok (.istore 19, 2) := by decide +kernel
theorem dL_law_511 : decode cL_law 511 = .ok (.iload 19, 2) := by decide +kernel
theorem dL_law_513 : decode cL_law 513 = .ok (.bipush (-100), 2) := by decide +kernel
theorem dL_law_515 : decode cL_law 515 = .ok (.if_icmp .ge 16, 3) := by decide +kernel
theorem dL_law_518 : decode cL_law 518 = .ok (.aload_n 1, 1) := by decide +kernel
theorem dL_law_519 : decode cL_law 519 = .ok (.invokestatic 174, 3) := by decide +kernel
theorem dL_law_522 : decode cL_law 522 = .ok (.lload 17, 2) := by decide +kernel
theorem dL_law_524 : decode cL_law 524 = .ok (.lcmp, 1) := by decide +kernel
theorem dL_law_525 : decode cL_law 525 = .ok (.ifCond .eq 54, 3) := by decide +kernel
theorem dL_law_528 : decode cL_law 528 = .ok (.goto 49, 3) := by decide +kernel
theorem dL_law_531 : decode cL_law 531 = .ok (.iload 10, 2) := by decide +kernel
theorem dL_law_533 : decode cL_law 533 = .ok (.bipush 24, 2) := by decide +kernel
theorem dL_law_535 : decode cL_law 535 = .ok (.ishr, 1) := by decide +kernel
theorem dL_law_536 : decode cL_law 536 = .ok (.iconst 3, 1) := by decide +kernel
theorem dL_law_537 : decode cL_law 537 = .ok (.iand, 1) := by decide +kernel
theorem dL_law_538 : decode cL_law 538 = .ok (.ifCond .ne 41, 3) := by decide +kernel
theorem dL_law_541 : decode cL_law 541 = .ok (.aload_n 1, 1) := by decide +kernel
theorem dL_law_542 : decode cL_law 542 = .ok (.invokestatic 182, 3) := by decide +kernel
theorem dL_law_545 : decode cL_law 545 = .ok (.ifCond .lt 32, 3) := by decide +kernel
theorem dL_law_548 : decode cL_law 548 = .ok (.aload_n 1, 1) := by decide +kernel
theorem dL_law_549 : decode cL_law 549 = .ok (.invokestatic 174, 3) := by decide +kernel
theorem dL_law_552 : decode cL_law 552 = .ok (.lload 17, 2) := by decide +kernel
theorem dL_law_554 : decode cL_law 554 = .ok (.lcmp, 1) := by decide +kernel
theorem dL_law_555 : decode cL_law 555 = .ok (.ifCond .ne 22, 3) := by decide +kernel
theorem dL_law_558 : decode cL_law 558 = .ok (.aload_n 1, 1) := by decide +kernel
theorem dL_law_559 : decode cL_law 559 = .ok (.iload 12, 2) := by decide +kernel
theorem dL_law_561 : decode cL_law 561 = .ok (.iload 13, 2) := by decide +kernel
theorem dL_law_563 : decode cL_law 563 = .ok (.iload 14, 2) := by decide +kernel
theorem dL_law_565 : decode cL_law 565 = .ok (.iload 15, 2) := by decide +kernel
theorem dL_law_567 : decode cL_law 567 = .ok (.iload 16, 2) := by decide +kernel
theorem dL_law_569 : decode cL_law 569 = .ok (.invokestatic 178, 3) := by decide +kernel
theorem dL_law_572 : decode cL_law 572 = .ok (.iload 19, 2) := by decide +kernel
theorem dL_law_574 : decode cL_law 574 = .ok (.if_icmp .eq 5, 3) := by decide +kernel
theorem dL_law_577 : decode cL_law 577 = .ok (.iconst 0, 1) := by decide +kernel
theorem dL_law_578 : decode cL_law 578 = .ok (.ireturn, 1) := by decide +kernel
theorem dL_law_579 : decode cL_law 579 = .ok (.iload 19, 2) := by decide +kernel
theorem dL_law_581 : decode cL_law 581 = .ok (.iload 12, 2) := by decide +kernel
theorem dL_law_583 : decode cL_law 583 = .ok (.iload 13, 2) := by decide +kernel
theorem dL_law_585 : decode cL_law 585 = .ok (.iload 14, 2) := by decide +kernel
theorem dL_law_587 : decode cL_law 587 = .ok (.iload 15, 2) := by decide +kernel
theorem dL_law_589 : decode cL_law 589 = .ok (.iload 16, 2) := by decide +kernel
theorem dL_law_591 : decode cL_law 591 = .ok (.aload_n 2, 1) := by decide +kernel
theorem dL_law_592 : decode cL_law 592 = .ok (.aload_n 3, 1) := by decide +kernel
theorem dL_law_593 : decode cL_law 593 = .ok (.aload 4, 2) := by decide +kernel
theorem dL_law_595 : decode cL_law 595 = .ok (.aload 5, 2) := by decide +kernel
theorem dL_law_597 : decode cL_law 597 = .ok (.aload 6, 2) := by decide +kernel
theorem dL_law_599 : decode cL_law 599 = .ok (.aload 7, 2) := by decide +kernel
theorem dL_law_601 : decode cL_law 601 = .ok (.aload 8, 2) := by decide +kernel
theorem dL_law_603 : decode cL_law 603 = .ok (.invokestatic 185, 3) := by decide +kernel
theorem dL_law_606 : decode cL_law 606 = .ok (.if_icmp .ne 26, 3) := by decide +kernel
theorem dL_law_609 : decode cL_law 609 = .ok (.aload_n 1, 1) := by decide +kernel
theorem dL_law_610 : decode cL_law 610 = .ok (.iload 10, 2) := by decide +kernel
theorem dL_law_612 : decode cL_law 612 = .ok (.iconst 5, 1) := by decide +kernel
theorem dL_law_613 : decode cL_law 613 = .ok (.ishr, 1) := by decide +kernel
theorem dL_law_614 : decode cL_law 614 = .ok (.aload_n 2, 1) := by decide +kernel
theorem dL_law_615 : decode cL_law 615 = .ok (.aload_n 3, 1) := by decide +kernel
theorem dL_law_616 : decode cL_law 616 = .ok (.aload 4, 2) := by decide +kernel
theorem dL_law_618 : decode cL_law 618 = .ok (.aload 5, 2) := by decide +kernel
theorem dL_law_620 : decode cL_law 620 = .ok (.aload 6, 2) := by decide +kernel
theorem dL_law_622 : decode cL_law 622 = .ok (.aload 7, 2) := by decide +kernel
theorem dL_law_624 : decode cL_law 624 = .ok (.aload 8, 2) := by decide +kernel
theorem dL_law_626 : decode cL_law 626 = .ok (.invokestatic 189, 3) := by decide +kernel
theorem dL_law_629 : decode cL_law 629 = .ok (.ifCond .ne 5, 3) := by decide +kernel
theorem dL_law_632 : decode cL_law 632 = .ok (.iconst 0, 1) := by decide +kernel
theorem dL_law_633 : decode cL_law 633 = .ok (.ireturn, 1) := by decide +kernel
theorem dL_law_634 : decode cL_law 634 = .ok (.iinc 9 1, 3) := by decide +kernel
theorem dL_law_637 : decode cL_law 637 = .ok (.goto (-577), 3) := by decide +kernel
theorem dL_law_640 : decode cL_law 640 = .ok (.iconst 1, 1) := by decide +kernel
theorem dL_law_641 : decode cL_law 641 = .ok (.ireturn, 1) := by decide +kernel
