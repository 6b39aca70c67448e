theorem dL_acts_333 : decode cL_acts 333 = .ok (.ishr, 1) := by decide +kernel
theorem dL_acts_334 : decode cL_acts 334 = .ok (.iconst 3, 1) := by decide +kernel
theorem dL_acts_335 : decode cL_acts 335 = .ok (.invokestatic 123, 3) := by decide +kernel
theorem dL_acts_338 : decode cL_acts 338 = .ok (.ifCond .ne 9, 3) := by decide +kernel
theorem dL_acts_341 : decode cL_acts 341 = .ok (.sipush 1000, 3) := by decide +kernel
theorem dL_acts_344 : decode cL_acts 344 = .ok (.goto 5, 3) := by decide +kernel
theorem dL_acts_347 : decode cL_acts 347 = .ok (.bipush 20, 2) := by decide +kernel
theorem dL_acts_349 : decode cL_acts 349 = .ok (.isub, 1) := by decide +kernel
theorem dL_acts_350 : decode cL_acts 350 = .ok (.goto 11, 3) := by decide +kernel
theorem dL_acts_353 : decode cL_acts 353 = .ok (.iload 7, 2) := by decide +kernel
theorem dL_acts_355 : decode cL_acts 355 = .ok (.iconst 2, 1) := by decide +kernel
theorem dL_acts_356 : decode cL_acts 356 = .ok (.ishr, 1) := by decide +kernel
theorem dL_acts_357 : decode cL_acts 357 = .ok (.iconst 2, 1) := by decide +kernel
theorem dL_acts_358 : decode cL_acts 358 = .ok (.invokestatic 123, 3) := by decide +kernel
theorem dL_acts_361 : decode cL_acts 361 = .ok (.istore 11, 2) := by decide +kernel
theorem dL_acts_363 : decode cL_acts 363 = .ok (.iload 8, 2) := by decide +kernel
theorem dL_acts_365 : decode cL_acts 365 = .ok (.bipush 12, 2) := by decide +kernel
theorem dL_acts_367 : decode cL_acts 367 = .ok (.if_icmp .ge 94, 3) := by decide +kernel
theorem dL_acts_370 : decode cL_acts 370 = .ok (.iconst 1, 1) := by decide +kernel
theorem dL_acts_371 : decode cL_acts 371 = .ok (.iload 7, 2) := by decide +kernel
theorem dL_acts_373 : decode cL_acts 373 = .ok (.bipush 14, 2) := by decide +kernel
theorem dL_acts_375 : decode cL_acts 375 = .ok (.ishr, 1) := by decide +kernel
theorem dL_acts_376 : decode cL_acts 376 = .ok (.bipush 16, 2) := by decide +kernel
theorem dL_acts_378 : decode cL_acts 378 = .ok (.invokestatic 123, 3) := by decide +kernel
theorem dL_acts_381 : decode cL_acts 381 = .ok (.iadd, 1) := by decide +kernel
theorem dL_acts_382 : decode cL_acts 382 = .ok (.istore 12, 2) := by decide +kernel
theorem dL_acts_384 : decode cL_acts 384 = .ok (.aload_n 0, 1) := by decide +kernel
theorem dL_acts_385 : decode cL_acts 385 = .ok (.aload_n 1, 1) := by decide +kernel
theorem dL_acts_386 : decode cL_acts 386 = .ok (.aload 4, 2) := by decide +kernel
theorem dL_acts_388 : decode cL_acts 388 = .ok (.aload 5, 2) := by decide +kernel
theorem dL_acts_390 : decode cL_acts 390 = .ok (.iload 9, 2) := by decide +kernel
theorem dL_acts_392 : decode cL_acts 392 = .ok (.iload 12, 2) := by decide +kernel
theorem dL_acts_394 : decode cL_acts 394 = .ok (.iload 11, 2) := by decide +kernel
theorem dL_acts_396 : decode cL_acts 396 = .ok (.invokestatic 130, 3) := by decide +kernel
theorem dL_acts_399 : decode cL_acts 399 = .ok (.ifCond .eq 60, 3) := by decide +kernel
theorem dL_acts_402 : decode cL_acts 402 = .ok (.aload_n 0, 1) := by decide +kernel
theorem dL_acts_403 : decode cL_acts 403 = .ok (.iload 9, 2) := by decide +kernel
theorem dL_acts_405 : decode cL_acts 405 = .ok (.bipush 17, 2) := by decide +kernel
theorem dL_acts_407 : decode cL_acts 407 = .ok (.iconst 0, 1) := by decide +kernel
theorem dL_acts_408 : decode cL_acts 408 = .ok (.invokestatic 120, 3) := by decide +kernel
theorem dL_acts_411 : decode cL_acts 411 = .ok (.ldc 18, 2) := by decide +kernel
theorem dL_acts_413 : decode cL_acts 413 = .ok (.if_icmp .ne 46, 3) := by decide +kernel
theorem dL_acts_416 : decode cL_acts 416 = .ok (.aload_n 0, 1) := by decide +kernel
theorem dL_acts_417 : decode cL_acts 417 = .ok (.iload 9, 2) := by decide +kernel
theorem dL_acts_419 : decode cL_acts 419 = .ok (.iconst 1, 1) := by decide +kernel
theorem dL_acts_420 : decode cL_acts 420 = .ok (.iload 10, 2) := by decide +kernel
theorem dL_acts_422 : decode cL_acts 422 = .ok (.ifCond .eq 9, 3) := by decide +kernel
theorem dL_acts_425 : decode cL_acts 425 = .ok (.sipush 1001, 3) := by decide +kernel
theorem dL_acts_428 : decode cL_acts 428 = .ok (.goto 4, 3) := by decide +kernel
theorem dL_acts_431 : decode cL_acts 431 = .ok (.iconst 2, 1) := by decide +kernel
theorem dL_acts_432 : decode cL_acts 432 = .ok (.invokestatic 120, 3) := by decide +kernel
theorem dL_acts_435 : decode cL_acts 435 = .ok (.ldc 18, 2) := by decide +kernel
theorem dL_acts_437 : decode cL_acts 437 = .ok (.if_icmp .ne 22, 3) := by decide +kernel
theorem dL_acts_440 : decode cL_acts 440 = .ok (.aload_n 0, 1) := by decide +kernel
theorem dL_acts_441 : decode cL_acts 441 = .ok (.aload 5, 2) := by decide +kernel
theorem dL_acts_443 : decode cL_acts 443 = .ok (.iconst 0, 1) := by decide +kernel
theorem dL_acts_444 : decode cL_acts 444 = .ok (.iaload, 1) := by decide +kernel
theorem dL_acts_445 : decode cL_acts 445 = .ok (.iconst 0, 1) := by decide +kernel
theorem dL_acts_446 : decode cL_acts 446 = .ok (.iconst 0, 1) := by decide +kernel
theorem dL_acts_447 : decode cL_acts 447 = .ok (.invokestatic 120, 3) := by decide +kernel
theorem dL_acts_450 : decode cL_acts 450 = .ok (.ldc 32, 2) := by decide +kernel
theorem dL_acts_452 : decode cL_acts 452 = .ok (.if_icmp .ne 7, 3) := by decide +kernel
theorem dL_acts_455 : decode cL_acts 455 = .ok (.iconst 1, 1) := by decide +kernel
theorem dL_acts_456 : decode cL_acts 456 = .ok (.goto 4, 3) := by decide +kernel
theorem dL_acts_459 : decode cL_acts 459 = .ok (.iconst 0, 1) := by decide +kernel
theorem dL_acts_460 : decode cL_acts 460 = .ok (.ireturn, 1) := by decide +kernel
theorem dL_acts_461 : decode cL_acts 461 = .ok (.iload 8, 2) := by decide +kernel
theorem dL_acts_463 : decode cL_acts 463 = .ok (.bipush 14, 2) := by decide +kernel
theorem dL_acts_465 : decode cL_acts 465 = .ok (.if_icmp .ge 243, 3) := by decide +kernel
theorem dL_acts_468 : decode cL_acts 468 = .ok (.iconst 1, 1) := by decide +kernel
theorem dL_acts_469 : decode cL_acts 469 = .ok (.iload 7, 2) := by decide +kernel
theorem dL_acts_471 : decode cL_acts 471 = .ok (.iload 6, 2) := by decide +kernel
theorem dL_acts_473 : decode cL_acts 473 = .ok (.bipush 9, 2) := by decide +kernel
theorem dL_acts_475 : decode cL_acts 475 = .ok (.ishr, 1) := by decide +kernel
theorem dL_acts_476 : decode cL_acts 476 = .ok (.iconst 3, 1) := by decide +kernel
theorem dL_acts_477 : decode cL_acts 477 = .ok (.invokestatic 123, 3) := by decide +kernel
theorem dL_acts_480 : decode cL_acts 480 = .ok (.ifCond .ne 9, 3) := by decide +kernel
theorem dL_acts_483 : decode cL_acts 483 = .ok (.sipush 2000, 3) := by decide +kernel
theorem dL_acts_486 : decode cL_acts 486 = .ok (.goto 5, 3) := by decide +kernel
theorem dL_acts_489 : decode cL_acts 489 = .ok (.bipush 10, 2) := by decide +kernel
theorem dL_acts_491 : decode cL_acts 491 = .ok (.invokestatic 123, 3) := by decide +kernel
theorem dL_acts_494 : decode cL_acts 494 = .ok (.iadd, 1) := by decide +kernel
theorem dL_acts_495 : decode cL_acts 495 = .ok (.istore 12, 2) := by decide +kernel
theorem dL_acts_497 : decode cL_acts 497 = .ok (.iconst 1, 1) := by decide +kernel
theorem dL_acts_498 : decode cL_acts 498 = .ok (.iload 7, 2) := by decide +kernel
theorem dL_acts_500 : decode cL_acts 500 = .ok (.bipush 11, 2) := by decide +kernel
theorem dL_acts_502 : decode cL_acts 502 = .ok (.ishr, 1) := by decide +kernel
theorem dL_acts_503 : decode cL_acts 503 = .ok (.iload 6, 2) := by decide +kernel
theorem dL_acts_505 : decode cL_acts 505 = .ok (.bipush 9, 2) := by decide +kernel
theorem dL_acts_507 : decode cL_acts 507 = .ok (.ishr, 1) := by decide +kernel
theorem dL_acts_508 : decode cL_acts 508 = .ok (.iconst 3, 1) := by decide +kernel
theorem dL_acts_509 : decode cL_acts 509 = .ok (.invokestatic 123, 3) := by decide +kernel
theorem dL_acts_512 : decode cL_acts 512 = .ok (.ifCond .ne 8, 3) := by decide +kernel
theorem dL_acts_515 : decode cL_acts 515 = .ok (.ldc 134, 2) := by decide +kernel
theorem dL_acts_517 : decode cL_acts 517 = .ok (.goto 5, 3) := by decide +kernel
theorem dL_acts_520 : decode cL_acts 520 = .ok (.bipush 60, 2) := by decide +kernel
theorem dL_acts_522 : decode cL_acts 522 = .ok (.invokestatic 123, 3) := by decide +kernel
theorem dL_acts_525 : decode cL_acts 525 = .ok (.iadd, 1) := by decide +kernel
theorem dL_acts_526 : decode cL_acts 526 = .ok (.istore 13, 2) := by decide +kernel
theorem dL_acts_528 : decode cL_acts 528 = .ok (.aload 5, 2) := by decide +kernel
theorem dL_acts_530 : decode cL_acts 530 = .ok (.iconst 1, 1) := by decide +kernel
theorem dL_acts_531 : decode cL_acts 531 = .ok (.iaload, 1) := by decide +kernel
theorem dL_acts_532 : decode cL_acts 532 = .ok (.bipush 30, 2) := by decide +kernel
theorem dL_acts_534 : decode cL_acts 534 = .ok (.if_icmp .ge 10, 3) := by decide +kernel
theorem dL_acts_537 : decode cL_acts 537 = .ok (.aload 5, 2) := by decide +kernel
theorem dL_acts_539 : decode cL_acts 539 = .ok (.iconst 1, 1) := by decide +kernel
theorem dL_acts_540 : decode cL_acts 540 = .ok (.iaload, 1) := by decide +kernel
theorem dL_acts_541 : decode cL_acts 541 = .ok (.goto 5, 3) := by decide +kernel
theorem dL_acts_544 : decode cL_acts 544 = .ok (.ldc 21, 2) := by decide +kernel
theorem dL_acts_546 : decode cL_acts 546 = .ok (.istore 14, 2) := by decide +kernel
theorem dL_acts_548 : decode cL_acts 548 = .ok (.iload 14, 2) := by decide +kernel
theorem dL_acts_550 : decode cL_acts 550 = .ok (.ifCond .lt 44, 3) := by decide +kernel
theorem dL_acts_553 : decode cL_acts 553 = .ok (.aload_n 3, 1) := by decide +kernel
theorem dL_acts_554 : decode cL_acts 554 = .ok (.iconst 3, 1) := by decide +kernel
theorem dL_acts_555 : decode cL_acts 555 = .ok (.iload 14, 2) := by decide +kernel
theorem dL_acts_557 : decode cL_acts 557 = .ok (.imul, 1) := by decide +kernel
theorem dL_acts_558 : decode cL_acts 558 = .ok (.iload 9, 2) := by decide +kernel
theorem dL_acts_560 : decode cL_acts 560 = .ok (.iastore, 1) := by decide +kernel
theorem dL_acts_561 : decode cL_acts 561 = .ok (.aload_n 3, 1) := by decide +kernel
theorem dL_acts_562 : decode cL_acts 562 = .ok (.iconst 3, 1) := by decide +kernel
theorem dL_acts_563 : decode cL_acts 563 = .ok (.iload 14, 2) := by decide +kernel
theorem dL_acts_565 : decode cL_acts 565 = .ok (.imul, 1) := by decide +kernel
theorem dL_acts_566 : decode cL_acts 566 = .ok (.iconst 1, 1) := by decide +kernel
theorem dL_acts_567 : decode cL_acts 567 = .ok (.iadd, 1) := by decide +kernel
theorem dL_acts_568 : decode cL_acts 568 = .ok (.iload 12, 2) := by decide +kernel
theorem dL_acts_570 : decode cL_acts 570 = .ok (.iastore, 1) := by decide +kernel
theorem dL_acts_571 : decode cL_acts 571 = .ok (.aload_n 3, 1) := by decide +kernel
theorem dL_acts_572 : decode cL_acts 572 = .ok (.iconst 3, 1) := by decide +kernel
theorem dL_acts_573 : decode cL_acts 573 = .ok (.iload 14, 2) := by decide +kernel
theorem dL_acts_575 : decode cL_acts 575 = .ok (.imul, 1) := by decide +kernel
theorem dL_acts_576 : decode cL_acts 576 = .ok (.iconst 2, 1) := by decide +kernel
theorem dL_acts_577 : decode cL_acts 577 = .ok (.iadd, 1) := by decide +kernel
theorem dL_acts_578 : decode cL_acts 578 = .ok (.aload_n 0, 1) := by decide +kernel
theorem dL_acts_579 : decode cL_acts 579 = .ok (.invokevirtual 81, 3) := by decide +kernel
theorem dL_acts_582 : decode cL_acts 582 = .ok (.iload 13, 2) := by decide +kernel
theorem dL_acts_584 : decode cL_acts 584 = .ok (.iadd, 1) := by decide +kernel
theorem dL_acts_585 : decode cL_acts 585 = .ok (.iastore, 1) := by decide +kernel
theorem dL_acts_586 : decode cL_acts 586 = .ok (.aload 5, 2) := by decide +kernel
theorem dL_acts_588 : decode cL_acts 588 = .ok (.iconst 1, 1) := by decide +kernel
theorem dL_acts_589 : decode cL_acts 589 = .ok (.dup2, 1) := by decide +kernel
theorem dL_acts_590 : decode cL_acts 590 = .ok (.iaload, 1) := by decide +kernel
theorem dL_acts_591 : decode cL_acts 591 = .ok (.iconst 1, 1) := by decide +kernel
theorem dL_acts_592 : decode cL_acts 592 = .ok (.iadd, 1) := by decide +kernel
theorem dL_acts_593 : decode cL_acts 593 = .ok (.iastore, 1) := by decide +kernel
theorem dL_acts_594 : decode cL_acts 594 = .ok (.aload_n 0, 1) := by decide +kernel
theorem dL_acts_595 : decode cL_acts 595 = .ok (.iload 9, 2) := by decide +kernel
theorem dL_acts_597 : decode cL_acts 597 = .ok (.iload 12, 2) := by decide +kernel
theorem dL_acts_599 : decode cL_acts 599 = .ok (.iload 13, 2) := by decide +kernel
theorem dL_acts_601 : decode cL_acts 601 = .ok (.invokestatic 135, 3) := by decide +kernel
theorem dL_acts_604 : decode cL_acts 604 = .ok (.iload 14, 2) := by decide +kernel
theorem dL_acts_606 : decode cL_acts 606 = .ok (.if_icmp .ne 100, 3) := by decide +kernel
theorem dL_acts_609 : decode cL_acts 609 = .ok (.aload_n 1, 1) := by decide +kernel
theorem dL_acts_610 : decode cL_acts 610 = .ok (.iload 9, 2) := by decide +kernel
theorem dL_acts_612 : decode cL_acts 612 = .ok (.iload 12, 2) := by decide +kernel
theorem dL_acts_614 : decode cL_acts 614 = .ok (.iload 13, 2) := by decide +kernel
theorem dL_acts_616 : decode cL_acts 616 = .ok (.invokestatic 135, 3) := by decide +kernel
theorem dL_acts_619 : decode cL_acts 619 = .ok (.iload 14, 2) := by decide +kernel
theorem dL_acts_621 : decode cL_acts 621 = .ok (.if_icmp .ne 85, 3) := by decide +kernel
theorem dL_acts_624 : decode cL_acts 624 = .ok (.aload_n 0, 1) := by decide +kernel
theorem dL_acts_625 : decode cL_acts 625 = .ok (.iload 9, 2) := by decide +kernel
theorem dL_acts_627 : decode cL_acts 627 = .ok (.iconst 0, 1) := by decide +kernel
theorem dL_acts_628 : decode cL_acts 628 = .ok (.iconst 1, 1) := by decide +kernel
theorem dL_acts_629 : decode cL_acts 629 = .ok (.invokestatic 135, 3) := by decide +kernel
theorem dL_acts_632 : decode cL_acts 632 = .ok (.ldc 18, 2) := by decide +kernel
theorem dL_acts_634 : decode cL_acts 634 = .ok (.if_icmp .ne 72, 3) := by decide +kernel
theorem dL_acts_637 : decode cL_acts 637 = .ok (.aload_n 0, 1) := by decide +kernel
theorem dL_acts_638 : decode cL_acts 638 = .ok (.iload 9, 2) := by decide +kernel
theorem dL_acts_640 : decode cL_acts 640 = .ok (.iconst 1, 1) := by decide +kernel
theorem dL_acts_641 : decode cL_acts 641 = .ok (.ldc 137, 2) := by decide +kernel
theorem dL_acts_643 : decode cL_acts 643 = .ok (.invokestatic 135, 3) := by decide +kernel
