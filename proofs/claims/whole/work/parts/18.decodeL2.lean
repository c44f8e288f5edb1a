theorem d_Law_law_380 : decode b_Law_law 380 = .ok (.ireturn, 1) := by decide +kernel
theorem d_Law_law_381 : decode b_Law_law 381 = .ok (.aload_n 1, 1) := by decide +kernel
theorem d_Law_law_382 : decode b_Law_law 382 = .ok (.aload_n 0, 1) := by decide +kernel
theorem d_Law_law_383 : decode b_Law_law 383 = .ok (.iload_n 3, 1) := by decide +kernel
theorem d_Law_law_384 : decode b_Law_law 384 = .ok (.iconst 1, 1) := by decide +kernel
theorem d_Law_law_385 : decode b_Law_law 385 = .ok (.iadd, 1) := by decide +kernel
theorem d_Law_law_386 : decode b_Law_law 386 = .ok (.iaload, 1) := by decide +kernel
theorem d_Law_law_387 : decode b_Law_law 387 = .ok (.invokevirtual 45, 3) := by decide +kernel
theorem d_Law_law_390 : decode b_Law_law 390 = .ok (.aload_n 2, 1) := by decide +kernel
theorem d_Law_law_391 : decode b_Law_law 391 = .ok (.aload_n 0, 1) := by decide +kernel
theorem d_Law_law_392 : decode b_Law_law 392 = .ok (.iload_n 3, 1) := by decide +kernel
theorem d_Law_law_393 : decode b_Law_law 393 = .ok (.iconst 1, 1) := by decide +kernel
theorem d_Law_law_394 : decode b_Law_law 394 = .ok (.iadd, 1) := by decide +kernel
theorem d_Law_law_395 : decode b_Law_law 395 = .ok (.iaload, 1) := by decide +kernel
theorem d_Law_law_396 : decode b_Law_law 396 = .ok (.invokevirtual 49, 3) := by decide +kernel
theorem d_Law_law_399 : decode b_Law_law 399 = .ok (.if_icmp .eq 265, 3) := by decide +kernel
theorem d_Law_law_402 : decode b_Law_law 402 = .ok (.iconst 0, 1) := by decide +kernel
theorem d_Law_law_403 : decode b_Law_law 403 = .ok (.ireturn, 1) := by decide +kernel
theorem d_Law_law_404 : decode b_Law_law 404 = .ok (.aload_n 1, 1) := by decide +kernel
theorem d_Law_law_405 : decode b_Law_law 405 = .ok (.aload_n 0, 1) := by decide +kernel
theorem d_Law_law_406 : decode b_Law_law 406 = .ok (.iload_n 3, 1) := by decide +kernel
theorem d_Law_law_407 : decode b_Law_law 407 = .ok (.iconst 1, 1) := by decide +kernel
theorem d_Law_law_408 : decode b_Law_law 408 = .ok (.iadd, 1) := by decide +kernel
theorem d_Law_law_409 : decode b_Law_law 409 = .ok (.iaload, 1) := by decide +kernel
theorem d_Law_law_410 : decode b_Law_law 410 = .ok (.invokevirtual 50, 3) := by decide +kernel
theorem d_Law_law_413 : decode b_Law_law 413 = .ok (.aload_n 2, 1) := by decide +kernel
theorem d_Law_law_414 : decode b_Law_law 414 = .ok (.aload_n 0, 1) := by decide +kernel
theorem d_Law_law_415 : decode b_Law_law 415 = .ok (.iload_n 3, 1) := by decide +kernel
theorem d_Law_law_416 : decode b_Law_law 416 = .ok (.iconst 1, 1) := by decide +kernel
theorem d_Law_law_417 : decode b_Law_law 417 = .ok (.iadd, 1) := by decide +kernel
theorem d_Law_law_418 : decode b_Law_law 418 = .ok (.iaload, 1) := by decide +kernel
theorem d_Law_law_419 : decode b_Law_law 419 = .ok (.invokevirtual 53, 3) := by decide +kernel
theorem d_Law_law_422 : decode b_Law_law 422 = .ok (.if_icmp .eq 242, 3) := by decide +kernel
theorem d_Law_law_425 : decode b_Law_law 425 = .ok (.iconst 0, 1) := by decide +kernel
theorem d_Law_law_426 : decode b_Law_law 426 = .ok (.ireturn, 1) := by decide +kernel
theorem d_Law_law_427 : decode b_Law_law 427 = .ok (.aload_n 1, 1) := by decide +kernel
theorem d_Law_law_428 : decode b_Law_law 428 = .ok (.aload_n 0, 1) := by decide +kernel
theorem d_Law_law_429 : decode b_Law_law 429 = .ok (.iload_n 3, 1) := by decide +kernel
theorem d_Law_law_430 : decode b_Law_law 430 = .ok (.iconst 1, 1) := by decide +kernel
theorem d_Law_law_431 : decode b_Law_law 431 = .ok (.iadd, 1) := by decide +kernel
theorem d_Law_law_432 : decode b_Law_law 432 = .ok (.iaload, 1) := by decide +kernel
theorem d_Law_law_433 : decode b_Law_law 433 = .ok (.aload_n 0, 1) := by decide +kernel
theorem d_Law_law_434 : decode b_Law_law 434 = .ok (.iload_n 3, 1) := by decide +kernel
theorem d_Law_law_435 : decode b_Law_law 435 = .ok (.iconst 2, 1) := by decide +kernel
theorem d_Law_law_436 : decode b_Law_law 436 = .ok (.iadd, 1) := by decide +kernel
theorem d_Law_law_437 : decode b_Law_law 437 = .ok (.iaload, 1) := by decide +kernel
theorem d_Law_law_438 : decode b_Law_law 438 = .ok (.invokevirtual 54, 3) := by decide +kernel
theorem d_Law_law_441 : decode b_Law_law 441 = .ok (.aload_n 2, 1) := by decide +kernel
theorem d_Law_law_442 : decode b_Law_law 442 = .ok (.aload_n 0, 1) := by decide +kernel
theorem d_Law_law_443 : decode b_Law_law 443 = .ok (.iload_n 3, 1) := by decide +kernel
theorem d_Law_law_444 : decode b_Law_law 444 = .ok (.iconst 1, 1) := by decide +kernel
theorem d_Law_law_445 : decode b_Law_law 445 = .ok (.iadd, 1) := by decide +kernel
theorem d_Law_law_446 : decode b_Law_law 446 = .ok (.iaload, 1) := by decide +kernel
theorem d_Law_law_447 : decode b_Law_law 447 = .ok (.aload_n 0, 1) := by decide +kernel
theorem d_Law_law_448 : decode b_Law_law 448 = .ok (.iload_n 3, 1) := by decide +kernel
theorem d_Law_law_449 : decode b_Law_law 449 = .ok (.iconst 2, 1) := by decide +kernel
theorem d_Law_law_450 : decode b_Law_law 450 = .ok (.iadd, 1) := by decide +kernel
theorem d_Law_law_451 : decode b_Law_law 451 = .ok (.iaload, 1) := by decide +kernel
theorem d_Law_law_452 : decode b_Law_law 452 = .ok (.invokevirtual 58, 3) := by decide +kernel
theorem d_Law_law_455 : decode b_Law_law 455 = .ok (.if_icmp .eq 209, 3) := by decide +kernel
theorem d_Law_law_458 : decode b_Law_law 458 = .ok (.iconst 0, 1) := by decide +kernel
theorem d_Law_law_459 : decode b_Law_law 459 = .ok (.ireturn, 1) := by decide +kernel
theorem d_Law_law_460 : decode b_Law_law 460 = .ok (.aload_n 1, 1) := by decide +kernel
theorem d_Law_law_461 : decode b_Law_law 461 = .ok (.aload_n 0, 1) := by decide +kernel
theorem d_Law_law_462 : decode b_Law_law 462 = .ok (.iload_n 3, 1) := by decide +kernel
theorem d_Law_law_463 : decode b_Law_law 463 = .ok (.iconst 1, 1) := by decide +kernel
theorem d_Law_law_464 : decode b_Law_law 464 = .ok (.iadd, 1) := by decide +kernel
theorem d_Law_law_465 : decode b_Law_law 465 = .ok (.iaload, 1) := by decide +kernel
theorem d_Law_law_466 : decode b_Law_law 466 = .ok (.invokevirtual 59, 3) := by decide +kernel
theorem d_Law_law_469 : decode b_Law_law 469 = .ok (.aload_n 2, 1) := by decide +kernel
theorem d_Law_law_470 : decode b_Law_law 470 = .ok (.aload_n 0, 1) := by decide +kernel
theorem d_Law_law_471 : decode b_Law_law 471 = .ok (.iload_n 3, 1) := by decide +kernel
theorem d_Law_law_472 : decode b_Law_law 472 = .ok (.iconst 1, 1) := by decide +kernel
theorem d_Law_law_473 : decode b_Law_law 473 = .ok (.iadd, 1) := by decide +kernel
theorem d_Law_law_474 : decode b_Law_law 474 = .ok (.iaload, 1) := by decide +kernel
theorem d_Law_law_475 : decode b_Law_law 475 = .ok (.invokevirtual 62, 3) := by decide +kernel
theorem d_Law_law_478 : decode b_Law_law 478 = .ok (.if_icmp .eq 186, 3) := by decide +kernel
theorem d_Law_law_481 : decode b_Law_law 481 = .ok (.iconst 0, 1) := by decide +kernel
theorem d_Law_law_482 : decode b_Law_law 482 = .ok (.ireturn, 1) := by decide +kernel
theorem d_Law_law_483 : decode b_Law_law 483 = .ok (.aload_n 1, 1) := by decide +kernel
theorem d_Law_law_484 : decode b_Law_law 484 = .ok (.aload_n 0, 1) := by decide +kernel
theorem d_Law_law_485 : decode b_Law_law 485 = .ok (.iload_n 3, 1) := by decide +kernel
theorem d_Law_law_486 : decode b_Law_law 486 = .ok (.iconst 1, 1) := by decide +kernel
theorem d_Law_law_487 : decode b_Law_law 487 = .ok (.iadd, 1) := by decide +kernel
theorem d_Law_law_488 : decode b_Law_law 488 = .ok (.iaload, 1) := by decide +kernel
theorem d_Law_law_489 : decode b_Law_law 489 = .ok (.invokevirtual 63, 3) := by decide +kernel
theorem d_Law_law_492 : decode b_Law_law 492 = .ok (.aload_n 2, 1) := by decide +kernel
theorem d_Law_law_493 : decode b_Law_law 493 = .ok (.aload_n 0, 1) := by decide +kernel
theorem d_Law_law_494 : decode b_Law_law 494 = .ok (.iload_n 3, 1) := by decide +kernel
theorem d_Law_law_495 : decode b_Law_law 495 = .ok (.iconst 1, 1) := by decide +kernel
theorem d_Law_law_496 : decode b_Law_law 496 = .ok (.iadd, 1) := by decide +kernel
theorem d_Law_law_497 : decode b_Law_law 497 = .ok (.iaload, 1) := by decide +kernel
theorem d_Law_law_498 : decode b_Law_law 498 = .ok (.invokevirtual 66, 3) := by decide +kernel
theorem d_Law_law_501 : decode b_Law_law 501 = .ok (.if_icmp .eq 163, 3) := by decide +kernel
theorem d_Law_law_504 : decode b_Law_law 504 = .ok (.iconst 0, 1) := by decide +kernel
theorem d_Law_law_505 : decode b_Law_law 505 = .ok (.ireturn, 1) := by decide +kernel
theorem d_Law_law_506 : decode b_Law_law 506 = .ok (.aload_n 1, 1) := by decide +kernel
theorem d_Law_law_507 : decode b_Law_law 507 = .ok (.aload_n 0, 1) := by decide +kernel
theorem d_Law_law_508 : decode b_Law_law 508 = .ok (.iload_n 3, 1) := by decide +kernel
theorem d_Law_law_509 : decode b_Law_law 509 = .ok (.iconst 1, 1) := by decide +kernel
theorem d_Law_law_510 : decode b_Law_law 510 = .ok (.iadd, 1) := by decide +kernel
theorem d_Law_law_511 : decode b_Law_law 511 = .ok (.iaload, 1) := by decide +kernel
theorem d_Law_law_512 : decode b_Law_law 512 = .ok (.aload_n 0, 1) := by decide +kernel
theorem d_Law_law_513 : decode b_Law_law 513 = .ok (.iload_n 3, 1) := by decide +kernel
theorem d_Law_law_514 : decode b_Law_law 514 = .ok (.iconst 2, 1) := by decide +kernel
theorem d_Law_law_515 : decode b_Law_law 515 = .ok (.iadd, 1) := by decide +kernel
theorem d_Law_law_516 : decode b_Law_law 516 = .ok (.iaload, 1) := by decide +kernel
theorem d_Law_law_517 : decode b_Law_law 517 = .ok (.invokevirtual 67, 3) := by decide +kernel
theorem d_Law_law_520 : decode b_Law_law 520 = .ok (.aload_n 2, 1) := by decide +kernel
theorem d_Law_law_521 : decode b_Law_law 521 = .ok (.aload_n 0, 1) := by decide +kernel
theorem d_Law_law_522 : decode b_Law_law 522 = .ok (.iload_n 3, 1) := by decide +kernel
theorem d_Law_law_523 : decode b_Law_law 523 = .ok (.iconst 1, 1) := by decide +kernel
theorem d_Law_law_524 : decode b_Law_law 524 = .ok (.iadd, 1) := by decide +kernel
theorem d_Law_law_525 : decode b_Law_law 525 = .ok (.iaload, 1) := by decide +kernel
theorem d_Law_law_526 : decode b_Law_law 526 = .ok (.aload_n 0, 1) := by decide +kernel
theorem d_Law_law_527 : decode b_Law_law 527 = .ok (.iload_n 3, 1) := by decide +kernel
theorem d_Law_law_528 : decode b_Law_law 528 = .ok (.iconst 2, 1) := by decide +kernel
theorem d_Law_law_529 : decode b_Law_law 529 = .ok (.iadd, 1) := by decide +kernel
theorem d_Law_law_530 : decode b_Law_law 530 = .ok (.iaload, 1) := by decide +kernel
theorem d_Law_law_531 : decode b_Law_law 531 = .ok (.invokevirtual 70, 3) := by decide +kernel
theorem d_Law_law_534 : decode b_Law_law 534 = .ok (.if_icmp .eq 130, 3) := by decide +kernel
theorem d_Law_law_537 : decode b_Law_law 537 = .ok (.iconst 0, 1) := by decide +kernel
theorem d_Law_law_538 : decode b_Law_law 538 = .ok (.ireturn, 1) := by decide +kernel
theorem d_Law_law_539 : decode b_Law_law 539 = .ok (.aload_n 1, 1) := by decide +kernel
theorem d_Law_law_540 : decode b_Law_law 540 = .ok (.aload_n 0, 1) := by decide +kernel
theorem d_Law_law_541 : decode b_Law_law 541 = .ok (.iload_n 3, 1) := by decide +kernel
theorem d_Law_law_542 : decode b_Law_law 542 = .ok (.iconst 1, 1) := by decide +kernel
theorem d_Law_law_543 : decode b_Law_law 543 = .ok (.iadd, 1) := by decide +kernel
theorem d_Law_law_544 : decode b_Law_law 544 = .ok (.iaload, 1) := by decide +kernel
theorem d_Law_law_545 : decode b_Law_law 545 = .ok (.invokevirtual 71, 3) := by decide +kernel
theorem d_Law_law_548 : decode b_Law_law 548 = .ok (.aload_n 2, 1) := by decide +kernel
theorem d_Law_law_549 : decode b_Law_law 549 = .ok (.aload_n 0, 1) := by decide +kernel
theorem d_Law_law_550 : decode b_Law_law 550 = .ok (.iload_n 3, 1) := by decide +kernel
theorem d_Law_law_551 : decode b_Law_law 551 = .ok (.iconst 1, 1) := by decide +kernel
theorem d_Law_law_552 : decode b_Law_law 552 = .ok (.iadd, 1) := by decide +kernel
theorem d_Law_law_553 : decode b_Law_law 553 = .ok (.iaload, 1) := by decide +kernel
theorem d_Law_law_554 : decode b_Law_law 554 = .ok (.invokevirtual 74, 3) := by decide +kernel
theorem d_Law_law_557 : decode b_Law_law 557 = .ok (.if_icmp .eq 107, 3) := by decide +kernel
theorem d_Law_law_560 : decode b_Law_law 560 = .ok (.iconst 0, 1) := by decide +kernel
theorem d_Law_law_561 : decode b_Law_law 561 = .ok (.ireturn, 1) := by decide +kernel
theorem d_Law_law_562 : decode b_Law_law 562 = .ok (.aload_n 1, 1) := by decide +kernel
theorem d_Law_law_563 : decode b_Law_law 563 = .ok (.invokevirtual 75, 3) := by decide +kernel
theorem d_Law_law_566 : decode b_Law_law 566 = .ok (.aload_n 2, 1) := by decide +kernel
theorem d_Law_law_567 : decode b_Law_law 567 = .ok (.invokevirtual 78, 3) := by decide +kernel
theorem d_Law_law_570 : decode b_Law_law 570 = .ok (.if_icmp .eq 94, 3) := by decide +kernel
theorem d_Law_law_573 : decode b_Law_law 573 = .ok (.iconst 0, 1) := by decide +kernel
theorem d_Law_law_574 : decode b_Law_law 574 = .ok (.ireturn, 1) := by decide +kernel
theorem d_Law_law_575 : decode b_Law_law 575 = .ok (.aload_n 1, 1) := by decide +kernel
theorem d_Law_law_576 : decode b_Law_law 576 = .ok (.aload_n 0, 1) := by decide +kernel
theorem d_Law_law_577 : decode b_Law_law 577 = .ok (.iload_n 3, 1) := by decide +kernel
theorem d_Law_law_578 : decode b_Law_law 578 = .ok (.iconst 1, 1) := by decide +kernel
theorem d_Law_law_579 : decode b_Law_law 579 = .ok (.iadd, 1) := by decide +kernel
theorem d_Law_law_580 : decode b_Law_law 580 = .ok (.iaload, 1) := by decide +kernel
theorem d_Law_law_581 : decode b_Law_law 581 = .ok (.aload_n 0, 1) := by decide +kernel
theorem d_Law_law_582 : decode b_Law_law 582 = .ok (.iload_n 3, 1) := by decide +kernel
theorem d_Law_law_583 : decode b_Law_law 583 = .ok (.iconst 2, 1) := by decide +kernel
theorem d_Law_law_584 : decode b_Law_law 584 = .ok (.iadd, 1) := by decide +kernel
theorem d_Law_law_585 : decode b_Law_law 585 = .ok (.iaload, 1) := by decide +kernel
theorem d_Law_law_586 : decode b_Law_law 586 = .ok (.invokevirtual 79, 3) := by decide +kernel
theorem d_Law_law_589 : decode b_Law_law 589 = .ok (.aload_n 2, 1) := by decide +kernel
theorem d_Law_law_590 : decode b_Law_law 590 = .ok (.aload_n 0, 1) := by decide +kernel
theorem d_Law_law_591 : decode b_Law_law 591 = .ok (.iload_n 3, 1) := by decide +kernel
theorem d_Law_law_592 : decode b_Law_law 592 = .ok (.iconst 1, 1) := by decide +kernel
theorem d_Law_law_593 : decode b_Law_law 593 = .ok (.iadd, 1) := by decide +kernel
theorem d_Law_law_594 : decode b_Law_law 594 = .ok (.iaload, 1) := by decide +kernel
theorem d_Law_law_595 : decode b_Law_law 595 = .ok (.aload_n 0, 1) := by decide +kernel
theorem d_Law_law_596 : decode b_Law_law 596 = .ok (.iload_n 3, 1) := by decide +kernel
theorem d_Law_law_597 : decode b_Law_law 597 = .ok (.iconst 2, 1) := by decide +kernel
theorem d_Law_law_598 : decode b_Law_law 598 = .ok (.iadd, 1) := by decide +kernel
theorem d_Law_law_599 : decode b_Law_law 599 = .ok (.iaload, 1) := by decide +kernel
theorem d_Law_law_600 : decode b_Law_law 600 = .ok (.invokevirtual 82, 3) := by decide +kernel
theorem d_Law_law_603 : decode b_Law_law 603 = .ok (.if_icmp .eq 61, 3) := by decide +kernel
theorem d_Law_law_606 : decode b_Law_law 606 = .ok (.iconst 0, 1) := by decide +kernel
theorem d_Law_law_607 : decode b_Law_law 607 = .ok (.ireturn, 1) := by decide +kernel
theorem d_Law_law_608 : decode b_Law_law 608 = .ok (.aload_n 1, 1) := by decide +kernel
theorem d_Law_law_609 : decode b_Law_law 609 = .ok (.aload_n 0, 1) := by decide +kernel
theorem d_Law_law_610 : decode b_Law_law 610 = .ok (.iload_n 3, 1) := by decide +kernel
theorem d_Law_law_611 : decode b_Law_law 611 = .ok (.iconst 1, 1) := by decide +kernel
theorem d_Law_law_612 : decode b_Law_law 612 = .ok (.iadd, 1) := by decide +kernel
theorem d_Law_law_613 : decode b_Law_law 613 = .ok (.iaload, 1) := by decide +kernel
theorem d_Law_law_614 : decode b_Law_law 614 = .ok (.aload_n 0, 1) := by decide +kernel
theorem d_Law_law_615 : decode b_Law_law 615 = .ok (.iload_n 3, 1) := by decide +kernel
theorem d_Law_law_616 : decode b_Law_law 616 = .ok (.iconst 2, 1) := by decide +kernel
theorem d_Law_law_617 : decode b_Law_law 617 = .ok (.iadd, 1) := by decide +kernel
theorem d_Law_law_618 : decode b_Law_law 618 = .ok (.iaload, 1) := by decide +kernel
theorem d_Law_law_619 : decode b_Law_law 619 = .ok (.aload_n 0, 1) := by decide +kernel
theorem d_Law_law_620 : decode b_Law_law 620 = .ok (.iload_n 3, 1) := by decide +kernel
theorem d_Law_law_621 : decode b_Law_law 621 = .ok (.iconst 3, 1) := by decide +kernel
theorem d_Law_law_622 : decode b_Law_law 622 = .ok (.iadd, 1) := by decide +kernel
theorem d_Law_law_623 : decode b_Law_law 623 = .ok (.iaload, 1) := by decide +kernel
theorem d_Law_law_624 : decode b_Law_law 624 = .ok (.invokevirtual 83, 3) := by decide +kernel
theorem d_Law_law_627 : decode b_Law_law 627 = .ok (.aload_n 2, 1) := by decide +kernel
theorem d_Law_law_628 : decode b_Law_law 628 = .ok (.aload_n 0, 1) := by decide +kernel
theorem d_Law_law_629 : decode b_Law_law 629 = .ok (.iload_n 3, 1) := by decide +kernel
theorem d_Law_law_630 : decode b_Law_law 630 = .ok (.iconst 1, 1) := by decide +kernel
theorem d_Law_law_631 : decode b_Law_law 631 = .ok (.iadd, 1) := by decide +kernel
theorem d_Law_law_632 : decode b_Law_law 632 = .ok (.iaload, 1) := by decide +kernel
theorem d_Law_law_633 : decode b_Law_law 633 = .ok (.aload_n 0, 1) := by decide +kernel
theorem d_Law_law_634 : decode b_Law_law 634 = .ok (.iload_n 3, 1) := by decide +kernel
theorem d_Law_law_635 : decode b_Law_law 635 = .ok (.iconst 2, 1) := by decide +kernel
theorem d_Law_law_636 : decode b_Law_law 636 = .ok (.iadd, 1) := by decide +kernel
theorem d_Law_law_637 : decode b_Law_law 637 = .ok (.iaload, 1) := by decide +kernel
theorem d_Law_law_638 : decode b_Law_law 638 = .ok (.aload_n 0, 1) := by decide +kernel
theorem d_Law_law_639 : decode b_Law_law 639 = .ok (.iload_n 3, 1) := by decide +kernel
theorem d_Law_law_640 : decode b_Law_law 640 = .ok (.iconst 3, 1) := by decide +kernel
theorem d_Law_law_641 : decode b_Law_law 641 = .ok (.iadd, 1) := by decide +kernel
theorem d_Law_law_642 : decode b_Law_law 642 = .ok (.iaload, 1) := by decide +kernel
theorem d_Law_law_643 : decode b_Law_law 643 = .ok (.invokevirtual 87, 3) := by decide +kernel
theorem d_Law_law_646 : decode b_Law_law 646 = .ok (.if_icmp .eq 18, 3) := by decide +kernel
theorem d_Law_law_649 : decode b_Law_law 649 = .ok (.iconst 0, 1) := by decide +kernel
theorem d_Law_law_650 : decode b_Law_law 650 = .ok (.ireturn, 1) := by decide +kernel
theorem d_Law_law_651 : decode b_Law_law 651 = .ok (.aload_n 1, 1) := by decide +kernel
theorem d_Law_law_652 : decode b_Law_law 652 = .ok (.invokevirtual 88, 3) := by decide +kernel
theorem d_Law_law_655 : decode b_Law_law 655 = .ok (.aload_n 2, 1) := by decide +kernel
theorem d_Law_law_656 : decode b_Law_law 656 = .ok (.invokevirtual 91, 3) := by decide +kernel
theorem d_Law_law_659 : decode b_Law_law 659 = .ok (.if_icmp .eq 5, 3) := by decide +kernel
theorem d_Law_law_662 : decode b_Law_law 662 = .ok (.iconst 0, 1) := by decide +kernel
theorem d_Law_law_663 : decode b_Law_law 663 = .ok (.ireturn, 1) := by decide +kernel
theorem d_Law_law_664 : decode b_Law_law 664 = .ok (.iinc 3 6, 3) := by decide +kernel
theorem d_Law_law_667 : decode b_Law_law 667 = .ok (.goto (-649), 3) := by decide +kernel
theorem d_Law_law_670 : decode b_Law_law 670 = .ok (.iconst 1, 1) := by decide +kernel
theorem d_Law_law_671 : decode b_Law_law 671 = .ok (.ireturn, 1) := by decide +kernel
