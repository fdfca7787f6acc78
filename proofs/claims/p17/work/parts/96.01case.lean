theorem dL_law_400 : decode cL_law 400 = .ok (.aload_n 1, 1) := by decide +kernel
theorem dL_law_401 : decode cL_law 401 = .ok (.aload_n 0, 1) := by decide +kernel
theorem dL_law_402 : decode cL_law 402 = .ok (.iload 4, 2) := by decide +kernel
theorem dL_law_404 : decode cL_law 404 = .ok (.iconst 1, 1) := by decide +kernel
theorem dL_law_405 : decode cL_law 405 = .ok (.iadd, 1) := by decide +kernel
theorem dL_law_406 : decode cL_law 406 = .ok (.iaload, 1) := by decide +kernel
theorem dL_law_407 : decode cL_law 407 = .ok (.aload_n 0, 1) := by decide +kernel
theorem dL_law_408 : decode cL_law 408 = .ok (.iload 4, 2) := by decide +kernel
theorem dL_law_410 : decode cL_law 410 = .ok (.iconst 2, 1) := by decide +kernel
theorem dL_law_411 : decode cL_law 411 = .ok (.iadd, 1) := by decide +kernel
theorem dL_law_412 : decode cL_law 412 = .ok (.iaload, 1) := by decide +kernel
theorem dL_law_413 : decode cL_law 413 = .ok (.i2l, 1) := by decide +kernel
theorem dL_law_414 : decode cL_law 414 = .ok (.bipush 32, 2) := by decide +kernel
theorem dL_law_416 : decode cL_law 416 = .ok (.lshl, 1) := by decide +kernel
theorem dL_law_417 : decode cL_law 417 = .ok (.aload_n 0, 1) := by decide +kernel
theorem dL_law_418 : decode cL_law 418 = .ok (.iload 4, 2) := by decide +kernel
theorem dL_law_420 : decode cL_law 420 = .ok (.iconst 3, 1) := by decide +kernel
theorem dL_law_421 : decode cL_law 421 = .ok (.iadd, 1) := by decide +kernel
theorem dL_law_422 : decode cL_law 422 = .ok (.iaload, 1) := by decide +kernel
theorem dL_law_423 : decode cL_law 423 = .ok (.i2l, 1) := by decide +kernel
theorem dL_law_424 : decode cL_law 424 = .ok (.ldc2_w 100, 3) := by decide +kernel
theorem dL_law_427 : decode cL_law 427 = .ok (.land, 1) := by decide +kernel
theorem dL_law_428 : decode cL_law 428 = .ok (.lor, 1) := by decide +kernel
theorem dL_law_429 : decode cL_law 429 = .ok (.aload_n 0, 1) := by decide +kernel
theorem dL_law_430 : decode cL_law 430 = .ok (.iload 4, 2) := by decide +kernel
theorem dL_law_432 : decode cL_law 432 = .ok (.iconst 4, 1) := by decide +kernel
theorem dL_law_433 : decode cL_law 433 = .ok (.iadd, 1) := by decide +kernel
theorem dL_law_434 : decode cL_law 434 = .ok (.iaload, 1) := by decide +kernel
theorem dL_law_435 : decode cL_law 435 = .ok (.i2l, 1) := by decide +kernel
theorem dL_law_436 : decode cL_law 436 = .ok (.bipush 32, 2) := by decide +kernel
theorem dL_law_438 : decode cL_law 438 = .ok (.lshl, 1) := by decide +kernel
theorem dL_law_439 : decode cL_law 439 = .ok (.aload_n 0, 1) := by decide +kernel
theorem dL_law_440 : decode cL_law 440 = .ok (.iload 4, 2) := by decide +kernel
theorem dL_law_442 : decode cL_law 442 = .ok (.iconst 5, 1) := by decide +kernel
theorem dL_law_443 : decode cL_law 443 = .ok (.iadd, 1) := by decide +kernel
theorem dL_law_444 : decode cL_law 444 = .ok (.iaload, 1) := by decide +kernel
theorem dL_law_445 : decode cL_law 445 = .ok (.i2l, 1) := by decide +kernel
theorem dL_law_446 : decode cL_law 446 = .ok (.ldc2_w 100, 3) := by decide +kernel
theorem dL_law_449 : decode cL_law 449 = .ok (.land, 1) := by decide +kernel
theorem dL_law_450 : decode cL_law 450 = .ok (.lor, 1) := by decide +kernel
theorem dL_law_451 : decode cL_law 451 = .ok (.aload_n 3, 1) := by decide +kernel
theorem dL_law_452 : decode cL_law 452 = .ok (.invokestatic 120, 3) := by decide +kernel
theorem dL_law_455 : decode cL_law 455 = .ok (.istore 5, 2) := by decide +kernel
theorem dL_law_457 : decode cL_law 457 = .ok (.aload_n 2, 1) := by decide +kernel
theorem dL_law_458 : decode cL_law 458 = .ok (.aload_n 0, 1) := by decide +kernel
theorem dL_law_459 : decode cL_law 459 = .ok (.iload 4, 2) := by decide +kernel
theorem dL_law_461 : decode cL_law 461 = .ok (.iconst 1, 1) := by decide +kernel
theorem dL_law_462 : decode cL_law 462 = .ok (.iadd, 1) := by decide +kernel
theorem dL_law_463 : decode cL_law 463 = .ok (.iaload, 1) := by decide +kernel
theorem dL_law_464 : decode cL_law 464 = .ok (.aload_n 0, 1) := by decide +kernel
theorem dL_law_465 : decode cL_law 465 = .ok (.iload 4, 2) := by decide +kernel
theorem dL_law_467 : decode cL_law 467 = .ok (.iconst 2, 1) := by decide +kernel
theorem dL_law_468 : decode cL_law 468 = .ok (.iadd, 1) := by decide +kernel
theorem dL_law_469 : decode cL_law 469 = .ok (.iaload, 1) := by decide +kernel
theorem dL_law_470 : decode cL_law 470 = .ok (.i2l, 1) := by decide +kernel
theorem dL_law_471 : decode cL_law 471 = .ok (.bipush 32, 2) := by decide +kernel
theorem dL_law_473 : decode cL_law 473 = .ok (.lshl, 1) := by decide +kernel
theorem dL_law_474 : decode cL_law 474 = .ok (.aload_n 0, 1) := by decide +kernel
theorem dL_law_475 : decode cL_law 475 = .ok (.iload 4, 2) := by decide +kernel
theorem dL_law_477 : decode cL_law 477 = .ok (.iconst 3, 1) := by decide +kernel
theorem dL_law_478 : decode cL_law 478 = .ok (.iadd, 1) := by decide +kernel
theorem dL_law_479 : decode cL_law 479 = .ok (.iaload, 1) := by decide +kernel
theorem dL_law_480 : decode cL_law 480 = .ok (.i2l, 1) := by decide +kernel
theorem dL_law_481 : decode cL_law 481 = .ok (.ldc2_w 100, 3) := by decide +kernel
theorem dL_law_484 : decode cL_law 484 = .ok (.land, 1) := by decide +kernel
theorem dL_law_485 : decode cL_law 485 = .ok (.lor, 1) := by decide +kernel
theorem dL_law_486 : decode cL_law 486 = .ok (.aload_n 0, 1) := by decide +kernel
theorem dL_law_487 : decode cL_law 487 = .ok (.iload 4, 2) := by decide +kernel
theorem dL_law_489 : decode cL_law 489 = .ok (.iconst 4, 1) := by decide +kernel
theorem dL_law_490 : decode cL_law 490 = .ok (.iadd, 1) := by decide +kernel
theorem dL_law_491 : decode cL_law 491 = .ok (.iaload, 1) := by decide +kernel
theorem dL_law_492 : decode cL_law 492 = .ok (.i2l, 1) := by decide +kernel
theorem dL_law_493 : decode cL_law 493 = .ok (.bipush 32, 2) := by decide +kernel
theorem dL_law_495 : decode cL_law 495 = .ok (.lshl, 1) := by decide +kernel
theorem dL_law_496 : decode cL_law 496 = .ok (.aload_n 0, 1) := by decide +kernel
theorem dL_law_497 : decode cL_law 497 = .ok (.iload 4, 2) := by decide +kernel
theorem dL_law_499 : decode cL_law 499 = .ok (.iconst 5, 1) := by decide +kernel
theorem dL_law_500 : decode cL_law 500 = .ok (.iadd, 1) := by decide +kernel
theorem dL_law_501 : decode cL_law 501 = .ok (.iaload, 1) := by decide +kernel
theorem dL_law_502 : decode cL_law 502 = .ok (.i2l, 1) := by decide +kernel
theorem dL_law_503 : decode cL_law 503 = .ok (.ldc2_w 100, 3) := by decide +kernel
theorem dL_law_506 : decode cL_law 506 = .ok (.land, 1) := by decide +kernel
theorem dL_law_507 : decode cL_law 507 = .ok (.lor, 1) := by decide +kernel
theorem dL_law_508 : decode cL_law 508 = .ok (.invokevirtual 123, 3) := by decide +kernel
theorem dL_law_511 : decode cL_law 511 = .ok (.istore 6, 2) := by decide +kernel
theorem dL_law_513 : decode cL_law 513 = .ok (.goto 1075, 3) := by decide +kernel
theorem dL_law_516 : decode cL_law 516 = .ok (.aload_n 1, 1) := by decide +kernel
theorem dL_law_517 : decode cL_law 517 = .ok (.aload_n 0, 1) := by decide +kernel
theorem dL_law_518 : decode cL_law 518 = .ok (.iload 4, 2) := by decide +kernel
theorem dL_law_520 : decode cL_law 520 = .ok (.iconst 1, 1) := by decide +kernel
theorem dL_law_521 : decode cL_law 521 = .ok (.iadd, 1) := by decide +kernel
theorem dL_law_522 : decode cL_law 522 = .ok (.iaload, 1) := by decide +kernel
theorem dL_law_523 : decode cL_law 523 = .ok (.aload_n 0, 1) := by decide +kernel
theorem dL_law_524 : decode cL_law 524 = .ok (.iload 4, 2) := by decide +kernel
theorem dL_law_526 : decode cL_law 526 = .ok (.iconst 2, 1) := by decide +kernel
theorem dL_law_527 : decode cL_law 527 = .ok (.iadd, 1) := by decide +kernel
theorem dL_law_528 : decode cL_law 528 = .ok (.iaload, 1) := by decide +kernel
theorem dL_law_529 : decode cL_law 529 = .ok (.aload_n 0, 1) := by decide +kernel
theorem dL_law_530 : decode cL_law 530 = .ok (.iload 4, 2) := by decide +kernel
theorem dL_law_532 : decode cL_law 532 = .ok (.iconst 3, 1) := by decide +kernel
theorem dL_law_533 : decode cL_law 533 = .ok (.iadd, 1) := by decide +kernel
theorem dL_law_534 : decode cL_law 534 = .ok (.iaload, 1) := by decide +kernel
theorem dL_law_535 : decode cL_law 535 = .ok (.i2l, 1) := by decide +kernel
theorem dL_law_536 : decode cL_law 536 = .ok (.bipush 32, 2) := by decide +kernel
theorem dL_law_538 : decode cL_law 538 = .ok (.lshl, 1) := by decide +kernel
theorem dL_law_539 : decode cL_law 539 = .ok (.aload_n 0, 1) := by decide +kernel
theorem dL_law_540 : decode cL_law 540 = .ok (.iload 4, 2) := by decide +kernel
theorem dL_law_542 : decode cL_law 542 = .ok (.iconst 4, 1) := by decide +kernel
theorem dL_law_543 : decode cL_law 543 = .ok (.iadd, 1) := by decide +kernel
theorem dL_law_544 : decode cL_law 544 = .ok (.iaload, 1) := by decide +kernel
theorem dL_law_545 : decode cL_law 545 = .ok (.i2l, 1) := by decide +kernel
theorem dL_law_546 : decode cL_law 546 = .ok (.ldc2_w 100, 3) := by decide +kernel
theorem dL_law_549 : decode cL_law 549 = .ok (.land, 1) := by decide +kernel
theorem dL_law_550 : decode cL_law 550 = .ok (.lor, 1) := by decide +kernel
theorem dL_law_551 : decode cL_law 551 = .ok (.aload_n 3, 1) := by decide +kernel
theorem dL_law_552 : decode cL_law 552 = .ok (.invokestatic 124, 3) := by decide +kernel
theorem dL_law_555 : decode cL_law 555 = .ok (.istore 5, 2) := by decide +kernel
theorem dL_law_557 : decode cL_law 557 = .ok (.aload_n 2, 1) := by decide +kernel
theorem dL_law_558 : decode cL_law 558 = .ok (.aload_n 0, 1) := by decide +kernel
theorem dL_law_559 : decode cL_law 559 = .ok (.iload 4, 2) := by decide +kernel
theorem dL_law_561 : decode cL_law 561 = .ok (.iconst 1, 1) := by decide +kernel
theorem dL_law_562 : decode cL_law 562 = .ok (.iadd, 1) := by decide +kernel
theorem dL_law_563 : decode cL_law 563 = .ok (.iaload, 1) := by decide +kernel
theorem dL_law_564 : decode cL_law 564 = .ok (.aload_n 0, 1) := by decide +kernel
theorem dL_law_565 : decode cL_law 565 = .ok (.iload 4, 2) := by decide +kernel
theorem dL_law_567 : decode cL_law 567 = .ok (.iconst 2, 1) := by decide +kernel
theorem dL_law_568 : decode cL_law 568 = .ok (.iadd, 1) := by decide +kernel
theorem dL_law_569 : decode cL_law 569 = .ok (.iaload, 1) := by decide +kernel
theorem dL_law_570 : decode cL_law 570 = .ok (.aload_n 0, 1) := by decide +kernel
theorem dL_law_571 : decode cL_law 571 = .ok (.iload 4, 2) := by decide +kernel
theorem dL_law_573 : decode cL_law 573 = .ok (.iconst 3, 1) := by decide +kernel
theorem dL_law_574 : decode cL_law 574 = .ok (.iadd, 1) := by decide +kernel
theorem dL_law_575 : decode cL_law 575 = .ok (.iaload, 1) := by decide +kernel
theorem dL_law_576 : decode cL_law 576 = .ok (.i2l, 1) := by decide +kernel
theorem dL_law_577 : decode cL_law 577 = .ok (.bipush 32, 2) := by decide +kernel
theorem dL_law_579 : decode cL_law 579 = .ok (.lshl, 1) := by decide +kernel
theorem dL_law_580 : decode cL_law 580 = .ok (.aload_n 0, 1) := by decide +kernel
theorem dL_law_581 : decode cL_law 581 = .ok (.iload 4, 2) := by decide +kernel
theorem dL_law_583 : decode cL_law 583 = .ok (.iconst 4, 1) := by decide +kernel
theorem dL_law_584 : decode cL_law 584 = .ok (.iadd, 1) := by decide +kernel
theorem dL_law_585 : decode cL_law 585 = .ok (.iaload, 1) := by decide +kernel
theorem dL_law_586 : decode cL_law 586 = .ok (.i2l, 1) := by decide +kernel
theorem dL_law_587 : decode cL_law 587 = .ok (.ldc2_w 100, 3) := by decide +kernel
theorem dL_law_590 : decode cL_law 590 = .ok (.land, 1) := by decide +kernel
theorem dL_law_591 : decode cL_law 591 = .ok (.lor, 1) := by decide +kernel
theorem dL_law_592 : decode cL_law 592 = .ok (.invokevirtual 127, 3) := by decide +kernel
theorem dL_law_595 : decode cL_law 595 = .ok (.istore 6, 2) := by decide +kernel
theorem dL_law_597 : decode cL_law 597 = .ok (.goto 991, 3) := by decide +kernel
theorem dL_law_600 : decode cL_law 600 = .ok (.aload_n 1, 1) := by decide +kernel
theorem dL_law_601 : decode cL_law 601 = .ok (.aload_n 0, 1) := by decide +kernel
theorem dL_law_602 : decode cL_law 602 = .ok (.iload 4, 2) := by decide +kernel
theorem dL_law_604 : decode cL_law 604 = .ok (.iconst 1, 1) := by decide +kernel
theorem dL_law_605 : decode cL_law 605 = .ok (.iadd, 1) := by decide +kernel
theorem dL_law_606 : decode cL_law 606 = .ok (.iaload, 1) := by decide +kernel
theorem dL_law_607 : decode cL_law 607 = .ok (.aload_n 0, 1) := by decide +kernel
theorem dL_law_608 : decode cL_law 608 = .ok (.iload 4, 2) := by decide +kernel
theorem dL_law_610 : decode cL_law 610 = .ok (.iconst 2, 1) := by decide +kernel
theorem dL_law_611 : decode cL_law 611 = .ok (.iadd, 1) := by decide +kernel
theorem dL_law_612 : decode cL_law 612 = .ok (.iaload, 1) := by decide +kernel
theorem dL_law_613 : decode cL_law 613 = .ok (.aload_n 0, 1) := by decide +kernel
theorem dL_law_614 : decode cL_law 614 = .ok (.iload 4, 2) := by decide +kernel
theorem dL_law_616 : decode cL_law 616 = .ok (.iconst 3, 1) := by decide +kernel
theorem dL_law_617 : decode cL_law 617 = .ok (.iadd, 1) := by decide +kernel
theorem dL_law_618 : decode cL_law 618 = .ok (.iaload, 1) := by decide +kernel
theorem dL_law_619 : decode cL_law 619 = .ok (.aload_n 3, 1) := by decide +kernel
theorem dL_law_620 : decode cL_law 620 = .ok (.invokestatic 128, 3) := by decide +kernel
theorem dL_law_623 : decode cL_law 623 = .ok (.istore 5, 2) := by decide +kernel
theorem dL_law_625 : decode cL_law 625 = .ok (.aload_n 2, 1) := by decide +kernel
theorem dL_law_626 : decode cL_law 626 = .ok (.aload_n 0, 1) := by decide +kernel
theorem dL_law_627 : decode cL_law 627 = .ok (.iload 4, 2) := by decide +kernel
theorem dL_law_629 : decode cL_law 629 = .ok (.iconst 1, 1) := by decide +kernel
theorem dL_law_630 : decode cL_law 630 = .ok (.iadd, 1) := by decide +kernel
theorem dL_law_631 : decode cL_law 631 = .ok (.iaload, 1) := by decide +kernel
theorem dL_law_632 : decode cL_law 632 = .ok (.aload_n 0, 1) := by decide +kernel
theorem dL_law_633 : decode cL_law 633 = .ok (.iload 4, 2) := by decide +kernel
theorem dL_law_635 : decode cL_law 635 = .ok (.iconst 2, 1) := by decide +kernel
theorem dL_law_636 : decode cL_law 636 = .ok (.iadd, 1) := by decide +kernel
theorem dL_law_637 : decode cL_law 637 = .ok (.iaload, 1) := by decide +kernel
theorem dL_law_638 : decode cL_law 638 = .ok (.aload_n 0, 1) := by decide +kernel
theorem dL_law_639 : decode cL_law 639 = .ok (.iload 4, 2) := by decide +kernel
theorem dL_law_641 : decode cL_law 641 = .ok (.iconst 3, 1) := by decide +kernel
theorem dL_law_642 : decode cL_law 642 = .ok (.iadd, 1) := by decide +kernel
theorem dL_law_643 : decode cL_law 643 = .ok (.iaload, 1) := by decide +kernel
theorem dL_law_644 : decode cL_law 644 = .ok (.invokevirtual 131, 3) := by decide +kernel
theorem dL_law_647 : decode cL_law 647 = .ok (.istore 6, 2) := by decide +kernel
theorem dL_law_649 : decode cL_law 649 = .ok (.goto 939, 3) := by decide +kernel
theorem dL_law_652 : decode cL_law 652 = .ok (.aload_n 1, 1) := by decide +kernel
theorem dL_law_653 : decode cL_law 653 = .ok (.aload_n 0, 1) := by decide +kernel
theorem dL_law_654 : decode cL_law 654 = .ok (.iload 4, 2) := by decide +kernel
theorem dL_law_656 : decode cL_law 656 = .ok (.iconst 1, 1) := by decide +kernel
theorem dL_law_657 : decode cL_law 657 = .ok (.iadd, 1) := by decide +kernel
theorem dL_law_658 : decode cL_law 658 = .ok (.iaload, 1) := by decide +kernel
theorem dL_law_659 : decode cL_law 659 = .ok (.aload_n 0, 1) := by decide +kernel
theorem dL_law_660 : decode cL_law 660 = .ok (.iload 4, 2) := by decide +kernel
theorem dL_law_662 : decode cL_law 662 = .ok (.iconst 2, 1) := by decide +kernel
theorem dL_law_663 : decode cL_law 663 = .ok (.iadd, 1) := by decide +kernel
theorem dL_law_664 : decode cL_law 664 = .ok (.iaload, 1) := by decide +kernel
theorem dL_law_665 : decode cL_law 665 = .ok (.aload_n 0, 1) := by decide +kernel
theorem dL_law_666 : decode cL_law 666 = .ok (.iload 4, 2) := by decide +kernel
theorem dL_law_668 : decode cL_law 668 = .ok (.iconst 3, 1) := by decide +kernel
theorem dL_law_669 : decode cL_law 669 = .ok (.iadd, 1) := by decide +kernel
theorem dL_law_670 : decode cL_law 670 = .ok (.iaload, 1) := by decide +kernel
theorem dL_law_671 : decode cL_law 671 = .ok (.i2l, 1) := by decide +kernel
theorem dL_law_672 : decode cL_law 672 = .ok (.bipush 32, 2) := by decide +kernel
theorem dL_law_674 : decode cL_law 674 = .ok (.lshl, 1) := by decide +kernel
theorem dL_law_675 : decode cL_law 675 = .ok (.aload_n 0, 1) := by decide +kernel
theorem dL_law_676 : decode cL_law 676 = .ok (.iload 4, 2) := by decide +kernel
theorem dL_law_678 : decode cL_law 678 = .ok (.iconst 4, 1) := by decide +kernel
theorem dL_law_679 : decode cL_law 679 = .ok (.iadd, 1) := by decide +kernel
theorem dL_law_680 : decode cL_law 680 = .ok (.iaload, 1) := by decide +kernel
theorem dL_law_681 : decode cL_law 681 = .ok (.i2l, 1) := by decide +kernel
theorem dL_law_682 : decode cL_law 682 = .ok (.ldc2_w 100, 3) := by decide +kernel
theorem dL_law_685 : decode cL_law 685 = .ok (.land, 1) := by decide +kernel
theorem dL_law_686 : decode cL_law 686 = .ok (.lor, 1) := by decide +kernel
theorem dL_law_687 : decode cL_law 687 = .ok (.aload_n 3, 1) := by decide +kernel
theorem dL_law_688 : decode cL_law 688 = .ok (.invokestatic 132, 3) := by decide +kernel
theorem dL_law_691 : decode cL_law 691 = .ok (.istore 5, 2) := by decide +kernel
theorem dL_law_693 : decode cL_law 693 = .ok (.aload_n 2, 1) := by decide +kernel
theorem dL_law_694 : decode cL_law 694 = .ok (.aload_n 0, 1) := by decide +kernel
theorem dL_law_695 : decode cL_law 695 = .ok (.iload 4, 2) := by decide +kernel
theorem dL_law_697 : decode cL_law 697 = .ok (.iconst 1, 1) := by decide +kernel
theorem dL_law_698 : decode cL_law 698 = .ok (.iadd, 1) := by decide +kernel
theorem dL_law_699 : decode cL_law 699 = .ok (.iaload, 1) := by decide +kernel
theorem dL_law_700 : decode cL_law 700 = .ok (.aload_n 0, 1) := by decide +kernel
theorem dL_law_701 : decode cL_law 701 = .ok (.iload 4, 2) := by decide +kernel
theorem dL_law_703 : decode cL_law 703 = .ok (.iconst 2, 1) := by decide +kernel
theorem dL_law_704 : decode cL_law 704 = .ok (.iadd, 1) := by decide +kernel
theorem dL_law_705 : decode cL_law 705 = .ok (.iaload, 1) := by decide +kernel
theorem dL_law_706 : decode cL_law 706 = .ok (.aload_n 0, 1) := by decide +kernel
theorem dL_law_707 : decode cL_law 707 = .ok (.iload 4, 2) := by decide +kernel
theorem dL_law_709 : decode cL_law 709 = .ok (.iconst 3, 1) := by decide +kernel
theorem dL_law_710 : decode cL_law 710 = .ok (.iadd, 1) := by decide +kernel
theorem dL_law_711 : decode cL_law 711 = .ok (.iaload, 1) := by decide +kernel
theorem dL_law_712 : decode cL_law 712 = .ok (.i2l, 1) := by decide +kernel
theorem dL_law_713 : decode cL_law 713 = .ok (.bipush 32, 2) := by decide +kernel
theorem dL_law_715 : decode cL_law 715 = .ok (.lshl, 1) := by decide +kernel
theorem dL_law_716 : decode cL_law 716 = .ok (.aload_n 0, 1) := by decide +kernel
theorem dL_law_717 : decode cL_law 717 = .ok (.iload 4, 2) := by decide +kernel
theorem dL_law_719 : decode cL_law 719 = .ok (.iconst 4, 1) := by decide +kernel
theorem dL_law_720 : decode cL_law 720 = .ok (.iadd, 1) := by decide +kernel
theorem dL_law_721 : decode cL_law 721 = .ok (.iaload, 1) := by decide +kernel
theorem dL_law_722 : decode cL_law 722 = .ok (.i2l, 1) := by decide +kernel
theorem dL_law_723 : decode cL_law 723 = .ok (.ldc2_w 100, 3) := by decide +kernel
theorem dL_law_726 : decode cL_law 726 = .ok (.land, 1) := by decide +kernel
theorem dL_law_727 : decode cL_law 727 = .ok (.lor, 1) := by decide +kernel
theorem dL_law_728 : decode cL_law 728 = .ok (.invokevirtual 134, 3) := by decide +kernel
theorem dL_law_731 : decode cL_law 731 = .ok (.istore 6, 2) := by decide +kernel
theorem dL_law_733 : decode cL_law 733 = .ok (.goto 855, 3) := by decide +kernel
set_option maxHeartbeats 4000000 in
set_option maxRecDepth 100000 in
theorem law_case_4 {p : Program} {l : Launch} {e : Env} {s : State} {m : MethodId} {below : List Frame} {meth : Method} {c : Code} {b L : Nat} {xs : Nat → Int32} {dC : Nat → ClassId} {dI : Nat → Nat → Nat} {h0 g0 ho : Nat} {a : Nat → Nat} {ca : Nat → ClassId} {co : ClassId} (hl0 : l.stackTraces = false) (hF : LFix p s m meth c b L xs dC dI ca co) {i cl sl : Nat} (hi : i + 6 ≤ L) (hC : cl + 10 ≤ room_1.cells) (hSl : sl + 2100 ≤ room_1.slots) (go : LGo p l e s m below meth c b dC dI h0 g0 ho a ca co i 1588 (cl + 10) (sl + 2100)) : LGo p l e s m below meth c b dC dI h0 g0 ho a ca co i 400 cl sl := by
  obtain ⟨C0, hG, hN, hZ, hKm, hO, hL⟩ := hF
  obtain ⟨hx, hb, hr, hml, hown, hts, hX, hbl, hlocks, hgv⟩ := C0
  have hA : ∀ q : Nat, s.heap.size ≤ q → lA s q := fun _ h => h
  have hbA : ¬ lA s b := Nat.not_le.mpr hbl
  intro sh rk ci ai al f v w fi fl nn mm uu H locs ls hXI hRI hK hP hD hS hl
  obtain ⟨x1, ex1⟩ : ∃ x, xs (nI i + nI 1).toNatClampNeg = x := ⟨_, rfl⟩
  obtain ⟨x2, ex2⟩ : ∃ x, xs (nI i + nI 2).toNatClampNeg = x := ⟨_, rfl⟩
  obtain ⟨x3, ex3⟩ : ∃ x, xs (nI i + nI 3).toNatClampNeg = x := ⟨_, rfl⟩
  obtain ⟨x4, ex4⟩ : ∃ x, xs (nI i + nI 4).toNatClampNeg = x := ⟨_, rfl⟩
  obtain ⟨x5, ex5⟩ : ∃ x, xs (nI i + nI 5).toNatClampNeg = x := ⟨_, rfl⟩
  refine lv_aload_n hx hb dL_law_400 rfl (lv_at hl 3 rfl) ?_
  refine lv_aload_n hx hb dL_law_401 rfl (lv_at hl 4 rfl) ?_
  refine lv_iload hx hb dL_law_402 (lv_at hl 0 rfl) ?_
  refine lv_iconst (v := 1) hx hb dL_law_404 (by decide) ?_
  refine lv_iadd hx hb dL_law_405 ?_
  refine lw_sld (x := x1) hx hb hX hbl hbA hS (lw_in (k := 1) hi hL (by decide)) dL_law_406 ex1 ?_
  refine lv_aload_n hx hb dL_law_407 rfl (lv_at hl 4 rfl) ?_
  refine lv_iload hx hb dL_law_408 (lv_at hl 0 rfl) ?_
  refine lv_iconst (v := 2) hx hb dL_law_410 (by decide) ?_
  refine lv_iadd hx hb dL_law_411 ?_
  refine lw_sld (x := x2) hx hb hX hbl hbA hS (lw_in (k := 2) hi hL (by decide)) dL_law_412 ex2 ?_
  refine lv_i2l hx hb dL_law_413 rfl ?_
  refine lv_bipush (v := 32) hx hb dL_law_414 (by decide) ?_
  refine lv_lshl hx hb dL_law_416 rfl ?_
  refine lv_aload_n hx hb dL_law_417 rfl (lv_at hl 4 rfl) ?_
  refine lv_iload hx hb dL_law_418 (lv_at hl 0 rfl) ?_
  refine lv_iconst (v := 3) hx hb dL_law_420 (by decide) ?_
  refine lv_iadd hx hb dL_law_421 ?_
  refine lw_sld (x := x3) hx hb hX hbl hbA hS (lw_in (k := 3) hi hL (by decide)) dL_law_422 ex3 ?_
  refine lv_i2l hx hb dL_law_423 rfl ?_
  refine lv_ldc2 (v := (4294967295)) hx hb hown (hts _ lw_w0) dL_law_424 ?_
  refine lv_land hx hb dL_law_427 ?_
  refine lv_lor hx hb dL_law_428 ?_
  refine lv_topl (fun z1 _ => ?_)
  refine lv_aload_n hx hb dL_law_429 rfl (lv_at hl 4 rfl) ?_
  refine lv_iload hx hb dL_law_430 (lv_at hl 0 rfl) ?_
  refine lv_iconst (v := 4) hx hb dL_law_432 (by decide) ?_
  refine lv_iadd hx hb dL_law_433 ?_
  refine lw_sld (x := x4) hx hb hX hbl hbA hS (lw_in (k := 4) hi hL (by decide)) dL_law_434 ex4 ?_
  refine lv_i2l hx hb dL_law_435 rfl ?_
  refine lv_bipush (v := 32) hx hb dL_law_436 (by decide) ?_
  refine lv_lshl hx hb dL_law_438 rfl ?_
  refine lv_aload_n hx hb dL_law_439 rfl (lv_at hl 4 rfl) ?_
  refine lv_iload hx hb dL_law_440 (lv_at hl 0 rfl) ?_
  refine lv_iconst (v := 5) hx hb dL_law_442 (by decide) ?_
  refine lv_iadd hx hb dL_law_443 ?_
  refine lw_sld (x := x5) hx hb hX hbl hbA hS (lw_in (k := 5) hi hL (by decide)) dL_law_444 ex5 ?_
  refine lv_i2l hx hb dL_law_445 rfl ?_
  refine lv_ldc2 (v := (4294967295)) hx hb hown (hts _ lw_w0) dL_law_446 ?_
  refine lv_land hx hb dL_law_449 ?_
  refine lv_lor hx hb dL_law_450 ?_
  refine lv_topl (fun z2 _ => ?_)
  refine lv_aload_n hx hb dL_law_451 rfl (lv_at hl 1 rfl) ?_
  obtain ⟨c9, r9, n9, m9, u9, jw, jr⟩ := j_iterate (w := w) (fl := fl) (al := al) (p0 := x1) (p1 := z1) (p2 := z2) hXI hRI
  refine l_end (mc := 8) (ms := 2000) (cells := cl) (slots := sl) (vx_runSW (rm := rmL_iterate) (As := [.ref h0, .int x1, .long z1, .long z2, .ref ho]) (rest := []) ⟨hx, hb, hml, hown, hts⟩ (p_L_iterate l hl0 dC dI _ _ _ _ h0 x1 z1 z2 co ho f _ (jw f) H.size) (vx_cwSW 5 hts gl_L_iterate rfl rfl rfl hd_L_iterate ⟨Nat.le_of_ble_eq_true rfl, Nat.le_of_ble_eq_true rfl⟩) (l_preS hK hO (fr_P2 hP) (fr_D2 hD) hA hS hG hN hZ) rfl rfl hl.1 rfl (lv_room (Nat.le_of_ble_eq_true rfl)) dL_law_452 ⟨Nat.le_trans (Nat.add_le_add_left (by decide) _) hC, Nat.le_trans (Nat.add_le_add_left (by decide) _) hSl⟩) hP hD hS hA (fun k9 sh1 ci1 ai1 al1 f1 H locs h hK hP hD hS => ?_)
  obtain ⟨hk9, ⟨rk1, hXI⟩, hf9⟩ := h
  refine lv_istore (lv' := [(5, .int k9), (4, .int (nI i)), (3, .ref ho), (2, .ref g0), (1, .ref h0), (0, .ref b)]) hx hb dL_law_455 hl (by decide) rfl (fun ls hl => ?_)
  refine lv_aload_n hx hb dL_law_457 rfl (lv_at hl 3 rfl) ?_
  refine lv_aload_n hx hb dL_law_458 rfl (lv_at hl 5 rfl) ?_
  refine lv_iload hx hb dL_law_459 (lv_at hl 1 rfl) ?_
  refine lv_iconst (v := 1) hx hb dL_law_461 (by decide) ?_
  refine lv_iadd hx hb dL_law_462 ?_
  refine lw_sld (x := x1) hx hb hX hbl hbA hS (lw_in (k := 1) hi hL (by decide)) dL_law_463 ex1 ?_
  refine lv_aload_n hx hb dL_law_464 rfl (lv_at hl 5 rfl) ?_
  refine lv_iload hx hb dL_law_465 (lv_at hl 1 rfl) ?_
  refine lv_iconst (v := 2) hx hb dL_law_467 (by decide) ?_
  refine lv_iadd hx hb dL_law_468 ?_
  refine lw_sld (x := x2) hx hb hX hbl hbA hS (lw_in (k := 2) hi hL (by decide)) dL_law_469 ex2 ?_
  refine lv_i2l hx hb dL_law_470 rfl ?_
  refine lv_bipush (v := 32) hx hb dL_law_471 (by decide) ?_
  refine lv_lshl hx hb dL_law_473 rfl ?_
  refine lv_aload_n hx hb dL_law_474 rfl (lv_at hl 5 rfl) ?_
  refine lv_iload hx hb dL_law_475 (lv_at hl 1 rfl) ?_
  refine lv_iconst (v := 3) hx hb dL_law_477 (by decide) ?_
  refine lv_iadd hx hb dL_law_478 ?_
  refine lw_sld (x := x3) hx hb hX hbl hbA hS (lw_in (k := 3) hi hL (by decide)) dL_law_479 ex3 ?_
  refine lv_i2l hx hb dL_law_480 rfl ?_
  refine lv_ldc2 (v := (4294967295)) hx hb hown (hts _ lw_w0) dL_law_481 ?_
  refine lv_land hx hb dL_law_484 ?_
  refine lv_lor hx hb dL_law_485 ?_
  refine lv_topl (fun z3 _ => ?_)
  refine lv_aload_n hx hb dL_law_486 rfl (lv_at hl 5 rfl) ?_
  refine lv_iload hx hb dL_law_487 (lv_at hl 1 rfl) ?_
  refine lv_iconst (v := 4) hx hb dL_law_489 (by decide) ?_
  refine lv_iadd hx hb dL_law_490 ?_
  refine lw_sld (x := x4) hx hb hX hbl hbA hS (lw_in (k := 4) hi hL (by decide)) dL_law_491 ex4 ?_
  refine lv_i2l hx hb dL_law_492 rfl ?_
  refine lv_bipush (v := 32) hx hb dL_law_493 (by decide) ?_
  refine lv_lshl hx hb dL_law_495 rfl ?_
  refine lv_aload_n hx hb dL_law_496 rfl (lv_at hl 5 rfl) ?_
  refine lv_iload hx hb dL_law_497 (lv_at hl 1 rfl) ?_
  refine lv_iconst (v := 5) hx hb dL_law_499 (by decide) ?_
  refine lv_iadd hx hb dL_law_500 ?_
  refine lw_sld (x := x5) hx hb hX hbl hbA hS (lw_in (k := 5) hi hL (by decide)) dL_law_501 ex5 ?_
  refine lv_i2l hx hb dL_law_502 rfl ?_
  refine lv_ldc2 (v := (4294967295)) hx hb hown (hts _ lw_w0) dL_law_503 ?_
  refine lv_land hx hb dL_law_506 ?_
  refine lv_lor hx hb dL_law_507 ?_
  refine lv_topl (fun z4 _ => ?_)
  refine lm_calli (rm := ({ frames := 8, cells := 0, slots := 0, locals := 120 })) (As := [.int x1, .long z3, .long z4]) (rest := []) (cells := (cl + 8)) (slots := (sl + 2000)) (fun sz => p_X12_iterate l dC dI a ca g0 _ _ _ _ x1 z3 z4 _ (jr z3 z4) sz) ⟨hx, hb, hml, hown, hts⟩ (cwV 3 hts gl_X12_iterate rfl rfl rfl hd_X12_iterate ⟨Nat.le_of_ble_eq_true rfl, Nat.le_of_ble_eq_true rfl⟩) rfl hl.1 rfl hKm hP hD hS hA (Nat.le_of_ble_eq_true rfl) ⟨Nat.le_trans (Nat.add_le_add_left (by decide) _) hC, Nat.le_trans (Nat.add_le_add_left (by decide) _) hSl⟩ dL_law_508 (fun b1 v1 w1 fi1 fl1 H locs h hP hD hS => ?_)
  obtain ⟨hRI, h19, hb9⟩ := h
  refine lv_istore (lv' := [(6, .int b1), (5, .int k9), (4, .int (nI i)), (3, .ref ho), (2, .ref g0), (1, .ref h0), (0, .ref b)]) hx hb dL_law_511 hl (by decide) rfl (fun ls hl => ?_)
  refine lv_goto (tgt := 1588) hx hb dL_law_513 (by decide) ?_
  exact W.widen (k := cl + 10) (n := sl + 2100) (Nat.add_le_add_left (by decide) _) (Nat.add_le_add_left (by decide) _) (go _ _ _ _ _ _ _ _ _ _ _ _ _ H _ ls hXI hRI hK hP hD hS (lv_sub hl [2, 3, 4, 5, 6] rfl))
set_option maxHeartbeats 4000000 in
set_option maxRecDepth 100000 in
theorem law_case_5 {p : Program} {l : Launch} {e : Env} {s : State} {m : MethodId} {below : List Frame} {meth : Method} {c : Code} {b L : Nat} {xs : Nat → Int32} {dC : Nat → ClassId} {dI : Nat → Nat → Nat} {h0 g0 ho : Nat} {a : Nat → Nat} {ca : Nat → ClassId} {co : ClassId} (hl0 : l.stackTraces = false) (hF : LFix p s m meth c b L xs dC dI ca co) {i cl sl : Nat} (hi : i + 6 ≤ L) (hC : cl + 10 ≤ room_1.cells) (hSl : sl + 2100 ≤ room_1.slots) (go : LGo p l e s m below meth c b dC dI h0 g0 ho a ca co i 1588 (cl + 10) (sl + 2100)) : LGo p l e s m below meth c b dC dI h0 g0 ho a ca co i 516 cl sl := by
  obtain ⟨C0, hG, hN, hZ, hKm, hO, hL⟩ := hF
  obtain ⟨hx, hb, hr, hml, hown, hts, hX, hbl, hlocks, hgv⟩ := C0
  have hA : ∀ q : Nat, s.heap.size ≤ q → lA s q := fun _ h => h
  have hbA : ¬ lA s b := Nat.not_le.mpr hbl
  intro sh rk ci ai al f v w fi fl nn mm uu H locs ls hXI hRI hK hP hD hS hl
  obtain ⟨x1, ex1⟩ : ∃ x, xs (nI i + nI 1).toNatClampNeg = x := ⟨_, rfl⟩
  obtain ⟨x2, ex2⟩ : ∃ x, xs (nI i + nI 2).toNatClampNeg = x := ⟨_, rfl⟩
  obtain ⟨x3, ex3⟩ : ∃ x, xs (nI i + nI 3).toNatClampNeg = x := ⟨_, rfl⟩
  obtain ⟨x4, ex4⟩ : ∃ x, xs (nI i + nI 4).toNatClampNeg = x := ⟨_, rfl⟩
  refine lv_aload_n hx hb dL_law_516 rfl (lv_at hl 3 rfl) ?_
  refine lv_aload_n hx hb dL_law_517 rfl (lv_at hl 4 rfl) ?_
  refine lv_iload hx hb dL_law_518 (lv_at hl 0 rfl) ?_
  refine lv_iconst (v := 1) hx hb dL_law_520 (by decide) ?_
  refine lv_iadd hx hb dL_law_521 ?_
  refine lw_sld (x := x1) hx hb hX hbl hbA hS (lw_in (k := 1) hi hL (by decide)) dL_law_522 ex1 ?_
  refine lv_aload_n hx hb dL_law_523 rfl (lv_at hl 4 rfl) ?_
  refine lv_iload hx hb dL_law_524 (lv_at hl 0 rfl) ?_
  refine lv_iconst (v := 2) hx hb dL_law_526 (by decide) ?_
  refine lv_iadd hx hb dL_law_527 ?_
  refine lw_sld (x := x2) hx hb hX hbl hbA hS (lw_in (k := 2) hi hL (by decide)) dL_law_528 ex2 ?_
  refine lv_aload_n hx hb dL_law_529 rfl (lv_at hl 4 rfl) ?_
  refine lv_iload hx hb dL_law_530 (lv_at hl 0 rfl) ?_
  refine lv_iconst (v := 3) hx hb dL_law_532 (by decide) ?_
  refine lv_iadd hx hb dL_law_533 ?_
  refine lw_sld (x := x3) hx hb hX hbl hbA hS (lw_in (k := 3) hi hL (by decide)) dL_law_534 ex3 ?_
  refine lv_i2l hx hb dL_law_535 rfl ?_
  refine lv_bipush (v := 32) hx hb dL_law_536 (by decide) ?_
  refine lv_lshl hx hb dL_law_538 rfl ?_
  refine lv_aload_n hx hb dL_law_539 rfl (lv_at hl 4 rfl) ?_
  refine lv_iload hx hb dL_law_540 (lv_at hl 0 rfl) ?_
  refine lv_iconst (v := 4) hx hb dL_law_542 (by decide) ?_
  refine lv_iadd hx hb dL_law_543 ?_
  refine lw_sld (x := x4) hx hb hX hbl hbA hS (lw_in (k := 4) hi hL (by decide)) dL_law_544 ex4 ?_
  refine lv_i2l hx hb dL_law_545 rfl ?_
  refine lv_ldc2 (v := (4294967295)) hx hb hown (hts _ lw_w0) dL_law_546 ?_
  refine lv_land hx hb dL_law_549 ?_
  refine lv_lor hx hb dL_law_550 ?_
  refine lv_topl (fun z1 _ => ?_)
  refine lv_aload_n hx hb dL_law_551 rfl (lv_at hl 1 rfl) ?_
  obtain ⟨c9, r9, n9, m9, u9, jw, jr⟩ := j_map (w := w) (fl := fl) (al := al) (p0 := x1) (p1 := x2) (p2 := z1) hXI hRI
  refine l_end (mc := 8) (ms := 2000) (cells := cl) (slots := sl) (vx_runSW (rm := rmL_map) (As := [.ref h0, .int x1, .int x2, .long z1, .ref ho]) (rest := []) ⟨hx, hb, hml, hown, hts⟩ (p_L_map l hl0 dC dI _ _ _ _ h0 x1 x2 z1 co ho f _ (jw f) H.size) (vx_cwSW 5 hts gl_L_map rfl rfl rfl hd_L_map ⟨Nat.le_of_ble_eq_true rfl, Nat.le_of_ble_eq_true rfl⟩) (l_preS hK hO (fr_P2 hP) (fr_D2 hD) hA hS hG hN hZ) rfl rfl hl.1 rfl (lv_room (Nat.le_of_ble_eq_true rfl)) dL_law_552 ⟨Nat.le_trans (Nat.add_le_add_left (by decide) _) hC, Nat.le_trans (Nat.add_le_add_left (by decide) _) hSl⟩) hP hD hS hA (fun k9 sh1 ci1 ai1 al1 f1 H locs h hK hP hD hS => ?_)
  obtain ⟨hk9, ⟨rk1, hXI⟩, hf9⟩ := h
  refine lv_istore (lv' := [(5, .int k9), (4, .int (nI i)), (3, .ref ho), (2, .ref g0), (1, .ref h0), (0, .ref b)]) hx hb dL_law_555 hl (by decide) rfl (fun ls hl => ?_)
  refine lv_aload_n hx hb dL_law_557 rfl (lv_at hl 3 rfl) ?_
  refine lv_aload_n hx hb dL_law_558 rfl (lv_at hl 5 rfl) ?_
  refine lv_iload hx hb dL_law_559 (lv_at hl 1 rfl) ?_
  refine lv_iconst (v := 1) hx hb dL_law_561 (by decide) ?_
  refine lv_iadd hx hb dL_law_562 ?_
  refine lw_sld (x := x1) hx hb hX hbl hbA hS (lw_in (k := 1) hi hL (by decide)) dL_law_563 ex1 ?_
  refine lv_aload_n hx hb dL_law_564 rfl (lv_at hl 5 rfl) ?_
  refine lv_iload hx hb dL_law_565 (lv_at hl 1 rfl) ?_
  refine lv_iconst (v := 2) hx hb dL_law_567 (by decide) ?_
  refine lv_iadd hx hb dL_law_568 ?_
  refine lw_sld (x := x2) hx hb hX hbl hbA hS (lw_in (k := 2) hi hL (by decide)) dL_law_569 ex2 ?_
  refine lv_aload_n hx hb dL_law_570 rfl (lv_at hl 5 rfl) ?_
  refine lv_iload hx hb dL_law_571 (lv_at hl 1 rfl) ?_
  refine lv_iconst (v := 3) hx hb dL_law_573 (by decide) ?_
  refine lv_iadd hx hb dL_law_574 ?_
  refine lw_sld (x := x3) hx hb hX hbl hbA hS (lw_in (k := 3) hi hL (by decide)) dL_law_575 ex3 ?_
  refine lv_i2l hx hb dL_law_576 rfl ?_
  refine lv_bipush (v := 32) hx hb dL_law_577 (by decide) ?_
  refine lv_lshl hx hb dL_law_579 rfl ?_
  refine lv_aload_n hx hb dL_law_580 rfl (lv_at hl 5 rfl) ?_
  refine lv_iload hx hb dL_law_581 (lv_at hl 1 rfl) ?_
  refine lv_iconst (v := 4) hx hb dL_law_583 (by decide) ?_
  refine lv_iadd hx hb dL_law_584 ?_
  refine lw_sld (x := x4) hx hb hX hbl hbA hS (lw_in (k := 4) hi hL (by decide)) dL_law_585 ex4 ?_
  refine lv_i2l hx hb dL_law_586 rfl ?_
  refine lv_ldc2 (v := (4294967295)) hx hb hown (hts _ lw_w0) dL_law_587 ?_
  refine lv_land hx hb dL_law_590 ?_
  refine lv_lor hx hb dL_law_591 ?_
  refine lv_topl (fun z2 _ => ?_)
  refine lm_calli (rm := ({ frames := 8, cells := 0, slots := 0, locals := 120 })) (As := [.int x1, .int x2, .long z2]) (rest := []) (cells := (cl + 8)) (slots := (sl + 2000)) (fun sz => p_X12_map l dC dI a ca g0 _ _ _ _ x1 x2 z2 _ (jr z2) sz) ⟨hx, hb, hml, hown, hts⟩ (cwV 3 hts gl_X12_map rfl rfl rfl hd_X12_map ⟨Nat.le_of_ble_eq_true rfl, Nat.le_of_ble_eq_true rfl⟩) rfl hl.1 rfl hKm hP hD hS hA (Nat.le_of_ble_eq_true rfl) ⟨Nat.le_trans (Nat.add_le_add_left (by decide) _) hC, Nat.le_trans (Nat.add_le_add_left (by decide) _) hSl⟩ dL_law_592 (fun b1 v1 w1 fi1 fl1 H locs h hP hD hS => ?_)
  obtain ⟨hRI, h19, hb9⟩ := h
  refine lv_istore (lv' := [(6, .int b1), (5, .int k9), (4, .int (nI i)), (3, .ref ho), (2, .ref g0), (1, .ref h0), (0, .ref b)]) hx hb dL_law_595 hl (by decide) rfl (fun ls hl => ?_)
  refine lv_goto (tgt := 1588) hx hb dL_law_597 (by decide) ?_
  exact W.widen (k := cl + 10) (n := sl + 2100) (Nat.add_le_add_left (by decide) _) (Nat.add_le_add_left (by decide) _) (go _ _ _ _ _ _ _ _ _ _ _ _ _ H _ ls hXI hRI hK hP hD hS (lv_sub hl [2, 3, 4, 5, 6] rfl))
set_option maxHeartbeats 4000000 in
set_option maxRecDepth 100000 in
theorem law_case_6 {p : Program} {l : Launch} {e : Env} {s : State} {m : MethodId} {below : List Frame} {meth : Method} {c : Code} {b L : Nat} {xs : Nat → Int32} {dC : Nat → ClassId} {dI : Nat → Nat → Nat} {h0 g0 ho : Nat} {a : Nat → Nat} {ca : Nat → ClassId} {co : ClassId} (hl0 : l.stackTraces = false) (hF : LFix p s m meth c b L xs dC dI ca co) {i cl sl : Nat} (hi : i + 6 ≤ L) (hC : cl + 10 ≤ room_1.cells) (hSl : sl + 2100 ≤ room_1.slots) (go : LGo p l e s m below meth c b dC dI h0 g0 ho a ca co i 1588 (cl + 10) (sl + 2100)) : LGo p l e s m below meth c b dC dI h0 g0 ho a ca co i 600 cl sl := by
  obtain ⟨C0, hG, hN, hZ, hKm, hO, hL⟩ := hF
  obtain ⟨hx, hb, hr, hml, hown, hts, hX, hbl, hlocks, hgv⟩ := C0
  have hA : ∀ q : Nat, s.heap.size ≤ q → lA s q := fun _ h => h
  have hbA : ¬ lA s b := Nat.not_le.mpr hbl
  intro sh rk ci ai al f v w fi fl nn mm uu H locs ls hXI hRI hK hP hD hS hl
  obtain ⟨x1, ex1⟩ : ∃ x, xs (nI i + nI 1).toNatClampNeg = x := ⟨_, rfl⟩
  obtain ⟨x2, ex2⟩ : ∃ x, xs (nI i + nI 2).toNatClampNeg = x := ⟨_, rfl⟩
  obtain ⟨x3, ex3⟩ : ∃ x, xs (nI i + nI 3).toNatClampNeg = x := ⟨_, rfl⟩
  refine lv_aload_n hx hb dL_law_600 rfl (lv_at hl 3 rfl) ?_
  refine lv_aload_n hx hb dL_law_601 rfl (lv_at hl 4 rfl) ?_
  refine lv_iload hx hb dL_law_602 (lv_at hl 0 rfl) ?_
  refine lv_iconst (v := 1) hx hb dL_law_604 (by decide) ?_
  refine lv_iadd hx hb dL_law_605 ?_
  refine lw_sld (x := x1) hx hb hX hbl hbA hS (lw_in (k := 1) hi hL (by decide)) dL_law_606 ex1 ?_
  refine lv_aload_n hx hb dL_law_607 rfl (lv_at hl 4 rfl) ?_
  refine lv_iload hx hb dL_law_608 (lv_at hl 0 rfl) ?_
  refine lv_iconst (v := 2) hx hb dL_law_610 (by decide) ?_
  refine lv_iadd hx hb dL_law_611 ?_
  refine lw_sld (x := x2) hx hb hX hbl hbA hS (lw_in (k := 2) hi hL (by decide)) dL_law_612 ex2 ?_
  refine lv_aload_n hx hb dL_law_613 rfl (lv_at hl 4 rfl) ?_
  refine lv_iload hx hb dL_law_614 (lv_at hl 0 rfl) ?_
  refine lv_iconst (v := 3) hx hb dL_law_616 (by decide) ?_
  refine lv_iadd hx hb dL_law_617 ?_
  refine lw_sld (x := x3) hx hb hX hbl hbA hS (lw_in (k := 3) hi hL (by decide)) dL_law_618 ex3 ?_
  refine lv_aload_n hx hb dL_law_619 rfl (lv_at hl 1 rfl) ?_
  obtain ⟨c9, r9, n9, m9, u9, jw, jr⟩ := j_both (w := w) (fl := fl) (al := al) (p0 := x1) (p1 := x2) (p2 := x3) hXI hRI
  refine l_end (mc := 8) (ms := 2000) (cells := cl) (slots := sl) (vx_runSW (rm := rmL_both) (As := [.ref h0, .int x1, .int x2, .int x3, .ref ho]) (rest := []) ⟨hx, hb, hml, hown, hts⟩ (p_L_both l hl0 dC dI _ _ _ _ h0 x1 x2 x3 co ho f _ (jw f) H.size) (vx_cwSW 5 hts gl_L_both rfl rfl rfl hd_L_both ⟨Nat.le_of_ble_eq_true rfl, Nat.le_of_ble_eq_true rfl⟩) (l_preS hK hO (fr_P2 hP) (fr_D2 hD) hA hS hG hN hZ) rfl rfl hl.1 rfl (lv_room (Nat.le_of_ble_eq_true rfl)) dL_law_620 ⟨Nat.le_trans (Nat.add_le_add_left (by decide) _) hC, Nat.le_trans (Nat.add_le_add_left (by decide) _) hSl⟩) hP hD hS hA (fun k9 sh1 ci1 ai1 al1 f1 H locs h hK hP hD hS => ?_)
  obtain ⟨hk9, ⟨rk1, hXI⟩, hf9⟩ := h
  refine lv_istore (lv' := [(5, .int k9), (4, .int (nI i)), (3, .ref ho), (2, .ref g0), (1, .ref h0), (0, .ref b)]) hx hb dL_law_623 hl (by decide) rfl (fun ls hl => ?_)
  refine lv_aload_n hx hb dL_law_625 rfl (lv_at hl 3 rfl) ?_
  refine lv_aload_n hx hb dL_law_626 rfl (lv_at hl 5 rfl) ?_
  refine lv_iload hx hb dL_law_627 (lv_at hl 1 rfl) ?_
  refine lv_iconst (v := 1) hx hb dL_law_629 (by decide) ?_
  refine lv_iadd hx hb dL_law_630 ?_
  refine lw_sld (x := x1) hx hb hX hbl hbA hS (lw_in (k := 1) hi hL (by decide)) dL_law_631 ex1 ?_
  refine lv_aload_n hx hb dL_law_632 rfl (lv_at hl 5 rfl) ?_
  refine lv_iload hx hb dL_law_633 (lv_at hl 1 rfl) ?_
  refine lv_iconst (v := 2) hx hb dL_law_635 (by decide) ?_
  refine lv_iadd hx hb dL_law_636 ?_
  refine lw_sld (x := x2) hx hb hX hbl hbA hS (lw_in (k := 2) hi hL (by decide)) dL_law_637 ex2 ?_
  refine lv_aload_n hx hb dL_law_638 rfl (lv_at hl 5 rfl) ?_
  refine lv_iload hx hb dL_law_639 (lv_at hl 1 rfl) ?_
  refine lv_iconst (v := 3) hx hb dL_law_641 (by decide) ?_
  refine lv_iadd hx hb dL_law_642 ?_
  refine lw_sld (x := x3) hx hb hX hbl hbA hS (lw_in (k := 3) hi hL (by decide)) dL_law_643 ex3 ?_
  refine lm_calli (rm := ({ frames := 8, cells := 0, slots := 0, locals := 120 })) (As := [.int x1, .int x2, .int x3]) (rest := []) (cells := (cl + 8)) (slots := (sl + 2000)) (fun sz => p_X12_both l dC dI a ca g0 _ _ _ _ x1 x2 x3 _ jr sz) ⟨hx, hb, hml, hown, hts⟩ (cwV 3 hts gl_X12_both rfl rfl rfl hd_X12_both ⟨Nat.le_of_ble_eq_true rfl, Nat.le_of_ble_eq_true rfl⟩) rfl hl.1 rfl hKm hP hD hS hA (Nat.le_of_ble_eq_true rfl) ⟨Nat.le_trans (Nat.add_le_add_left (by decide) _) hC, Nat.le_trans (Nat.add_le_add_left (by decide) _) hSl⟩ dL_law_644 (fun b1 v1 w1 fi1 fl1 H locs h hP hD hS => ?_)
  obtain ⟨hRI, h19, hb9⟩ := h
  refine lv_istore (lv' := [(6, .int b1), (5, .int k9), (4, .int (nI i)), (3, .ref ho), (2, .ref g0), (1, .ref h0), (0, .ref b)]) hx hb dL_law_647 hl (by decide) rfl (fun ls hl => ?_)
  refine lv_goto (tgt := 1588) hx hb dL_law_649 (by decide) ?_
  exact W.widen (k := cl + 10) (n := sl + 2100) (Nat.add_le_add_left (by decide) _) (Nat.add_le_add_left (by decide) _) (go _ _ _ _ _ _ _ _ _ _ _ _ _ H _ ls hXI hRI hK hP hD hS (lv_sub hl [2, 3, 4, 5, 6] rfl))
set_option maxHeartbeats 4000000 in
set_option maxRecDepth 100000 in
theorem law_case_7 {p : Program} {l : Launch} {e : Env} {s : State} {m : MethodId} {below : List Frame} {meth : Method} {c : Code} {b L : Nat} {xs : Nat → Int32} {dC : Nat → ClassId} {dI : Nat → Nat → Nat} {h0 g0 ho : Nat} {a : Nat → Nat} {ca : Nat → ClassId} {co : ClassId} (hl0 : l.stackTraces = false) (hF : LFix p s m meth c b L xs dC dI ca co) {i cl sl : Nat} (hi : i + 6 ≤ L) (hC : cl + 10 ≤ room_1.cells) (hSl : sl + 2100 ≤ room_1.slots) (go : LGo p l e s m below meth c b dC dI h0 g0 ho a ca co i 1588 (cl + 10) (sl + 2100)) : LGo p l e s m below meth c b dC dI h0 g0 ho a ca co i 652 cl sl := by
  obtain ⟨C0, hG, hN, hZ, hKm, hO, hL⟩ := hF
  obtain ⟨hx, hb, hr, hml, hown, hts, hX, hbl, hlocks, hgv⟩ := C0
  have hA : ∀ q : Nat, s.heap.size ≤ q → lA s q := fun _ h => h
  have hbA : ¬ lA s b := Nat.not_le.mpr hbl
  intro sh rk ci ai al f v w fi fl nn mm uu H locs ls hXI hRI hK hP hD hS hl
  obtain ⟨x1, ex1⟩ : ∃ x, xs (nI i + nI 1).toNatClampNeg = x := ⟨_, rfl⟩
  obtain ⟨x2, ex2⟩ : ∃ x, xs (nI i + nI 2).toNatClampNeg = x := ⟨_, rfl⟩
  obtain ⟨x3, ex3⟩ : ∃ x, xs (nI i + nI 3).toNatClampNeg = x := ⟨_, rfl⟩
  obtain ⟨x4, ex4⟩ : ∃ x, xs (nI i + nI 4).toNatClampNeg = x := ⟨_, rfl⟩
  refine lv_aload_n hx hb dL_law_652 rfl (lv_at hl 3 rfl) ?_
  refine lv_aload_n hx hb dL_law_653 rfl (lv_at hl 4 rfl) ?_
  refine lv_iload hx hb dL_law_654 (lv_at hl 0 rfl) ?_
  refine lv_iconst (v := 1) hx hb dL_law_656 (by decide) ?_
  refine lv_iadd hx hb dL_law_657 ?_
  refine lw_sld (x := x1) hx hb hX hbl hbA hS (lw_in (k := 1) hi hL (by decide)) dL_law_658 ex1 ?_
  refine lv_aload_n hx hb dL_law_659 rfl (lv_at hl 4 rfl) ?_
  refine lv_iload hx hb dL_law_660 (lv_at hl 0 rfl) ?_
  refine lv_iconst (v := 2) hx hb dL_law_662 (by decide) ?_
  refine lv_iadd hx hb dL_law_663 ?_
  refine lw_sld (x := x2) hx hb hX hbl hbA hS (lw_in (k := 2) hi hL (by decide)) dL_law_664 ex2 ?_
  refine lv_aload_n hx hb dL_law_665 rfl (lv_at hl 4 rfl) ?_
  refine lv_iload hx hb dL_law_666 (lv_at hl 0 rfl) ?_
  refine lv_iconst (v := 3) hx hb dL_law_668 (by decide) ?_
  refine lv_iadd hx hb dL_law_669 ?_
  refine lw_sld (x := x3) hx hb hX hbl hbA hS (lw_in (k := 3) hi hL (by decide)) dL_law_670 ex3 ?_
  refine lv_i2l hx hb dL_law_671 rfl ?_
  refine lv_bipush (v := 32) hx hb dL_law_672 (by decide) ?_
  refine lv_lshl hx hb dL_law_674 rfl ?_
  refine lv_aload_n hx hb dL_law_675 rfl (lv_at hl 4 rfl) ?_
  refine lv_iload hx hb dL_law_676 (lv_at hl 0 rfl) ?_
  refine lv_iconst (v := 4) hx hb dL_law_678 (by decide) ?_
  refine lv_iadd hx hb dL_law_679 ?_
  refine lw_sld (x := x4) hx hb hX hbl hbA hS (lw_in (k := 4) hi hL (by decide)) dL_law_680 ex4 ?_
  refine lv_i2l hx hb dL_law_681 rfl ?_
  refine lv_ldc2 (v := (4294967295)) hx hb hown (hts _ lw_w0) dL_law_682 ?_
  refine lv_land hx hb dL_law_685 ?_
  refine lv_lor hx hb dL_law_686 ?_
  refine lv_topl (fun z1 _ => ?_)
  refine lv_aload_n hx hb dL_law_687 rfl (lv_at hl 1 rfl) ?_
  obtain ⟨c9, r9, n9, m9, u9, jw, jr⟩ := j_scan (w := w) (fl := fl) (al := al) (p0 := x1) (p1 := x2) (p2 := z1) hXI hRI
  refine l_end (mc := 8) (ms := 2000) (cells := cl) (slots := sl) (vx_runSW (rm := rmL_scan) (As := [.ref h0, .int x1, .int x2, .long z1, .ref ho]) (rest := []) ⟨hx, hb, hml, hown, hts⟩ (p_L_scan l hl0 dC dI _ _ _ _ h0 x1 x2 z1 co ho f _ (jw f) H.size) (vx_cwSW 5 hts gl_L_scan rfl rfl rfl hd_L_scan ⟨Nat.le_of_ble_eq_true rfl, Nat.le_of_ble_eq_true rfl⟩) (l_preS hK hO (fr_P2 hP) (fr_D2 hD) hA hS hG hN hZ) rfl rfl hl.1 rfl (lv_room (Nat.le_of_ble_eq_true rfl)) dL_law_688 ⟨Nat.le_trans (Nat.add_le_add_left (by decide) _) hC, Nat.le_trans (Nat.add_le_add_left (by decide) _) hSl⟩) hP hD hS hA (fun k9 sh1 ci1 ai1 al1 f1 H locs h hK hP hD hS => ?_)
  obtain ⟨hk9, ⟨rk1, hXI⟩, hf9⟩ := h
  refine lv_istore (lv' := [(5, .int k9), (4, .int (nI i)), (3, .ref ho), (2, .ref g0), (1, .ref h0), (0, .ref b)]) hx hb dL_law_691 hl (by decide) rfl (fun ls hl => ?_)
  refine lv_aload_n hx hb dL_law_693 rfl (lv_at hl 3 rfl) ?_
  refine lv_aload_n hx hb dL_law_694 rfl (lv_at hl 5 rfl) ?_
  refine lv_iload hx hb dL_law_695 (lv_at hl 1 rfl) ?_
  refine lv_iconst (v := 1) hx hb dL_law_697 (by decide) ?_
  refine lv_iadd hx hb dL_law_698 ?_
  refine lw_sld (x := x1) hx hb hX hbl hbA hS (lw_in (k := 1) hi hL (by decide)) dL_law_699 ex1 ?_
  refine lv_aload_n hx hb dL_law_700 rfl (lv_at hl 5 rfl) ?_
  refine lv_iload hx hb dL_law_701 (lv_at hl 1 rfl) ?_
  refine lv_iconst (v := 2) hx hb dL_law_703 (by decide) ?_
  refine lv_iadd hx hb dL_law_704 ?_
  refine lw_sld (x := x2) hx hb hX hbl hbA hS (lw_in (k := 2) hi hL (by decide)) dL_law_705 ex2 ?_
  refine lv_aload_n hx hb dL_law_706 rfl (lv_at hl 5 rfl) ?_
  refine lv_iload hx hb dL_law_707 (lv_at hl 1 rfl) ?_
  refine lv_iconst (v := 3) hx hb dL_law_709 (by decide) ?_
  refine lv_iadd hx hb dL_law_710 ?_
  refine lw_sld (x := x3) hx hb hX hbl hbA hS (lw_in (k := 3) hi hL (by decide)) dL_law_711 ex3 ?_
  refine lv_i2l hx hb dL_law_712 rfl ?_
  refine lv_bipush (v := 32) hx hb dL_law_713 (by decide) ?_
  refine lv_lshl hx hb dL_law_715 rfl ?_
  refine lv_aload_n hx hb dL_law_716 rfl (lv_at hl 5 rfl) ?_
  refine lv_iload hx hb dL_law_717 (lv_at hl 1 rfl) ?_
  refine lv_iconst (v := 4) hx hb dL_law_719 (by decide) ?_
  refine lv_iadd hx hb dL_law_720 ?_
  refine lw_sld (x := x4) hx hb hX hbl hbA hS (lw_in (k := 4) hi hL (by decide)) dL_law_721 ex4 ?_
  refine lv_i2l hx hb dL_law_722 rfl ?_
  refine lv_ldc2 (v := (4294967295)) hx hb hown (hts _ lw_w0) dL_law_723 ?_
  refine lv_land hx hb dL_law_726 ?_
  refine lv_lor hx hb dL_law_727 ?_
  refine lv_topl (fun z2 _ => ?_)
  refine lm_calli (rm := ({ frames := 8, cells := 0, slots := 0, locals := 120 })) (As := [.int x1, .int x2, .long z2]) (rest := []) (cells := (cl + 8)) (slots := (sl + 2000)) (fun sz => p_X12_scan l dC dI a ca g0 _ _ _ _ x1 x2 z2 _ (jr z2) sz) ⟨hx, hb, hml, hown, hts⟩ (cwV 3 hts gl_X12_scan rfl rfl rfl hd_X12_scan ⟨Nat.le_of_ble_eq_true rfl, Nat.le_of_ble_eq_true rfl⟩) rfl hl.1 rfl hKm hP hD hS hA (Nat.le_of_ble_eq_true rfl) ⟨Nat.le_trans (Nat.add_le_add_left (by decide) _) hC, Nat.le_trans (Nat.add_le_add_left (by decide) _) hSl⟩ dL_law_728 (fun b1 v1 w1 fi1 fl1 H locs h hP hD hS => ?_)
  obtain ⟨hRI, h19, hb9⟩ := h
  refine lv_istore (lv' := [(6, .int b1), (5, .int k9), (4, .int (nI i)), (3, .ref ho), (2, .ref g0), (1, .ref h0), (0, .ref b)]) hx hb dL_law_731 hl (by decide) rfl (fun ls hl => ?_)
  refine lv_goto (tgt := 1588) hx hb dL_law_733 (by decide) ?_
  exact W.widen (k := cl + 10) (n := sl + 2100) (Nat.add_le_add_left (by decide) _) (Nat.add_le_add_left (by decide) _) (go _ _ _ _ _ _ _ _ _ _ _ _ _ H _ ls hXI hRI hK hP hD hS (lv_sub hl [2, 3, 4, 5, 6] rfl))
