theorem de_La_428 : decode code 428 = .ok (.aload_n 0, 1) := by decide +kernel
theorem de_La_429 : decode code 429 = .ok (.iload_n 3, 1) := by decide +kernel
theorem de_La_430 : decode code 430 = .ok (.iconst 1, 1) := by decide +kernel
theorem de_La_431 : decode code 431 = .ok (.iadd, 1) := by decide +kernel
theorem de_La_432 : decode code 432 = .ok (.iaload, 1) := by decide +kernel
theorem de_La_433 : decode code 433 = .ok (.aload_n 0, 1) := by decide +kernel
theorem de_La_434 : decode code 434 = .ok (.iload_n 3, 1) := by decide +kernel
theorem de_La_435 : decode code 435 = .ok (.iconst 2, 1) := by decide +kernel
theorem de_La_436 : decode code 436 = .ok (.iadd, 1) := by decide +kernel
theorem de_La_437 : decode code 437 = .ok (.iaload, 1) := by decide +kernel
theorem de_La_438 : decode code 438 = .ok (.invokevirtual 56, 3) := by decide +kernel
theorem de_La_441 : decode code 441 = .ok (.if_icmp .eq 743, 3) := by decide +kernel
theorem de_La_446 : decode code 446 = .ok (.aload_n 1, 1) := by decide +kernel
theorem de_La_447 : decode code 447 = .ok (.aload_n 0, 1) := by decide +kernel
theorem de_La_448 : decode code 448 = .ok (.iload_n 3, 1) := by decide +kernel
theorem de_La_449 : decode code 449 = .ok (.iconst 1, 1) := by decide +kernel
theorem de_La_450 : decode code 450 = .ok (.iadd, 1) := by decide +kernel
theorem de_La_451 : decode code 451 = .ok (.iaload, 1) := by decide +kernel
theorem de_La_452 : decode code 452 = .ok (.aload_n 0, 1) := by decide +kernel
theorem de_La_453 : decode code 453 = .ok (.iload_n 3, 1) := by decide +kernel
theorem de_La_454 : decode code 454 = .ok (.iconst 2, 1) := by decide +kernel
theorem de_La_455 : decode code 455 = .ok (.iadd, 1) := by decide +kernel
theorem de_La_456 : decode code 456 = .ok (.iaload, 1) := by decide +kernel
theorem de_La_457 : decode code 457 = .ok (.invokevirtual 57, 3) := by decide +kernel
theorem de_La_460 : decode code 460 = .ok (.aload_n 2, 1) := by decide +kernel
theorem de_La_461 : decode code 461 = .ok (.aload_n 0, 1) := by decide +kernel
theorem de_La_462 : decode code 462 = .ok (.iload_n 3, 1) := by decide +kernel
theorem de_La_463 : decode code 463 = .ok (.iconst 1, 1) := by decide +kernel
theorem de_La_464 : decode code 464 = .ok (.iadd, 1) := by decide +kernel
theorem de_La_465 : decode code 465 = .ok (.iaload, 1) := by decide +kernel
theorem de_La_466 : decode code 466 = .ok (.aload_n 0, 1) := by decide +kernel
theorem de_La_467 : decode code 467 = .ok (.iload_n 3, 1) := by decide +kernel
theorem de_La_468 : decode code 468 = .ok (.iconst 2, 1) := by decide +kernel
theorem de_La_469 : decode code 469 = .ok (.iadd, 1) := by decide +kernel
theorem de_La_470 : decode code 470 = .ok (.iaload, 1) := by decide +kernel
theorem de_La_471 : decode code 471 = .ok (.invokevirtual 61, 3) := by decide +kernel
theorem de_La_474 : decode code 474 = .ok (.if_icmp .eq 710, 3) := by decide +kernel
theorem de_La_479 : decode code 479 = .ok (.aload_n 1, 1) := by decide +kernel
theorem de_La_480 : decode code 480 = .ok (.invokevirtual 62, 3) := by decide +kernel
theorem de_La_483 : decode code 483 = .ok (.aload_n 2, 1) := by decide +kernel
theorem de_La_484 : decode code 484 = .ok (.invokevirtual 66, 3) := by decide +kernel
theorem de_La_487 : decode code 487 = .ok (.if_icmp .eq 697, 3) := by decide +kernel
theorem de_La_492 : decode code 492 = .ok (.aload_n 1, 1) := by decide +kernel
theorem de_La_493 : decode code 493 = .ok (.invokevirtual 67, 3) := by decide +kernel
theorem de_La_496 : decode code 496 = .ok (.aload_n 2, 1) := by decide +kernel
theorem de_La_497 : decode code 497 = .ok (.invokevirtual 70, 3) := by decide +kernel
theorem de_La_500 : decode code 500 = .ok (.if_icmp .eq 684, 3) := by decide +kernel
theorem de_La_505 : decode code 505 = .ok (.aload_n 1, 1) := by decide +kernel
theorem de_La_506 : decode code 506 = .ok (.aload_n 0, 1) := by decide +kernel
theorem de_La_507 : decode code 507 = .ok (.iload_n 3, 1) := by decide +kernel
theorem de_La_508 : decode code 508 = .ok (.iconst 1, 1) := by decide +kernel
theorem de_La_509 : decode code 509 = .ok (.iadd, 1) := by decide +kernel
theorem de_La_510 : decode code 510 = .ok (.iaload, 1) := by decide +kernel
theorem de_La_511 : decode code 511 = .ok (.aload_n 0, 1) := by decide +kernel
theorem de_La_512 : decode code 512 = .ok (.iload_n 3, 1) := by decide +kernel
theorem de_La_513 : decode code 513 = .ok (.iconst 2, 1) := by decide +kernel
theorem de_La_514 : decode code 514 = .ok (.iadd, 1) := by decide +kernel
theorem de_La_515 : decode code 515 = .ok (.iaload, 1) := by decide +kernel
theorem de_La_516 : decode code 516 = .ok (.invokevirtual 71, 3) := by decide +kernel
theorem de_La_519 : decode code 519 = .ok (.aload_n 2, 1) := by decide +kernel
theorem de_La_520 : decode code 520 = .ok (.aload_n 0, 1) := by decide +kernel
theorem de_La_521 : decode code 521 = .ok (.iload_n 3, 1) := by decide +kernel
theorem de_La_522 : decode code 522 = .ok (.iconst 1, 1) := by decide +kernel
theorem de_La_523 : decode code 523 = .ok (.iadd, 1) := by decide +kernel
theorem de_La_524 : decode code 524 = .ok (.iaload, 1) := by decide +kernel
theorem de_La_525 : decode code 525 = .ok (.aload_n 0, 1) := by decide +kernel
theorem de_La_526 : decode code 526 = .ok (.iload_n 3, 1) := by decide +kernel
theorem de_La_527 : decode code 527 = .ok (.iconst 2, 1) := by decide +kernel
theorem de_La_528 : decode code 528 = .ok (.iadd, 1) := by decide +kernel
theorem de_La_529 : decode code 529 = .ok (.iaload, 1) := by decide +kernel
theorem de_La_530 : decode code 530 = .ok (.invokevirtual 74, 3) := by decide +kernel
theorem de_La_533 : decode code 533 = .ok (.if_icmp .eq 651, 3) := by decide +kernel
theorem de_La_538 : decode code 538 = .ok (.aload_n 1, 1) := by decide +kernel
theorem de_La_539 : decode code 539 = .ok (.aload_n 0, 1) := by decide +kernel
theorem de_La_540 : decode code 540 = .ok (.iload_n 3, 1) := by decide +kernel
theorem de_La_541 : decode code 541 = .ok (.iconst 1, 1) := by decide +kernel
theorem de_La_542 : decode code 542 = .ok (.iadd, 1) := by decide +kernel
theorem de_La_543 : decode code 543 = .ok (.iaload, 1) := by decide +kernel
theorem de_La_544 : decode code 544 = .ok (.aload_n 0, 1) := by decide +kernel
theorem de_La_545 : decode code 545 = .ok (.iload_n 3, 1) := by decide +kernel
theorem de_La_546 : decode code 546 = .ok (.iconst 2, 1) := by decide +kernel
theorem de_La_547 : decode code 547 = .ok (.iadd, 1) := by decide +kernel
theorem de_La_548 : decode code 548 = .ok (.iaload, 1) := by decide +kernel
theorem de_La_549 : decode code 549 = .ok (.invokevirtual 75, 3) := by decide +kernel
theorem de_La_552 : decode code 552 = .ok (.aload_n 2, 1) := by decide +kernel
theorem de_La_553 : decode code 553 = .ok (.aload_n 0, 1) := by decide +kernel
theorem de_La_554 : decode code 554 = .ok (.iload_n 3, 1) := by decide +kernel
theorem de_La_555 : decode code 555 = .ok (.iconst 1, 1) := by decide +kernel
theorem de_La_556 : decode code 556 = .ok (.iadd, 1) := by decide +kernel
theorem de_La_557 : decode code 557 = .ok (.iaload, 1) := by decide +kernel
theorem de_La_558 : decode code 558 = .ok (.aload_n 0, 1) := by decide +kernel
theorem de_La_559 : decode code 559 = .ok (.iload_n 3, 1) := by decide +kernel
theorem de_La_560 : decode code 560 = .ok (.iconst 2, 1) := by decide +kernel
theorem de_La_561 : decode code 561 = .ok (.iadd, 1) := by decide +kernel
theorem de_La_562 : decode code 562 = .ok (.iaload, 1) := by decide +kernel
theorem de_La_563 : decode code 563 = .ok (.invokevirtual 78, 3) := by decide +kernel
theorem de_La_566 : decode code 566 = .ok (.if_icmp .eq 618, 3) := by decide +kernel
theorem de_La_571 : decode code 571 = .ok (.aload_n 1, 1) := by decide +kernel
theorem de_La_572 : decode code 572 = .ok (.aload_n 0, 1) := by decide +kernel
theorem de_La_573 : decode code 573 = .ok (.iload_n 3, 1) := by decide +kernel
theorem de_La_574 : decode code 574 = .ok (.iconst 1, 1) := by decide +kernel
theorem de_La_575 : decode code 575 = .ok (.iadd, 1) := by decide +kernel
theorem de_La_576 : decode code 576 = .ok (.iaload, 1) := by decide +kernel
theorem de_La_577 : decode code 577 = .ok (.aload_n 0, 1) := by decide +kernel
theorem de_La_578 : decode code 578 = .ok (.iload_n 3, 1) := by decide +kernel
theorem de_La_579 : decode code 579 = .ok (.iconst 2, 1) := by decide +kernel
theorem de_La_580 : decode code 580 = .ok (.iadd, 1) := by decide +kernel
theorem de_La_581 : decode code 581 = .ok (.iaload, 1) := by decide +kernel
theorem de_La_582 : decode code 582 = .ok (.invokevirtual 79, 3) := by decide +kernel
theorem de_La_585 : decode code 585 = .ok (.aload_n 2, 1) := by decide +kernel
theorem de_La_586 : decode code 586 = .ok (.aload_n 0, 1) := by decide +kernel
theorem de_La_587 : decode code 587 = .ok (.iload_n 3, 1) := by decide +kernel
theorem de_La_588 : decode code 588 = .ok (.iconst 1, 1) := by decide +kernel
theorem de_La_589 : decode code 589 = .ok (.iadd, 1) := by decide +kernel
theorem de_La_590 : decode code 590 = .ok (.iaload, 1) := by decide +kernel
theorem de_La_591 : decode code 591 = .ok (.aload_n 0, 1) := by decide +kernel
theorem de_La_592 : decode code 592 = .ok (.iload_n 3, 1) := by decide +kernel
theorem de_La_593 : decode code 593 = .ok (.iconst 2, 1) := by decide +kernel
theorem de_La_594 : decode code 594 = .ok (.iadd, 1) := by decide +kernel
theorem de_La_595 : decode code 595 = .ok (.iaload, 1) := by decide +kernel
theorem de_La_596 : decode code 596 = .ok (.invokevirtual 82, 3) := by decide +kernel
theorem de_La_599 : decode code 599 = .ok (.if_icmp .eq 585, 3) := by decide +kernel
theorem de_La_604 : decode code 604 = .ok (.aload_n 1, 1) := by decide +kernel
theorem de_La_605 : decode code 605 = .ok (.aload_n 0, 1) := by decide +kernel
theorem de_La_606 : decode code 606 = .ok (.iload_n 3, 1) := by decide +kernel
theorem de_La_607 : decode code 607 = .ok (.iconst 1, 1) := by decide +kernel
theorem de_La_608 : decode code 608 = .ok (.iadd, 1) := by decide +kernel
theorem de_La_609 : decode code 609 = .ok (.iaload, 1) := by decide +kernel
theorem de_La_610 : decode code 610 = .ok (.invokevirtual 83, 3) := by decide +kernel
theorem de_La_613 : decode code 613 = .ok (.aload_n 2, 1) := by decide +kernel
theorem de_La_614 : decode code 614 = .ok (.aload_n 0, 1) := by decide +kernel
theorem de_La_615 : decode code 615 = .ok (.iload_n 3, 1) := by decide +kernel
theorem de_La_616 : decode code 616 = .ok (.iconst 1, 1) := by decide +kernel
theorem de_La_617 : decode code 617 = .ok (.iadd, 1) := by decide +kernel
theorem de_La_618 : decode code 618 = .ok (.iaload, 1) := by decide +kernel
theorem de_La_619 : decode code 619 = .ok (.invokevirtual 86, 3) := by decide +kernel
theorem de_La_622 : decode code 622 = .ok (.if_icmp .eq 562, 3) := by decide +kernel
theorem de_La_627 : decode code 627 = .ok (.aload_n 1, 1) := by decide +kernel
theorem de_La_628 : decode code 628 = .ok (.aload_n 0, 1) := by decide +kernel
theorem de_La_629 : decode code 629 = .ok (.iload_n 3, 1) := by decide +kernel
theorem de_La_630 : decode code 630 = .ok (.iconst 1, 1) := by decide +kernel
theorem de_La_631 : decode code 631 = .ok (.iadd, 1) := by decide +kernel
theorem de_La_632 : decode code 632 = .ok (.iaload, 1) := by decide +kernel
theorem de_La_633 : decode code 633 = .ok (.aload_n 0, 1) := by decide +kernel
theorem de_La_634 : decode code 634 = .ok (.iload_n 3, 1) := by decide +kernel
theorem de_La_635 : decode code 635 = .ok (.iconst 2, 1) := by decide +kernel
theorem de_La_636 : decode code 636 = .ok (.iadd, 1) := by decide +kernel
theorem de_La_637 : decode code 637 = .ok (.iaload, 1) := by decide +kernel
theorem de_La_638 : decode code 638 = .ok (.ifCond .eq 7, 3) := by decide +kernel
theorem de_La_641 : decode code 641 = .ok (.iconst 1, 1) := by decide +kernel
theorem de_La_642 : decode code 642 = .ok (.goto 4, 3) := by decide +kernel
theorem de_La_645 : decode code 645 = .ok (.iconst 0, 1) := by decide +kernel
theorem de_La_646 : decode code 646 = .ok (.aload_n 0, 1) := by decide +kernel
theorem de_La_647 : decode code 647 = .ok (.iload_n 3, 1) := by decide +kernel
theorem de_La_648 : decode code 648 = .ok (.iconst 3, 1) := by decide +kernel
theorem de_La_649 : decode code 649 = .ok (.iadd, 1) := by decide +kernel
theorem de_La_650 : decode code 650 = .ok (.iaload, 1) := by decide +kernel
theorem de_La_651 : decode code 651 = .ok (.invokevirtual 87, 3) := by decide +kernel
theorem de_La_654 : decode code 654 = .ok (.aload_n 2, 1) := by decide +kernel
theorem de_La_655 : decode code 655 = .ok (.aload_n 0, 1) := by decide +kernel
theorem de_La_656 : decode code 656 = .ok (.iload_n 3, 1) := by decide +kernel
theorem de_La_657 : decode code 657 = .ok (.iconst 1, 1) := by decide +kernel
theorem de_La_658 : decode code 658 = .ok (.iadd, 1) := by decide +kernel
theorem de_La_659 : decode code 659 = .ok (.iaload, 1) := by decide +kernel
theorem de_La_660 : decode code 660 = .ok (.aload_n 0, 1) := by decide +kernel
theorem de_La_661 : decode code 661 = .ok (.iload_n 3, 1) := by decide +kernel
theorem de_La_662 : decode code 662 = .ok (.iconst 2, 1) := by decide +kernel
theorem de_La_663 : decode code 663 = .ok (.iadd, 1) := by decide +kernel
theorem de_La_664 : decode code 664 = .ok (.iaload, 1) := by decide +kernel
theorem de_La_665 : decode code 665 = .ok (.ifCond .eq 7, 3) := by decide +kernel
theorem de_La_668 : decode code 668 = .ok (.iconst 1, 1) := by decide +kernel
theorem de_La_669 : decode code 669 = .ok (.goto 4, 3) := by decide +kernel
theorem de_La_672 : decode code 672 = .ok (.iconst 0, 1) := by decide +kernel
theorem de_La_673 : decode code 673 = .ok (.aload_n 0, 1) := by decide +kernel
theorem de_La_674 : decode code 674 = .ok (.iload_n 3, 1) := by decide +kernel
theorem de_La_675 : decode code 675 = .ok (.iconst 3, 1) := by decide +kernel
theorem de_La_676 : decode code 676 = .ok (.iadd, 1) := by decide +kernel
theorem de_La_677 : decode code 677 = .ok (.iaload, 1) := by decide +kernel
theorem de_La_678 : decode code 678 = .ok (.invokevirtual 91, 3) := by decide +kernel
theorem de_La_681 : decode code 681 = .ok (.if_icmp .eq 503, 3) := by decide +kernel
theorem de_La_686 : decode code 686 = .ok (.aload_n 1, 1) := by decide +kernel
theorem de_La_687 : decode code 687 = .ok (.aload_n 0, 1) := by decide +kernel
theorem de_La_688 : decode code 688 = .ok (.iload_n 3, 1) := by decide +kernel
theorem de_La_689 : decode code 689 = .ok (.iconst 1, 1) := by decide +kernel
theorem de_La_690 : decode code 690 = .ok (.iadd, 1) := by decide +kernel
theorem de_La_691 : decode code 691 = .ok (.iaload, 1) := by decide +kernel
theorem de_La_692 : decode code 692 = .ok (.aload_n 0, 1) := by decide +kernel
theorem de_La_693 : decode code 693 = .ok (.iload_n 3, 1) := by decide +kernel
theorem de_La_694 : decode code 694 = .ok (.iconst 2, 1) := by decide +kernel
theorem de_La_695 : decode code 695 = .ok (.iadd, 1) := by decide +kernel
theorem de_La_696 : decode code 696 = .ok (.iaload, 1) := by decide +kernel
theorem de_La_697 : decode code 697 = .ok (.aload_n 0, 1) := by decide +kernel
theorem de_La_698 : decode code 698 = .ok (.iload_n 3, 1) := by decide +kernel
theorem de_La_699 : decode code 699 = .ok (.iconst 3, 1) := by decide +kernel
theorem de_La_700 : decode code 700 = .ok (.iadd, 1) := by decide +kernel
theorem de_La_701 : decode code 701 = .ok (.iaload, 1) := by decide +kernel
theorem de_La_702 : decode code 702 = .ok (.aload_n 0, 1) := by decide +kernel
theorem de_La_703 : decode code 703 = .ok (.iload_n 3, 1) := by decide +kernel
theorem de_La_704 : decode code 704 = .ok (.iconst 4, 1) := by decide +kernel
theorem de_La_705 : decode code 705 = .ok (.iadd, 1) := by decide +kernel
