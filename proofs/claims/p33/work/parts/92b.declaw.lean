theorem db_La_300 : (decode code 538 = .ok (.aload_n 1, 1)) ∧ (decode code 539 = .ok (.aload_n 0, 1)) ∧ (decode code 540 = .ok (.iload_n 3, 1)) ∧ (decode code 541 = .ok (.iconst 1, 1)) ∧ (decode code 542 = .ok (.iadd, 1)) ∧ (decode code 543 = .ok (.iaload, 1)) ∧ (decode code 544 = .ok (.aload_n 0, 1)) ∧ (decode code 545 = .ok (.iload_n 3, 1)) ∧ (decode code 546 = .ok (.iconst 2, 1)) ∧ (decode code 547 = .ok (.iadd, 1)) ∧ (decode code 548 = .ok (.iaload, 1)) ∧ (decode code 549 = .ok (.invokevirtual 75, 3)) := by decide +kernel
theorem de_La_538 : decode code 538 = .ok (.aload_n 1, 1) := db_La_300.1
theorem de_La_539 : decode code 539 = .ok (.aload_n 0, 1) := db_La_300.2.1
theorem de_La_540 : decode code 540 = .ok (.iload_n 3, 1) := db_La_300.2.2.1
theorem de_La_541 : decode code 541 = .ok (.iconst 1, 1) := db_La_300.2.2.2.1
theorem de_La_542 : decode code 542 = .ok (.iadd, 1) := db_La_300.2.2.2.2.1
theorem de_La_543 : decode code 543 = .ok (.iaload, 1) := db_La_300.2.2.2.2.2.1
theorem de_La_544 : decode code 544 = .ok (.aload_n 0, 1) := db_La_300.2.2.2.2.2.2.1
theorem de_La_545 : decode code 545 = .ok (.iload_n 3, 1) := db_La_300.2.2.2.2.2.2.2.1
theorem de_La_546 : decode code 546 = .ok (.iconst 2, 1) := db_La_300.2.2.2.2.2.2.2.2.1
theorem de_La_547 : decode code 547 = .ok (.iadd, 1) := db_La_300.2.2.2.2.2.2.2.2.2.1
theorem de_La_548 : decode code 548 = .ok (.iaload, 1) := db_La_300.2.2.2.2.2.2.2.2.2.2.1
theorem de_La_549 : decode code 549 = .ok (.invokevirtual 75, 3) := db_La_300.2.2.2.2.2.2.2.2.2.2.2
theorem db_La_312 : (decode code 552 = .ok (.pop, 1)) ∧ (decode code 553 = .ok (.aload_n 2, 1)) ∧ (decode code 554 = .ok (.aload_n 0, 1)) ∧ (decode code 555 = .ok (.iload_n 3, 1)) ∧ (decode code 556 = .ok (.iconst 1, 1)) ∧ (decode code 557 = .ok (.iadd, 1)) ∧ (decode code 558 = .ok (.iaload, 1)) ∧ (decode code 559 = .ok (.aload_n 0, 1)) ∧ (decode code 560 = .ok (.iload_n 3, 1)) ∧ (decode code 561 = .ok (.iconst 2, 1)) ∧ (decode code 562 = .ok (.iadd, 1)) ∧ (decode code 563 = .ok (.iaload, 1)) := by decide +kernel
theorem de_La_552 : decode code 552 = .ok (.pop, 1) := db_La_312.1
theorem de_La_553 : decode code 553 = .ok (.aload_n 2, 1) := db_La_312.2.1
theorem de_La_554 : decode code 554 = .ok (.aload_n 0, 1) := db_La_312.2.2.1
theorem de_La_555 : decode code 555 = .ok (.iload_n 3, 1) := db_La_312.2.2.2.1
theorem de_La_556 : decode code 556 = .ok (.iconst 1, 1) := db_La_312.2.2.2.2.1
theorem de_La_557 : decode code 557 = .ok (.iadd, 1) := db_La_312.2.2.2.2.2.1
theorem de_La_558 : decode code 558 = .ok (.iaload, 1) := db_La_312.2.2.2.2.2.2.1
theorem de_La_559 : decode code 559 = .ok (.aload_n 0, 1) := db_La_312.2.2.2.2.2.2.2.1
theorem de_La_560 : decode code 560 = .ok (.iload_n 3, 1) := db_La_312.2.2.2.2.2.2.2.2.1
theorem de_La_561 : decode code 561 = .ok (.iconst 2, 1) := db_La_312.2.2.2.2.2.2.2.2.2.1
theorem de_La_562 : decode code 562 = .ok (.iadd, 1) := db_La_312.2.2.2.2.2.2.2.2.2.2.1
theorem de_La_563 : decode code 563 = .ok (.iaload, 1) := db_La_312.2.2.2.2.2.2.2.2.2.2.2
theorem db_La_324 : (decode code 564 = .ok (.invokevirtual 78, 3)) ∧ (decode code 567 = .ok (.pop, 1)) ∧ (decode code 568 = .ok (.goto 616, 3)) ∧ (decode code 571 = .ok (.aload_n 1, 1)) ∧ (decode code 572 = .ok (.aload_n 0, 1)) ∧ (decode code 573 = .ok (.iload_n 3, 1)) ∧ (decode code 574 = .ok (.iconst 1, 1)) ∧ (decode code 575 = .ok (.iadd, 1)) ∧ (decode code 576 = .ok (.iaload, 1)) ∧ (decode code 577 = .ok (.aload_n 0, 1)) ∧ (decode code 578 = .ok (.iload_n 3, 1)) ∧ (decode code 579 = .ok (.iconst 2, 1)) := by decide +kernel
theorem de_La_564 : decode code 564 = .ok (.invokevirtual 78, 3) := db_La_324.1
theorem de_La_567 : decode code 567 = .ok (.pop, 1) := db_La_324.2.1
theorem de_La_568 : decode code 568 = .ok (.goto 616, 3) := db_La_324.2.2.1
theorem de_La_571 : decode code 571 = .ok (.aload_n 1, 1) := db_La_324.2.2.2.1
theorem de_La_572 : decode code 572 = .ok (.aload_n 0, 1) := db_La_324.2.2.2.2.1
theorem de_La_573 : decode code 573 = .ok (.iload_n 3, 1) := db_La_324.2.2.2.2.2.1
theorem de_La_574 : decode code 574 = .ok (.iconst 1, 1) := db_La_324.2.2.2.2.2.2.1
theorem de_La_575 : decode code 575 = .ok (.iadd, 1) := db_La_324.2.2.2.2.2.2.2.1
theorem de_La_576 : decode code 576 = .ok (.iaload, 1) := db_La_324.2.2.2.2.2.2.2.2.1
theorem de_La_577 : decode code 577 = .ok (.aload_n 0, 1) := db_La_324.2.2.2.2.2.2.2.2.2.1
theorem de_La_578 : decode code 578 = .ok (.iload_n 3, 1) := db_La_324.2.2.2.2.2.2.2.2.2.2.1
theorem de_La_579 : decode code 579 = .ok (.iconst 2, 1) := db_La_324.2.2.2.2.2.2.2.2.2.2.2
theorem db_La_336 : (decode code 580 = .ok (.iadd, 1)) ∧ (decode code 581 = .ok (.iaload, 1)) ∧ (decode code 582 = .ok (.invokevirtual 79, 3)) ∧ (decode code 585 = .ok (.pop, 1)) ∧ (decode code 586 = .ok (.aload_n 2, 1)) ∧ (decode code 587 = .ok (.aload_n 0, 1)) ∧ (decode code 588 = .ok (.iload_n 3, 1)) ∧ (decode code 589 = .ok (.iconst 1, 1)) ∧ (decode code 590 = .ok (.iadd, 1)) ∧ (decode code 591 = .ok (.iaload, 1)) ∧ (decode code 592 = .ok (.aload_n 0, 1)) ∧ (decode code 593 = .ok (.iload_n 3, 1)) := by decide +kernel
theorem de_La_580 : decode code 580 = .ok (.iadd, 1) := db_La_336.1
theorem de_La_581 : decode code 581 = .ok (.iaload, 1) := db_La_336.2.1
theorem de_La_582 : decode code 582 = .ok (.invokevirtual 79, 3) := db_La_336.2.2.1
theorem de_La_585 : decode code 585 = .ok (.pop, 1) := db_La_336.2.2.2.1
theorem de_La_586 : decode code 586 = .ok (.aload_n 2, 1) := db_La_336.2.2.2.2.1
theorem de_La_587 : decode code 587 = .ok (.aload_n 0, 1) := db_La_336.2.2.2.2.2.1
theorem de_La_588 : decode code 588 = .ok (.iload_n 3, 1) := db_La_336.2.2.2.2.2.2.1
theorem de_La_589 : decode code 589 = .ok (.iconst 1, 1) := db_La_336.2.2.2.2.2.2.2.1
theorem de_La_590 : decode code 590 = .ok (.iadd, 1) := db_La_336.2.2.2.2.2.2.2.2.1
theorem de_La_591 : decode code 591 = .ok (.iaload, 1) := db_La_336.2.2.2.2.2.2.2.2.2.1
theorem de_La_592 : decode code 592 = .ok (.aload_n 0, 1) := db_La_336.2.2.2.2.2.2.2.2.2.2.1
theorem de_La_593 : decode code 593 = .ok (.iload_n 3, 1) := db_La_336.2.2.2.2.2.2.2.2.2.2.2
theorem db_La_348 : (decode code 594 = .ok (.iconst 2, 1)) ∧ (decode code 595 = .ok (.iadd, 1)) ∧ (decode code 596 = .ok (.iaload, 1)) ∧ (decode code 597 = .ok (.invokevirtual 82, 3)) ∧ (decode code 600 = .ok (.pop, 1)) ∧ (decode code 601 = .ok (.goto 583, 3)) ∧ (decode code 604 = .ok (.aload_n 1, 1)) ∧ (decode code 605 = .ok (.aload_n 0, 1)) ∧ (decode code 606 = .ok (.iload_n 3, 1)) ∧ (decode code 607 = .ok (.iconst 1, 1)) ∧ (decode code 608 = .ok (.iadd, 1)) ∧ (decode code 609 = .ok (.iaload, 1)) := by decide +kernel
theorem de_La_594 : decode code 594 = .ok (.iconst 2, 1) := db_La_348.1
theorem de_La_595 : decode code 595 = .ok (.iadd, 1) := db_La_348.2.1
theorem de_La_596 : decode code 596 = .ok (.iaload, 1) := db_La_348.2.2.1
theorem de_La_597 : decode code 597 = .ok (.invokevirtual 82, 3) := db_La_348.2.2.2.1
theorem de_La_600 : decode code 600 = .ok (.pop, 1) := db_La_348.2.2.2.2.1
theorem de_La_601 : decode code 601 = .ok (.goto 583, 3) := db_La_348.2.2.2.2.2.1
theorem de_La_604 : decode code 604 = .ok (.aload_n 1, 1) := db_La_348.2.2.2.2.2.2.1
theorem de_La_605 : decode code 605 = .ok (.aload_n 0, 1) := db_La_348.2.2.2.2.2.2.2.1
theorem de_La_606 : decode code 606 = .ok (.iload_n 3, 1) := db_La_348.2.2.2.2.2.2.2.2.1
theorem de_La_607 : decode code 607 = .ok (.iconst 1, 1) := db_La_348.2.2.2.2.2.2.2.2.2.1
theorem de_La_608 : decode code 608 = .ok (.iadd, 1) := db_La_348.2.2.2.2.2.2.2.2.2.2.1
theorem de_La_609 : decode code 609 = .ok (.iaload, 1) := db_La_348.2.2.2.2.2.2.2.2.2.2.2
theorem db_La_360 : (decode code 610 = .ok (.invokevirtual 83, 3)) ∧ (decode code 613 = .ok (.pop, 1)) ∧ (decode code 614 = .ok (.aload_n 2, 1)) ∧ (decode code 615 = .ok (.aload_n 0, 1)) ∧ (decode code 616 = .ok (.iload_n 3, 1)) ∧ (decode code 617 = .ok (.iconst 1, 1)) ∧ (decode code 618 = .ok (.iadd, 1)) ∧ (decode code 619 = .ok (.iaload, 1)) ∧ (decode code 620 = .ok (.invokevirtual 86, 3)) ∧ (decode code 623 = .ok (.pop, 1)) ∧ (decode code 624 = .ok (.goto 560, 3)) ∧ (decode code 627 = .ok (.aload_n 1, 1)) := by decide +kernel
theorem de_La_610 : decode code 610 = .ok (.invokevirtual 83, 3) := db_La_360.1
theorem de_La_613 : decode code 613 = .ok (.pop, 1) := db_La_360.2.1
theorem de_La_614 : decode code 614 = .ok (.aload_n 2, 1) := db_La_360.2.2.1
theorem de_La_615 : decode code 615 = .ok (.aload_n 0, 1) := db_La_360.2.2.2.1
theorem de_La_616 : decode code 616 = .ok (.iload_n 3, 1) := db_La_360.2.2.2.2.1
theorem de_La_617 : decode code 617 = .ok (.iconst 1, 1) := db_La_360.2.2.2.2.2.1
theorem de_La_618 : decode code 618 = .ok (.iadd, 1) := db_La_360.2.2.2.2.2.2.1
theorem de_La_619 : decode code 619 = .ok (.iaload, 1) := db_La_360.2.2.2.2.2.2.2.1
theorem de_La_620 : decode code 620 = .ok (.invokevirtual 86, 3) := db_La_360.2.2.2.2.2.2.2.2.1
theorem de_La_623 : decode code 623 = .ok (.pop, 1) := db_La_360.2.2.2.2.2.2.2.2.2.1
theorem de_La_624 : decode code 624 = .ok (.goto 560, 3) := db_La_360.2.2.2.2.2.2.2.2.2.2.1
theorem de_La_627 : decode code 627 = .ok (.aload_n 1, 1) := db_La_360.2.2.2.2.2.2.2.2.2.2.2
theorem db_La_372 : (decode code 628 = .ok (.aload_n 0, 1)) ∧ (decode code 629 = .ok (.iload_n 3, 1)) ∧ (decode code 630 = .ok (.iconst 1, 1)) ∧ (decode code 631 = .ok (.iadd, 1)) ∧ (decode code 632 = .ok (.iaload, 1)) ∧ (decode code 633 = .ok (.aload_n 0, 1)) ∧ (decode code 634 = .ok (.iload_n 3, 1)) ∧ (decode code 635 = .ok (.iconst 2, 1)) ∧ (decode code 636 = .ok (.iadd, 1)) ∧ (decode code 637 = .ok (.iaload, 1)) ∧ (decode code 638 = .ok (.ifCond .eq 7, 3)) ∧ (decode code 641 = .ok (.iconst 1, 1)) := by decide +kernel
theorem de_La_628 : decode code 628 = .ok (.aload_n 0, 1) := db_La_372.1
theorem de_La_629 : decode code 629 = .ok (.iload_n 3, 1) := db_La_372.2.1
theorem de_La_630 : decode code 630 = .ok (.iconst 1, 1) := db_La_372.2.2.1
theorem de_La_631 : decode code 631 = .ok (.iadd, 1) := db_La_372.2.2.2.1
theorem de_La_632 : decode code 632 = .ok (.iaload, 1) := db_La_372.2.2.2.2.1
theorem de_La_633 : decode code 633 = .ok (.aload_n 0, 1) := db_La_372.2.2.2.2.2.1
theorem de_La_634 : decode code 634 = .ok (.iload_n 3, 1) := db_La_372.2.2.2.2.2.2.1
theorem de_La_635 : decode code 635 = .ok (.iconst 2, 1) := db_La_372.2.2.2.2.2.2.2.1
theorem de_La_636 : decode code 636 = .ok (.iadd, 1) := db_La_372.2.2.2.2.2.2.2.2.1
theorem de_La_637 : decode code 637 = .ok (.iaload, 1) := db_La_372.2.2.2.2.2.2.2.2.2.1
theorem de_La_638 : decode code 638 = .ok (.ifCond .eq 7, 3) := db_La_372.2.2.2.2.2.2.2.2.2.2.1
theorem de_La_641 : decode code 641 = .ok (.iconst 1, 1) := db_La_372.2.2.2.2.2.2.2.2.2.2.2
theorem db_La_384 : (decode code 642 = .ok (.goto 4, 3)) ∧ (decode code 645 = .ok (.iconst 0, 1)) ∧ (decode code 646 = .ok (.aload_n 0, 1)) ∧ (decode code 647 = .ok (.iload_n 3, 1)) ∧ (decode code 648 = .ok (.iconst 3, 1)) ∧ (decode code 649 = .ok (.iadd, 1)) ∧ (decode code 650 = .ok (.iaload, 1)) ∧ (decode code 651 = .ok (.invokevirtual 87, 3)) ∧ (decode code 654 = .ok (.pop, 1)) ∧ (decode code 655 = .ok (.aload_n 2, 1)) ∧ (decode code 656 = .ok (.aload_n 0, 1)) ∧ (decode code 657 = .ok (.iload_n 3, 1)) := by decide +kernel
theorem de_La_642 : decode code 642 = .ok (.goto 4, 3) := db_La_384.1
theorem de_La_645 : decode code 645 = .ok (.iconst 0, 1) := db_La_384.2.1
theorem de_La_646 : decode code 646 = .ok (.aload_n 0, 1) := db_La_384.2.2.1
theorem de_La_647 : decode code 647 = .ok (.iload_n 3, 1) := db_La_384.2.2.2.1
theorem de_La_648 : decode code 648 = .ok (.iconst 3, 1) := db_La_384.2.2.2.2.1
theorem de_La_649 : decode code 649 = .ok (.iadd, 1) := db_La_384.2.2.2.2.2.1
theorem de_La_650 : decode code 650 = .ok (.iaload, 1) := db_La_384.2.2.2.2.2.2.1
theorem de_La_651 : decode code 651 = .ok (.invokevirtual 87, 3) := db_La_384.2.2.2.2.2.2.2.1
theorem de_La_654 : decode code 654 = .ok (.pop, 1) := db_La_384.2.2.2.2.2.2.2.2.1
theorem de_La_655 : decode code 655 = .ok (.aload_n 2, 1) := db_La_384.2.2.2.2.2.2.2.2.2.1
theorem de_La_656 : decode code 656 = .ok (.aload_n 0, 1) := db_La_384.2.2.2.2.2.2.2.2.2.2.1
theorem de_La_657 : decode code 657 = .ok (.iload_n 3, 1) := db_La_384.2.2.2.2.2.2.2.2.2.2.2
theorem db_La_396 : (decode code 658 = .ok (.iconst 1, 1)) ∧ (decode code 659 = .ok (.iadd, 1)) ∧ (decode code 660 = .ok (.iaload, 1)) ∧ (decode code 661 = .ok (.aload_n 0, 1)) ∧ (decode code 662 = .ok (.iload_n 3, 1)) ∧ (decode code 663 = .ok (.iconst 2, 1)) ∧ (decode code 664 = .ok (.iadd, 1)) ∧ (decode code 665 = .ok (.iaload, 1)) ∧ (decode code 666 = .ok (.ifCond .eq 7, 3)) ∧ (decode code 669 = .ok (.iconst 1, 1)) ∧ (decode code 670 = .ok (.goto 4, 3)) ∧ (decode code 673 = .ok (.iconst 0, 1)) := by decide +kernel
theorem de_La_658 : decode code 658 = .ok (.iconst 1, 1) := db_La_396.1
theorem de_La_659 : decode code 659 = .ok (.iadd, 1) := db_La_396.2.1
theorem de_La_660 : decode code 660 = .ok (.iaload, 1) := db_La_396.2.2.1
theorem de_La_661 : decode code 661 = .ok (.aload_n 0, 1) := db_La_396.2.2.2.1
theorem de_La_662 : decode code 662 = .ok (.iload_n 3, 1) := db_La_396.2.2.2.2.1
theorem de_La_663 : decode code 663 = .ok (.iconst 2, 1) := db_La_396.2.2.2.2.2.1
theorem de_La_664 : decode code 664 = .ok (.iadd, 1) := db_La_396.2.2.2.2.2.2.1
theorem de_La_665 : decode code 665 = .ok (.iaload, 1) := db_La_396.2.2.2.2.2.2.2.1
theorem de_La_666 : decode code 666 = .ok (.ifCond .eq 7, 3) := db_La_396.2.2.2.2.2.2.2.2.1
theorem de_La_669 : decode code 669 = .ok (.iconst 1, 1) := db_La_396.2.2.2.2.2.2.2.2.2.1
theorem de_La_670 : decode code 670 = .ok (.goto 4, 3) := db_La_396.2.2.2.2.2.2.2.2.2.2.1
theorem de_La_673 : decode code 673 = .ok (.iconst 0, 1) := db_La_396.2.2.2.2.2.2.2.2.2.2.2
theorem db_La_408 : (decode code 674 = .ok (.aload_n 0, 1)) ∧ (decode code 675 = .ok (.iload_n 3, 1)) ∧ (decode code 676 = .ok (.iconst 3, 1)) ∧ (decode code 677 = .ok (.iadd, 1)) ∧ (decode code 678 = .ok (.iaload, 1)) ∧ (decode code 679 = .ok (.invokevirtual 91, 3)) ∧ (decode code 682 = .ok (.pop, 1)) ∧ (decode code 683 = .ok (.goto 501, 3)) ∧ (decode code 686 = .ok (.aload_n 1, 1)) ∧ (decode code 687 = .ok (.aload_n 0, 1)) ∧ (decode code 688 = .ok (.iload_n 3, 1)) ∧ (decode code 689 = .ok (.iconst 1, 1)) := by decide +kernel
theorem de_La_674 : decode code 674 = .ok (.aload_n 0, 1) := db_La_408.1
theorem de_La_675 : decode code 675 = .ok (.iload_n 3, 1) := db_La_408.2.1
theorem de_La_676 : decode code 676 = .ok (.iconst 3, 1) := db_La_408.2.2.1
theorem de_La_677 : decode code 677 = .ok (.iadd, 1) := db_La_408.2.2.2.1
theorem de_La_678 : decode code 678 = .ok (.iaload, 1) := db_La_408.2.2.2.2.1
theorem de_La_679 : decode code 679 = .ok (.invokevirtual 91, 3) := db_La_408.2.2.2.2.2.1
theorem de_La_682 : decode code 682 = .ok (.pop, 1) := db_La_408.2.2.2.2.2.2.1
theorem de_La_683 : decode code 683 = .ok (.goto 501, 3) := db_La_408.2.2.2.2.2.2.2.1
theorem de_La_686 : decode code 686 = .ok (.aload_n 1, 1) := db_La_408.2.2.2.2.2.2.2.2.1
theorem de_La_687 : decode code 687 = .ok (.aload_n 0, 1) := db_La_408.2.2.2.2.2.2.2.2.2.1
theorem de_La_688 : decode code 688 = .ok (.iload_n 3, 1) := db_La_408.2.2.2.2.2.2.2.2.2.2.1
theorem de_La_689 : decode code 689 = .ok (.iconst 1, 1) := db_La_408.2.2.2.2.2.2.2.2.2.2.2
theorem db_La_420 : (decode code 690 = .ok (.iadd, 1)) ∧ (decode code 691 = .ok (.iaload, 1)) ∧ (decode code 692 = .ok (.aload_n 0, 1)) ∧ (decode code 693 = .ok (.iload_n 3, 1)) ∧ (decode code 694 = .ok (.iconst 2, 1)) ∧ (decode code 695 = .ok (.iadd, 1)) ∧ (decode code 696 = .ok (.iaload, 1)) ∧ (decode code 697 = .ok (.aload_n 0, 1)) ∧ (decode code 698 = .ok (.iload_n 3, 1)) ∧ (decode code 699 = .ok (.iconst 3, 1)) ∧ (decode code 700 = .ok (.iadd, 1)) ∧ (decode code 701 = .ok (.iaload, 1)) := by decide +kernel
theorem de_La_690 : decode code 690 = .ok (.iadd, 1) := db_La_420.1
theorem de_La_691 : decode code 691 = .ok (.iaload, 1) := db_La_420.2.1
theorem de_La_692 : decode code 692 = .ok (.aload_n 0, 1) := db_La_420.2.2.1
theorem de_La_693 : decode code 693 = .ok (.iload_n 3, 1) := db_La_420.2.2.2.1
theorem de_La_694 : decode code 694 = .ok (.iconst 2, 1) := db_La_420.2.2.2.2.1
theorem de_La_695 : decode code 695 = .ok (.iadd, 1) := db_La_420.2.2.2.2.2.1
theorem de_La_696 : decode code 696 = .ok (.iaload, 1) := db_La_420.2.2.2.2.2.2.1
theorem de_La_697 : decode code 697 = .ok (.aload_n 0, 1) := db_La_420.2.2.2.2.2.2.2.1
theorem de_La_698 : decode code 698 = .ok (.iload_n 3, 1) := db_La_420.2.2.2.2.2.2.2.2.1
theorem de_La_699 : decode code 699 = .ok (.iconst 3, 1) := db_La_420.2.2.2.2.2.2.2.2.2.1
theorem de_La_700 : decode code 700 = .ok (.iadd, 1) := db_La_420.2.2.2.2.2.2.2.2.2.2.1
theorem de_La_701 : decode code 701 = .ok (.iaload, 1) := db_La_420.2.2.2.2.2.2.2.2.2.2.2
theorem db_La_432 : (decode code 702 = .ok (.aload_n 0, 1)) ∧ (decode code 703 = .ok (.iload_n 3, 1)) ∧ (decode code 704 = .ok (.iconst 4, 1)) ∧ (decode code 705 = .ok (.iadd, 1)) ∧ (decode code 706 = .ok (.iaload, 1)) ∧ (decode code 707 = .ok (.invokevirtual 92, 3)) ∧ (decode code 710 = .ok (.pop, 1)) ∧ (decode code 711 = .ok (.aload_n 2, 1)) ∧ (decode code 712 = .ok (.aload_n 0, 1)) ∧ (decode code 713 = .ok (.iload_n 3, 1)) ∧ (decode code 714 = .ok (.iconst 1, 1)) ∧ (decode code 715 = .ok (.iadd, 1)) := by decide +kernel
theorem de_La_702 : decode code 702 = .ok (.aload_n 0, 1) := db_La_432.1
theorem de_La_703 : decode code 703 = .ok (.iload_n 3, 1) := db_La_432.2.1
theorem de_La_704 : decode code 704 = .ok (.iconst 4, 1) := db_La_432.2.2.1
theorem de_La_705 : decode code 705 = .ok (.iadd, 1) := db_La_432.2.2.2.1
theorem de_La_706 : decode code 706 = .ok (.iaload, 1) := db_La_432.2.2.2.2.1
theorem de_La_707 : decode code 707 = .ok (.invokevirtual 92, 3) := db_La_432.2.2.2.2.2.1
theorem de_La_710 : decode code 710 = .ok (.pop, 1) := db_La_432.2.2.2.2.2.2.1
theorem de_La_711 : decode code 711 = .ok (.aload_n 2, 1) := db_La_432.2.2.2.2.2.2.2.1
theorem de_La_712 : decode code 712 = .ok (.aload_n 0, 1) := db_La_432.2.2.2.2.2.2.2.2.1
theorem de_La_713 : decode code 713 = .ok (.iload_n 3, 1) := db_La_432.2.2.2.2.2.2.2.2.2.1
theorem de_La_714 : decode code 714 = .ok (.iconst 1, 1) := db_La_432.2.2.2.2.2.2.2.2.2.2.1
theorem de_La_715 : decode code 715 = .ok (.iadd, 1) := db_La_432.2.2.2.2.2.2.2.2.2.2.2
theorem db_La_444 : (decode code 716 = .ok (.iaload, 1)) ∧ (decode code 717 = .ok (.aload_n 0, 1)) ∧ (decode code 718 = .ok (.iload_n 3, 1)) ∧ (decode code 719 = .ok (.iconst 2, 1)) ∧ (decode code 720 = .ok (.iadd, 1)) ∧ (decode code 721 = .ok (.iaload, 1)) ∧ (decode code 722 = .ok (.aload_n 0, 1)) ∧ (decode code 723 = .ok (.iload_n 3, 1)) ∧ (decode code 724 = .ok (.iconst 3, 1)) ∧ (decode code 725 = .ok (.iadd, 1)) ∧ (decode code 726 = .ok (.iaload, 1)) ∧ (decode code 727 = .ok (.aload_n 0, 1)) := by decide +kernel
theorem de_La_716 : decode code 716 = .ok (.iaload, 1) := db_La_444.1
theorem de_La_717 : decode code 717 = .ok (.aload_n 0, 1) := db_La_444.2.1
theorem de_La_718 : decode code 718 = .ok (.iload_n 3, 1) := db_La_444.2.2.1
theorem de_La_719 : decode code 719 = .ok (.iconst 2, 1) := db_La_444.2.2.2.1
theorem de_La_720 : decode code 720 = .ok (.iadd, 1) := db_La_444.2.2.2.2.1
theorem de_La_721 : decode code 721 = .ok (.iaload, 1) := db_La_444.2.2.2.2.2.1
theorem de_La_722 : decode code 722 = .ok (.aload_n 0, 1) := db_La_444.2.2.2.2.2.2.1
theorem de_La_723 : decode code 723 = .ok (.iload_n 3, 1) := db_La_444.2.2.2.2.2.2.2.1
theorem de_La_724 : decode code 724 = .ok (.iconst 3, 1) := db_La_444.2.2.2.2.2.2.2.2.1
theorem de_La_725 : decode code 725 = .ok (.iadd, 1) := db_La_444.2.2.2.2.2.2.2.2.2.1
theorem de_La_726 : decode code 726 = .ok (.iaload, 1) := db_La_444.2.2.2.2.2.2.2.2.2.2.1
theorem de_La_727 : decode code 727 = .ok (.aload_n 0, 1) := db_La_444.2.2.2.2.2.2.2.2.2.2.2
theorem db_La_456 : (decode code 728 = .ok (.iload_n 3, 1)) ∧ (decode code 729 = .ok (.iconst 4, 1)) ∧ (decode code 730 = .ok (.iadd, 1)) ∧ (decode code 731 = .ok (.iaload, 1)) ∧ (decode code 732 = .ok (.invokevirtual 96, 3)) ∧ (decode code 735 = .ok (.pop, 1)) ∧ (decode code 736 = .ok (.goto 448, 3)) ∧ (decode code 739 = .ok (.aload_n 1, 1)) ∧ (decode code 740 = .ok (.aload_n 0, 1)) ∧ (decode code 741 = .ok (.iload_n 3, 1)) ∧ (decode code 742 = .ok (.iconst 1, 1)) ∧ (decode code 743 = .ok (.iadd, 1)) := by decide +kernel
theorem de_La_728 : decode code 728 = .ok (.iload_n 3, 1) := db_La_456.1
theorem de_La_729 : decode code 729 = .ok (.iconst 4, 1) := db_La_456.2.1
theorem de_La_730 : decode code 730 = .ok (.iadd, 1) := db_La_456.2.2.1
theorem de_La_731 : decode code 731 = .ok (.iaload, 1) := db_La_456.2.2.2.1
theorem de_La_732 : decode code 732 = .ok (.invokevirtual 96, 3) := db_La_456.2.2.2.2.1
theorem de_La_735 : decode code 735 = .ok (.pop, 1) := db_La_456.2.2.2.2.2.1
theorem de_La_736 : decode code 736 = .ok (.goto 448, 3) := db_La_456.2.2.2.2.2.2.1
theorem de_La_739 : decode code 739 = .ok (.aload_n 1, 1) := db_La_456.2.2.2.2.2.2.2.1
theorem de_La_740 : decode code 740 = .ok (.aload_n 0, 1) := db_La_456.2.2.2.2.2.2.2.2.1
theorem de_La_741 : decode code 741 = .ok (.iload_n 3, 1) := db_La_456.2.2.2.2.2.2.2.2.2.1
theorem de_La_742 : decode code 742 = .ok (.iconst 1, 1) := db_La_456.2.2.2.2.2.2.2.2.2.2.1
theorem de_La_743 : decode code 743 = .ok (.iadd, 1) := db_La_456.2.2.2.2.2.2.2.2.2.2.2
theorem db_La_468 : (decode code 744 = .ok (.iaload, 1)) ∧ (decode code 745 = .ok (.invokevirtual 97, 3)) ∧ (decode code 748 = .ok (.pop, 1)) ∧ (decode code 749 = .ok (.aload_n 2, 1)) ∧ (decode code 750 = .ok (.aload_n 0, 1)) ∧ (decode code 751 = .ok (.iload_n 3, 1)) ∧ (decode code 752 = .ok (.iconst 1, 1)) ∧ (decode code 753 = .ok (.iadd, 1)) ∧ (decode code 754 = .ok (.iaload, 1)) ∧ (decode code 755 = .ok (.invokevirtual 100, 3)) ∧ (decode code 758 = .ok (.pop, 1)) ∧ (decode code 759 = .ok (.goto 425, 3)) := by decide +kernel
theorem de_La_744 : decode code 744 = .ok (.iaload, 1) := db_La_468.1
theorem de_La_745 : decode code 745 = .ok (.invokevirtual 97, 3) := db_La_468.2.1
theorem de_La_748 : decode code 748 = .ok (.pop, 1) := db_La_468.2.2.1
theorem de_La_749 : decode code 749 = .ok (.aload_n 2, 1) := db_La_468.2.2.2.1
theorem de_La_750 : decode code 750 = .ok (.aload_n 0, 1) := db_La_468.2.2.2.2.1
theorem de_La_751 : decode code 751 = .ok (.iload_n 3, 1) := db_La_468.2.2.2.2.2.1
theorem de_La_752 : decode code 752 = .ok (.iconst 1, 1) := db_La_468.2.2.2.2.2.2.1
theorem de_La_753 : decode code 753 = .ok (.iadd, 1) := db_La_468.2.2.2.2.2.2.2.1
theorem de_La_754 : decode code 754 = .ok (.iaload, 1) := db_La_468.2.2.2.2.2.2.2.2.1
theorem de_La_755 : decode code 755 = .ok (.invokevirtual 100, 3) := db_La_468.2.2.2.2.2.2.2.2.2.1
theorem de_La_758 : decode code 758 = .ok (.pop, 1) := db_La_468.2.2.2.2.2.2.2.2.2.2.1
theorem de_La_759 : decode code 759 = .ok (.goto 425, 3) := db_La_468.2.2.2.2.2.2.2.2.2.2.2
theorem db_La_480 : (decode code 762 = .ok (.aload_n 1, 1)) ∧ (decode code 763 = .ok (.aload_n 0, 1)) ∧ (decode code 764 = .ok (.iload_n 3, 1)) ∧ (decode code 765 = .ok (.iconst 1, 1)) ∧ (decode code 766 = .ok (.iadd, 1)) ∧ (decode code 767 = .ok (.iaload, 1)) ∧ (decode code 768 = .ok (.invokevirtual 101, 3)) ∧ (decode code 771 = .ok (.pop, 1)) ∧ (decode code 772 = .ok (.aload_n 2, 1)) ∧ (decode code 773 = .ok (.aload_n 0, 1)) ∧ (decode code 774 = .ok (.iload_n 3, 1)) ∧ (decode code 775 = .ok (.iconst 1, 1)) := by decide +kernel
theorem de_La_762 : decode code 762 = .ok (.aload_n 1, 1) := db_La_480.1
theorem de_La_763 : decode code 763 = .ok (.aload_n 0, 1) := db_La_480.2.1
theorem de_La_764 : decode code 764 = .ok (.iload_n 3, 1) := db_La_480.2.2.1
theorem de_La_765 : decode code 765 = .ok (.iconst 1, 1) := db_La_480.2.2.2.1
theorem de_La_766 : decode code 766 = .ok (.iadd, 1) := db_La_480.2.2.2.2.1
theorem de_La_767 : decode code 767 = .ok (.iaload, 1) := db_La_480.2.2.2.2.2.1
theorem de_La_768 : decode code 768 = .ok (.invokevirtual 101, 3) := db_La_480.2.2.2.2.2.2.1
theorem de_La_771 : decode code 771 = .ok (.pop, 1) := db_La_480.2.2.2.2.2.2.2.1
theorem de_La_772 : decode code 772 = .ok (.aload_n 2, 1) := db_La_480.2.2.2.2.2.2.2.2.1
theorem de_La_773 : decode code 773 = .ok (.aload_n 0, 1) := db_La_480.2.2.2.2.2.2.2.2.2.1
theorem de_La_774 : decode code 774 = .ok (.iload_n 3, 1) := db_La_480.2.2.2.2.2.2.2.2.2.2.1
theorem de_La_775 : decode code 775 = .ok (.iconst 1, 1) := db_La_480.2.2.2.2.2.2.2.2.2.2.2
theorem db_La_492 : (decode code 776 = .ok (.iadd, 1)) ∧ (decode code 777 = .ok (.iaload, 1)) ∧ (decode code 778 = .ok (.invokevirtual 104, 3)) ∧ (decode code 781 = .ok (.pop, 1)) ∧ (decode code 782 = .ok (.goto 402, 3)) ∧ (decode code 785 = .ok (.aload_n 1, 1)) ∧ (decode code 786 = .ok (.aload_n 0, 1)) ∧ (decode code 787 = .ok (.iload_n 3, 1)) ∧ (decode code 788 = .ok (.iconst 1, 1)) ∧ (decode code 789 = .ok (.iadd, 1)) ∧ (decode code 790 = .ok (.iaload, 1)) ∧ (decode code 791 = .ok (.invokevirtual 105, 3)) := by decide +kernel
theorem de_La_776 : decode code 776 = .ok (.iadd, 1) := db_La_492.1
theorem de_La_777 : decode code 777 = .ok (.iaload, 1) := db_La_492.2.1
theorem de_La_778 : decode code 778 = .ok (.invokevirtual 104, 3) := db_La_492.2.2.1
theorem de_La_781 : decode code 781 = .ok (.pop, 1) := db_La_492.2.2.2.1
theorem de_La_782 : decode code 782 = .ok (.goto 402, 3) := db_La_492.2.2.2.2.1
theorem de_La_785 : decode code 785 = .ok (.aload_n 1, 1) := db_La_492.2.2.2.2.2.1
theorem de_La_786 : decode code 786 = .ok (.aload_n 0, 1) := db_La_492.2.2.2.2.2.2.1
theorem de_La_787 : decode code 787 = .ok (.iload_n 3, 1) := db_La_492.2.2.2.2.2.2.2.1
theorem de_La_788 : decode code 788 = .ok (.iconst 1, 1) := db_La_492.2.2.2.2.2.2.2.2.1
theorem de_La_789 : decode code 789 = .ok (.iadd, 1) := db_La_492.2.2.2.2.2.2.2.2.2.1
theorem de_La_790 : decode code 790 = .ok (.iaload, 1) := db_La_492.2.2.2.2.2.2.2.2.2.2.1
theorem de_La_791 : decode code 791 = .ok (.invokevirtual 105, 3) := db_La_492.2.2.2.2.2.2.2.2.2.2.2
theorem db_La_504 : (decode code 794 = .ok (.pop, 1)) ∧ (decode code 795 = .ok (.aload_n 2, 1)) ∧ (decode code 796 = .ok (.aload_n 0, 1)) ∧ (decode code 797 = .ok (.iload_n 3, 1)) ∧ (decode code 798 = .ok (.iconst 1, 1)) ∧ (decode code 799 = .ok (.iadd, 1)) ∧ (decode code 800 = .ok (.iaload, 1)) ∧ (decode code 801 = .ok (.invokevirtual 108, 3)) ∧ (decode code 804 = .ok (.pop, 1)) ∧ (decode code 805 = .ok (.goto 379, 3)) ∧ (decode code 808 = .ok (.aload_n 1, 1)) ∧ (decode code 809 = .ok (.aload_n 0, 1)) := by decide +kernel
theorem de_La_794 : decode code 794 = .ok (.pop, 1) := db_La_504.1
theorem de_La_795 : decode code 795 = .ok (.aload_n 2, 1) := db_La_504.2.1
theorem de_La_796 : decode code 796 = .ok (.aload_n 0, 1) := db_La_504.2.2.1
theorem de_La_797 : decode code 797 = .ok (.iload_n 3, 1) := db_La_504.2.2.2.1
theorem de_La_798 : decode code 798 = .ok (.iconst 1, 1) := db_La_504.2.2.2.2.1
theorem de_La_799 : decode code 799 = .ok (.iadd, 1) := db_La_504.2.2.2.2.2.1
theorem de_La_800 : decode code 800 = .ok (.iaload, 1) := db_La_504.2.2.2.2.2.2.1
theorem de_La_801 : decode code 801 = .ok (.invokevirtual 108, 3) := db_La_504.2.2.2.2.2.2.2.1
theorem de_La_804 : decode code 804 = .ok (.pop, 1) := db_La_504.2.2.2.2.2.2.2.2.1
theorem de_La_805 : decode code 805 = .ok (.goto 379, 3) := db_La_504.2.2.2.2.2.2.2.2.2.1
theorem de_La_808 : decode code 808 = .ok (.aload_n 1, 1) := db_La_504.2.2.2.2.2.2.2.2.2.2.1
theorem de_La_809 : decode code 809 = .ok (.aload_n 0, 1) := db_La_504.2.2.2.2.2.2.2.2.2.2.2
theorem db_La_516 : (decode code 810 = .ok (.iload_n 3, 1)) ∧ (decode code 811 = .ok (.iconst 1, 1)) ∧ (decode code 812 = .ok (.iadd, 1)) ∧ (decode code 813 = .ok (.iaload, 1)) ∧ (decode code 814 = .ok (.aload_n 0, 1)) ∧ (decode code 815 = .ok (.iload_n 3, 1)) ∧ (decode code 816 = .ok (.iconst 2, 1)) ∧ (decode code 817 = .ok (.iadd, 1)) ∧ (decode code 818 = .ok (.iaload, 1)) ∧ (decode code 819 = .ok (.aload_n 0, 1)) ∧ (decode code 820 = .ok (.iload_n 3, 1)) ∧ (decode code 821 = .ok (.iconst 3, 1)) := by decide +kernel
theorem de_La_810 : decode code 810 = .ok (.iload_n 3, 1) := db_La_516.1
theorem de_La_811 : decode code 811 = .ok (.iconst 1, 1) := db_La_516.2.1
theorem de_La_812 : decode code 812 = .ok (.iadd, 1) := db_La_516.2.2.1
theorem de_La_813 : decode code 813 = .ok (.iaload, 1) := db_La_516.2.2.2.1
theorem de_La_814 : decode code 814 = .ok (.aload_n 0, 1) := db_La_516.2.2.2.2.1
theorem de_La_815 : decode code 815 = .ok (.iload_n 3, 1) := db_La_516.2.2.2.2.2.1
theorem de_La_816 : decode code 816 = .ok (.iconst 2, 1) := db_La_516.2.2.2.2.2.2.1
theorem de_La_817 : decode code 817 = .ok (.iadd, 1) := db_La_516.2.2.2.2.2.2.2.1
theorem de_La_818 : decode code 818 = .ok (.iaload, 1) := db_La_516.2.2.2.2.2.2.2.2.1
theorem de_La_819 : decode code 819 = .ok (.aload_n 0, 1) := db_La_516.2.2.2.2.2.2.2.2.2.1
theorem de_La_820 : decode code 820 = .ok (.iload_n 3, 1) := db_La_516.2.2.2.2.2.2.2.2.2.2.1
theorem de_La_821 : decode code 821 = .ok (.iconst 3, 1) := db_La_516.2.2.2.2.2.2.2.2.2.2.2
theorem db_La_528 : (decode code 822 = .ok (.iadd, 1)) ∧ (decode code 823 = .ok (.iaload, 1)) ∧ (decode code 824 = .ok (.invokevirtual 109, 3)) ∧ (decode code 827 = .ok (.pop, 1)) ∧ (decode code 828 = .ok (.aload_n 2, 1)) ∧ (decode code 829 = .ok (.aload_n 0, 1)) ∧ (decode code 830 = .ok (.iload_n 3, 1)) ∧ (decode code 831 = .ok (.iconst 1, 1)) ∧ (decode code 832 = .ok (.iadd, 1)) ∧ (decode code 833 = .ok (.iaload, 1)) ∧ (decode code 834 = .ok (.aload_n 0, 1)) ∧ (decode code 835 = .ok (.iload_n 3, 1)) := by decide +kernel
theorem de_La_822 : decode code 822 = .ok (.iadd, 1) := db_La_528.1
theorem de_La_823 : decode code 823 = .ok (.iaload, 1) := db_La_528.2.1
theorem de_La_824 : decode code 824 = .ok (.invokevirtual 109, 3) := db_La_528.2.2.1
theorem de_La_827 : decode code 827 = .ok (.pop, 1) := db_La_528.2.2.2.1
theorem de_La_828 : decode code 828 = .ok (.aload_n 2, 1) := db_La_528.2.2.2.2.1
theorem de_La_829 : decode code 829 = .ok (.aload_n 0, 1) := db_La_528.2.2.2.2.2.1
theorem de_La_830 : decode code 830 = .ok (.iload_n 3, 1) := db_La_528.2.2.2.2.2.2.1
theorem de_La_831 : decode code 831 = .ok (.iconst 1, 1) := db_La_528.2.2.2.2.2.2.2.1
theorem de_La_832 : decode code 832 = .ok (.iadd, 1) := db_La_528.2.2.2.2.2.2.2.2.1
theorem de_La_833 : decode code 833 = .ok (.iaload, 1) := db_La_528.2.2.2.2.2.2.2.2.2.1
theorem de_La_834 : decode code 834 = .ok (.aload_n 0, 1) := db_La_528.2.2.2.2.2.2.2.2.2.2.1
theorem de_La_835 : decode code 835 = .ok (.iload_n 3, 1) := db_La_528.2.2.2.2.2.2.2.2.2.2.2
theorem db_La_540 : (decode code 836 = .ok (.iconst 2, 1)) ∧ (decode code 837 = .ok (.iadd, 1)) ∧ (decode code 838 = .ok (.iaload, 1)) ∧ (decode code 839 = .ok (.aload_n 0, 1)) ∧ (decode code 840 = .ok (.iload_n 3, 1)) ∧ (decode code 841 = .ok (.iconst 3, 1)) ∧ (decode code 842 = .ok (.iadd, 1)) ∧ (decode code 843 = .ok (.iaload, 1)) ∧ (decode code 844 = .ok (.invokevirtual 113, 3)) ∧ (decode code 847 = .ok (.pop, 1)) ∧ (decode code 848 = .ok (.goto 336, 3)) ∧ (decode code 851 = .ok (.aload_n 1, 1)) := by decide +kernel
theorem de_La_836 : decode code 836 = .ok (.iconst 2, 1) := db_La_540.1
theorem de_La_837 : decode code 837 = .ok (.iadd, 1) := db_La_540.2.1
theorem de_La_838 : decode code 838 = .ok (.iaload, 1) := db_La_540.2.2.1
theorem de_La_839 : decode code 839 = .ok (.aload_n 0, 1) := db_La_540.2.2.2.1
theorem de_La_840 : decode code 840 = .ok (.iload_n 3, 1) := db_La_540.2.2.2.2.1
theorem de_La_841 : decode code 841 = .ok (.iconst 3, 1) := db_La_540.2.2.2.2.2.1
theorem de_La_842 : decode code 842 = .ok (.iadd, 1) := db_La_540.2.2.2.2.2.2.1
theorem de_La_843 : decode code 843 = .ok (.iaload, 1) := db_La_540.2.2.2.2.2.2.2.1
theorem de_La_844 : decode code 844 = .ok (.invokevirtual 113, 3) := db_La_540.2.2.2.2.2.2.2.2.1
theorem de_La_847 : decode code 847 = .ok (.pop, 1) := db_La_540.2.2.2.2.2.2.2.2.2.1
theorem de_La_848 : decode code 848 = .ok (.goto 336, 3) := db_La_540.2.2.2.2.2.2.2.2.2.2.1
theorem de_La_851 : decode code 851 = .ok (.aload_n 1, 1) := db_La_540.2.2.2.2.2.2.2.2.2.2.2
theorem db_La_552 : (decode code 852 = .ok (.aload_n 0, 1)) ∧ (decode code 853 = .ok (.iload_n 3, 1)) ∧ (decode code 854 = .ok (.iconst 1, 1)) ∧ (decode code 855 = .ok (.iadd, 1)) ∧ (decode code 856 = .ok (.iaload, 1)) ∧ (decode code 857 = .ok (.aload_n 0, 1)) ∧ (decode code 858 = .ok (.iload_n 3, 1)) ∧ (decode code 859 = .ok (.iconst 2, 1)) ∧ (decode code 860 = .ok (.iadd, 1)) ∧ (decode code 861 = .ok (.iaload, 1)) ∧ (decode code 862 = .ok (.aload_n 0, 1)) ∧ (decode code 863 = .ok (.iload_n 3, 1)) := by decide +kernel
theorem de_La_852 : decode code 852 = .ok (.aload_n 0, 1) := db_La_552.1
theorem de_La_853 : decode code 853 = .ok (.iload_n 3, 1) := db_La_552.2.1
theorem de_La_854 : decode code 854 = .ok (.iconst 1, 1) := db_La_552.2.2.1
theorem de_La_855 : decode code 855 = .ok (.iadd, 1) := db_La_552.2.2.2.1
theorem de_La_856 : decode code 856 = .ok (.iaload, 1) := db_La_552.2.2.2.2.1
theorem de_La_857 : decode code 857 = .ok (.aload_n 0, 1) := db_La_552.2.2.2.2.2.1
theorem de_La_858 : decode code 858 = .ok (.iload_n 3, 1) := db_La_552.2.2.2.2.2.2.1
theorem de_La_859 : decode code 859 = .ok (.iconst 2, 1) := db_La_552.2.2.2.2.2.2.2.1
theorem de_La_860 : decode code 860 = .ok (.iadd, 1) := db_La_552.2.2.2.2.2.2.2.2.1
theorem de_La_861 : decode code 861 = .ok (.iaload, 1) := db_La_552.2.2.2.2.2.2.2.2.2.1
theorem de_La_862 : decode code 862 = .ok (.aload_n 0, 1) := db_La_552.2.2.2.2.2.2.2.2.2.2.1
theorem de_La_863 : decode code 863 = .ok (.iload_n 3, 1) := db_La_552.2.2.2.2.2.2.2.2.2.2.2
theorem db_La_564 : (decode code 864 = .ok (.iconst 3, 1)) ∧ (decode code 865 = .ok (.iadd, 1)) ∧ (decode code 866 = .ok (.iaload, 1)) ∧ (decode code 867 = .ok (.aload_n 0, 1)) ∧ (decode code 868 = .ok (.iload_n 3, 1)) ∧ (decode code 869 = .ok (.iconst 4, 1)) ∧ (decode code 870 = .ok (.iadd, 1)) ∧ (decode code 871 = .ok (.iaload, 1)) ∧ (decode code 872 = .ok (.aload_n 0, 1)) ∧ (decode code 873 = .ok (.iload_n 3, 1)) ∧ (decode code 874 = .ok (.iconst 5, 1)) ∧ (decode code 875 = .ok (.iadd, 1)) := by decide +kernel
theorem de_La_864 : decode code 864 = .ok (.iconst 3, 1) := db_La_564.1
theorem de_La_865 : decode code 865 = .ok (.iadd, 1) := db_La_564.2.1
theorem de_La_866 : decode code 866 = .ok (.iaload, 1) := db_La_564.2.2.1
theorem de_La_867 : decode code 867 = .ok (.aload_n 0, 1) := db_La_564.2.2.2.1
theorem de_La_868 : decode code 868 = .ok (.iload_n 3, 1) := db_La_564.2.2.2.2.1
theorem de_La_869 : decode code 869 = .ok (.iconst 4, 1) := db_La_564.2.2.2.2.2.1
theorem de_La_870 : decode code 870 = .ok (.iadd, 1) := db_La_564.2.2.2.2.2.2.1
theorem de_La_871 : decode code 871 = .ok (.iaload, 1) := db_La_564.2.2.2.2.2.2.2.1
theorem de_La_872 : decode code 872 = .ok (.aload_n 0, 1) := db_La_564.2.2.2.2.2.2.2.2.1
theorem de_La_873 : decode code 873 = .ok (.iload_n 3, 1) := db_La_564.2.2.2.2.2.2.2.2.2.1
theorem de_La_874 : decode code 874 = .ok (.iconst 5, 1) := db_La_564.2.2.2.2.2.2.2.2.2.2.1
theorem de_La_875 : decode code 875 = .ok (.iadd, 1) := db_La_564.2.2.2.2.2.2.2.2.2.2.2
theorem db_La_576 : (decode code 876 = .ok (.iaload, 1)) ∧ (decode code 877 = .ok (.invokevirtual 114, 3)) ∧ (decode code 880 = .ok (.pop, 1)) ∧ (decode code 881 = .ok (.aload_n 2, 1)) ∧ (decode code 882 = .ok (.aload_n 0, 1)) ∧ (decode code 883 = .ok (.iload_n 3, 1)) ∧ (decode code 884 = .ok (.iconst 1, 1)) ∧ (decode code 885 = .ok (.iadd, 1)) ∧ (decode code 886 = .ok (.iaload, 1)) ∧ (decode code 887 = .ok (.aload_n 0, 1)) ∧ (decode code 888 = .ok (.iload_n 3, 1)) ∧ (decode code 889 = .ok (.iconst 2, 1)) := by decide +kernel
theorem de_La_876 : decode code 876 = .ok (.iaload, 1) := db_La_576.1
theorem de_La_877 : decode code 877 = .ok (.invokevirtual 114, 3) := db_La_576.2.1
theorem de_La_880 : decode code 880 = .ok (.pop, 1) := db_La_576.2.2.1
theorem de_La_881 : decode code 881 = .ok (.aload_n 2, 1) := db_La_576.2.2.2.1
theorem de_La_882 : decode code 882 = .ok (.aload_n 0, 1) := db_La_576.2.2.2.2.1
theorem de_La_883 : decode code 883 = .ok (.iload_n 3, 1) := db_La_576.2.2.2.2.2.1
theorem de_La_884 : decode code 884 = .ok (.iconst 1, 1) := db_La_576.2.2.2.2.2.2.1
theorem de_La_885 : decode code 885 = .ok (.iadd, 1) := db_La_576.2.2.2.2.2.2.2.1
theorem de_La_886 : decode code 886 = .ok (.iaload, 1) := db_La_576.2.2.2.2.2.2.2.2.1
theorem de_La_887 : decode code 887 = .ok (.aload_n 0, 1) := db_La_576.2.2.2.2.2.2.2.2.2.1
theorem de_La_888 : decode code 888 = .ok (.iload_n 3, 1) := db_La_576.2.2.2.2.2.2.2.2.2.2.1
theorem de_La_889 : decode code 889 = .ok (.iconst 2, 1) := db_La_576.2.2.2.2.2.2.2.2.2.2.2
theorem db_La_588 : (decode code 890 = .ok (.iadd, 1)) ∧ (decode code 891 = .ok (.iaload, 1)) ∧ (decode code 892 = .ok (.aload_n 0, 1)) ∧ (decode code 893 = .ok (.iload_n 3, 1)) ∧ (decode code 894 = .ok (.iconst 3, 1)) ∧ (decode code 895 = .ok (.iadd, 1)) ∧ (decode code 896 = .ok (.iaload, 1)) ∧ (decode code 897 = .ok (.aload_n 0, 1)) ∧ (decode code 898 = .ok (.iload_n 3, 1)) ∧ (decode code 899 = .ok (.iconst 4, 1)) ∧ (decode code 900 = .ok (.iadd, 1)) ∧ (decode code 901 = .ok (.iaload, 1)) := by decide +kernel
theorem de_La_890 : decode code 890 = .ok (.iadd, 1) := db_La_588.1
theorem de_La_891 : decode code 891 = .ok (.iaload, 1) := db_La_588.2.1
theorem de_La_892 : decode code 892 = .ok (.aload_n 0, 1) := db_La_588.2.2.1
theorem de_La_893 : decode code 893 = .ok (.iload_n 3, 1) := db_La_588.2.2.2.1
theorem de_La_894 : decode code 894 = .ok (.iconst 3, 1) := db_La_588.2.2.2.2.1
theorem de_La_895 : decode code 895 = .ok (.iadd, 1) := db_La_588.2.2.2.2.2.1
theorem de_La_896 : decode code 896 = .ok (.iaload, 1) := db_La_588.2.2.2.2.2.2.1
theorem de_La_897 : decode code 897 = .ok (.aload_n 0, 1) := db_La_588.2.2.2.2.2.2.2.1
theorem de_La_898 : decode code 898 = .ok (.iload_n 3, 1) := db_La_588.2.2.2.2.2.2.2.2.1
theorem de_La_899 : decode code 899 = .ok (.iconst 4, 1) := db_La_588.2.2.2.2.2.2.2.2.2.1
theorem de_La_900 : decode code 900 = .ok (.iadd, 1) := db_La_588.2.2.2.2.2.2.2.2.2.2.1
theorem de_La_901 : decode code 901 = .ok (.iaload, 1) := db_La_588.2.2.2.2.2.2.2.2.2.2.2
