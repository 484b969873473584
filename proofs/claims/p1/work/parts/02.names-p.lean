set_option maxRecDepth 20000 in
theorem dLb_25 : decode cL_law 530 = .ok (.iaload, 1) ∧ decode cL_law 531 = .ok (.aload_n 3, 1) ∧ decode cL_law 532 = .ok (.invokestatic 162, 3) ∧ decode cL_law 535 = .ok (.istore 6, 2) ∧ decode cL_law 537 = .ok (.aload_n 2, 1) ∧ decode cL_law 538 = .ok (.aload_n 0, 1) ∧ decode cL_law 539 = .ok (.iload 5, 2) ∧ decode cL_law 541 = .ok (.iconst 1, 1) := by decide +kernel
theorem dL_law_530 : decode cL_law 530 = .ok (.iaload, 1) := dLb_25.1
theorem dL_law_531 : decode cL_law 531 = .ok (.aload_n 3, 1) := dLb_25.2.1
theorem dL_law_532 : decode cL_law 532 = .ok (.invokestatic 162, 3) := dLb_25.2.2.1
theorem dL_law_535 : decode cL_law 535 = .ok (.istore 6, 2) := dLb_25.2.2.2.1
theorem dL_law_537 : decode cL_law 537 = .ok (.aload_n 2, 1) := dLb_25.2.2.2.2.1
theorem dL_law_538 : decode cL_law 538 = .ok (.aload_n 0, 1) := dLb_25.2.2.2.2.2.1
theorem dL_law_539 : decode cL_law 539 = .ok (.iload 5, 2) := dLb_25.2.2.2.2.2.2.1
theorem dL_law_541 : decode cL_law 541 = .ok (.iconst 1, 1) := dLb_25.2.2.2.2.2.2.2
set_option maxRecDepth 20000 in
theorem dLb_26 : decode cL_law 542 = .ok (.iadd, 1) ∧ decode cL_law 543 = .ok (.iaload, 1) ∧ decode cL_law 544 = .ok (.invokevirtual 164, 3) ∧ decode cL_law 547 = .ok (.lstore 7, 2) ∧ decode cL_law 549 = .ok (.aload_n 2, 1) ∧ decode cL_law 550 = .ok (.invokevirtual 144, 3) ∧ decode cL_law 553 = .ok (.iload 6, 2) ∧ decode cL_law 555 = .ok (.if_icmp .eq 5, 3) := by decide +kernel
theorem dL_law_542 : decode cL_law 542 = .ok (.iadd, 1) := dLb_26.1
theorem dL_law_543 : decode cL_law 543 = .ok (.iaload, 1) := dLb_26.2.1
theorem dL_law_544 : decode cL_law 544 = .ok (.invokevirtual 164, 3) := dLb_26.2.2.1
theorem dL_law_547 : decode cL_law 547 = .ok (.lstore 7, 2) := dLb_26.2.2.2.1
theorem dL_law_549 : decode cL_law 549 = .ok (.aload_n 2, 1) := dLb_26.2.2.2.2.1
theorem dL_law_550 : decode cL_law 550 = .ok (.invokevirtual 144, 3) := dLb_26.2.2.2.2.2.1
theorem dL_law_553 : decode cL_law 553 = .ok (.iload 6, 2) := dLb_26.2.2.2.2.2.2.1
theorem dL_law_555 : decode cL_law 555 = .ok (.if_icmp .eq 5, 3) := dLb_26.2.2.2.2.2.2.2
set_option maxRecDepth 20000 in
theorem dLb_27 : decode cL_law 560 = .ok (.iload 6, 2) ∧ decode cL_law 562 = .ok (.ifCond .ne 14, 3) ∧ decode cL_law 576 = .ok (.goto 1814, 3) ∧ decode cL_law 579 = .ok (.aload_n 1, 1) ∧ decode cL_law 580 = .ok (.aload_n 0, 1) ∧ decode cL_law 581 = .ok (.iload 5, 2) ∧ decode cL_law 583 = .ok (.iconst 1, 1) ∧ decode cL_law 584 = .ok (.iadd, 1) := by decide +kernel
theorem dL_law_560 : decode cL_law 560 = .ok (.iload 6, 2) := dLb_27.1
theorem dL_law_562 : decode cL_law 562 = .ok (.ifCond .ne 14, 3) := dLb_27.2.1
theorem dL_law_576 : decode cL_law 576 = .ok (.goto 1814, 3) := dLb_27.2.2.1
theorem dL_law_579 : decode cL_law 579 = .ok (.aload_n 1, 1) := dLb_27.2.2.2.1
theorem dL_law_580 : decode cL_law 580 = .ok (.aload_n 0, 1) := dLb_27.2.2.2.2.1
theorem dL_law_581 : decode cL_law 581 = .ok (.iload 5, 2) := dLb_27.2.2.2.2.2.1
theorem dL_law_583 : decode cL_law 583 = .ok (.iconst 1, 1) := dLb_27.2.2.2.2.2.2.1
theorem dL_law_584 : decode cL_law 584 = .ok (.iadd, 1) := dLb_27.2.2.2.2.2.2.2
set_option maxRecDepth 20000 in
theorem dLb_28 : decode cL_law 585 = .ok (.iaload, 1) ∧ decode cL_law 586 = .ok (.aload_n 0, 1) ∧ decode cL_law 587 = .ok (.iload 5, 2) ∧ decode cL_law 589 = .ok (.iconst 2, 1) ∧ decode cL_law 590 = .ok (.iadd, 1) ∧ decode cL_law 591 = .ok (.iaload, 1) ∧ decode cL_law 592 = .ok (.aload_n 0, 1) ∧ decode cL_law 593 = .ok (.iload 5, 2) := by decide +kernel
theorem dL_law_585 : decode cL_law 585 = .ok (.iaload, 1) := dLb_28.1
theorem dL_law_586 : decode cL_law 586 = .ok (.aload_n 0, 1) := dLb_28.2.1
theorem dL_law_587 : decode cL_law 587 = .ok (.iload 5, 2) := dLb_28.2.2.1
theorem dL_law_589 : decode cL_law 589 = .ok (.iconst 2, 1) := dLb_28.2.2.2.1
theorem dL_law_590 : decode cL_law 590 = .ok (.iadd, 1) := dLb_28.2.2.2.2.1
theorem dL_law_591 : decode cL_law 591 = .ok (.iaload, 1) := dLb_28.2.2.2.2.2.1
theorem dL_law_592 : decode cL_law 592 = .ok (.aload_n 0, 1) := dLb_28.2.2.2.2.2.2.1
theorem dL_law_593 : decode cL_law 593 = .ok (.iload 5, 2) := dLb_28.2.2.2.2.2.2.2
set_option maxRecDepth 20000 in
theorem dLb_29 : decode cL_law 595 = .ok (.iconst 3, 1) ∧ decode cL_law 596 = .ok (.iadd, 1) ∧ decode cL_law 597 = .ok (.iaload, 1) ∧ decode cL_law 598 = .ok (.aload_n 3, 1) ∧ decode cL_law 599 = .ok (.invokestatic 165, 3) ∧ decode cL_law 602 = .ok (.istore 6, 2) ∧ decode cL_law 604 = .ok (.aload_n 2, 1) ∧ decode cL_law 605 = .ok (.aload_n 0, 1) := by decide +kernel
theorem dL_law_595 : decode cL_law 595 = .ok (.iconst 3, 1) := dLb_29.1
theorem dL_law_596 : decode cL_law 596 = .ok (.iadd, 1) := dLb_29.2.1
theorem dL_law_597 : decode cL_law 597 = .ok (.iaload, 1) := dLb_29.2.2.1
theorem dL_law_598 : decode cL_law 598 = .ok (.aload_n 3, 1) := dLb_29.2.2.2.1
theorem dL_law_599 : decode cL_law 599 = .ok (.invokestatic 165, 3) := dLb_29.2.2.2.2.1
theorem dL_law_602 : decode cL_law 602 = .ok (.istore 6, 2) := dLb_29.2.2.2.2.2.1
theorem dL_law_604 : decode cL_law 604 = .ok (.aload_n 2, 1) := dLb_29.2.2.2.2.2.2.1
theorem dL_law_605 : decode cL_law 605 = .ok (.aload_n 0, 1) := dLb_29.2.2.2.2.2.2.2
set_option maxRecDepth 20000 in
theorem dLb_30 : decode cL_law 606 = .ok (.iload 5, 2) ∧ decode cL_law 608 = .ok (.iconst 1, 1) ∧ decode cL_law 609 = .ok (.iadd, 1) ∧ decode cL_law 610 = .ok (.iaload, 1) ∧ decode cL_law 611 = .ok (.aload_n 0, 1) ∧ decode cL_law 612 = .ok (.iload 5, 2) ∧ decode cL_law 614 = .ok (.iconst 2, 1) ∧ decode cL_law 615 = .ok (.iadd, 1) := by decide +kernel
theorem dL_law_606 : decode cL_law 606 = .ok (.iload 5, 2) := dLb_30.1
theorem dL_law_608 : decode cL_law 608 = .ok (.iconst 1, 1) := dLb_30.2.1
theorem dL_law_609 : decode cL_law 609 = .ok (.iadd, 1) := dLb_30.2.2.1
theorem dL_law_610 : decode cL_law 610 = .ok (.iaload, 1) := dLb_30.2.2.2.1
theorem dL_law_611 : decode cL_law 611 = .ok (.aload_n 0, 1) := dLb_30.2.2.2.2.1
theorem dL_law_612 : decode cL_law 612 = .ok (.iload 5, 2) := dLb_30.2.2.2.2.2.1
theorem dL_law_614 : decode cL_law 614 = .ok (.iconst 2, 1) := dLb_30.2.2.2.2.2.2.1
theorem dL_law_615 : decode cL_law 615 = .ok (.iadd, 1) := dLb_30.2.2.2.2.2.2.2
set_option maxRecDepth 20000 in
theorem dLb_31 : decode cL_law 616 = .ok (.iaload, 1) ∧ decode cL_law 617 = .ok (.aload_n 0, 1) ∧ decode cL_law 618 = .ok (.iload 5, 2) ∧ decode cL_law 620 = .ok (.iconst 3, 1) ∧ decode cL_law 621 = .ok (.iadd, 1) ∧ decode cL_law 622 = .ok (.iaload, 1) ∧ decode cL_law 623 = .ok (.invokevirtual 167, 3) ∧ decode cL_law 626 = .ok (.istore 7, 2) := by decide +kernel
theorem dL_law_616 : decode cL_law 616 = .ok (.iaload, 1) := dLb_31.1
theorem dL_law_617 : decode cL_law 617 = .ok (.aload_n 0, 1) := dLb_31.2.1
theorem dL_law_618 : decode cL_law 618 = .ok (.iload 5, 2) := dLb_31.2.2.1
theorem dL_law_620 : decode cL_law 620 = .ok (.iconst 3, 1) := dLb_31.2.2.2.1
theorem dL_law_621 : decode cL_law 621 = .ok (.iadd, 1) := dLb_31.2.2.2.2.1
theorem dL_law_622 : decode cL_law 622 = .ok (.iaload, 1) := dLb_31.2.2.2.2.2.1
theorem dL_law_623 : decode cL_law 623 = .ok (.invokevirtual 167, 3) := dLb_31.2.2.2.2.2.2.1
theorem dL_law_626 : decode cL_law 626 = .ok (.istore 7, 2) := dLb_31.2.2.2.2.2.2.2
set_option maxRecDepth 20000 in
theorem dLb_32 : decode cL_law 628 = .ok (.aload_n 2, 1) ∧ decode cL_law 629 = .ok (.invokevirtual 144, 3) ∧ decode cL_law 632 = .ok (.iload 6, 2) ∧ decode cL_law 634 = .ok (.if_icmp .eq 5, 3) ∧ decode cL_law 639 = .ok (.iload 6, 2) ∧ decode cL_law 641 = .ok (.ifCond .ne 15, 3) ∧ decode cL_law 644 = .ok (.aload_n 3, 1) ∧ decode cL_law 645 = .ok (.iconst 0, 1) := by decide +kernel
theorem dL_law_628 : decode cL_law 628 = .ok (.aload_n 2, 1) := dLb_32.1
theorem dL_law_629 : decode cL_law 629 = .ok (.invokevirtual 144, 3) := dLb_32.2.1
theorem dL_law_632 : decode cL_law 632 = .ok (.iload 6, 2) := dLb_32.2.2.1
theorem dL_law_634 : decode cL_law 634 = .ok (.if_icmp .eq 5, 3) := dLb_32.2.2.2.1
theorem dL_law_639 : decode cL_law 639 = .ok (.iload 6, 2) := dLb_32.2.2.2.2.1
theorem dL_law_641 : decode cL_law 641 = .ok (.ifCond .ne 15, 3) := dLb_32.2.2.2.2.2.1
theorem dL_law_644 : decode cL_law 644 = .ok (.aload_n 3, 1) := dLb_32.2.2.2.2.2.2.1
theorem dL_law_645 : decode cL_law 645 = .ok (.iconst 0, 1) := dLb_32.2.2.2.2.2.2.2
set_option maxRecDepth 20000 in
theorem dLb_33 : decode cL_law 646 = .ok (.laload, 1) ∧ decode cL_law 647 = .ok (.iload 7, 2) ∧ decode cL_law 649 = .ok (.i2l, 1) ∧ decode cL_law 650 = .ok (.lcmp, 1) ∧ decode cL_law 651 = .ok (.ifCond .eq 5, 3) ∧ decode cL_law 656 = .ok (.goto 1734, 3) ∧ decode cL_law 659 = .ok (.aload_n 1, 1) ∧ decode cL_law 660 = .ok (.aload_n 0, 1) := by decide +kernel
theorem dL_law_646 : decode cL_law 646 = .ok (.laload, 1) := dLb_33.1
theorem dL_law_647 : decode cL_law 647 = .ok (.iload 7, 2) := dLb_33.2.1
theorem dL_law_649 : decode cL_law 649 = .ok (.i2l, 1) := dLb_33.2.2.1
theorem dL_law_650 : decode cL_law 650 = .ok (.lcmp, 1) := dLb_33.2.2.2.1
theorem dL_law_651 : decode cL_law 651 = .ok (.ifCond .eq 5, 3) := dLb_33.2.2.2.2.1
theorem dL_law_656 : decode cL_law 656 = .ok (.goto 1734, 3) := dLb_33.2.2.2.2.2.1
theorem dL_law_659 : decode cL_law 659 = .ok (.aload_n 1, 1) := dLb_33.2.2.2.2.2.2.1
theorem dL_law_660 : decode cL_law 660 = .ok (.aload_n 0, 1) := dLb_33.2.2.2.2.2.2.2
set_option maxRecDepth 20000 in
theorem dLb_34 : decode cL_law 661 = .ok (.iload 5, 2) ∧ decode cL_law 663 = .ok (.iconst 1, 1) ∧ decode cL_law 664 = .ok (.iadd, 1) ∧ decode cL_law 665 = .ok (.iaload, 1) ∧ decode cL_law 666 = .ok (.aload_n 0, 1) ∧ decode cL_law 667 = .ok (.iload 5, 2) ∧ decode cL_law 669 = .ok (.iconst 2, 1) ∧ decode cL_law 670 = .ok (.iadd, 1) := by decide +kernel
theorem dL_law_661 : decode cL_law 661 = .ok (.iload 5, 2) := dLb_34.1
theorem dL_law_663 : decode cL_law 663 = .ok (.iconst 1, 1) := dLb_34.2.1
theorem dL_law_664 : decode cL_law 664 = .ok (.iadd, 1) := dLb_34.2.2.1
theorem dL_law_665 : decode cL_law 665 = .ok (.iaload, 1) := dLb_34.2.2.2.1
theorem dL_law_666 : decode cL_law 666 = .ok (.aload_n 0, 1) := dLb_34.2.2.2.2.1
theorem dL_law_667 : decode cL_law 667 = .ok (.iload 5, 2) := dLb_34.2.2.2.2.2.1
theorem dL_law_669 : decode cL_law 669 = .ok (.iconst 2, 1) := dLb_34.2.2.2.2.2.2.1
theorem dL_law_670 : decode cL_law 670 = .ok (.iadd, 1) := dLb_34.2.2.2.2.2.2.2
set_option maxRecDepth 20000 in
theorem dLb_35 : decode cL_law 671 = .ok (.iaload, 1) ∧ decode cL_law 672 = .ok (.aload_n 0, 1) ∧ decode cL_law 673 = .ok (.iload 5, 2) ∧ decode cL_law 675 = .ok (.iconst 3, 1) ∧ decode cL_law 676 = .ok (.iadd, 1) ∧ decode cL_law 677 = .ok (.iaload, 1) ∧ decode cL_law 678 = .ok (.i2c, 1) ∧ decode cL_law 679 = .ok (.aload_n 3, 1) := by decide +kernel
theorem dL_law_671 : decode cL_law 671 = .ok (.iaload, 1) := dLb_35.1
theorem dL_law_672 : decode cL_law 672 = .ok (.aload_n 0, 1) := dLb_35.2.1
theorem dL_law_673 : decode cL_law 673 = .ok (.iload 5, 2) := dLb_35.2.2.1
theorem dL_law_675 : decode cL_law 675 = .ok (.iconst 3, 1) := dLb_35.2.2.2.1
theorem dL_law_676 : decode cL_law 676 = .ok (.iadd, 1) := dLb_35.2.2.2.2.1
theorem dL_law_677 : decode cL_law 677 = .ok (.iaload, 1) := dLb_35.2.2.2.2.2.1
theorem dL_law_678 : decode cL_law 678 = .ok (.i2c, 1) := dLb_35.2.2.2.2.2.2.1
theorem dL_law_679 : decode cL_law 679 = .ok (.aload_n 3, 1) := dLb_35.2.2.2.2.2.2.2
set_option maxRecDepth 20000 in
theorem dLb_36 : decode cL_law 680 = .ok (.invokestatic 168, 3) ∧ decode cL_law 683 = .ok (.istore 6, 2) ∧ decode cL_law 685 = .ok (.aload_n 2, 1) ∧ decode cL_law 686 = .ok (.aload_n 0, 1) ∧ decode cL_law 687 = .ok (.iload 5, 2) ∧ decode cL_law 689 = .ok (.iconst 1, 1) ∧ decode cL_law 690 = .ok (.iadd, 1) ∧ decode cL_law 691 = .ok (.iaload, 1) := by decide +kernel
theorem dL_law_680 : decode cL_law 680 = .ok (.invokestatic 168, 3) := dLb_36.1
theorem dL_law_683 : decode cL_law 683 = .ok (.istore 6, 2) := dLb_36.2.1
theorem dL_law_685 : decode cL_law 685 = .ok (.aload_n 2, 1) := dLb_36.2.2.1
theorem dL_law_686 : decode cL_law 686 = .ok (.aload_n 0, 1) := dLb_36.2.2.2.1
theorem dL_law_687 : decode cL_law 687 = .ok (.iload 5, 2) := dLb_36.2.2.2.2.1
theorem dL_law_689 : decode cL_law 689 = .ok (.iconst 1, 1) := dLb_36.2.2.2.2.2.1
theorem dL_law_690 : decode cL_law 690 = .ok (.iadd, 1) := dLb_36.2.2.2.2.2.2.1
theorem dL_law_691 : decode cL_law 691 = .ok (.iaload, 1) := dLb_36.2.2.2.2.2.2.2
set_option maxRecDepth 20000 in
theorem dLb_37 : decode cL_law 692 = .ok (.aload_n 0, 1) ∧ decode cL_law 693 = .ok (.iload 5, 2) ∧ decode cL_law 695 = .ok (.iconst 2, 1) ∧ decode cL_law 696 = .ok (.iadd, 1) ∧ decode cL_law 697 = .ok (.iaload, 1) ∧ decode cL_law 698 = .ok (.aload_n 0, 1) ∧ decode cL_law 699 = .ok (.iload 5, 2) ∧ decode cL_law 701 = .ok (.iconst 3, 1) := by decide +kernel
theorem dL_law_692 : decode cL_law 692 = .ok (.aload_n 0, 1) := dLb_37.1
theorem dL_law_693 : decode cL_law 693 = .ok (.iload 5, 2) := dLb_37.2.1
theorem dL_law_695 : decode cL_law 695 = .ok (.iconst 2, 1) := dLb_37.2.2.1
theorem dL_law_696 : decode cL_law 696 = .ok (.iadd, 1) := dLb_37.2.2.2.1
theorem dL_law_697 : decode cL_law 697 = .ok (.iaload, 1) := dLb_37.2.2.2.2.1
theorem dL_law_698 : decode cL_law 698 = .ok (.aload_n 0, 1) := dLb_37.2.2.2.2.2.1
theorem dL_law_699 : decode cL_law 699 = .ok (.iload 5, 2) := dLb_37.2.2.2.2.2.2.1
theorem dL_law_701 : decode cL_law 701 = .ok (.iconst 3, 1) := dLb_37.2.2.2.2.2.2.2
set_option maxRecDepth 20000 in
theorem dLb_38 : decode cL_law 702 = .ok (.iadd, 1) ∧ decode cL_law 703 = .ok (.iaload, 1) ∧ decode cL_law 704 = .ok (.i2c, 1) ∧ decode cL_law 705 = .ok (.invokevirtual 171, 3) ∧ decode cL_law 708 = .ok (.istore 7, 2) ∧ decode cL_law 710 = .ok (.aload_n 2, 1) ∧ decode cL_law 711 = .ok (.invokevirtual 144, 3) ∧ decode cL_law 714 = .ok (.iload 6, 2) := by decide +kernel
theorem dL_law_702 : decode cL_law 702 = .ok (.iadd, 1) := dLb_38.1
theorem dL_law_703 : decode cL_law 703 = .ok (.iaload, 1) := dLb_38.2.1
theorem dL_law_704 : decode cL_law 704 = .ok (.i2c, 1) := dLb_38.2.2.1
theorem dL_law_705 : decode cL_law 705 = .ok (.invokevirtual 171, 3) := dLb_38.2.2.2.1
theorem dL_law_708 : decode cL_law 708 = .ok (.istore 7, 2) := dLb_38.2.2.2.2.1
theorem dL_law_710 : decode cL_law 710 = .ok (.aload_n 2, 1) := dLb_38.2.2.2.2.2.1
theorem dL_law_711 : decode cL_law 711 = .ok (.invokevirtual 144, 3) := dLb_38.2.2.2.2.2.2.1
theorem dL_law_714 : decode cL_law 714 = .ok (.iload 6, 2) := dLb_38.2.2.2.2.2.2.2
set_option maxRecDepth 20000 in
theorem dLb_39 : decode cL_law 716 = .ok (.if_icmp .eq 5, 3) ∧ decode cL_law 721 = .ok (.iload 6, 2) ∧ decode cL_law 723 = .ok (.ifCond .ne 15, 3) ∧ decode cL_law 738 = .ok (.goto 1652, 3) ∧ decode cL_law 741 = .ok (.aload_n 1, 1) ∧ decode cL_law 742 = .ok (.aload_n 0, 1) ∧ decode cL_law 743 = .ok (.iload 5, 2) ∧ decode cL_law 745 = .ok (.iconst 1, 1) := by decide +kernel
theorem dL_law_716 : decode cL_law 716 = .ok (.if_icmp .eq 5, 3) := dLb_39.1
theorem dL_law_721 : decode cL_law 721 = .ok (.iload 6, 2) := dLb_39.2.1
theorem dL_law_723 : decode cL_law 723 = .ok (.ifCond .ne 15, 3) := dLb_39.2.2.1
theorem dL_law_738 : decode cL_law 738 = .ok (.goto 1652, 3) := dLb_39.2.2.2.1
theorem dL_law_741 : decode cL_law 741 = .ok (.aload_n 1, 1) := dLb_39.2.2.2.2.1
theorem dL_law_742 : decode cL_law 742 = .ok (.aload_n 0, 1) := dLb_39.2.2.2.2.2.1
theorem dL_law_743 : decode cL_law 743 = .ok (.iload 5, 2) := dLb_39.2.2.2.2.2.2.1
theorem dL_law_745 : decode cL_law 745 = .ok (.iconst 1, 1) := dLb_39.2.2.2.2.2.2.2
set_option maxRecDepth 20000 in
theorem dLb_40 : decode cL_law 746 = .ok (.iadd, 1) ∧ decode cL_law 747 = .ok (.iaload, 1) ∧ decode cL_law 748 = .ok (.aload_n 3, 1) ∧ decode cL_law 749 = .ok (.invokestatic 172, 3) ∧ decode cL_law 752 = .ok (.istore 6, 2) ∧ decode cL_law 754 = .ok (.aload_n 2, 1) ∧ decode cL_law 755 = .ok (.aload_n 0, 1) ∧ decode cL_law 756 = .ok (.iload 5, 2) := by decide +kernel
theorem dL_law_746 : decode cL_law 746 = .ok (.iadd, 1) := dLb_40.1
theorem dL_law_747 : decode cL_law 747 = .ok (.iaload, 1) := dLb_40.2.1
theorem dL_law_748 : decode cL_law 748 = .ok (.aload_n 3, 1) := dLb_40.2.2.1
theorem dL_law_749 : decode cL_law 749 = .ok (.invokestatic 172, 3) := dLb_40.2.2.2.1
theorem dL_law_752 : decode cL_law 752 = .ok (.istore 6, 2) := dLb_40.2.2.2.2.1
theorem dL_law_754 : decode cL_law 754 = .ok (.aload_n 2, 1) := dLb_40.2.2.2.2.2.1
theorem dL_law_755 : decode cL_law 755 = .ok (.aload_n 0, 1) := dLb_40.2.2.2.2.2.2.1
theorem dL_law_756 : decode cL_law 756 = .ok (.iload 5, 2) := dLb_40.2.2.2.2.2.2.2
set_option maxRecDepth 20000 in
theorem dLb_41 : decode cL_law 758 = .ok (.iconst 1, 1) ∧ decode cL_law 759 = .ok (.iadd, 1) ∧ decode cL_law 760 = .ok (.iaload, 1) ∧ decode cL_law 761 = .ok (.invokevirtual 174, 3) ∧ decode cL_law 764 = .ok (.istore 7, 2) ∧ decode cL_law 766 = .ok (.aload_n 2, 1) ∧ decode cL_law 767 = .ok (.invokevirtual 144, 3) ∧ decode cL_law 770 = .ok (.iload 6, 2) := by decide +kernel
theorem dL_law_758 : decode cL_law 758 = .ok (.iconst 1, 1) := dLb_41.1
theorem dL_law_759 : decode cL_law 759 = .ok (.iadd, 1) := dLb_41.2.1
theorem dL_law_760 : decode cL_law 760 = .ok (.iaload, 1) := dLb_41.2.2.1
theorem dL_law_761 : decode cL_law 761 = .ok (.invokevirtual 174, 3) := dLb_41.2.2.2.1
theorem dL_law_764 : decode cL_law 764 = .ok (.istore 7, 2) := dLb_41.2.2.2.2.1
theorem dL_law_766 : decode cL_law 766 = .ok (.aload_n 2, 1) := dLb_41.2.2.2.2.2.1
theorem dL_law_767 : decode cL_law 767 = .ok (.invokevirtual 144, 3) := dLb_41.2.2.2.2.2.2.1
theorem dL_law_770 : decode cL_law 770 = .ok (.iload 6, 2) := dLb_41.2.2.2.2.2.2.2
set_option maxRecDepth 20000 in
theorem dLb_42 : decode cL_law 772 = .ok (.if_icmp .eq 5, 3) ∧ decode cL_law 777 = .ok (.iload 6, 2) ∧ decode cL_law 779 = .ok (.ifCond .ne 15, 3) ∧ decode cL_law 794 = .ok (.goto 1596, 3) ∧ decode cL_law 797 = .ok (.aload_n 1, 1) ∧ decode cL_law 798 = .ok (.aload_n 0, 1) ∧ decode cL_law 799 = .ok (.iload 5, 2) ∧ decode cL_law 801 = .ok (.iconst 1, 1) := by decide +kernel
theorem dL_law_772 : decode cL_law 772 = .ok (.if_icmp .eq 5, 3) := dLb_42.1
theorem dL_law_777 : decode cL_law 777 = .ok (.iload 6, 2) := dLb_42.2.1
theorem dL_law_779 : decode cL_law 779 = .ok (.ifCond .ne 15, 3) := dLb_42.2.2.1
theorem dL_law_794 : decode cL_law 794 = .ok (.goto 1596, 3) := dLb_42.2.2.2.1
theorem dL_law_797 : decode cL_law 797 = .ok (.aload_n 1, 1) := dLb_42.2.2.2.2.1
theorem dL_law_798 : decode cL_law 798 = .ok (.aload_n 0, 1) := dLb_42.2.2.2.2.2.1
theorem dL_law_799 : decode cL_law 799 = .ok (.iload 5, 2) := dLb_42.2.2.2.2.2.2.1
theorem dL_law_801 : decode cL_law 801 = .ok (.iconst 1, 1) := dLb_42.2.2.2.2.2.2.2
set_option maxRecDepth 20000 in
theorem dLb_43 : decode cL_law 802 = .ok (.iadd, 1) ∧ decode cL_law 803 = .ok (.iaload, 1) ∧ decode cL_law 804 = .ok (.aload_n 0, 1) ∧ decode cL_law 805 = .ok (.iload 5, 2) ∧ decode cL_law 807 = .ok (.iconst 2, 1) ∧ decode cL_law 808 = .ok (.iadd, 1) ∧ decode cL_law 809 = .ok (.iaload, 1) ∧ decode cL_law 810 = .ok (.aload_n 0, 1) := by decide +kernel
theorem dL_law_802 : decode cL_law 802 = .ok (.iadd, 1) := dLb_43.1
theorem dL_law_803 : decode cL_law 803 = .ok (.iaload, 1) := dLb_43.2.1
theorem dL_law_804 : decode cL_law 804 = .ok (.aload_n 0, 1) := dLb_43.2.2.1
theorem dL_law_805 : decode cL_law 805 = .ok (.iload 5, 2) := dLb_43.2.2.2.1
theorem dL_law_807 : decode cL_law 807 = .ok (.iconst 2, 1) := dLb_43.2.2.2.2.1
theorem dL_law_808 : decode cL_law 808 = .ok (.iadd, 1) := dLb_43.2.2.2.2.2.1
theorem dL_law_809 : decode cL_law 809 = .ok (.iaload, 1) := dLb_43.2.2.2.2.2.2.1
theorem dL_law_810 : decode cL_law 810 = .ok (.aload_n 0, 1) := dLb_43.2.2.2.2.2.2.2
set_option maxRecDepth 20000 in
theorem dLb_44 : decode cL_law 811 = .ok (.iload 5, 2) ∧ decode cL_law 813 = .ok (.iconst 3, 1) ∧ decode cL_law 814 = .ok (.iadd, 1) ∧ decode cL_law 815 = .ok (.iaload, 1) ∧ decode cL_law 816 = .ok (.aload_n 0, 1) ∧ decode cL_law 817 = .ok (.iload 5, 2) ∧ decode cL_law 819 = .ok (.iconst 4, 1) ∧ decode cL_law 820 = .ok (.iadd, 1) := by decide +kernel
theorem dL_law_811 : decode cL_law 811 = .ok (.iload 5, 2) := dLb_44.1
theorem dL_law_813 : decode cL_law 813 = .ok (.iconst 3, 1) := dLb_44.2.1
theorem dL_law_814 : decode cL_law 814 = .ok (.iadd, 1) := dLb_44.2.2.1
theorem dL_law_815 : decode cL_law 815 = .ok (.iaload, 1) := dLb_44.2.2.2.1
theorem dL_law_816 : decode cL_law 816 = .ok (.aload_n 0, 1) := dLb_44.2.2.2.2.1
theorem dL_law_817 : decode cL_law 817 = .ok (.iload 5, 2) := dLb_44.2.2.2.2.2.1
theorem dL_law_819 : decode cL_law 819 = .ok (.iconst 4, 1) := dLb_44.2.2.2.2.2.2.1
theorem dL_law_820 : decode cL_law 820 = .ok (.iadd, 1) := dLb_44.2.2.2.2.2.2.2
set_option maxRecDepth 20000 in
theorem dLb_45 : decode cL_law 821 = .ok (.iaload, 1) ∧ decode cL_law 822 = .ok (.aload_n 0, 1) ∧ decode cL_law 823 = .ok (.iload 5, 2) ∧ decode cL_law 825 = .ok (.iconst 5, 1) ∧ decode cL_law 826 = .ok (.iadd, 1) ∧ decode cL_law 827 = .ok (.iaload, 1) ∧ decode cL_law 828 = .ok (.aload_n 3, 1) ∧ decode cL_law 829 = .ok (.invokestatic 175, 3) := by decide +kernel
theorem dL_law_821 : decode cL_law 821 = .ok (.iaload, 1) := dLb_45.1
theorem dL_law_822 : decode cL_law 822 = .ok (.aload_n 0, 1) := dLb_45.2.1
theorem dL_law_823 : decode cL_law 823 = .ok (.iload 5, 2) := dLb_45.2.2.1
theorem dL_law_825 : decode cL_law 825 = .ok (.iconst 5, 1) := dLb_45.2.2.2.1
theorem dL_law_826 : decode cL_law 826 = .ok (.iadd, 1) := dLb_45.2.2.2.2.1
theorem dL_law_827 : decode cL_law 827 = .ok (.iaload, 1) := dLb_45.2.2.2.2.2.1
theorem dL_law_828 : decode cL_law 828 = .ok (.aload_n 3, 1) := dLb_45.2.2.2.2.2.2.1
theorem dL_law_829 : decode cL_law 829 = .ok (.invokestatic 175, 3) := dLb_45.2.2.2.2.2.2.2
set_option maxRecDepth 20000 in
theorem dLb_46 : decode cL_law 832 = .ok (.istore 6, 2) ∧ decode cL_law 834 = .ok (.aload_n 2, 1) ∧ decode cL_law 835 = .ok (.aload_n 0, 1) ∧ decode cL_law 836 = .ok (.iload 5, 2) ∧ decode cL_law 838 = .ok (.iconst 1, 1) ∧ decode cL_law 839 = .ok (.iadd, 1) ∧ decode cL_law 840 = .ok (.iaload, 1) ∧ decode cL_law 841 = .ok (.aload_n 0, 1) := by decide +kernel
theorem dL_law_832 : decode cL_law 832 = .ok (.istore 6, 2) := dLb_46.1
theorem dL_law_834 : decode cL_law 834 = .ok (.aload_n 2, 1) := dLb_46.2.1
theorem dL_law_835 : decode cL_law 835 = .ok (.aload_n 0, 1) := dLb_46.2.2.1
theorem dL_law_836 : decode cL_law 836 = .ok (.iload 5, 2) := dLb_46.2.2.2.1
theorem dL_law_838 : decode cL_law 838 = .ok (.iconst 1, 1) := dLb_46.2.2.2.2.1
theorem dL_law_839 : decode cL_law 839 = .ok (.iadd, 1) := dLb_46.2.2.2.2.2.1
theorem dL_law_840 : decode cL_law 840 = .ok (.iaload, 1) := dLb_46.2.2.2.2.2.2.1
theorem dL_law_841 : decode cL_law 841 = .ok (.aload_n 0, 1) := dLb_46.2.2.2.2.2.2.2
set_option maxRecDepth 20000 in
theorem dLb_47 : decode cL_law 842 = .ok (.iload 5, 2) ∧ decode cL_law 844 = .ok (.iconst 2, 1) ∧ decode cL_law 845 = .ok (.iadd, 1) ∧ decode cL_law 846 = .ok (.iaload, 1) ∧ decode cL_law 847 = .ok (.aload_n 0, 1) ∧ decode cL_law 848 = .ok (.iload 5, 2) ∧ decode cL_law 850 = .ok (.iconst 3, 1) ∧ decode cL_law 851 = .ok (.iadd, 1) := by decide +kernel
theorem dL_law_842 : decode cL_law 842 = .ok (.iload 5, 2) := dLb_47.1
theorem dL_law_844 : decode cL_law 844 = .ok (.iconst 2, 1) := dLb_47.2.1
theorem dL_law_845 : decode cL_law 845 = .ok (.iadd, 1) := dLb_47.2.2.1
theorem dL_law_846 : decode cL_law 846 = .ok (.iaload, 1) := dLb_47.2.2.2.1
theorem dL_law_847 : decode cL_law 847 = .ok (.aload_n 0, 1) := dLb_47.2.2.2.2.1
theorem dL_law_848 : decode cL_law 848 = .ok (.iload 5, 2) := dLb_47.2.2.2.2.2.1
theorem dL_law_850 : decode cL_law 850 = .ok (.iconst 3, 1) := dLb_47.2.2.2.2.2.2.1
theorem dL_law_851 : decode cL_law 851 = .ok (.iadd, 1) := dLb_47.2.2.2.2.2.2.2
set_option maxRecDepth 20000 in
theorem dLb_48 : decode cL_law 852 = .ok (.iaload, 1) ∧ decode cL_law 853 = .ok (.aload_n 0, 1) ∧ decode cL_law 854 = .ok (.iload 5, 2) ∧ decode cL_law 856 = .ok (.iconst 4, 1) ∧ decode cL_law 857 = .ok (.iadd, 1) ∧ decode cL_law 858 = .ok (.iaload, 1) ∧ decode cL_law 859 = .ok (.aload_n 0, 1) ∧ decode cL_law 860 = .ok (.iload 5, 2) := by decide +kernel
theorem dL_law_852 : decode cL_law 852 = .ok (.iaload, 1) := dLb_48.1
theorem dL_law_853 : decode cL_law 853 = .ok (.aload_n 0, 1) := dLb_48.2.1
theorem dL_law_854 : decode cL_law 854 = .ok (.iload 5, 2) := dLb_48.2.2.1
theorem dL_law_856 : decode cL_law 856 = .ok (.iconst 4, 1) := dLb_48.2.2.2.1
theorem dL_law_857 : decode cL_law 857 = .ok (.iadd, 1) := dLb_48.2.2.2.2.1
theorem dL_law_858 : decode cL_law 858 = .ok (.iaload, 1) := dLb_48.2.2.2.2.2.1
theorem dL_law_859 : decode cL_law 859 = .ok (.aload_n 0, 1) := dLb_48.2.2.2.2.2.2.1
theorem dL_law_860 : decode cL_law 860 = .ok (.iload 5, 2) := dLb_48.2.2.2.2.2.2.2
set_option maxRecDepth 20000 in
theorem dLb_49 : decode cL_law 862 = .ok (.iconst 5, 1) ∧ decode cL_law 863 = .ok (.iadd, 1) ∧ decode cL_law 864 = .ok (.iaload, 1) ∧ decode cL_law 865 = .ok (.invokevirtual 178, 3) ∧ decode cL_law 868 = .ok (.istore 7, 2) ∧ decode cL_law 870 = .ok (.aload_n 2, 1) ∧ decode cL_law 871 = .ok (.invokevirtual 144, 3) ∧ decode cL_law 874 = .ok (.iload 6, 2) := by decide +kernel
theorem dL_law_862 : decode cL_law 862 = .ok (.iconst 5, 1) := dLb_49.1
theorem dL_law_863 : decode cL_law 863 = .ok (.iadd, 1) := dLb_49.2.1
theorem dL_law_864 : decode cL_law 864 = .ok (.iaload, 1) := dLb_49.2.2.1
theorem dL_law_865 : decode cL_law 865 = .ok (.invokevirtual 178, 3) := dLb_49.2.2.2.1
theorem dL_law_868 : decode cL_law 868 = .ok (.istore 7, 2) := dLb_49.2.2.2.2.1
theorem dL_law_870 : decode cL_law 870 = .ok (.aload_n 2, 1) := dLb_49.2.2.2.2.2.1
theorem dL_law_871 : decode cL_law 871 = .ok (.invokevirtual 144, 3) := dLb_49.2.2.2.2.2.2.1
theorem dL_law_874 : decode cL_law 874 = .ok (.iload 6, 2) := dLb_49.2.2.2.2.2.2.2
