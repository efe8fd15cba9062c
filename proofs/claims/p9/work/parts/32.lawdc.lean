theorem dL_law_593_c : decode cL_law 593 = .ok (.invokevirtual 151, 3) ∧ decode cL_law 596 = .ok (.istore 6, 2) ∧ decode cL_law 598 = .ok (.goto 1075, 3) ∧ decode cL_law 601 = .ok (.aload_n 1, 1) ∧ decode cL_law 602 = .ok (.aload_n 0, 1) ∧ decode cL_law 603 = .ok (.iload 4, 2) ∧ decode cL_law 605 = .ok (.iconst 1, 1) ∧ decode cL_law 606 = .ok (.iadd, 1) ∧ decode cL_law 607 = .ok (.iaload, 1) ∧ decode cL_law 608 = .ok (.aload_n 0, 1) ∧ decode cL_law 609 = .ok (.iload 4, 2) ∧ decode cL_law 611 = .ok (.iconst 2, 1) ∧ decode cL_law 612 = .ok (.iadd, 1) ∧ decode cL_law 613 = .ok (.iaload, 1) ∧ decode cL_law 614 = .ok (.aload_n 3, 1) ∧ decode cL_law 615 = .ok (.invokestatic 152, 3) := by decide +kernel
theorem dL_law_593 : decode cL_law 593 = .ok (.invokevirtual 151, 3) := dL_law_593_c.1
theorem dL_law_596 : decode cL_law 596 = .ok (.istore 6, 2) := dL_law_593_c.2.1
theorem dL_law_598 : decode cL_law 598 = .ok (.goto 1075, 3) := dL_law_593_c.2.2.1
theorem dL_law_601 : decode cL_law 601 = .ok (.aload_n 1, 1) := dL_law_593_c.2.2.2.1
theorem dL_law_602 : decode cL_law 602 = .ok (.aload_n 0, 1) := dL_law_593_c.2.2.2.2.1
theorem dL_law_603 : decode cL_law 603 = .ok (.iload 4, 2) := dL_law_593_c.2.2.2.2.2.1
theorem dL_law_605 : decode cL_law 605 = .ok (.iconst 1, 1) := dL_law_593_c.2.2.2.2.2.2.1
theorem dL_law_606 : decode cL_law 606 = .ok (.iadd, 1) := dL_law_593_c.2.2.2.2.2.2.2.1
theorem dL_law_607 : decode cL_law 607 = .ok (.iaload, 1) := dL_law_593_c.2.2.2.2.2.2.2.2.1
theorem dL_law_608 : decode cL_law 608 = .ok (.aload_n 0, 1) := dL_law_593_c.2.2.2.2.2.2.2.2.2.1
theorem dL_law_609 : decode cL_law 609 = .ok (.iload 4, 2) := dL_law_593_c.2.2.2.2.2.2.2.2.2.2.1
theorem dL_law_611 : decode cL_law 611 = .ok (.iconst 2, 1) := dL_law_593_c.2.2.2.2.2.2.2.2.2.2.2.1
theorem dL_law_612 : decode cL_law 612 = .ok (.iadd, 1) := dL_law_593_c.2.2.2.2.2.2.2.2.2.2.2.2.1
theorem dL_law_613 : decode cL_law 613 = .ok (.iaload, 1) := dL_law_593_c.2.2.2.2.2.2.2.2.2.2.2.2.2.1
theorem dL_law_614 : decode cL_law 614 = .ok (.aload_n 3, 1) := dL_law_593_c.2.2.2.2.2.2.2.2.2.2.2.2.2.2.1
theorem dL_law_615 : decode cL_law 615 = .ok (.invokestatic 152, 3) := dL_law_593_c.2.2.2.2.2.2.2.2.2.2.2.2.2.2.2
theorem dL_law_618_c : decode cL_law 618 = .ok (.istore 5, 2) ∧ decode cL_law 620 = .ok (.aload_n 2, 1) ∧ decode cL_law 621 = .ok (.aload_n 0, 1) ∧ decode cL_law 622 = .ok (.iload 4, 2) ∧ decode cL_law 624 = .ok (.iconst 1, 1) ∧ decode cL_law 625 = .ok (.iadd, 1) ∧ decode cL_law 626 = .ok (.iaload, 1) ∧ decode cL_law 627 = .ok (.aload_n 0, 1) ∧ decode cL_law 628 = .ok (.iload 4, 2) ∧ decode cL_law 630 = .ok (.iconst 2, 1) ∧ decode cL_law 631 = .ok (.iadd, 1) ∧ decode cL_law 632 = .ok (.iaload, 1) ∧ decode cL_law 633 = .ok (.invokevirtual 154, 3) ∧ decode cL_law 636 = .ok (.istore 6, 2) ∧ decode cL_law 638 = .ok (.goto 1035, 3) ∧ decode cL_law 641 = .ok (.aload_n 1, 1) := by decide +kernel
theorem dL_law_618 : decode cL_law 618 = .ok (.istore 5, 2) := dL_law_618_c.1
theorem dL_law_620 : decode cL_law 620 = .ok (.aload_n 2, 1) := dL_law_618_c.2.1
theorem dL_law_621 : decode cL_law 621 = .ok (.aload_n 0, 1) := dL_law_618_c.2.2.1
theorem dL_law_622 : decode cL_law 622 = .ok (.iload 4, 2) := dL_law_618_c.2.2.2.1
theorem dL_law_624 : decode cL_law 624 = .ok (.iconst 1, 1) := dL_law_618_c.2.2.2.2.1
theorem dL_law_625 : decode cL_law 625 = .ok (.iadd, 1) := dL_law_618_c.2.2.2.2.2.1
theorem dL_law_626 : decode cL_law 626 = .ok (.iaload, 1) := dL_law_618_c.2.2.2.2.2.2.1
theorem dL_law_627 : decode cL_law 627 = .ok (.aload_n 0, 1) := dL_law_618_c.2.2.2.2.2.2.2.1
theorem dL_law_628 : decode cL_law 628 = .ok (.iload 4, 2) := dL_law_618_c.2.2.2.2.2.2.2.2.1
theorem dL_law_630 : decode cL_law 630 = .ok (.iconst 2, 1) := dL_law_618_c.2.2.2.2.2.2.2.2.2.1
theorem dL_law_631 : decode cL_law 631 = .ok (.iadd, 1) := dL_law_618_c.2.2.2.2.2.2.2.2.2.2.1
theorem dL_law_632 : decode cL_law 632 = .ok (.iaload, 1) := dL_law_618_c.2.2.2.2.2.2.2.2.2.2.2.1
theorem dL_law_633 : decode cL_law 633 = .ok (.invokevirtual 154, 3) := dL_law_618_c.2.2.2.2.2.2.2.2.2.2.2.2.1
theorem dL_law_636 : decode cL_law 636 = .ok (.istore 6, 2) := dL_law_618_c.2.2.2.2.2.2.2.2.2.2.2.2.2.1
theorem dL_law_638 : decode cL_law 638 = .ok (.goto 1035, 3) := dL_law_618_c.2.2.2.2.2.2.2.2.2.2.2.2.2.2.1
theorem dL_law_641 : decode cL_law 641 = .ok (.aload_n 1, 1) := dL_law_618_c.2.2.2.2.2.2.2.2.2.2.2.2.2.2.2
theorem dL_law_642_c : decode cL_law 642 = .ok (.aload_n 0, 1) ∧ decode cL_law 643 = .ok (.iload 4, 2) ∧ decode cL_law 645 = .ok (.iconst 1, 1) ∧ decode cL_law 646 = .ok (.iadd, 1) ∧ decode cL_law 647 = .ok (.iaload, 1) ∧ decode cL_law 648 = .ok (.aload_n 0, 1) ∧ decode cL_law 649 = .ok (.iload 4, 2) ∧ decode cL_law 651 = .ok (.iconst 2, 1) ∧ decode cL_law 652 = .ok (.iadd, 1) ∧ decode cL_law 653 = .ok (.iaload, 1) ∧ decode cL_law 654 = .ok (.aload_n 3, 1) ∧ decode cL_law 655 = .ok (.invokestatic 155, 3) ∧ decode cL_law 658 = .ok (.istore 5, 2) ∧ decode cL_law 660 = .ok (.aload_n 2, 1) ∧ decode cL_law 661 = .ok (.aload_n 0, 1) ∧ decode cL_law 662 = .ok (.iload 4, 2) := by decide +kernel
theorem dL_law_642 : decode cL_law 642 = .ok (.aload_n 0, 1) := dL_law_642_c.1
theorem dL_law_643 : decode cL_law 643 = .ok (.iload 4, 2) := dL_law_642_c.2.1
theorem dL_law_645 : decode cL_law 645 = .ok (.iconst 1, 1) := dL_law_642_c.2.2.1
theorem dL_law_646 : decode cL_law 646 = .ok (.iadd, 1) := dL_law_642_c.2.2.2.1
theorem dL_law_647 : decode cL_law 647 = .ok (.iaload, 1) := dL_law_642_c.2.2.2.2.1
theorem dL_law_648 : decode cL_law 648 = .ok (.aload_n 0, 1) := dL_law_642_c.2.2.2.2.2.1
theorem dL_law_649 : decode cL_law 649 = .ok (.iload 4, 2) := dL_law_642_c.2.2.2.2.2.2.1
theorem dL_law_651 : decode cL_law 651 = .ok (.iconst 2, 1) := dL_law_642_c.2.2.2.2.2.2.2.1
theorem dL_law_652 : decode cL_law 652 = .ok (.iadd, 1) := dL_law_642_c.2.2.2.2.2.2.2.2.1
theorem dL_law_653 : decode cL_law 653 = .ok (.iaload, 1) := dL_law_642_c.2.2.2.2.2.2.2.2.2.1
theorem dL_law_654 : decode cL_law 654 = .ok (.aload_n 3, 1) := dL_law_642_c.2.2.2.2.2.2.2.2.2.2.1
theorem dL_law_655 : decode cL_law 655 = .ok (.invokestatic 155, 3) := dL_law_642_c.2.2.2.2.2.2.2.2.2.2.2.1
theorem dL_law_658 : decode cL_law 658 = .ok (.istore 5, 2) := dL_law_642_c.2.2.2.2.2.2.2.2.2.2.2.2.1
theorem dL_law_660 : decode cL_law 660 = .ok (.aload_n 2, 1) := dL_law_642_c.2.2.2.2.2.2.2.2.2.2.2.2.2.1
theorem dL_law_661 : decode cL_law 661 = .ok (.aload_n 0, 1) := dL_law_642_c.2.2.2.2.2.2.2.2.2.2.2.2.2.2.1
theorem dL_law_662 : decode cL_law 662 = .ok (.iload 4, 2) := dL_law_642_c.2.2.2.2.2.2.2.2.2.2.2.2.2.2.2
theorem dL_law_664_c : decode cL_law 664 = .ok (.iconst 1, 1) ∧ decode cL_law 665 = .ok (.iadd, 1) ∧ decode cL_law 666 = .ok (.iaload, 1) ∧ decode cL_law 667 = .ok (.aload_n 0, 1) ∧ decode cL_law 668 = .ok (.iload 4, 2) ∧ decode cL_law 670 = .ok (.iconst 2, 1) ∧ decode cL_law 671 = .ok (.iadd, 1) ∧ decode cL_law 672 = .ok (.iaload, 1) ∧ decode cL_law 673 = .ok (.invokevirtual 157, 3) ∧ decode cL_law 676 = .ok (.istore 6, 2) ∧ decode cL_law 678 = .ok (.goto 995, 3) ∧ decode cL_law 681 = .ok (.aload_n 1, 1) ∧ decode cL_law 682 = .ok (.aload_n 0, 1) ∧ decode cL_law 683 = .ok (.iload 4, 2) ∧ decode cL_law 685 = .ok (.iconst 1, 1) ∧ decode cL_law 686 = .ok (.iadd, 1) := by decide +kernel
theorem dL_law_664 : decode cL_law 664 = .ok (.iconst 1, 1) := dL_law_664_c.1
theorem dL_law_665 : decode cL_law 665 = .ok (.iadd, 1) := dL_law_664_c.2.1
theorem dL_law_666 : decode cL_law 666 = .ok (.iaload, 1) := dL_law_664_c.2.2.1
theorem dL_law_667 : decode cL_law 667 = .ok (.aload_n 0, 1) := dL_law_664_c.2.2.2.1
theorem dL_law_668 : decode cL_law 668 = .ok (.iload 4, 2) := dL_law_664_c.2.2.2.2.1
theorem dL_law_670 : decode cL_law 670 = .ok (.iconst 2, 1) := dL_law_664_c.2.2.2.2.2.1
theorem dL_law_671 : decode cL_law 671 = .ok (.iadd, 1) := dL_law_664_c.2.2.2.2.2.2.1
theorem dL_law_672 : decode cL_law 672 = .ok (.iaload, 1) := dL_law_664_c.2.2.2.2.2.2.2.1
theorem dL_law_673 : decode cL_law 673 = .ok (.invokevirtual 157, 3) := dL_law_664_c.2.2.2.2.2.2.2.2.1
theorem dL_law_676 : decode cL_law 676 = .ok (.istore 6, 2) := dL_law_664_c.2.2.2.2.2.2.2.2.2.1
theorem dL_law_678 : decode cL_law 678 = .ok (.goto 995, 3) := dL_law_664_c.2.2.2.2.2.2.2.2.2.2.1
theorem dL_law_681 : decode cL_law 681 = .ok (.aload_n 1, 1) := dL_law_664_c.2.2.2.2.2.2.2.2.2.2.2.1
theorem dL_law_682 : decode cL_law 682 = .ok (.aload_n 0, 1) := dL_law_664_c.2.2.2.2.2.2.2.2.2.2.2.2.1
theorem dL_law_683 : decode cL_law 683 = .ok (.iload 4, 2) := dL_law_664_c.2.2.2.2.2.2.2.2.2.2.2.2.2.1
theorem dL_law_685 : decode cL_law 685 = .ok (.iconst 1, 1) := dL_law_664_c.2.2.2.2.2.2.2.2.2.2.2.2.2.2.1
theorem dL_law_686 : decode cL_law 686 = .ok (.iadd, 1) := dL_law_664_c.2.2.2.2.2.2.2.2.2.2.2.2.2.2.2
theorem dL_law_687_c : decode cL_law 687 = .ok (.iaload, 1) ∧ decode cL_law 688 = .ok (.aload_n 0, 1) ∧ decode cL_law 689 = .ok (.iload 4, 2) ∧ decode cL_law 691 = .ok (.iconst 2, 1) ∧ decode cL_law 692 = .ok (.iadd, 1) ∧ decode cL_law 693 = .ok (.iaload, 1) ∧ decode cL_law 694 = .ok (.aload_n 0, 1) ∧ decode cL_law 695 = .ok (.iload 4, 2) ∧ decode cL_law 697 = .ok (.iconst 3, 1) ∧ decode cL_law 698 = .ok (.iadd, 1) ∧ decode cL_law 699 = .ok (.iaload, 1) ∧ decode cL_law 700 = .ok (.aload_n 3, 1) ∧ decode cL_law 701 = .ok (.invokestatic 158, 3) ∧ decode cL_law 704 = .ok (.istore 5, 2) ∧ decode cL_law 706 = .ok (.aload_n 2, 1) ∧ decode cL_law 707 = .ok (.aload_n 0, 1) := by decide +kernel
theorem dL_law_687 : decode cL_law 687 = .ok (.iaload, 1) := dL_law_687_c.1
theorem dL_law_688 : decode cL_law 688 = .ok (.aload_n 0, 1) := dL_law_687_c.2.1
theorem dL_law_689 : decode cL_law 689 = .ok (.iload 4, 2) := dL_law_687_c.2.2.1
theorem dL_law_691 : decode cL_law 691 = .ok (.iconst 2, 1) := dL_law_687_c.2.2.2.1
theorem dL_law_692 : decode cL_law 692 = .ok (.iadd, 1) := dL_law_687_c.2.2.2.2.1
theorem dL_law_693 : decode cL_law 693 = .ok (.iaload, 1) := dL_law_687_c.2.2.2.2.2.1
theorem dL_law_694 : decode cL_law 694 = .ok (.aload_n 0, 1) := dL_law_687_c.2.2.2.2.2.2.1
theorem dL_law_695 : decode cL_law 695 = .ok (.iload 4, 2) := dL_law_687_c.2.2.2.2.2.2.2.1
theorem dL_law_697 : decode cL_law 697 = .ok (.iconst 3, 1) := dL_law_687_c.2.2.2.2.2.2.2.2.1
theorem dL_law_698 : decode cL_law 698 = .ok (.iadd, 1) := dL_law_687_c.2.2.2.2.2.2.2.2.2.1
theorem dL_law_699 : decode cL_law 699 = .ok (.iaload, 1) := dL_law_687_c.2.2.2.2.2.2.2.2.2.2.1
theorem dL_law_700 : decode cL_law 700 = .ok (.aload_n 3, 1) := dL_law_687_c.2.2.2.2.2.2.2.2.2.2.2.1
theorem dL_law_701 : decode cL_law 701 = .ok (.invokestatic 158, 3) := dL_law_687_c.2.2.2.2.2.2.2.2.2.2.2.2.1
theorem dL_law_704 : decode cL_law 704 = .ok (.istore 5, 2) := dL_law_687_c.2.2.2.2.2.2.2.2.2.2.2.2.2.1
theorem dL_law_706 : decode cL_law 706 = .ok (.aload_n 2, 1) := dL_law_687_c.2.2.2.2.2.2.2.2.2.2.2.2.2.2.1
theorem dL_law_707 : decode cL_law 707 = .ok (.aload_n 0, 1) := dL_law_687_c.2.2.2.2.2.2.2.2.2.2.2.2.2.2.2
theorem dL_law_708_c : decode cL_law 708 = .ok (.iload 4, 2) ∧ decode cL_law 710 = .ok (.iconst 1, 1) ∧ decode cL_law 711 = .ok (.iadd, 1) ∧ decode cL_law 712 = .ok (.iaload, 1) ∧ decode cL_law 713 = .ok (.aload_n 0, 1) ∧ decode cL_law 714 = .ok (.iload 4, 2) ∧ decode cL_law 716 = .ok (.iconst 2, 1) ∧ decode cL_law 717 = .ok (.iadd, 1) ∧ decode cL_law 718 = .ok (.iaload, 1) ∧ decode cL_law 719 = .ok (.aload_n 0, 1) ∧ decode cL_law 720 = .ok (.iload 4, 2) ∧ decode cL_law 722 = .ok (.iconst 3, 1) ∧ decode cL_law 723 = .ok (.iadd, 1) ∧ decode cL_law 724 = .ok (.iaload, 1) ∧ decode cL_law 725 = .ok (.invokevirtual 161, 3) ∧ decode cL_law 728 = .ok (.istore 6, 2) := by decide +kernel
theorem dL_law_708 : decode cL_law 708 = .ok (.iload 4, 2) := dL_law_708_c.1
theorem dL_law_710 : decode cL_law 710 = .ok (.iconst 1, 1) := dL_law_708_c.2.1
theorem dL_law_711 : decode cL_law 711 = .ok (.iadd, 1) := dL_law_708_c.2.2.1
theorem dL_law_712 : decode cL_law 712 = .ok (.iaload, 1) := dL_law_708_c.2.2.2.1
theorem dL_law_713 : decode cL_law 713 = .ok (.aload_n 0, 1) := dL_law_708_c.2.2.2.2.1
theorem dL_law_714 : decode cL_law 714 = .ok (.iload 4, 2) := dL_law_708_c.2.2.2.2.2.1
theorem dL_law_716 : decode cL_law 716 = .ok (.iconst 2, 1) := dL_law_708_c.2.2.2.2.2.2.1
theorem dL_law_717 : decode cL_law 717 = .ok (.iadd, 1) := dL_law_708_c.2.2.2.2.2.2.2.1
theorem dL_law_718 : decode cL_law 718 = .ok (.iaload, 1) := dL_law_708_c.2.2.2.2.2.2.2.2.1
theorem dL_law_719 : decode cL_law 719 = .ok (.aload_n 0, 1) := dL_law_708_c.2.2.2.2.2.2.2.2.2.1
theorem dL_law_720 : decode cL_law 720 = .ok (.iload 4, 2) := dL_law_708_c.2.2.2.2.2.2.2.2.2.2.1
theorem dL_law_722 : decode cL_law 722 = .ok (.iconst 3, 1) := dL_law_708_c.2.2.2.2.2.2.2.2.2.2.2.1
theorem dL_law_723 : decode cL_law 723 = .ok (.iadd, 1) := dL_law_708_c.2.2.2.2.2.2.2.2.2.2.2.2.1
theorem dL_law_724 : decode cL_law 724 = .ok (.iaload, 1) := dL_law_708_c.2.2.2.2.2.2.2.2.2.2.2.2.2.1
theorem dL_law_725 : decode cL_law 725 = .ok (.invokevirtual 161, 3) := dL_law_708_c.2.2.2.2.2.2.2.2.2.2.2.2.2.2.1
theorem dL_law_728 : decode cL_law 728 = .ok (.istore 6, 2) := dL_law_708_c.2.2.2.2.2.2.2.2.2.2.2.2.2.2.2
theorem dL_law_730_c : decode cL_law 730 = .ok (.goto 943, 3) ∧ decode cL_law 733 = .ok (.aload_n 1, 1) ∧ decode cL_law 734 = .ok (.aload_n 0, 1) ∧ decode cL_law 735 = .ok (.iload 4, 2) ∧ decode cL_law 737 = .ok (.iconst 1, 1) ∧ decode cL_law 738 = .ok (.iadd, 1) ∧ decode cL_law 739 = .ok (.iaload, 1) ∧ decode cL_law 740 = .ok (.aload_n 0, 1) ∧ decode cL_law 741 = .ok (.iload 4, 2) ∧ decode cL_law 743 = .ok (.iconst 2, 1) ∧ decode cL_law 744 = .ok (.iadd, 1) ∧ decode cL_law 745 = .ok (.iaload, 1) ∧ decode cL_law 746 = .ok (.aload_n 0, 1) ∧ decode cL_law 747 = .ok (.iload 4, 2) ∧ decode cL_law 749 = .ok (.iconst 3, 1) ∧ decode cL_law 750 = .ok (.iadd, 1) := by decide +kernel
theorem dL_law_730 : decode cL_law 730 = .ok (.goto 943, 3) := dL_law_730_c.1
theorem dL_law_733 : decode cL_law 733 = .ok (.aload_n 1, 1) := dL_law_730_c.2.1
theorem dL_law_734 : decode cL_law 734 = .ok (.aload_n 0, 1) := dL_law_730_c.2.2.1
theorem dL_law_735 : decode cL_law 735 = .ok (.iload 4, 2) := dL_law_730_c.2.2.2.1
theorem dL_law_737 : decode cL_law 737 = .ok (.iconst 1, 1) := dL_law_730_c.2.2.2.2.1
theorem dL_law_738 : decode cL_law 738 = .ok (.iadd, 1) := dL_law_730_c.2.2.2.2.2.1
theorem dL_law_739 : decode cL_law 739 = .ok (.iaload, 1) := dL_law_730_c.2.2.2.2.2.2.1
theorem dL_law_740 : decode cL_law 740 = .ok (.aload_n 0, 1) := dL_law_730_c.2.2.2.2.2.2.2.1
theorem dL_law_741 : decode cL_law 741 = .ok (.iload 4, 2) := dL_law_730_c.2.2.2.2.2.2.2.2.1
theorem dL_law_743 : decode cL_law 743 = .ok (.iconst 2, 1) := dL_law_730_c.2.2.2.2.2.2.2.2.2.1
theorem dL_law_744 : decode cL_law 744 = .ok (.iadd, 1) := dL_law_730_c.2.2.2.2.2.2.2.2.2.2.1
theorem dL_law_745 : decode cL_law 745 = .ok (.iaload, 1) := dL_law_730_c.2.2.2.2.2.2.2.2.2.2.2.1
theorem dL_law_746 : decode cL_law 746 = .ok (.aload_n 0, 1) := dL_law_730_c.2.2.2.2.2.2.2.2.2.2.2.2.1
theorem dL_law_747 : decode cL_law 747 = .ok (.iload 4, 2) := dL_law_730_c.2.2.2.2.2.2.2.2.2.2.2.2.2.1
theorem dL_law_749 : decode cL_law 749 = .ok (.iconst 3, 1) := dL_law_730_c.2.2.2.2.2.2.2.2.2.2.2.2.2.2.1
theorem dL_law_750 : decode cL_law 750 = .ok (.iadd, 1) := dL_law_730_c.2.2.2.2.2.2.2.2.2.2.2.2.2.2.2
theorem dL_law_751_c : decode cL_law 751 = .ok (.iaload, 1) ∧ decode cL_law 752 = .ok (.aload_n 0, 1) ∧ decode cL_law 753 = .ok (.iload 4, 2) ∧ decode cL_law 755 = .ok (.iconst 4, 1) ∧ decode cL_law 756 = .ok (.iadd, 1) ∧ decode cL_law 757 = .ok (.iaload, 1) ∧ decode cL_law 758 = .ok (.aload_n 3, 1) ∧ decode cL_law 759 = .ok (.invokestatic 162, 3) ∧ decode cL_law 762 = .ok (.istore 5, 2) ∧ decode cL_law 764 = .ok (.aload_n 2, 1) ∧ decode cL_law 765 = .ok (.aload_n 0, 1) ∧ decode cL_law 766 = .ok (.iload 4, 2) ∧ decode cL_law 768 = .ok (.iconst 1, 1) ∧ decode cL_law 769 = .ok (.iadd, 1) ∧ decode cL_law 770 = .ok (.iaload, 1) ∧ decode cL_law 771 = .ok (.aload_n 0, 1) := by decide +kernel
theorem dL_law_751 : decode cL_law 751 = .ok (.iaload, 1) := dL_law_751_c.1
theorem dL_law_752 : decode cL_law 752 = .ok (.aload_n 0, 1) := dL_law_751_c.2.1
theorem dL_law_753 : decode cL_law 753 = .ok (.iload 4, 2) := dL_law_751_c.2.2.1
theorem dL_law_755 : decode cL_law 755 = .ok (.iconst 4, 1) := dL_law_751_c.2.2.2.1
theorem dL_law_756 : decode cL_law 756 = .ok (.iadd, 1) := dL_law_751_c.2.2.2.2.1
theorem dL_law_757 : decode cL_law 757 = .ok (.iaload, 1) := dL_law_751_c.2.2.2.2.2.1
theorem dL_law_758 : decode cL_law 758 = .ok (.aload_n 3, 1) := dL_law_751_c.2.2.2.2.2.2.1
theorem dL_law_759 : decode cL_law 759 = .ok (.invokestatic 162, 3) := dL_law_751_c.2.2.2.2.2.2.2.1
theorem dL_law_762 : decode cL_law 762 = .ok (.istore 5, 2) := dL_law_751_c.2.2.2.2.2.2.2.2.1
theorem dL_law_764 : decode cL_law 764 = .ok (.aload_n 2, 1) := dL_law_751_c.2.2.2.2.2.2.2.2.2.1
theorem dL_law_765 : decode cL_law 765 = .ok (.aload_n 0, 1) := dL_law_751_c.2.2.2.2.2.2.2.2.2.2.1
theorem dL_law_766 : decode cL_law 766 = .ok (.iload 4, 2) := dL_law_751_c.2.2.2.2.2.2.2.2.2.2.2.1
theorem dL_law_768 : decode cL_law 768 = .ok (.iconst 1, 1) := dL_law_751_c.2.2.2.2.2.2.2.2.2.2.2.2.1
theorem dL_law_769 : decode cL_law 769 = .ok (.iadd, 1) := dL_law_751_c.2.2.2.2.2.2.2.2.2.2.2.2.2.1
theorem dL_law_770 : decode cL_law 770 = .ok (.iaload, 1) := dL_law_751_c.2.2.2.2.2.2.2.2.2.2.2.2.2.2.1
theorem dL_law_771 : decode cL_law 771 = .ok (.aload_n 0, 1) := dL_law_751_c.2.2.2.2.2.2.2.2.2.2.2.2.2.2.2
theorem dL_law_772_c : decode cL_law 772 = .ok (.iload 4, 2) ∧ decode cL_law 774 = .ok (.iconst 2, 1) ∧ decode cL_law 775 = .ok (.iadd, 1) ∧ decode cL_law 776 = .ok (.iaload, 1) ∧ decode cL_law 777 = .ok (.aload_n 0, 1) ∧ decode cL_law 778 = .ok (.iload 4, 2) ∧ decode cL_law 780 = .ok (.iconst 3, 1) ∧ decode cL_law 781 = .ok (.iadd, 1) ∧ decode cL_law 782 = .ok (.iaload, 1) ∧ decode cL_law 783 = .ok (.aload_n 0, 1) ∧ decode cL_law 784 = .ok (.iload 4, 2) ∧ decode cL_law 786 = .ok (.iconst 4, 1) ∧ decode cL_law 787 = .ok (.iadd, 1) ∧ decode cL_law 788 = .ok (.iaload, 1) ∧ decode cL_law 789 = .ok (.invokevirtual 165, 3) ∧ decode cL_law 792 = .ok (.istore 6, 2) := by decide +kernel
theorem dL_law_772 : decode cL_law 772 = .ok (.iload 4, 2) := dL_law_772_c.1
theorem dL_law_774 : decode cL_law 774 = .ok (.iconst 2, 1) := dL_law_772_c.2.1
theorem dL_law_775 : decode cL_law 775 = .ok (.iadd, 1) := dL_law_772_c.2.2.1
theorem dL_law_776 : decode cL_law 776 = .ok (.iaload, 1) := dL_law_772_c.2.2.2.1
theorem dL_law_777 : decode cL_law 777 = .ok (.aload_n 0, 1) := dL_law_772_c.2.2.2.2.1
theorem dL_law_778 : decode cL_law 778 = .ok (.iload 4, 2) := dL_law_772_c.2.2.2.2.2.1
theorem dL_law_780 : decode cL_law 780 = .ok (.iconst 3, 1) := dL_law_772_c.2.2.2.2.2.2.1
theorem dL_law_781 : decode cL_law 781 = .ok (.iadd, 1) := dL_law_772_c.2.2.2.2.2.2.2.1
theorem dL_law_782 : decode cL_law 782 = .ok (.iaload, 1) := dL_law_772_c.2.2.2.2.2.2.2.2.1
theorem dL_law_783 : decode cL_law 783 = .ok (.aload_n 0, 1) := dL_law_772_c.2.2.2.2.2.2.2.2.2.1
theorem dL_law_784 : decode cL_law 784 = .ok (.iload 4, 2) := dL_law_772_c.2.2.2.2.2.2.2.2.2.2.1
theorem dL_law_786 : decode cL_law 786 = .ok (.iconst 4, 1) := dL_law_772_c.2.2.2.2.2.2.2.2.2.2.2.1
theorem dL_law_787 : decode cL_law 787 = .ok (.iadd, 1) := dL_law_772_c.2.2.2.2.2.2.2.2.2.2.2.2.1
theorem dL_law_788 : decode cL_law 788 = .ok (.iaload, 1) := dL_law_772_c.2.2.2.2.2.2.2.2.2.2.2.2.2.1
theorem dL_law_789 : decode cL_law 789 = .ok (.invokevirtual 165, 3) := dL_law_772_c.2.2.2.2.2.2.2.2.2.2.2.2.2.2.1
theorem dL_law_792 : decode cL_law 792 = .ok (.istore 6, 2) := dL_law_772_c.2.2.2.2.2.2.2.2.2.2.2.2.2.2.2
theorem dL_law_794_c : decode cL_law 794 = .ok (.goto 879, 3) ∧ decode cL_law 797 = .ok (.aload_n 1, 1) ∧ decode cL_law 798 = .ok (.aload_n 0, 1) ∧ decode cL_law 799 = .ok (.iload 4, 2) ∧ decode cL_law 801 = .ok (.iconst 1, 1) ∧ decode cL_law 802 = .ok (.iadd, 1) := by decide +kernel
theorem dL_law_794 : decode cL_law 794 = .ok (.goto 879, 3) := dL_law_794_c.1
theorem dL_law_797 : decode cL_law 797 = .ok (.aload_n 1, 1) := dL_law_794_c.2.1
theorem dL_law_798 : decode cL_law 798 = .ok (.aload_n 0, 1) := dL_law_794_c.2.2.1
theorem dL_law_799 : decode cL_law 799 = .ok (.iload 4, 2) := dL_law_794_c.2.2.2.1
theorem dL_law_801 : decode cL_law 801 = .ok (.iconst 1, 1) := dL_law_794_c.2.2.2.2.1
theorem dL_law_802 : decode cL_law 802 = .ok (.iadd, 1) := dL_law_794_c.2.2.2.2.2
