theorem dL_law_594 : decode cL_law 594 = .ok (.aload_n 1, 1) := by decide +kernel
theorem dL_law_595 : decode cL_law 595 = .ok (.aload_n 0, 1) := by decide +kernel
theorem dL_law_596 : decode cL_law 596 = .ok (.iload 4, 2) := by decide +kernel
theorem dL_law_598 : decode cL_law 598 = .ok (.iconst 1, 1) := by decide +kernel
theorem dL_law_599 : decode cL_law 599 = .ok (.iadd, 1) := by decide +kernel
theorem dL_law_600 : decode cL_law 600 = .ok (.iaload, 1) := by decide +kernel
theorem dL_law_601 : decode cL_law 601 = .ok (.aload_n 0, 1) := by decide +kernel
theorem dL_law_602 : decode cL_law 602 = .ok (.iload 4, 2) := by decide +kernel
theorem dL_law_604 : decode cL_law 604 = .ok (.iconst 2, 1) := by decide +kernel
theorem dL_law_605 : decode cL_law 605 = .ok (.iadd, 1) := by decide +kernel
theorem dL_law_606 : decode cL_law 606 = .ok (.iaload, 1) := by decide +kernel
theorem dL_law_607 : decode cL_law 607 = .ok (.aload_n 3, 1) := by decide +kernel
theorem dL_law_608 : decode cL_law 608 = .ok (.invokestatic 152, 3) := by decide +kernel
theorem dL_law_611 : decode cL_law 611 = .ok (.istore 5, 2) := by decide +kernel
theorem dL_law_613 : decode cL_law 613 = .ok (.aload_n 2, 1) := by decide +kernel
theorem dL_law_614 : decode cL_law 614 = .ok (.aload_n 0, 1) := by decide +kernel
theorem dL_law_615 : decode cL_law 615 = .ok (.iload 4, 2) := by decide +kernel
theorem dL_law_617 : decode cL_law 617 = .ok (.iconst 1, 1) := by decide +kernel
theorem dL_law_618 : decode cL_law 618 = .ok (.iadd, 1) := by decide +kernel
theorem dL_law_619 : decode cL_law 619 = .ok (.iaload, 1) := by decide +kernel
theorem dL_law_620 : decode cL_law 620 = .ok (.aload_n 0, 1) := by decide +kernel
theorem dL_law_621 : decode cL_law 621 = .ok (.iload 4, 2) := by decide +kernel
theorem dL_law_623 : decode cL_law 623 = .ok (.iconst 2, 1) := by decide +kernel
theorem dL_law_624 : decode cL_law 624 = .ok (.iadd, 1) := by decide +kernel
theorem dL_law_625 : decode cL_law 625 = .ok (.iaload, 1) := by decide +kernel
theorem dL_law_626 : decode cL_law 626 = .ok (.invokevirtual 154, 3) := by decide +kernel
theorem dL_law_629 : decode cL_law 629 = .ok (.istore 6, 2) := by decide +kernel
theorem dL_law_631 : decode cL_law 631 = .ok (.goto 1035, 3) := by decide +kernel
theorem dL_law_634 : decode cL_law 634 = .ok (.aload_n 1, 1) := by decide +kernel
theorem dL_law_635 : decode cL_law 635 = .ok (.aload_n 0, 1) := by decide +kernel
theorem dL_law_636 : decode cL_law 636 = .ok (.iload 4, 2) := by decide +kernel
theorem dL_law_638 : decode cL_law 638 = .ok (.iconst 1, 1) := by decide +kernel
theorem dL_law_639 : decode cL_law 639 = .ok (.iadd, 1) := by decide +kernel
theorem dL_law_640 : decode cL_law 640 = .ok (.iaload, 1) := by decide +kernel
theorem dL_law_641 : decode cL_law 641 = .ok (.aload_n 0, 1) := by decide +kernel
theorem dL_law_642 : decode cL_law 642 = .ok (.iload 4, 2) := by decide +kernel
theorem dL_law_644 : decode cL_law 644 = .ok (.iconst 2, 1) := by decide +kernel
theorem dL_law_645 : decode cL_law 645 = .ok (.iadd, 1) := by decide +kernel
theorem dL_law_646 : decode cL_law 646 = .ok (.iaload, 1) := by decide +kernel
theorem dL_law_647 : decode cL_law 647 = .ok (.aload_n 3, 1) := by decide +kernel
theorem dL_law_648 : decode cL_law 648 = .ok (.invokestatic 155, 3) := by decide +kernel
theorem dL_law_651 : decode cL_law 651 = .ok (.istore 5, 2) := by decide +kernel
theorem dL_law_653 : decode cL_law 653 = .ok (.aload_n 2, 1) := by decide +kernel
theorem dL_law_654 : decode cL_law 654 = .ok (.aload_n 0, 1) := by decide +kernel
theorem dL_law_655 : decode cL_law 655 = .ok (.iload 4, 2) := by decide +kernel
theorem dL_law_657 : decode cL_law 657 = .ok (.iconst 1, 1) := by decide +kernel
theorem dL_law_658 : decode cL_law 658 = .ok (.iadd, 1) := by decide +kernel
theorem dL_law_659 : decode cL_law 659 = .ok (.iaload, 1) := by decide +kernel
theorem dL_law_660 : decode cL_law 660 = .ok (.aload_n 0, 1) := by decide +kernel
theorem dL_law_661 : decode cL_law 661 = .ok (.iload 4, 2) := by decide +kernel
theorem dL_law_663 : decode cL_law 663 = .ok (.iconst 2, 1) := by decide +kernel
theorem dL_law_664 : decode cL_law 664 = .ok (.iadd, 1) := by decide +kernel
theorem dL_law_665 : decode cL_law 665 = .ok (.iaload, 1) := by decide +kernel
theorem dL_law_666 : decode cL_law 666 = .ok (.invokevirtual 157, 3) := by decide +kernel
theorem dL_law_669 : decode cL_law 669 = .ok (.istore 6, 2) := by decide +kernel
theorem dL_law_671 : decode cL_law 671 = .ok (.goto 995, 3) := by decide +kernel
theorem dL_law_674 : decode cL_law 674 = .ok (.aload_n 1, 1) := by decide +kernel
theorem dL_law_675 : decode cL_law 675 = .ok (.aload_n 0, 1) := by decide +kernel
theorem dL_law_676 : decode cL_law 676 = .ok (.iload 4, 2) := by decide +kernel
theorem dL_law_678 : decode cL_law 678 = .ok (.iconst 1, 1) := by decide +kernel
theorem dL_law_679 : decode cL_law 679 = .ok (.iadd, 1) := by decide +kernel
theorem dL_law_680 : decode cL_law 680 = .ok (.iaload, 1) := by decide +kernel
theorem dL_law_681 : decode cL_law 681 = .ok (.aload_n 0, 1) := by decide +kernel
theorem dL_law_682 : decode cL_law 682 = .ok (.iload 4, 2) := by decide +kernel
theorem dL_law_684 : decode cL_law 684 = .ok (.iconst 2, 1) := by decide +kernel
theorem dL_law_685 : decode cL_law 685 = .ok (.iadd, 1) := by decide +kernel
theorem dL_law_686 : decode cL_law 686 = .ok (.iaload, 1) := by decide +kernel
theorem dL_law_687 : decode cL_law 687 = .ok (.aload_n 0, 1) := by decide +kernel
theorem dL_law_688 : decode cL_law 688 = .ok (.iload 4, 2) := by decide +kernel
theorem dL_law_690 : decode cL_law 690 = .ok (.iconst 3, 1) := by decide +kernel
theorem dL_law_691 : decode cL_law 691 = .ok (.iadd, 1) := by decide +kernel
theorem dL_law_692 : decode cL_law 692 = .ok (.iaload, 1) := by decide +kernel
theorem dL_law_693 : decode cL_law 693 = .ok (.aload_n 3, 1) := by decide +kernel
theorem dL_law_694 : decode cL_law 694 = .ok (.invokestatic 158, 3) := by decide +kernel
theorem dL_law_697 : decode cL_law 697 = .ok (.istore 5, 2) := by decide +kernel
theorem dL_law_699 : decode cL_law 699 = .ok (.aload_n 2, 1) := by decide +kernel
theorem dL_law_700 : decode cL_law 700 = .ok (.aload_n 0, 1) := by decide +kernel
theorem dL_law_701 : decode cL_law 701 = .ok (.iload 4, 2) := by decide +kernel
theorem dL_law_703 : decode cL_law 703 = .ok (.iconst 1, 1) := by decide +kernel
theorem dL_law_704 : decode cL_law 704 = .ok (.iadd, 1) := by decide +kernel
theorem dL_law_705 : decode cL_law 705 = .ok (.iaload, 1) := by decide +kernel
theorem dL_law_706 : decode cL_law 706 = .ok (.aload_n 0, 1) := by decide +kernel
theorem dL_law_707 : decode cL_law 707 = .ok (.iload 4, 2) := by decide +kernel
theorem dL_law_709 : decode cL_law 709 = .ok (.iconst 2, 1) := by decide +kernel
theorem dL_law_710 : decode cL_law 710 = .ok (.iadd, 1) := by decide +kernel
theorem dL_law_711 : decode cL_law 711 = .ok (.iaload, 1) := by decide +kernel
theorem dL_law_712 : decode cL_law 712 = .ok (.aload_n 0, 1) := by decide +kernel
theorem dL_law_713 : decode cL_law 713 = .ok (.iload 4, 2) := by decide +kernel
theorem dL_law_715 : decode cL_law 715 = .ok (.iconst 3, 1) := by decide +kernel
theorem dL_law_716 : decode cL_law 716 = .ok (.iadd, 1) := by decide +kernel
theorem dL_law_717 : decode cL_law 717 = .ok (.iaload, 1) := by decide +kernel
theorem dL_law_718 : decode cL_law 718 = .ok (.invokevirtual 161, 3) := by decide +kernel
theorem dL_law_721 : decode cL_law 721 = .ok (.istore 6, 2) := by decide +kernel
theorem dL_law_723 : decode cL_law 723 = .ok (.goto 943, 3) := by decide +kernel
theorem dL_law_726 : decode cL_law 726 = .ok (.aload_n 1, 1) := by decide +kernel
theorem dL_law_727 : decode cL_law 727 = .ok (.aload_n 0, 1) := by decide +kernel
theorem dL_law_728 : decode cL_law 728 = .ok (.iload 4, 2) := by decide +kernel
theorem dL_law_730 : decode cL_law 730 = .ok (.iconst 1, 1) := by decide +kernel
theorem dL_law_731 : decode cL_law 731 = .ok (.iadd, 1) := by decide +kernel
theorem dL_law_732 : decode cL_law 732 = .ok (.iaload, 1) := by decide +kernel
theorem dL_law_733 : decode cL_law 733 = .ok (.aload_n 0, 1) := by decide +kernel
theorem dL_law_734 : decode cL_law 734 = .ok (.iload 4, 2) := by decide +kernel
theorem dL_law_736 : decode cL_law 736 = .ok (.iconst 2, 1) := by decide +kernel
theorem dL_law_737 : decode cL_law 737 = .ok (.iadd, 1) := by decide +kernel
theorem dL_law_738 : decode cL_law 738 = .ok (.iaload, 1) := by decide +kernel
theorem dL_law_739 : decode cL_law 739 = .ok (.aload_n 0, 1) := by decide +kernel
theorem dL_law_740 : decode cL_law 740 = .ok (.iload 4, 2) := by decide +kernel
theorem dL_law_742 : decode cL_law 742 = .ok (.iconst 3, 1) := by decide +kernel
theorem dL_law_743 : decode cL_law 743 = .ok (.iadd, 1) := by decide +kernel
theorem dL_law_744 : decode cL_law 744 = .ok (.iaload, 1) := by decide +kernel
theorem dL_law_745 : decode cL_law 745 = .ok (.aload_n 0, 1) := by decide +kernel
theorem dL_law_746 : decode cL_law 746 = .ok (.iload 4, 2) := by decide +kernel
theorem dL_law_748 : decode cL_law 748 = .ok (.iconst 4, 1) := by decide +kernel
theorem dL_law_749 : decode cL_law 749 = .ok (.iadd, 1) := by decide +kernel
theorem dL_law_750 : decode cL_law 750 = .ok (.iaload, 1) := by decide +kernel
theorem dL_law_751 : decode cL_law 751 = .ok (.aload_n 3, 1) := by decide +kernel
theorem dL_law_752 : decode cL_law 752 = .ok (.invokestatic 162, 3) := by decide +kernel
theorem dL_law_755 : decode cL_law 755 = .ok (.istore 5, 2) := by decide +kernel
theorem dL_law_757 : decode cL_law 757 = .ok (.aload_n 2, 1) := by decide +kernel
theorem dL_law_758 : decode cL_law 758 = .ok (.aload_n 0, 1) := by decide +kernel
theorem dL_law_759 : decode cL_law 759 = .ok (.iload 4, 2) := by decide +kernel
theorem dL_law_761 : decode cL_law 761 = .ok (.iconst 1, 1) := by decide +kernel
theorem dL_law_762 : decode cL_law 762 = .ok (.iadd, 1) := by decide +kernel
theorem dL_law_763 : decode cL_law 763 = .ok (.iaload, 1) := by decide +kernel
theorem dL_law_764 : decode cL_law 764 = .ok (.aload_n 0, 1) := by decide +kernel
theorem dL_law_765 : decode cL_law 765 = .ok (.iload 4, 2) := by decide +kernel
theorem dL_law_767 : decode cL_law 767 = .ok (.iconst 2, 1) := by decide +kernel
theorem dL_law_768 : decode cL_law 768 = .ok (.iadd, 1) := by decide +kernel
theorem dL_law_769 : decode cL_law 769 = .ok (.iaload, 1) := by decide +kernel
theorem dL_law_770 : decode cL_law 770 = .ok (.aload_n 0, 1) := by decide +kernel
theorem dL_law_771 : decode cL_law 771 = .ok (.iload 4, 2) := by decide +kernel
theorem dL_law_773 : decode cL_law 773 = .ok (.iconst 3, 1) := by decide +kernel
theorem dL_law_774 : decode cL_law 774 = .ok (.iadd, 1) := by decide +kernel
theorem dL_law_775 : decode cL_law 775 = .ok (.iaload, 1) := by decide +kernel
theorem dL_law_776 : decode cL_law 776 = .ok (.aload_n 0, 1) := by decide +kernel
theorem dL_law_777 : decode cL_law 777 = .ok (.iload 4, 2) := by decide +kernel
theorem dL_law_779 : decode cL_law 779 = .ok (.iconst 4, 1) := by decide +kernel
theorem dL_law_780 : decode cL_law 780 = .ok (.iadd, 1) := by decide +kernel
theorem dL_law_781 : decode cL_law 781 = .ok (.iaload, 1) := by decide +kernel
theorem dL_law_782 : decode cL_law 782 = .ok (.invokevirtual 165, 3) := by decide +kernel
theorem dL_law_785 : decode cL_law 785 = .ok (.istore 6, 2) := by decide +kernel
theorem dL_law_787 : decode cL_law 787 = .ok (.goto 879, 3) := by decide +kernel
theorem dL_law_790 : decode cL_law 790 = .ok (.aload_n 1, 1) := by decide +kernel
theorem dL_law_791 : decode cL_law 791 = .ok (.aload_n 0, 1) := by decide +kernel
theorem dL_law_792 : decode cL_law 792 = .ok (.iload 4, 2) := by decide +kernel
theorem dL_law_794 : decode cL_law 794 = .ok (.iconst 1, 1) := by decide +kernel
theorem dL_law_795 : decode cL_law 795 = .ok (.iadd, 1) := by decide +kernel
theorem dL_law_796 : decode cL_law 796 = .ok (.iaload, 1) := by decide +kernel
theorem dL_law_797 : decode cL_law 797 = .ok (.aload_n 0, 1) := by decide +kernel
theorem dL_law_798 : decode cL_law 798 = .ok (.iload 4, 2) := by decide +kernel
