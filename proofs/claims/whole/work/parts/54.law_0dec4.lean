theorem dLAW_596 : decode code 596 = .ok (.if_icmp .eq 5, 3) := by decide +kernel
theorem dLAW_599 : decode code 599 = .ok (.iconst 0, 1) := by decide +kernel
theorem dLAW_600 : decode code 600 = .ok (.ireturn, 1) := by decide +kernel
theorem dLAW_601 : decode code 601 = .ok (.iload 5, 2) := by decide +kernel
theorem dLAW_603 : decode code 603 = .ok (.ifCond .ne 22, 3) := by decide +kernel
theorem dLAW_606 : decode code 606 = .ok (.aload_n 3, 1) := by decide +kernel
theorem dLAW_607 : decode code 607 = .ok (.iconst 0, 1) := by decide +kernel
theorem dLAW_608 : decode code 608 = .ok (.laload, 1) := by decide +kernel
theorem dLAW_609 : decode code 609 = .ok (.iload 6, 2) := by decide +kernel
theorem dLAW_611 : decode code 611 = .ok (.ifCond .eq 7, 3) := by decide +kernel
theorem dLAW_614 : decode code 614 = .ok (.lconst 1, 1) := by decide +kernel
theorem dLAW_615 : decode code 615 = .ok (.goto 4, 3) := by decide +kernel
theorem dLAW_618 : decode code 618 = .ok (.lconst 0, 1) := by decide +kernel
theorem dLAW_619 : decode code 619 = .ok (.lcmp, 1) := by decide +kernel
theorem dLAW_620 : decode code 620 = .ok (.ifCond .eq 5, 3) := by decide +kernel
theorem dLAW_623 : decode code 623 = .ok (.iconst 0, 1) := by decide +kernel
theorem dLAW_624 : decode code 624 = .ok (.ireturn, 1) := by decide +kernel
theorem dLAW_625 : decode code 625 = .ok (.goto 436, 3) := by decide +kernel
theorem dLAW_628 : decode code 628 = .ok (.aload_n 1, 1) := by decide +kernel
theorem dLAW_629 : decode code 629 = .ok (.aload_n 0, 1) := by decide +kernel
theorem dLAW_630 : decode code 630 = .ok (.iload 4, 2) := by decide +kernel
theorem dLAW_632 : decode code 632 = .ok (.iconst 1, 1) := by decide +kernel
theorem dLAW_633 : decode code 633 = .ok (.iadd, 1) := by decide +kernel
theorem dLAW_634 : decode code 634 = .ok (.iaload, 1) := by decide +kernel
theorem dLAW_635 : decode code 635 = .ok (.aload_n 0, 1) := by decide +kernel
theorem dLAW_636 : decode code 636 = .ok (.iload 4, 2) := by decide +kernel
theorem dLAW_638 : decode code 638 = .ok (.iconst 2, 1) := by decide +kernel
theorem dLAW_639 : decode code 639 = .ok (.iadd, 1) := by decide +kernel
theorem dLAW_640 : decode code 640 = .ok (.iaload, 1) := by decide +kernel
theorem dLAW_641 : decode code 641 = .ok (.aload_n 0, 1) := by decide +kernel
theorem dLAW_642 : decode code 642 = .ok (.iload 4, 2) := by decide +kernel
theorem dLAW_644 : decode code 644 = .ok (.iconst 3, 1) := by decide +kernel
theorem dLAW_645 : decode code 645 = .ok (.iadd, 1) := by decide +kernel
theorem dLAW_646 : decode code 646 = .ok (.iaload, 1) := by decide +kernel
theorem dLAW_647 : decode code 647 = .ok (.aload_n 0, 1) := by decide +kernel
theorem dLAW_648 : decode code 648 = .ok (.iload 4, 2) := by decide +kernel
theorem dLAW_650 : decode code 650 = .ok (.iconst 4, 1) := by decide +kernel
theorem dLAW_651 : decode code 651 = .ok (.iadd, 1) := by decide +kernel
theorem dLAW_652 : decode code 652 = .ok (.iaload, 1) := by decide +kernel
theorem dLAW_653 : decode code 653 = .ok (.aload_n 3, 1) := by decide +kernel
theorem dLAW_654 : decode code 654 = .ok (.invokestatic 102, 3) := by decide +kernel
theorem dLAW_657 : decode code 657 = .ok (.istore 5, 2) := by decide +kernel
theorem dLAW_659 : decode code 659 = .ok (.aload_n 2, 1) := by decide +kernel
theorem dLAW_660 : decode code 660 = .ok (.aload_n 0, 1) := by decide +kernel
theorem dLAW_661 : decode code 661 = .ok (.iload 4, 2) := by decide +kernel
theorem dLAW_663 : decode code 663 = .ok (.iconst 1, 1) := by decide +kernel
theorem dLAW_664 : decode code 664 = .ok (.iadd, 1) := by decide +kernel
theorem dLAW_665 : decode code 665 = .ok (.iaload, 1) := by decide +kernel
theorem dLAW_666 : decode code 666 = .ok (.aload_n 0, 1) := by decide +kernel
theorem dLAW_667 : decode code 667 = .ok (.iload 4, 2) := by decide +kernel
theorem dLAW_669 : decode code 669 = .ok (.iconst 2, 1) := by decide +kernel
theorem dLAW_670 : decode code 670 = .ok (.iadd, 1) := by decide +kernel
theorem dLAW_671 : decode code 671 = .ok (.iaload, 1) := by decide +kernel
theorem dLAW_672 : decode code 672 = .ok (.aload_n 0, 1) := by decide +kernel
theorem dLAW_673 : decode code 673 = .ok (.iload 4, 2) := by decide +kernel
theorem dLAW_675 : decode code 675 = .ok (.iconst 3, 1) := by decide +kernel
theorem dLAW_676 : decode code 676 = .ok (.iadd, 1) := by decide +kernel
theorem dLAW_677 : decode code 677 = .ok (.iaload, 1) := by decide +kernel
theorem dLAW_678 : decode code 678 = .ok (.aload_n 0, 1) := by decide +kernel
theorem dLAW_679 : decode code 679 = .ok (.iload 4, 2) := by decide +kernel
theorem dLAW_681 : decode code 681 = .ok (.iconst 4, 1) := by decide +kernel
theorem dLAW_682 : decode code 682 = .ok (.iadd, 1) := by decide +kernel
theorem dLAW_683 : decode code 683 = .ok (.iaload, 1) := by decide +kernel
theorem dLAW_684 : decode code 684 = .ok (.invokevirtual 104, 3) := by decide +kernel
theorem dLAW_687 : decode code 687 = .ok (.istore 6, 2) := by decide +kernel
theorem dLAW_689 : decode code 689 = .ok (.aload_n 2, 1) := by decide +kernel
theorem dLAW_690 : decode code 690 = .ok (.invokevirtual 69, 3) := by decide +kernel
theorem dLAW_693 : decode code 693 = .ok (.iload 5, 2) := by decide +kernel
theorem dLAW_695 : decode code 695 = .ok (.if_icmp .eq 5, 3) := by decide +kernel
theorem dLAW_698 : decode code 698 = .ok (.iconst 0, 1) := by decide +kernel
theorem dLAW_699 : decode code 699 = .ok (.ireturn, 1) := by decide +kernel
theorem dLAW_700 : decode code 700 = .ok (.iload 5, 2) := by decide +kernel
theorem dLAW_702 : decode code 702 = .ok (.ifCond .ne 22, 3) := by decide +kernel
theorem dLAW_705 : decode code 705 = .ok (.aload_n 3, 1) := by decide +kernel
theorem dLAW_706 : decode code 706 = .ok (.iconst 0, 1) := by decide +kernel
theorem dLAW_707 : decode code 707 = .ok (.laload, 1) := by decide +kernel
theorem dLAW_708 : decode code 708 = .ok (.iload 6, 2) := by decide +kernel
theorem dLAW_710 : decode code 710 = .ok (.ifCond .eq 7, 3) := by decide +kernel
theorem dLAW_713 : decode code 713 = .ok (.lconst 1, 1) := by decide +kernel
theorem dLAW_714 : decode code 714 = .ok (.goto 4, 3) := by decide +kernel
theorem dLAW_717 : decode code 717 = .ok (.lconst 0, 1) := by decide +kernel
theorem dLAW_718 : decode code 718 = .ok (.lcmp, 1) := by decide +kernel
theorem dLAW_719 : decode code 719 = .ok (.ifCond .eq 5, 3) := by decide +kernel
theorem dLAW_722 : decode code 722 = .ok (.iconst 0, 1) := by decide +kernel
theorem dLAW_723 : decode code 723 = .ok (.ireturn, 1) := by decide +kernel
theorem dLAW_724 : decode code 724 = .ok (.goto 337, 3) := by decide +kernel
theorem dLAW_727 : decode code 727 = .ok (.aload_n 1, 1) := by decide +kernel
theorem dLAW_728 : decode code 728 = .ok (.aload_n 0, 1) := by decide +kernel
theorem dLAW_729 : decode code 729 = .ok (.iload 4, 2) := by decide +kernel
theorem dLAW_731 : decode code 731 = .ok (.iconst 1, 1) := by decide +kernel
theorem dLAW_732 : decode code 732 = .ok (.iadd, 1) := by decide +kernel
theorem dLAW_733 : decode code 733 = .ok (.iaload, 1) := by decide +kernel
theorem dLAW_734 : decode code 734 = .ok (.aload_n 0, 1) := by decide +kernel
theorem dLAW_735 : decode code 735 = .ok (.iload 4, 2) := by decide +kernel
theorem dLAW_737 : decode code 737 = .ok (.iconst 2, 1) := by decide +kernel
theorem dLAW_738 : decode code 738 = .ok (.iadd, 1) := by decide +kernel
theorem dLAW_739 : decode code 739 = .ok (.iaload, 1) := by decide +kernel
theorem dLAW_740 : decode code 740 = .ok (.aload_n 3, 1) := by decide +kernel
theorem dLAW_741 : decode code 741 = .ok (.invokestatic 105, 3) := by decide +kernel
theorem dLAW_744 : decode code 744 = .ok (.istore 5, 2) := by decide +kernel
theorem dLAW_746 : decode code 746 = .ok (.aload_n 2, 1) := by decide +kernel
theorem dLAW_747 : decode code 747 = .ok (.aload_n 0, 1) := by decide +kernel
theorem dLAW_748 : decode code 748 = .ok (.iload 4, 2) := by decide +kernel
theorem dLAW_750 : decode code 750 = .ok (.iconst 1, 1) := by decide +kernel
theorem dLAW_751 : decode code 751 = .ok (.iadd, 1) := by decide +kernel
theorem dLAW_752 : decode code 752 = .ok (.iaload, 1) := by decide +kernel
theorem dLAW_753 : decode code 753 = .ok (.aload_n 0, 1) := by decide +kernel
theorem dLAW_754 : decode code 754 = .ok (.iload 4, 2) := by decide +kernel
theorem dLAW_756 : decode code 756 = .ok (.iconst 2, 1) := by decide +kernel
theorem dLAW_757 : decode code 757 = .ok (.iadd, 1) := by decide +kernel
