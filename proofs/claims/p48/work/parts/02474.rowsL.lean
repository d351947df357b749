theorem dL_law_625 : decode cL_law 625 = .ok (.iconst 0, 1) := by decide +kernel
theorem dL_law_626 : decode cL_law 626 = .ok (.istore 15, 2) := by decide +kernel
theorem dL_law_628 : decode cL_law 628 = .ok (.iconst 0, 1) := by decide +kernel
theorem dL_law_629 : decode cL_law 629 = .ok (.istore 16, 2) := by decide +kernel
theorem dL_law_631 : decode cL_law 631 = .ok (.iload 16, 2) := by decide +kernel
theorem dL_law_633 : decode cL_law 633 = .ok (.aload_n 3, 1) := by decide +kernel
theorem dL_law_634 : decode cL_law 634 = .ok (.invokevirtual 118, 3) := by decide +kernel
theorem dL_law_637 : decode cL_law 637 = .ok (.if_icmp .ge 175, 3) := by decide +kernel
theorem dL_law_640 : decode cL_law 640 = .ok (.aload_n 3, 1) := by decide +kernel
theorem dL_law_641 : decode cL_law 641 = .ok (.iload 16, 2) := by decide +kernel
theorem dL_law_643 : decode cL_law 643 = .ok (.invokevirtual 121, 3) := by decide +kernel
theorem dL_law_646 : decode cL_law 646 = .ok (.aload_n 3, 1) := by decide +kernel
theorem dL_law_647 : decode cL_law 647 = .ok (.iload 16, 2) := by decide +kernel
theorem dL_law_649 : decode cL_law 649 = .ok (.invokevirtual 124, 3) := by decide +kernel
theorem dL_law_652 : decode cL_law 652 = .ok (.ifCond .lt 7, 3) := by decide +kernel
theorem dL_law_655 : decode cL_law 655 = .ok (.iconst 1, 1) := by decide +kernel
theorem dL_law_656 : decode cL_law 656 = .ok (.goto 4, 3) := by decide +kernel
theorem dL_law_659 : decode cL_law 659 = .ok (.iconst 0, 1) := by decide +kernel
theorem dL_law_660 : decode cL_law 660 = .ok (.if_icmp .eq 5, 3) := by decide +kernel
theorem dL_law_663 : decode cL_law 663 = .ok (.iconst 0, 1) := by decide +kernel
theorem dL_law_664 : decode cL_law 664 = .ok (.ireturn, 1) := by decide +kernel
theorem dL_law_665 : decode cL_law 665 = .ok (.aload_n 3, 1) := by decide +kernel
theorem dL_law_666 : decode cL_law 666 = .ok (.iload 16, 2) := by decide +kernel
theorem dL_law_668 : decode cL_law 668 = .ok (.invokevirtual 121, 3) := by decide +kernel
theorem dL_law_671 : decode cL_law 671 = .ok (.ifCond .ne 6, 3) := by decide +kernel
theorem dL_law_674 : decode cL_law 674 = .ok (.goto 132, 3) := by decide +kernel
theorem dL_law_677 : decode cL_law 677 = .ok (.iinc 15 1, 3) := by decide +kernel
theorem dL_law_680 : decode cL_law 680 = .ok (.aload_n 3, 1) := by decide +kernel
theorem dL_law_681 : decode cL_law 681 = .ok (.iload 16, 2) := by decide +kernel
theorem dL_law_683 : decode cL_law 683 = .ok (.invokevirtual 124, 3) := by decide +kernel
theorem dL_law_686 : decode cL_law 686 = .ok (.newarray .int, 2) := by decide +kernel
theorem dL_law_688 : decode cL_law 688 = .ok (.astore 17, 2) := by decide +kernel
theorem dL_law_690 : decode cL_law 690 = .ok (.iconst 0, 1) := by decide +kernel
theorem dL_law_691 : decode cL_law 691 = .ok (.istore 18, 2) := by decide +kernel
theorem dL_law_693 : decode cL_law 693 = .ok (.iload 18, 2) := by decide +kernel
theorem dL_law_695 : decode cL_law 695 = .ok (.aload 17, 2) := by decide +kernel
theorem dL_law_697 : decode cL_law 697 = .ok (.arraylength, 1) := by decide +kernel
theorem dL_law_698 : decode cL_law 698 = .ok (.if_icmp .ge 22, 3) := by decide +kernel
theorem dL_law_701 : decode cL_law 701 = .ok (.aload 17, 2) := by decide +kernel
theorem dL_law_703 : decode cL_law 703 = .ok (.iload 18, 2) := by decide +kernel
theorem dL_law_705 : decode cL_law 705 = .ok (.aload_n 3, 1) := by decide +kernel
theorem dL_law_706 : decode cL_law 706 = .ok (.iload 16, 2) := by decide +kernel
theorem dL_law_708 : decode cL_law 708 = .ok (.iload 18, 2) := by decide +kernel
theorem dL_law_710 : decode cL_law 710 = .ok (.invokevirtual 127, 3) := by decide +kernel
theorem dL_law_713 : decode cL_law 713 = .ok (.iastore, 1) := by decide +kernel
theorem dL_law_714 : decode cL_law 714 = .ok (.iinc 18 1, 3) := by decide +kernel
theorem dL_law_717 : decode cL_law 717 = .ok (.goto (-24), 3) := by decide +kernel
theorem dL_law_720 : decode cL_law 720 = .ok (.aload_n 3, 1) := by decide +kernel
theorem dL_law_721 : decode cL_law 721 = .ok (.iload 16, 2) := by decide +kernel
theorem dL_law_723 : decode cL_law 723 = .ok (.invokevirtual 130, 3) := by decide +kernel
theorem dL_law_726 : decode cL_law 726 = .ok (.istore 18, 2) := by decide +kernel
theorem dL_law_728 : decode cL_law 728 = .ok (.aload 17, 2) := by decide +kernel
theorem dL_law_730 : decode cL_law 730 = .ok (.iconst 0, 1) := by decide +kernel
theorem dL_law_731 : decode cL_law 731 = .ok (.aload 17, 2) := by decide +kernel
theorem dL_law_733 : decode cL_law 733 = .ok (.arraylength, 1) := by decide +kernel
theorem dL_law_734 : decode cL_law 734 = .ok (.invokestatic 38, 3) := by decide +kernel
theorem dL_law_737 : decode cL_law 737 = .ok (.aload_n 3, 1) := by decide +kernel
theorem dL_law_738 : decode cL_law 738 = .ok (.iload 18, 2) := by decide +kernel
theorem dL_law_740 : decode cL_law 740 = .ok (.bipush 6, 2) := by decide +kernel
theorem dL_law_742 : decode cL_law 742 = .ok (.iadd, 1) := by decide +kernel
theorem dL_law_743 : decode cL_law 743 = .ok (.invokevirtual 133, 3) := by decide +kernel
theorem dL_law_746 : decode cL_law 746 = .ok (.sipush 256, 3) := by decide +kernel
theorem dL_law_749 : decode cL_law 749 = .ok (.imul, 1) := by decide +kernel
theorem dL_law_750 : decode cL_law 750 = .ok (.aload_n 3, 1) := by decide +kernel
theorem dL_law_751 : decode cL_law 751 = .ok (.iload 18, 2) := by decide +kernel
theorem dL_law_753 : decode cL_law 753 = .ok (.bipush 7, 2) := by decide +kernel
theorem dL_law_755 : decode cL_law 755 = .ok (.iadd, 1) := by decide +kernel
theorem dL_law_756 : decode cL_law 756 = .ok (.invokevirtual 133, 3) := by decide +kernel
theorem dL_law_759 : decode cL_law 759 = .ok (.iadd, 1) := by decide +kernel
theorem dL_law_760 : decode cL_law 760 = .ok (.if_icmp .ne 44, 3) := by decide +kernel
theorem dL_law_763 : decode cL_law 763 = .ok (.aload_n 3, 1) := by decide +kernel
theorem dL_law_764 : decode cL_law 764 = .ok (.iload 18, 2) := by decide +kernel
theorem dL_law_766 : decode cL_law 766 = .ok (.invokevirtual 133, 3) := by decide +kernel
theorem dL_law_769 : decode cL_law 769 = .ok (.bipush 69, 2) := by decide +kernel
theorem dL_law_771 : decode cL_law 771 = .ok (.if_icmp .ne 33, 3) := by decide +kernel
theorem dL_law_774 : decode cL_law 774 = .ok (.aload_n 3, 1) := by decide +kernel
theorem dL_law_775 : decode cL_law 775 = .ok (.iload 18, 2) := by decide +kernel
theorem dL_law_777 : decode cL_law 777 = .ok (.iconst 2, 1) := by decide +kernel
theorem dL_law_778 : decode cL_law 778 = .ok (.iadd, 1) := by decide +kernel
theorem dL_law_779 : decode cL_law 779 = .ok (.invokevirtual 133, 3) := by decide +kernel
theorem dL_law_782 : decode cL_law 782 = .ok (.sipush 256, 3) := by decide +kernel
theorem dL_law_785 : decode cL_law 785 = .ok (.imul, 1) := by decide +kernel
theorem dL_law_786 : decode cL_law 786 = .ok (.aload_n 3, 1) := by decide +kernel
theorem dL_law_787 : decode cL_law 787 = .ok (.iload 18, 2) := by decide +kernel
theorem dL_law_789 : decode cL_law 789 = .ok (.iconst 3, 1) := by decide +kernel
theorem dL_law_790 : decode cL_law 790 = .ok (.iadd, 1) := by decide +kernel
theorem dL_law_791 : decode cL_law 791 = .ok (.invokevirtual 133, 3) := by decide +kernel
theorem dL_law_794 : decode cL_law 794 = .ok (.iadd, 1) := by decide +kernel
theorem dL_law_795 : decode cL_law 795 = .ok (.aload_n 3, 1) := by decide +kernel
theorem dL_law_796 : decode cL_law 796 = .ok (.iload 16, 2) := by decide +kernel
theorem dL_law_798 : decode cL_law 798 = .ok (.invokevirtual 136, 3) := by decide +kernel
theorem dL_law_801 : decode cL_law 801 = .ok (.if_icmp .eq 5, 3) := by decide +kernel
theorem dL_law_804 : decode cL_law 804 = .ok (.iconst 0, 1) := by decide +kernel
theorem dL_law_805 : decode cL_law 805 = .ok (.ireturn, 1) := by decide +kernel
theorem dL_law_806 : decode cL_law 806 = .ok (.iinc 16 1, 3) := by decide +kernel
theorem dL_law_809 : decode cL_law 809 = .ok (.goto (-178), 3) := by decide +kernel
theorem dL_law_812 : decode cL_law 812 = .ok (.aload_n 3, 1) := by decide +kernel
