theorem d_Law_law_618 : decode m_Law_law.2.1 618 = .ok (.invokevirtual 73, 3) := by decide +kernel
theorem d_Law_law_621 : decode m_Law_law.2.1 621 = .ok (.iload 5, 2) := by decide +kernel
theorem d_Law_law_623 : decode m_Law_law.2.1 623 = .ok (.if_icmp .eq 5, 3) := by decide +kernel
theorem d_Law_law_626 : decode m_Law_law.2.1 626 = .ok (.iconst 0, 1) := by decide +kernel
theorem d_Law_law_627 : decode m_Law_law.2.1 627 = .ok (.ireturn, 1) := by decide +kernel
theorem d_Law_law_628 : decode m_Law_law.2.1 628 = .ok (.iload 5, 2) := by decide +kernel
theorem d_Law_law_630 : decode m_Law_law.2.1 630 = .ok (.ifCond .ne 14, 3) := by decide +kernel
theorem d_Law_law_633 : decode m_Law_law.2.1 633 = .ok (.aload_n 3, 1) := by decide +kernel
theorem d_Law_law_634 : decode m_Law_law.2.1 634 = .ok (.iconst 0, 1) := by decide +kernel
theorem d_Law_law_635 : decode m_Law_law.2.1 635 = .ok (.laload, 1) := by decide +kernel
theorem d_Law_law_636 : decode m_Law_law.2.1 636 = .ok (.lload 6, 2) := by decide +kernel
theorem d_Law_law_638 : decode m_Law_law.2.1 638 = .ok (.lcmp, 1) := by decide +kernel
theorem d_Law_law_639 : decode m_Law_law.2.1 639 = .ok (.ifCond .eq 5, 3) := by decide +kernel
theorem d_Law_law_642 : decode m_Law_law.2.1 642 = .ok (.iconst 0, 1) := by decide +kernel
theorem d_Law_law_643 : decode m_Law_law.2.1 643 = .ok (.ireturn, 1) := by decide +kernel
theorem d_Law_law_644 : decode m_Law_law.2.1 644 = .ok (.goto 818, 3) := by decide +kernel
theorem d_Law_law_647 : decode m_Law_law.2.1 647 = .ok (.aload_n 1, 1) := by decide +kernel
theorem d_Law_law_648 : decode m_Law_law.2.1 648 = .ok (.aload_n 0, 1) := by decide +kernel
theorem d_Law_law_649 : decode m_Law_law.2.1 649 = .ok (.iload 4, 2) := by decide +kernel
theorem d_Law_law_651 : decode m_Law_law.2.1 651 = .ok (.iconst 1, 1) := by decide +kernel
theorem d_Law_law_652 : decode m_Law_law.2.1 652 = .ok (.iadd, 1) := by decide +kernel
theorem d_Law_law_653 : decode m_Law_law.2.1 653 = .ok (.iaload, 1) := by decide +kernel
theorem d_Law_law_654 : decode m_Law_law.2.1 654 = .ok (.aload_n 0, 1) := by decide +kernel
theorem d_Law_law_655 : decode m_Law_law.2.1 655 = .ok (.iload 4, 2) := by decide +kernel
theorem d_Law_law_657 : decode m_Law_law.2.1 657 = .ok (.iconst 2, 1) := by decide +kernel
theorem d_Law_law_658 : decode m_Law_law.2.1 658 = .ok (.iadd, 1) := by decide +kernel
theorem d_Law_law_659 : decode m_Law_law.2.1 659 = .ok (.iaload, 1) := by decide +kernel
theorem d_Law_law_660 : decode m_Law_law.2.1 660 = .ok (.i2l, 1) := by decide +kernel
theorem d_Law_law_661 : decode m_Law_law.2.1 661 = .ok (.bipush 32, 2) := by decide +kernel
theorem d_Law_law_663 : decode m_Law_law.2.1 663 = .ok (.lshl, 1) := by decide +kernel
theorem d_Law_law_664 : decode m_Law_law.2.1 664 = .ok (.aload_n 0, 1) := by decide +kernel
theorem d_Law_law_665 : decode m_Law_law.2.1 665 = .ok (.iload 4, 2) := by decide +kernel
theorem d_Law_law_667 : decode m_Law_law.2.1 667 = .ok (.iconst 3, 1) := by decide +kernel
theorem d_Law_law_668 : decode m_Law_law.2.1 668 = .ok (.iadd, 1) := by decide +kernel
theorem d_Law_law_669 : decode m_Law_law.2.1 669 = .ok (.iaload, 1) := by decide +kernel
theorem d_Law_law_670 : decode m_Law_law.2.1 670 = .ok (.i2l, 1) := by decide +kernel
theorem d_Law_law_671 : decode m_Law_law.2.1 671 = .ok (.ldc2_w 76, 3) := by decide +kernel
theorem d_Law_law_674 : decode m_Law_law.2.1 674 = .ok (.land, 1) := by decide +kernel
theorem d_Law_law_675 : decode m_Law_law.2.1 675 = .ok (.lor, 1) := by decide +kernel
theorem d_Law_law_676 : decode m_Law_law.2.1 676 = .ok (.aload_n 0, 1) := by decide +kernel
theorem d_Law_law_677 : decode m_Law_law.2.1 677 = .ok (.iload 4, 2) := by decide +kernel
theorem d_Law_law_679 : decode m_Law_law.2.1 679 = .ok (.iconst 4, 1) := by decide +kernel
theorem d_Law_law_680 : decode m_Law_law.2.1 680 = .ok (.iadd, 1) := by decide +kernel
theorem d_Law_law_681 : decode m_Law_law.2.1 681 = .ok (.iaload, 1) := by decide +kernel
theorem d_Law_law_682 : decode m_Law_law.2.1 682 = .ok (.aload_n 3, 1) := by decide +kernel
theorem d_Law_law_683 : decode m_Law_law.2.1 683 = .ok (.invokestatic 98, 3) := by decide +kernel
theorem d_Law_law_686 : decode m_Law_law.2.1 686 = .ok (.istore 5, 2) := by decide +kernel
theorem d_Law_law_688 : decode m_Law_law.2.1 688 = .ok (.aload_n 2, 1) := by decide +kernel
theorem d_Law_law_689 : decode m_Law_law.2.1 689 = .ok (.aload_n 0, 1) := by decide +kernel
theorem d_Law_law_690 : decode m_Law_law.2.1 690 = .ok (.iload 4, 2) := by decide +kernel
theorem d_Law_law_692 : decode m_Law_law.2.1 692 = .ok (.iconst 1, 1) := by decide +kernel
theorem d_Law_law_693 : decode m_Law_law.2.1 693 = .ok (.iadd, 1) := by decide +kernel
theorem d_Law_law_694 : decode m_Law_law.2.1 694 = .ok (.iaload, 1) := by decide +kernel
theorem d_Law_law_695 : decode m_Law_law.2.1 695 = .ok (.aload_n 0, 1) := by decide +kernel
theorem d_Law_law_696 : decode m_Law_law.2.1 696 = .ok (.iload 4, 2) := by decide +kernel
theorem d_Law_law_698 : decode m_Law_law.2.1 698 = .ok (.iconst 2, 1) := by decide +kernel
theorem d_Law_law_699 : decode m_Law_law.2.1 699 = .ok (.iadd, 1) := by decide +kernel
theorem d_Law_law_700 : decode m_Law_law.2.1 700 = .ok (.iaload, 1) := by decide +kernel
theorem d_Law_law_701 : decode m_Law_law.2.1 701 = .ok (.i2l, 1) := by decide +kernel
theorem d_Law_law_702 : decode m_Law_law.2.1 702 = .ok (.bipush 32, 2) := by decide +kernel
theorem d_Law_law_704 : decode m_Law_law.2.1 704 = .ok (.lshl, 1) := by decide +kernel
theorem d_Law_law_705 : decode m_Law_law.2.1 705 = .ok (.aload_n 0, 1) := by decide +kernel
theorem d_Law_law_706 : decode m_Law_law.2.1 706 = .ok (.iload 4, 2) := by decide +kernel
theorem d_Law_law_708 : decode m_Law_law.2.1 708 = .ok (.iconst 3, 1) := by decide +kernel
theorem d_Law_law_709 : decode m_Law_law.2.1 709 = .ok (.iadd, 1) := by decide +kernel
theorem d_Law_law_710 : decode m_Law_law.2.1 710 = .ok (.iaload, 1) := by decide +kernel
theorem d_Law_law_711 : decode m_Law_law.2.1 711 = .ok (.i2l, 1) := by decide +kernel
theorem d_Law_law_712 : decode m_Law_law.2.1 712 = .ok (.ldc2_w 76, 3) := by decide +kernel
theorem d_Law_law_715 : decode m_Law_law.2.1 715 = .ok (.land, 1) := by decide +kernel
theorem d_Law_law_716 : decode m_Law_law.2.1 716 = .ok (.lor, 1) := by decide +kernel
theorem d_Law_law_717 : decode m_Law_law.2.1 717 = .ok (.aload_n 0, 1) := by decide +kernel
theorem d_Law_law_718 : decode m_Law_law.2.1 718 = .ok (.iload 4, 2) := by decide +kernel
theorem d_Law_law_720 : decode m_Law_law.2.1 720 = .ok (.iconst 4, 1) := by decide +kernel
theorem d_Law_law_721 : decode m_Law_law.2.1 721 = .ok (.iadd, 1) := by decide +kernel
theorem d_Law_law_722 : decode m_Law_law.2.1 722 = .ok (.iaload, 1) := by decide +kernel
theorem d_Law_law_723 : decode m_Law_law.2.1 723 = .ok (.invokevirtual 101, 3) := by decide +kernel
theorem d_Law_law_726 : decode m_Law_law.2.1 726 = .ok (.lstore 6, 2) := by decide +kernel
theorem d_Law_law_728 : decode m_Law_law.2.1 728 = .ok (.aload_n 2, 1) := by decide +kernel
theorem d_Law_law_729 : decode m_Law_law.2.1 729 = .ok (.invokevirtual 73, 3) := by decide +kernel
theorem d_Law_law_732 : decode m_Law_law.2.1 732 = .ok (.iload 5, 2) := by decide +kernel
theorem d_Law_law_734 : decode m_Law_law.2.1 734 = .ok (.if_icmp .eq 5, 3) := by decide +kernel
theorem d_Law_law_737 : decode m_Law_law.2.1 737 = .ok (.iconst 0, 1) := by decide +kernel
theorem d_Law_law_738 : decode m_Law_law.2.1 738 = .ok (.ireturn, 1) := by decide +kernel
theorem d_Law_law_739 : decode m_Law_law.2.1 739 = .ok (.iload 5, 2) := by decide +kernel
theorem d_Law_law_741 : decode m_Law_law.2.1 741 = .ok (.ifCond .ne 14, 3) := by decide +kernel
theorem d_Law_law_744 : decode m_Law_law.2.1 744 = .ok (.aload_n 3, 1) := by decide +kernel
theorem d_Law_law_745 : decode m_Law_law.2.1 745 = .ok (.iconst 0, 1) := by decide +kernel
theorem d_Law_law_746 : decode m_Law_law.2.1 746 = .ok (.laload, 1) := by decide +kernel
theorem d_Law_law_747 : decode m_Law_law.2.1 747 = .ok (.lload 6, 2) := by decide +kernel
theorem d_Law_law_749 : decode m_Law_law.2.1 749 = .ok (.lcmp, 1) := by decide +kernel
theorem d_Law_law_750 : decode m_Law_law.2.1 750 = .ok (.ifCond .eq 5, 3) := by decide +kernel
theorem d_Law_law_753 : decode m_Law_law.2.1 753 = .ok (.iconst 0, 1) := by decide +kernel
theorem d_Law_law_754 : decode m_Law_law.2.1 754 = .ok (.ireturn, 1) := by decide +kernel
theorem d_Law_law_755 : decode m_Law_law.2.1 755 = .ok (.goto 707, 3) := by decide +kernel
theorem d_Law_law_758 : decode m_Law_law.2.1 758 = .ok (.aload_n 1, 1) := by decide +kernel
theorem d_Law_law_759 : decode m_Law_law.2.1 759 = .ok (.aload_n 0, 1) := by decide +kernel
theorem d_Law_law_760 : decode m_Law_law.2.1 760 = .ok (.iload 4, 2) := by decide +kernel
theorem d_Law_law_762 : decode m_Law_law.2.1 762 = .ok (.iconst 1, 1) := by decide +kernel
theorem d_Law_law_763 : decode m_Law_law.2.1 763 = .ok (.iadd, 1) := by decide +kernel
theorem d_Law_law_764 : decode m_Law_law.2.1 764 = .ok (.iaload, 1) := by decide +kernel
theorem d_Law_law_765 : decode m_Law_law.2.1 765 = .ok (.aload_n 0, 1) := by decide +kernel
theorem d_Law_law_766 : decode m_Law_law.2.1 766 = .ok (.iload 4, 2) := by decide +kernel
theorem d_Law_law_768 : decode m_Law_law.2.1 768 = .ok (.iconst 2, 1) := by decide +kernel
theorem d_Law_law_769 : decode m_Law_law.2.1 769 = .ok (.iadd, 1) := by decide +kernel
theorem d_Law_law_770 : decode m_Law_law.2.1 770 = .ok (.iaload, 1) := by decide +kernel
theorem d_Law_law_771 : decode m_Law_law.2.1 771 = .ok (.i2l, 1) := by decide +kernel
theorem d_Law_law_772 : decode m_Law_law.2.1 772 = .ok (.bipush 32, 2) := by decide +kernel
theorem d_Law_law_774 : decode m_Law_law.2.1 774 = .ok (.lshl, 1) := by decide +kernel
theorem d_Law_law_775 : decode m_Law_law.2.1 775 = .ok (.aload_n 0, 1) := by decide +kernel
theorem d_Law_law_776 : decode m_Law_law.2.1 776 = .ok (.iload 4, 2) := by decide +kernel
theorem d_Law_law_778 : decode m_Law_law.2.1 778 = .ok (.iconst 3, 1) := by decide +kernel
theorem d_Law_law_779 : decode m_Law_law.2.1 779 = .ok (.iadd, 1) := by decide +kernel
theorem d_Law_law_780 : decode m_Law_law.2.1 780 = .ok (.iaload, 1) := by decide +kernel
theorem d_Law_law_781 : decode m_Law_law.2.1 781 = .ok (.i2l, 1) := by decide +kernel
theorem d_Law_law_782 : decode m_Law_law.2.1 782 = .ok (.ldc2_w 76, 3) := by decide +kernel
theorem d_Law_law_785 : decode m_Law_law.2.1 785 = .ok (.land, 1) := by decide +kernel
theorem d_Law_law_786 : decode m_Law_law.2.1 786 = .ok (.lor, 1) := by decide +kernel
theorem d_Law_law_787 : decode m_Law_law.2.1 787 = .ok (.aload_n 0, 1) := by decide +kernel
theorem d_Law_law_788 : decode m_Law_law.2.1 788 = .ok (.iload 4, 2) := by decide +kernel
theorem d_Law_law_790 : decode m_Law_law.2.1 790 = .ok (.iconst 4, 1) := by decide +kernel
