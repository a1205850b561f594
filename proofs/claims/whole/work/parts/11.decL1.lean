theorem q_L_law_606 : decode m_L_law.2.1 606 = .ok (.iaload, 1) := by decide +kernel
theorem q_L_law_607 : decode m_L_law.2.1 607 = .ok (.invokevirtual 66, 3) := by decide +kernel
theorem q_L_law_610 : decode m_L_law.2.1 610 = .ok (.if_icmp .eq 455, 3) := by decide +kernel
theorem q_L_law_613 : decode m_L_law.2.1 613 = .ok (.iconst 0, 1) := by decide +kernel
theorem q_L_law_614 : decode m_L_law.2.1 614 = .ok (.ireturn, 1) := by decide +kernel
theorem q_L_law_615 : decode m_L_law.2.1 615 = .ok (.aload_n 1, 1) := by decide +kernel
theorem q_L_law_616 : decode m_L_law.2.1 616 = .ok (.invokevirtual 67, 3) := by decide +kernel
theorem q_L_law_619 : decode m_L_law.2.1 619 = .ok (.aload_n 2, 1) := by decide +kernel
theorem q_L_law_620 : decode m_L_law.2.1 620 = .ok (.invokevirtual 71, 3) := by decide +kernel
theorem q_L_law_623 : decode m_L_law.2.1 623 = .ok (.lcmp, 1) := by decide +kernel
theorem q_L_law_624 : decode m_L_law.2.1 624 = .ok (.ifCond .eq 441, 3) := by decide +kernel
theorem q_L_law_627 : decode m_L_law.2.1 627 = .ok (.iconst 0, 1) := by decide +kernel
theorem q_L_law_628 : decode m_L_law.2.1 628 = .ok (.ireturn, 1) := by decide +kernel
theorem q_L_law_629 : decode m_L_law.2.1 629 = .ok (.aload_n 1, 1) := by decide +kernel
theorem q_L_law_630 : decode m_L_law.2.1 630 = .ok (.aload_n 0, 1) := by decide +kernel
theorem q_L_law_631 : decode m_L_law.2.1 631 = .ok (.iload_n 3, 1) := by decide +kernel
theorem q_L_law_632 : decode m_L_law.2.1 632 = .ok (.iconst 1, 1) := by decide +kernel
theorem q_L_law_633 : decode m_L_law.2.1 633 = .ok (.iadd, 1) := by decide +kernel
theorem q_L_law_634 : decode m_L_law.2.1 634 = .ok (.iaload, 1) := by decide +kernel
theorem q_L_law_635 : decode m_L_law.2.1 635 = .ok (.invokevirtual 72, 3) := by decide +kernel
theorem q_L_law_638 : decode m_L_law.2.1 638 = .ok (.aload_n 2, 1) := by decide +kernel
theorem q_L_law_639 : decode m_L_law.2.1 639 = .ok (.aload_n 0, 1) := by decide +kernel
theorem q_L_law_640 : decode m_L_law.2.1 640 = .ok (.iload_n 3, 1) := by decide +kernel
theorem q_L_law_641 : decode m_L_law.2.1 641 = .ok (.iconst 1, 1) := by decide +kernel
theorem q_L_law_642 : decode m_L_law.2.1 642 = .ok (.iadd, 1) := by decide +kernel
theorem q_L_law_643 : decode m_L_law.2.1 643 = .ok (.iaload, 1) := by decide +kernel
theorem q_L_law_644 : decode m_L_law.2.1 644 = .ok (.invokevirtual 76, 3) := by decide +kernel
theorem q_L_law_647 : decode m_L_law.2.1 647 = .ok (.lcmp, 1) := by decide +kernel
theorem q_L_law_648 : decode m_L_law.2.1 648 = .ok (.ifCond .eq 417, 3) := by decide +kernel
theorem q_L_law_651 : decode m_L_law.2.1 651 = .ok (.iconst 0, 1) := by decide +kernel
theorem q_L_law_652 : decode m_L_law.2.1 652 = .ok (.ireturn, 1) := by decide +kernel
theorem q_L_law_653 : decode m_L_law.2.1 653 = .ok (.aload_n 1, 1) := by decide +kernel
theorem q_L_law_654 : decode m_L_law.2.1 654 = .ok (.aload_n 0, 1) := by decide +kernel
theorem q_L_law_655 : decode m_L_law.2.1 655 = .ok (.iload_n 3, 1) := by decide +kernel
theorem q_L_law_656 : decode m_L_law.2.1 656 = .ok (.iconst 1, 1) := by decide +kernel
theorem q_L_law_657 : decode m_L_law.2.1 657 = .ok (.iadd, 1) := by decide +kernel
theorem q_L_law_658 : decode m_L_law.2.1 658 = .ok (.iaload, 1) := by decide +kernel
theorem q_L_law_659 : decode m_L_law.2.1 659 = .ok (.invokevirtual 77, 3) := by decide +kernel
theorem q_L_law_662 : decode m_L_law.2.1 662 = .ok (.aload_n 2, 1) := by decide +kernel
theorem q_L_law_663 : decode m_L_law.2.1 663 = .ok (.aload_n 0, 1) := by decide +kernel
theorem q_L_law_664 : decode m_L_law.2.1 664 = .ok (.iload_n 3, 1) := by decide +kernel
theorem q_L_law_665 : decode m_L_law.2.1 665 = .ok (.iconst 1, 1) := by decide +kernel
theorem q_L_law_666 : decode m_L_law.2.1 666 = .ok (.iadd, 1) := by decide +kernel
theorem q_L_law_667 : decode m_L_law.2.1 667 = .ok (.iaload, 1) := by decide +kernel
theorem q_L_law_668 : decode m_L_law.2.1 668 = .ok (.invokevirtual 80, 3) := by decide +kernel
theorem q_L_law_671 : decode m_L_law.2.1 671 = .ok (.if_icmp .eq 394, 3) := by decide +kernel
theorem q_L_law_674 : decode m_L_law.2.1 674 = .ok (.iconst 0, 1) := by decide +kernel
theorem q_L_law_675 : decode m_L_law.2.1 675 = .ok (.ireturn, 1) := by decide +kernel
theorem q_L_law_676 : decode m_L_law.2.1 676 = .ok (.aload_n 1, 1) := by decide +kernel
theorem q_L_law_677 : decode m_L_law.2.1 677 = .ok (.invokevirtual 81, 3) := by decide +kernel
theorem q_L_law_680 : decode m_L_law.2.1 680 = .ok (.aload_n 2, 1) := by decide +kernel
theorem q_L_law_681 : decode m_L_law.2.1 681 = .ok (.invokevirtual 85, 3) := by decide +kernel
theorem q_L_law_684 : decode m_L_law.2.1 684 = .ok (.if_icmp .eq 381, 3) := by decide +kernel
theorem q_L_law_687 : decode m_L_law.2.1 687 = .ok (.iconst 0, 1) := by decide +kernel
theorem q_L_law_688 : decode m_L_law.2.1 688 = .ok (.ireturn, 1) := by decide +kernel
theorem q_L_law_689 : decode m_L_law.2.1 689 = .ok (.aload_n 1, 1) := by decide +kernel
theorem q_L_law_690 : decode m_L_law.2.1 690 = .ok (.aload_n 0, 1) := by decide +kernel
theorem q_L_law_691 : decode m_L_law.2.1 691 = .ok (.iload_n 3, 1) := by decide +kernel
theorem q_L_law_692 : decode m_L_law.2.1 692 = .ok (.iconst 1, 1) := by decide +kernel
theorem q_L_law_693 : decode m_L_law.2.1 693 = .ok (.iadd, 1) := by decide +kernel
theorem q_L_law_694 : decode m_L_law.2.1 694 = .ok (.iaload, 1) := by decide +kernel
theorem q_L_law_695 : decode m_L_law.2.1 695 = .ok (.aload_n 0, 1) := by decide +kernel
theorem q_L_law_696 : decode m_L_law.2.1 696 = .ok (.iload_n 3, 1) := by decide +kernel
theorem q_L_law_697 : decode m_L_law.2.1 697 = .ok (.iconst 2, 1) := by decide +kernel
theorem q_L_law_698 : decode m_L_law.2.1 698 = .ok (.iadd, 1) := by decide +kernel
theorem q_L_law_699 : decode m_L_law.2.1 699 = .ok (.iaload, 1) := by decide +kernel
theorem q_L_law_700 : decode m_L_law.2.1 700 = .ok (.invokevirtual 86, 3) := by decide +kernel
theorem q_L_law_703 : decode m_L_law.2.1 703 = .ok (.aload_n 2, 1) := by decide +kernel
theorem q_L_law_704 : decode m_L_law.2.1 704 = .ok (.aload_n 0, 1) := by decide +kernel
theorem q_L_law_705 : decode m_L_law.2.1 705 = .ok (.iload_n 3, 1) := by decide +kernel
theorem q_L_law_706 : decode m_L_law.2.1 706 = .ok (.iconst 1, 1) := by decide +kernel
theorem q_L_law_707 : decode m_L_law.2.1 707 = .ok (.iadd, 1) := by decide +kernel
theorem q_L_law_708 : decode m_L_law.2.1 708 = .ok (.iaload, 1) := by decide +kernel
theorem q_L_law_709 : decode m_L_law.2.1 709 = .ok (.aload_n 0, 1) := by decide +kernel
theorem q_L_law_710 : decode m_L_law.2.1 710 = .ok (.iload_n 3, 1) := by decide +kernel
theorem q_L_law_711 : decode m_L_law.2.1 711 = .ok (.iconst 2, 1) := by decide +kernel
theorem q_L_law_712 : decode m_L_law.2.1 712 = .ok (.iadd, 1) := by decide +kernel
theorem q_L_law_713 : decode m_L_law.2.1 713 = .ok (.iaload, 1) := by decide +kernel
theorem q_L_law_714 : decode m_L_law.2.1 714 = .ok (.invokevirtual 90, 3) := by decide +kernel
theorem q_L_law_717 : decode m_L_law.2.1 717 = .ok (.lcmp, 1) := by decide +kernel
theorem q_L_law_718 : decode m_L_law.2.1 718 = .ok (.ifCond .eq 347, 3) := by decide +kernel
theorem q_L_law_721 : decode m_L_law.2.1 721 = .ok (.iconst 0, 1) := by decide +kernel
theorem q_L_law_722 : decode m_L_law.2.1 722 = .ok (.ireturn, 1) := by decide +kernel
theorem q_L_law_723 : decode m_L_law.2.1 723 = .ok (.aload_n 1, 1) := by decide +kernel
theorem q_L_law_724 : decode m_L_law.2.1 724 = .ok (.aload_n 0, 1) := by decide +kernel
theorem q_L_law_725 : decode m_L_law.2.1 725 = .ok (.iload_n 3, 1) := by decide +kernel
theorem q_L_law_726 : decode m_L_law.2.1 726 = .ok (.iconst 1, 1) := by decide +kernel
theorem q_L_law_727 : decode m_L_law.2.1 727 = .ok (.iadd, 1) := by decide +kernel
theorem q_L_law_728 : decode m_L_law.2.1 728 = .ok (.iaload, 1) := by decide +kernel
theorem q_L_law_729 : decode m_L_law.2.1 729 = .ok (.aload_n 0, 1) := by decide +kernel
theorem q_L_law_730 : decode m_L_law.2.1 730 = .ok (.iload_n 3, 1) := by decide +kernel
theorem q_L_law_731 : decode m_L_law.2.1 731 = .ok (.iconst 2, 1) := by decide +kernel
theorem q_L_law_732 : decode m_L_law.2.1 732 = .ok (.iadd, 1) := by decide +kernel
theorem q_L_law_733 : decode m_L_law.2.1 733 = .ok (.iaload, 1) := by decide +kernel
theorem q_L_law_734 : decode m_L_law.2.1 734 = .ok (.ifCond .eq 7, 3) := by decide +kernel
theorem q_L_law_737 : decode m_L_law.2.1 737 = .ok (.iconst 1, 1) := by decide +kernel
theorem q_L_law_738 : decode m_L_law.2.1 738 = .ok (.goto 4, 3) := by decide +kernel
theorem q_L_law_741 : decode m_L_law.2.1 741 = .ok (.iconst 0, 1) := by decide +kernel
theorem q_L_law_742 : decode m_L_law.2.1 742 = .ok (.invokevirtual 91, 3) := by decide +kernel
theorem q_L_law_745 : decode m_L_law.2.1 745 = .ok (.aload_n 2, 1) := by decide +kernel
theorem q_L_law_746 : decode m_L_law.2.1 746 = .ok (.aload_n 0, 1) := by decide +kernel
theorem q_L_law_747 : decode m_L_law.2.1 747 = .ok (.iload_n 3, 1) := by decide +kernel
theorem q_L_law_748 : decode m_L_law.2.1 748 = .ok (.iconst 1, 1) := by decide +kernel
theorem q_L_law_749 : decode m_L_law.2.1 749 = .ok (.iadd, 1) := by decide +kernel
theorem q_L_law_750 : decode m_L_law.2.1 750 = .ok (.iaload, 1) := by decide +kernel
theorem q_L_law_751 : decode m_L_law.2.1 751 = .ok (.aload_n 0, 1) := by decide +kernel
theorem q_L_law_752 : decode m_L_law.2.1 752 = .ok (.iload_n 3, 1) := by decide +kernel
theorem q_L_law_753 : decode m_L_law.2.1 753 = .ok (.iconst 2, 1) := by decide +kernel
theorem q_L_law_754 : decode m_L_law.2.1 754 = .ok (.iadd, 1) := by decide +kernel
theorem q_L_law_755 : decode m_L_law.2.1 755 = .ok (.iaload, 1) := by decide +kernel
theorem q_L_law_756 : decode m_L_law.2.1 756 = .ok (.ifCond .eq 7, 3) := by decide +kernel
theorem q_L_law_759 : decode m_L_law.2.1 759 = .ok (.iconst 1, 1) := by decide +kernel
theorem q_L_law_760 : decode m_L_law.2.1 760 = .ok (.goto 4, 3) := by decide +kernel
theorem q_L_law_763 : decode m_L_law.2.1 763 = .ok (.iconst 0, 1) := by decide +kernel
theorem q_L_law_764 : decode m_L_law.2.1 764 = .ok (.invokevirtual 95, 3) := by decide +kernel
theorem q_L_law_767 : decode m_L_law.2.1 767 = .ok (.if_icmp .eq 298, 3) := by decide +kernel
theorem q_L_law_770 : decode m_L_law.2.1 770 = .ok (.iconst 0, 1) := by decide +kernel
theorem q_L_law_771 : decode m_L_law.2.1 771 = .ok (.ireturn, 1) := by decide +kernel
theorem q_L_law_772 : decode m_L_law.2.1 772 = .ok (.aload_n 1, 1) := by decide +kernel
theorem q_L_law_773 : decode m_L_law.2.1 773 = .ok (.aload_n 0, 1) := by decide +kernel
theorem q_L_law_774 : decode m_L_law.2.1 774 = .ok (.iload_n 3, 1) := by decide +kernel
theorem q_L_law_775 : decode m_L_law.2.1 775 = .ok (.iconst 1, 1) := by decide +kernel
theorem q_L_law_776 : decode m_L_law.2.1 776 = .ok (.iadd, 1) := by decide +kernel
theorem q_L_law_777 : decode m_L_law.2.1 777 = .ok (.iaload, 1) := by decide +kernel
theorem q_L_law_778 : decode m_L_law.2.1 778 = .ok (.i2l, 1) := by decide +kernel
theorem q_L_law_779 : decode m_L_law.2.1 779 = .ok (.bipush 32, 2) := by decide +kernel
theorem q_L_law_781 : decode m_L_law.2.1 781 = .ok (.lshl, 1) := by decide +kernel
theorem q_L_law_782 : decode m_L_law.2.1 782 = .ok (.aload_n 0, 1) := by decide +kernel
theorem q_L_law_783 : decode m_L_law.2.1 783 = .ok (.iload_n 3, 1) := by decide +kernel
theorem q_L_law_784 : decode m_L_law.2.1 784 = .ok (.iconst 2, 1) := by decide +kernel
theorem q_L_law_785 : decode m_L_law.2.1 785 = .ok (.iadd, 1) := by decide +kernel
theorem q_L_law_786 : decode m_L_law.2.1 786 = .ok (.iaload, 1) := by decide +kernel
theorem q_L_law_787 : decode m_L_law.2.1 787 = .ok (.i2l, 1) := by decide +kernel
theorem q_L_law_788 : decode m_L_law.2.1 788 = .ok (.ldc2_w 26, 3) := by decide +kernel
theorem q_L_law_791 : decode m_L_law.2.1 791 = .ok (.land, 1) := by decide +kernel
theorem q_L_law_792 : decode m_L_law.2.1 792 = .ok (.lor, 1) := by decide +kernel
theorem q_L_law_793 : decode m_L_law.2.1 793 = .ok (.invokevirtual 96, 3) := by decide +kernel
theorem q_L_law_796 : decode m_L_law.2.1 796 = .ok (.aload_n 2, 1) := by decide +kernel
theorem q_L_law_797 : decode m_L_law.2.1 797 = .ok (.aload_n 0, 1) := by decide +kernel
theorem q_L_law_798 : decode m_L_law.2.1 798 = .ok (.iload_n 3, 1) := by decide +kernel
theorem q_L_law_799 : decode m_L_law.2.1 799 = .ok (.iconst 1, 1) := by decide +kernel
theorem q_L_law_800 : decode m_L_law.2.1 800 = .ok (.iadd, 1) := by decide +kernel
theorem q_L_law_801 : decode m_L_law.2.1 801 = .ok (.iaload, 1) := by decide +kernel
theorem q_L_law_802 : decode m_L_law.2.1 802 = .ok (.i2l, 1) := by decide +kernel
theorem q_L_law_803 : decode m_L_law.2.1 803 = .ok (.bipush 32, 2) := by decide +kernel
theorem q_L_law_805 : decode m_L_law.2.1 805 = .ok (.lshl, 1) := by decide +kernel
theorem q_L_law_806 : decode m_L_law.2.1 806 = .ok (.aload_n 0, 1) := by decide +kernel
theorem q_L_law_807 : decode m_L_law.2.1 807 = .ok (.iload_n 3, 1) := by decide +kernel
theorem q_L_law_808 : decode m_L_law.2.1 808 = .ok (.iconst 2, 1) := by decide +kernel
theorem q_L_law_809 : decode m_L_law.2.1 809 = .ok (.iadd, 1) := by decide +kernel
theorem q_L_law_810 : decode m_L_law.2.1 810 = .ok (.iaload, 1) := by decide +kernel
theorem q_L_law_811 : decode m_L_law.2.1 811 = .ok (.i2l, 1) := by decide +kernel
theorem q_L_law_812 : decode m_L_law.2.1 812 = .ok (.ldc2_w 26, 3) := by decide +kernel
theorem q_L_law_815 : decode m_L_law.2.1 815 = .ok (.land, 1) := by decide +kernel
theorem q_L_law_816 : decode m_L_law.2.1 816 = .ok (.lor, 1) := by decide +kernel
theorem q_L_law_817 : decode m_L_law.2.1 817 = .ok (.invokevirtual 99, 3) := by decide +kernel
theorem q_L_law_820 : decode m_L_law.2.1 820 = .ok (.if_icmp .eq 245, 3) := by decide +kernel
theorem q_L_law_823 : decode m_L_law.2.1 823 = .ok (.iconst 0, 1) := by decide +kernel
theorem q_L_law_824 : decode m_L_law.2.1 824 = .ok (.ireturn, 1) := by decide +kernel
theorem q_L_law_825 : decode m_L_law.2.1 825 = .ok (.aload_n 1, 1) := by decide +kernel
theorem q_L_law_826 : decode m_L_law.2.1 826 = .ok (.aload_n 0, 1) := by decide +kernel
theorem q_L_law_827 : decode m_L_law.2.1 827 = .ok (.iload_n 3, 1) := by decide +kernel
theorem q_L_law_828 : decode m_L_law.2.1 828 = .ok (.iconst 1, 1) := by decide +kernel
theorem q_L_law_829 : decode m_L_law.2.1 829 = .ok (.iadd, 1) := by decide +kernel
theorem q_L_law_830 : decode m_L_law.2.1 830 = .ok (.iaload, 1) := by decide +kernel
theorem q_L_law_831 : decode m_L_law.2.1 831 = .ok (.invokevirtual 100, 3) := by decide +kernel
theorem q_L_law_834 : decode m_L_law.2.1 834 = .ok (.aload_n 2, 1) := by decide +kernel
theorem q_L_law_835 : decode m_L_law.2.1 835 = .ok (.aload_n 0, 1) := by decide +kernel
theorem q_L_law_836 : decode m_L_law.2.1 836 = .ok (.iload_n 3, 1) := by decide +kernel
theorem q_L_law_837 : decode m_L_law.2.1 837 = .ok (.iconst 1, 1) := by decide +kernel
theorem q_L_law_838 : decode m_L_law.2.1 838 = .ok (.iadd, 1) := by decide +kernel
theorem q_L_law_839 : decode m_L_law.2.1 839 = .ok (.iaload, 1) := by decide +kernel
theorem q_L_law_840 : decode m_L_law.2.1 840 = .ok (.invokevirtual 103, 3) := by decide +kernel
theorem q_L_law_843 : decode m_L_law.2.1 843 = .ok (.if_icmp .eq 222, 3) := by decide +kernel
theorem q_L_law_846 : decode m_L_law.2.1 846 = .ok (.iconst 0, 1) := by decide +kernel
theorem q_L_law_847 : decode m_L_law.2.1 847 = .ok (.ireturn, 1) := by decide +kernel
theorem q_L_law_848 : decode m_L_law.2.1 848 = .ok (.aload_n 1, 1) := by decide +kernel
theorem q_L_law_849 : decode m_L_law.2.1 849 = .ok (.aload_n 0, 1) := by decide +kernel
theorem q_L_law_850 : decode m_L_law.2.1 850 = .ok (.iload_n 3, 1) := by decide +kernel
theorem q_L_law_851 : decode m_L_law.2.1 851 = .ok (.iconst 1, 1) := by decide +kernel
theorem q_L_law_852 : decode m_L_law.2.1 852 = .ok (.iadd, 1) := by decide +kernel
theorem q_L_law_853 : decode m_L_law.2.1 853 = .ok (.iaload, 1) := by decide +kernel
theorem q_L_law_854 : decode m_L_law.2.1 854 = .ok (.invokevirtual 104, 3) := by decide +kernel
theorem q_L_law_857 : decode m_L_law.2.1 857 = .ok (.aload_n 2, 1) := by decide +kernel
theorem q_L_law_858 : decode m_L_law.2.1 858 = .ok (.aload_n 0, 1) := by decide +kernel
theorem q_L_law_859 : decode m_L_law.2.1 859 = .ok (.iload_n 3, 1) := by decide +kernel
theorem q_L_law_860 : decode m_L_law.2.1 860 = .ok (.iconst 1, 1) := by decide +kernel
theorem q_L_law_861 : decode m_L_law.2.1 861 = .ok (.iadd, 1) := by decide +kernel
theorem q_L_law_862 : decode m_L_law.2.1 862 = .ok (.iaload, 1) := by decide +kernel
theorem q_L_law_863 : decode m_L_law.2.1 863 = .ok (.invokevirtual 107, 3) := by decide +kernel
theorem q_L_law_866 : decode m_L_law.2.1 866 = .ok (.lcmp, 1) := by decide +kernel
theorem q_L_law_867 : decode m_L_law.2.1 867 = .ok (.ifCond .eq 198, 3) := by decide +kernel
theorem q_L_law_870 : decode m_L_law.2.1 870 = .ok (.iconst 0, 1) := by decide +kernel
theorem q_L_law_871 : decode m_L_law.2.1 871 = .ok (.ireturn, 1) := by decide +kernel
theorem q_L_law_872 : decode m_L_law.2.1 872 = .ok (.aload_n 1, 1) := by decide +kernel
theorem q_L_law_873 : decode m_L_law.2.1 873 = .ok (.aload_n 0, 1) := by decide +kernel
theorem q_L_law_874 : decode m_L_law.2.1 874 = .ok (.iload_n 3, 1) := by decide +kernel
theorem q_L_law_875 : decode m_L_law.2.1 875 = .ok (.iconst 1, 1) := by decide +kernel
theorem q_L_law_876 : decode m_L_law.2.1 876 = .ok (.iadd, 1) := by decide +kernel
theorem q_L_law_877 : decode m_L_law.2.1 877 = .ok (.iaload, 1) := by decide +kernel
theorem q_L_law_878 : decode m_L_law.2.1 878 = .ok (.invokevirtual 108, 3) := by decide +kernel
theorem q_L_law_881 : decode m_L_law.2.1 881 = .ok (.aload_n 2, 1) := by decide +kernel
theorem q_L_law_882 : decode m_L_law.2.1 882 = .ok (.aload_n 0, 1) := by decide +kernel
theorem q_L_law_883 : decode m_L_law.2.1 883 = .ok (.iload_n 3, 1) := by decide +kernel
theorem q_L_law_884 : decode m_L_law.2.1 884 = .ok (.iconst 1, 1) := by decide +kernel
theorem q_L_law_885 : decode m_L_law.2.1 885 = .ok (.iadd, 1) := by decide +kernel
theorem q_L_law_886 : decode m_L_law.2.1 886 = .ok (.iaload, 1) := by decide +kernel
theorem q_L_law_887 : decode m_L_law.2.1 887 = .ok (.invokevirtual 111, 3) := by decide +kernel
theorem q_L_law_890 : decode m_L_law.2.1 890 = .ok (.if_icmp .eq 175, 3) := by decide +kernel
theorem q_L_law_893 : decode m_L_law.2.1 893 = .ok (.iconst 0, 1) := by decide +kernel
theorem q_L_law_894 : decode m_L_law.2.1 894 = .ok (.ireturn, 1) := by decide +kernel
theorem q_L_law_895 : decode m_L_law.2.1 895 = .ok (.aload_n 1, 1) := by decide +kernel
theorem q_L_law_896 : decode m_L_law.2.1 896 = .ok (.aload_n 0, 1) := by decide +kernel
theorem q_L_law_897 : decode m_L_law.2.1 897 = .ok (.iload_n 3, 1) := by decide +kernel
theorem q_L_law_898 : decode m_L_law.2.1 898 = .ok (.iconst 1, 1) := by decide +kernel
theorem q_L_law_899 : decode m_L_law.2.1 899 = .ok (.iadd, 1) := by decide +kernel
theorem q_L_law_900 : decode m_L_law.2.1 900 = .ok (.iaload, 1) := by decide +kernel
theorem q_L_law_901 : decode m_L_law.2.1 901 = .ok (.aload_n 0, 1) := by decide +kernel
theorem q_L_law_902 : decode m_L_law.2.1 902 = .ok (.iload_n 3, 1) := by decide +kernel
theorem q_L_law_903 : decode m_L_law.2.1 903 = .ok (.iconst 2, 1) := by decide +kernel
theorem q_L_law_904 : decode m_L_law.2.1 904 = .ok (.iadd, 1) := by decide +kernel
theorem q_L_law_905 : decode m_L_law.2.1 905 = .ok (.iaload, 1) := by decide +kernel
theorem q_L_law_906 : decode m_L_law.2.1 906 = .ok (.invokevirtual 112, 3) := by decide +kernel
theorem q_L_law_909 : decode m_L_law.2.1 909 = .ok (.aload_n 2, 1) := by decide +kernel
theorem q_L_law_910 : decode m_L_law.2.1 910 = .ok (.aload_n 0, 1) := by decide +kernel
theorem q_L_law_911 : decode m_L_law.2.1 911 = .ok (.iload_n 3, 1) := by decide +kernel
theorem q_L_law_912 : decode m_L_law.2.1 912 = .ok (.iconst 1, 1) := by decide +kernel
theorem q_L_law_913 : decode m_L_law.2.1 913 = .ok (.iadd, 1) := by decide +kernel
theorem q_L_law_914 : decode m_L_law.2.1 914 = .ok (.iaload, 1) := by decide +kernel
theorem q_L_law_915 : decode m_L_law.2.1 915 = .ok (.aload_n 0, 1) := by decide +kernel
theorem q_L_law_916 : decode m_L_law.2.1 916 = .ok (.iload_n 3, 1) := by decide +kernel
theorem q_L_law_917 : decode m_L_law.2.1 917 = .ok (.iconst 2, 1) := by decide +kernel
theorem q_L_law_918 : decode m_L_law.2.1 918 = .ok (.iadd, 1) := by decide +kernel
theorem q_L_law_919 : decode m_L_law.2.1 919 = .ok (.iaload, 1) := by decide +kernel
theorem q_L_law_920 : decode m_L_law.2.1 920 = .ok (.invokevirtual 115, 3) := by decide +kernel
theorem q_L_law_923 : decode m_L_law.2.1 923 = .ok (.lcmp, 1) := by decide +kernel
theorem q_L_law_924 : decode m_L_law.2.1 924 = .ok (.ifCond .eq 141, 3) := by decide +kernel
theorem q_L_law_927 : decode m_L_law.2.1 927 = .ok (.iconst 0, 1) := by decide +kernel
theorem q_L_law_928 : decode m_L_law.2.1 928 = .ok (.ireturn, 1) := by decide +kernel
theorem q_L_law_929 : decode m_L_law.2.1 929 = .ok (.aload_n 1, 1) := by decide +kernel
theorem q_L_law_930 : decode m_L_law.2.1 930 = .ok (.aload_n 0, 1) := by decide +kernel
theorem q_L_law_931 : decode m_L_law.2.1 931 = .ok (.iload_n 3, 1) := by decide +kernel
theorem q_L_law_932 : decode m_L_law.2.1 932 = .ok (.iconst 1, 1) := by decide +kernel
theorem q_L_law_933 : decode m_L_law.2.1 933 = .ok (.iadd, 1) := by decide +kernel
theorem q_L_law_934 : decode m_L_law.2.1 934 = .ok (.iaload, 1) := by decide +kernel
theorem q_L_law_935 : decode m_L_law.2.1 935 = .ok (.invokevirtual 116, 3) := by decide +kernel
theorem q_L_law_938 : decode m_L_law.2.1 938 = .ok (.aload_n 2, 1) := by decide +kernel
theorem q_L_law_939 : decode m_L_law.2.1 939 = .ok (.aload_n 0, 1) := by decide +kernel
theorem q_L_law_940 : decode m_L_law.2.1 940 = .ok (.iload_n 3, 1) := by decide +kernel
theorem q_L_law_941 : decode m_L_law.2.1 941 = .ok (.iconst 1, 1) := by decide +kernel
theorem q_L_law_942 : decode m_L_law.2.1 942 = .ok (.iadd, 1) := by decide +kernel
theorem q_L_law_943 : decode m_L_law.2.1 943 = .ok (.iaload, 1) := by decide +kernel
theorem q_L_law_944 : decode m_L_law.2.1 944 = .ok (.invokevirtual 119, 3) := by decide +kernel
theorem q_L_law_947 : decode m_L_law.2.1 947 = .ok (.if_icmp .eq 118, 3) := by decide +kernel
theorem q_L_law_950 : decode m_L_law.2.1 950 = .ok (.iconst 0, 1) := by decide +kernel
theorem q_L_law_951 : decode m_L_law.2.1 951 = .ok (.ireturn, 1) := by decide +kernel
theorem q_L_law_952 : decode m_L_law.2.1 952 = .ok (.aload_n 1, 1) := by decide +kernel
theorem q_L_law_953 : decode m_L_law.2.1 953 = .ok (.aload_n 0, 1) := by decide +kernel
theorem q_L_law_954 : decode m_L_law.2.1 954 = .ok (.iload_n 3, 1) := by decide +kernel
theorem q_L_law_955 : decode m_L_law.2.1 955 = .ok (.iconst 1, 1) := by decide +kernel
theorem q_L_law_956 : decode m_L_law.2.1 956 = .ok (.iadd, 1) := by decide +kernel
theorem q_L_law_957 : decode m_L_law.2.1 957 = .ok (.iaload, 1) := by decide +kernel
theorem q_L_law_958 : decode m_L_law.2.1 958 = .ok (.aload_n 0, 1) := by decide +kernel
theorem q_L_law_959 : decode m_L_law.2.1 959 = .ok (.iload_n 3, 1) := by decide +kernel
theorem q_L_law_960 : decode m_L_law.2.1 960 = .ok (.iconst 2, 1) := by decide +kernel
theorem q_L_law_961 : decode m_L_law.2.1 961 = .ok (.iadd, 1) := by decide +kernel
theorem q_L_law_962 : decode m_L_law.2.1 962 = .ok (.iaload, 1) := by decide +kernel
theorem q_L_law_963 : decode m_L_law.2.1 963 = .ok (.invokevirtual 120, 3) := by decide +kernel
theorem q_L_law_966 : decode m_L_law.2.1 966 = .ok (.aload_n 2, 1) := by decide +kernel
theorem q_L_law_967 : decode m_L_law.2.1 967 = .ok (.aload_n 0, 1) := by decide +kernel
theorem q_L_law_968 : decode m_L_law.2.1 968 = .ok (.iload_n 3, 1) := by decide +kernel
theorem q_L_law_969 : decode m_L_law.2.1 969 = .ok (.iconst 1, 1) := by decide +kernel
theorem q_L_law_970 : decode m_L_law.2.1 970 = .ok (.iadd, 1) := by decide +kernel
theorem q_L_law_971 : decode m_L_law.2.1 971 = .ok (.iaload, 1) := by decide +kernel
theorem q_L_law_972 : decode m_L_law.2.1 972 = .ok (.aload_n 0, 1) := by decide +kernel
theorem q_L_law_973 : decode m_L_law.2.1 973 = .ok (.iload_n 3, 1) := by decide +kernel
theorem q_L_law_974 : decode m_L_law.2.1 974 = .ok (.iconst 2, 1) := by decide +kernel
theorem q_L_law_975 : decode m_L_law.2.1 975 = .ok (.iadd, 1) := by decide +kernel
theorem q_L_law_976 : decode m_L_law.2.1 976 = .ok (.iaload, 1) := by decide +kernel
theorem q_L_law_977 : decode m_L_law.2.1 977 = .ok (.invokevirtual 123, 3) := by decide +kernel
theorem q_L_law_980 : decode m_L_law.2.1 980 = .ok (.lcmp, 1) := by decide +kernel
theorem q_L_law_981 : decode m_L_law.2.1 981 = .ok (.ifCond .eq 84, 3) := by decide +kernel
theorem q_L_law_984 : decode m_L_law.2.1 984 = .ok (.iconst 0, 1) := by decide +kernel
theorem q_L_law_985 : decode m_L_law.2.1 985 = .ok (.ireturn, 1) := by decide +kernel
theorem q_L_law_986 : decode m_L_law.2.1 986 = .ok (.aload_n 1, 1) := by decide +kernel
theorem q_L_law_987 : decode m_L_law.2.1 987 = .ok (.aload_n 0, 1) := by decide +kernel
theorem q_L_law_988 : decode m_L_law.2.1 988 = .ok (.iload_n 3, 1) := by decide +kernel
theorem q_L_law_989 : decode m_L_law.2.1 989 = .ok (.iconst 1, 1) := by decide +kernel
theorem q_L_law_990 : decode m_L_law.2.1 990 = .ok (.iadd, 1) := by decide +kernel
theorem q_L_law_991 : decode m_L_law.2.1 991 = .ok (.iaload, 1) := by decide +kernel
theorem q_L_law_992 : decode m_L_law.2.1 992 = .ok (.aload_n 0, 1) := by decide +kernel
theorem q_L_law_993 : decode m_L_law.2.1 993 = .ok (.iload_n 3, 1) := by decide +kernel
theorem q_L_law_994 : decode m_L_law.2.1 994 = .ok (.iconst 2, 1) := by decide +kernel
theorem q_L_law_995 : decode m_L_law.2.1 995 = .ok (.iadd, 1) := by decide +kernel
theorem q_L_law_996 : decode m_L_law.2.1 996 = .ok (.iaload, 1) := by decide +kernel
theorem q_L_law_997 : decode m_L_law.2.1 997 = .ok (.invokevirtual 124, 3) := by decide +kernel
theorem q_L_law_1000 : decode m_L_law.2.1 1000 = .ok (.aload_n 2, 1) := by decide +kernel
theorem q_L_law_1001 : decode m_L_law.2.1 1001 = .ok (.aload_n 0, 1) := by decide +kernel
theorem q_L_law_1002 : decode m_L_law.2.1 1002 = .ok (.iload_n 3, 1) := by decide +kernel
theorem q_L_law_1003 : decode m_L_law.2.1 1003 = .ok (.iconst 1, 1) := by decide +kernel
theorem q_L_law_1004 : decode m_L_law.2.1 1004 = .ok (.iadd, 1) := by decide +kernel
theorem q_L_law_1005 : decode m_L_law.2.1 1005 = .ok (.iaload, 1) := by decide +kernel
theorem q_L_law_1006 : decode m_L_law.2.1 1006 = .ok (.aload_n 0, 1) := by decide +kernel
theorem q_L_law_1007 : decode m_L_law.2.1 1007 = .ok (.iload_n 3, 1) := by decide +kernel
theorem q_L_law_1008 : decode m_L_law.2.1 1008 = .ok (.iconst 2, 1) := by decide +kernel
theorem q_L_law_1009 : decode m_L_law.2.1 1009 = .ok (.iadd, 1) := by decide +kernel
theorem q_L_law_1010 : decode m_L_law.2.1 1010 = .ok (.iaload, 1) := by decide +kernel
theorem q_L_law_1011 : decode m_L_law.2.1 1011 = .ok (.invokevirtual 128, 3) := by decide +kernel
theorem q_L_law_1014 : decode m_L_law.2.1 1014 = .ok (.if_icmp .eq 51, 3) := by decide +kernel
theorem q_L_law_1017 : decode m_L_law.2.1 1017 = .ok (.iconst 0, 1) := by decide +kernel
theorem q_L_law_1018 : decode m_L_law.2.1 1018 = .ok (.ireturn, 1) := by decide +kernel
theorem q_L_law_1019 : decode m_L_law.2.1 1019 = .ok (.aload_n 1, 1) := by decide +kernel
theorem q_L_law_1020 : decode m_L_law.2.1 1020 = .ok (.aload_n 0, 1) := by decide +kernel
theorem q_L_law_1021 : decode m_L_law.2.1 1021 = .ok (.iload_n 3, 1) := by decide +kernel
theorem q_L_law_1022 : decode m_L_law.2.1 1022 = .ok (.iconst 1, 1) := by decide +kernel
theorem q_L_law_1023 : decode m_L_law.2.1 1023 = .ok (.iadd, 1) := by decide +kernel
theorem q_L_law_1024 : decode m_L_law.2.1 1024 = .ok (.iaload, 1) := by decide +kernel
theorem q_L_law_1025 : decode m_L_law.2.1 1025 = .ok (.invokevirtual 129, 3) := by decide +kernel
theorem q_L_law_1028 : decode m_L_law.2.1 1028 = .ok (.aload_n 2, 1) := by decide +kernel
theorem q_L_law_1029 : decode m_L_law.2.1 1029 = .ok (.aload_n 0, 1) := by decide +kernel
theorem q_L_law_1030 : decode m_L_law.2.1 1030 = .ok (.iload_n 3, 1) := by decide +kernel
theorem q_L_law_1031 : decode m_L_law.2.1 1031 = .ok (.iconst 1, 1) := by decide +kernel
theorem q_L_law_1032 : decode m_L_law.2.1 1032 = .ok (.iadd, 1) := by decide +kernel
theorem q_L_law_1033 : decode m_L_law.2.1 1033 = .ok (.iaload, 1) := by decide +kernel
theorem q_L_law_1034 : decode m_L_law.2.1 1034 = .ok (.invokevirtual 132, 3) := by decide +kernel
theorem q_L_law_1037 : decode m_L_law.2.1 1037 = .ok (.if_icmp .eq 28, 3) := by decide +kernel
theorem q_L_law_1040 : decode m_L_law.2.1 1040 = .ok (.iconst 0, 1) := by decide +kernel
theorem q_L_law_1041 : decode m_L_law.2.1 1041 = .ok (.ireturn, 1) := by decide +kernel
theorem q_L_law_1042 : decode m_L_law.2.1 1042 = .ok (.aload_n 1, 1) := by decide +kernel
theorem q_L_law_1043 : decode m_L_law.2.1 1043 = .ok (.aload_n 0, 1) := by decide +kernel
theorem q_L_law_1044 : decode m_L_law.2.1 1044 = .ok (.iload_n 3, 1) := by decide +kernel
theorem q_L_law_1045 : decode m_L_law.2.1 1045 = .ok (.iconst 1, 1) := by decide +kernel
theorem q_L_law_1046 : decode m_L_law.2.1 1046 = .ok (.iadd, 1) := by decide +kernel
theorem q_L_law_1047 : decode m_L_law.2.1 1047 = .ok (.iaload, 1) := by decide +kernel
theorem q_L_law_1048 : decode m_L_law.2.1 1048 = .ok (.invokevirtual 133, 3) := by decide +kernel
theorem q_L_law_1051 : decode m_L_law.2.1 1051 = .ok (.aload_n 2, 1) := by decide +kernel
theorem q_L_law_1052 : decode m_L_law.2.1 1052 = .ok (.aload_n 0, 1) := by decide +kernel
theorem q_L_law_1053 : decode m_L_law.2.1 1053 = .ok (.iload_n 3, 1) := by decide +kernel
theorem q_L_law_1054 : decode m_L_law.2.1 1054 = .ok (.iconst 1, 1) := by decide +kernel
theorem q_L_law_1055 : decode m_L_law.2.1 1055 = .ok (.iadd, 1) := by decide +kernel
theorem q_L_law_1056 : decode m_L_law.2.1 1056 = .ok (.iaload, 1) := by decide +kernel
theorem q_L_law_1057 : decode m_L_law.2.1 1057 = .ok (.invokevirtual 136, 3) := by decide +kernel
theorem q_L_law_1060 : decode m_L_law.2.1 1060 = .ok (.if_icmp .eq 5, 3) := by decide +kernel
theorem q_L_law_1063 : decode m_L_law.2.1 1063 = .ok (.iconst 0, 1) := by decide +kernel
theorem q_L_law_1064 : decode m_L_law.2.1 1064 = .ok (.ireturn, 1) := by decide +kernel
theorem q_L_law_1065 : decode m_L_law.2.1 1065 = .ok (.iinc 3 7, 3) := by decide +kernel
theorem q_L_law_1068 : decode m_L_law.2.1 1068 = .ok (.goto (-1040), 3) := by decide +kernel
theorem q_L_law_1071 : decode m_L_law.2.1 1071 = .ok (.iconst 1, 1) := by decide +kernel
theorem q_L_law_1072 : decode m_L_law.2.1 1072 = .ok (.ireturn, 1) := by decide +kernel
