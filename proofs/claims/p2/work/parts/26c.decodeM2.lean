theorem dX7_init_691 : decode cX7_init 691 = .ok (.dup, 1) := by decide +kernel
theorem dX7_init_692 : decode cX7_init 692 = .ok (.bipush 111, 2) := by decide +kernel
theorem dX7_init_694 : decode cX7_init 694 = .ok (.bipush 32, 2) := by decide +kernel
theorem dX7_init_696 : decode cX7_init 696 = .ok (.castore, 1) := by decide +kernel
theorem dX7_init_697 : decode cX7_init 697 = .ok (.dup, 1) := by decide +kernel
theorem dX7_init_698 : decode cX7_init 698 = .ok (.bipush 112, 2) := by decide +kernel
theorem dX7_init_700 : decode cX7_init 700 = .ok (.bipush 97, 2) := by decide +kernel
theorem dX7_init_702 : decode cX7_init 702 = .ok (.castore, 1) := by decide +kernel
theorem dX7_init_703 : decode cX7_init 703 = .ok (.dup, 1) := by decide +kernel
theorem dX7_init_704 : decode cX7_init 704 = .ok (.bipush 113, 2) := by decide +kernel
theorem dX7_init_706 : decode cX7_init 706 = .ok (.bipush 103, 2) := by decide +kernel
theorem dX7_init_708 : decode cX7_init 708 = .ok (.castore, 1) := by decide +kernel
theorem dX7_init_709 : decode cX7_init 709 = .ok (.dup, 1) := by decide +kernel
theorem dX7_init_710 : decode cX7_init 710 = .ok (.bipush 114, 2) := by decide +kernel
theorem dX7_init_712 : decode cX7_init 712 = .ok (.bipush 101, 2) := by decide +kernel
theorem dX7_init_714 : decode cX7_init 714 = .ok (.castore, 1) := by decide +kernel
theorem dX7_init_715 : decode cX7_init 715 = .ok (.dup, 1) := by decide +kernel
theorem dX7_init_716 : decode cX7_init 716 = .ok (.bipush 115, 2) := by decide +kernel
theorem dX7_init_718 : decode cX7_init 718 = .ok (.bipush 32, 2) := by decide +kernel
theorem dX7_init_720 : decode cX7_init 720 = .ok (.castore, 1) := by decide +kernel
theorem dX7_init_721 : decode cX7_init 721 = .ok (.dup, 1) := by decide +kernel
theorem dX7_init_722 : decode cX7_init 722 = .ok (.bipush 116, 2) := by decide +kernel
theorem dX7_init_724 : decode cX7_init 724 = .ok (.bipush 116, 2) := by decide +kernel
theorem dX7_init_726 : decode cX7_init 726 = .ok (.castore, 1) := by decide +kernel
theorem dX7_init_727 : decode cX7_init 727 = .ok (.dup, 1) := by decide +kernel
theorem dX7_init_728 : decode cX7_init 728 = .ok (.bipush 117, 2) := by decide +kernel
theorem dX7_init_730 : decode cX7_init 730 = .ok (.bipush 117, 2) := by decide +kernel
theorem dX7_init_732 : decode cX7_init 732 = .ok (.castore, 1) := by decide +kernel
theorem dX7_init_733 : decode cX7_init 733 = .ok (.dup, 1) := by decide +kernel
theorem dX7_init_734 : decode cX7_init 734 = .ok (.bipush 118, 2) := by decide +kernel
theorem dX7_init_736 : decode cX7_init 736 = .ok (.bipush 114, 2) := by decide +kernel
theorem dX7_init_738 : decode cX7_init 738 = .ok (.castore, 1) := by decide +kernel
theorem dX7_init_739 : decode cX7_init 739 = .ok (.dup, 1) := by decide +kernel
theorem dX7_init_740 : decode cX7_init 740 = .ok (.bipush 119, 2) := by decide +kernel
theorem dX7_init_742 : decode cX7_init 742 = .ok (.bipush 110, 2) := by decide +kernel
theorem dX7_init_744 : decode cX7_init 744 = .ok (.castore, 1) := by decide +kernel
theorem dX7_init_745 : decode cX7_init 745 = .ok (.dup, 1) := by decide +kernel
theorem dX7_init_746 : decode cX7_init 746 = .ok (.bipush 120, 2) := by decide +kernel
theorem dX7_init_748 : decode cX7_init 748 = .ok (.bipush 115, 2) := by decide +kernel
theorem dX7_init_750 : decode cX7_init 750 = .ok (.castore, 1) := by decide +kernel
theorem dX7_init_751 : decode cX7_init 751 = .ok (.dup, 1) := by decide +kernel
theorem dX7_init_752 : decode cX7_init 752 = .ok (.bipush 121, 2) := by decide +kernel
theorem dX7_init_754 : decode cX7_init 754 = .ok (.bipush 32, 2) := by decide +kernel
theorem dX7_init_756 : decode cX7_init 756 = .ok (.castore, 1) := by decide +kernel
theorem dX7_init_757 : decode cX7_init 757 = .ok (.dup, 1) := by decide +kernel
theorem dX7_init_758 : decode cX7_init 758 = .ok (.bipush 122, 2) := by decide +kernel
theorem dX7_init_760 : decode cX7_init 760 = .ok (.bipush 105, 2) := by decide +kernel
theorem dX7_init_762 : decode cX7_init 762 = .ok (.castore, 1) := by decide +kernel
theorem dX7_init_763 : decode cX7_init 763 = .ok (.dup, 1) := by decide +kernel
theorem dX7_init_764 : decode cX7_init 764 = .ok (.bipush 123, 2) := by decide +kernel
theorem dX7_init_766 : decode cX7_init 766 = .ok (.bipush 102, 2) := by decide +kernel
theorem dX7_init_768 : decode cX7_init 768 = .ok (.castore, 1) := by decide +kernel
theorem dX7_init_769 : decode cX7_init 769 = .ok (.dup, 1) := by decide +kernel
theorem dX7_init_770 : decode cX7_init 770 = .ok (.bipush 124, 2) := by decide +kernel
theorem dX7_init_772 : decode cX7_init 772 = .ok (.bipush 32, 2) := by decide +kernel
theorem dX7_init_774 : decode cX7_init 774 = .ok (.castore, 1) := by decide +kernel
theorem dX7_init_775 : decode cX7_init 775 = .ok (.putfield 20, 3) := by decide +kernel
theorem dX7_init_778 : decode cX7_init 778 = .ok (.aload_n 0, 1) := by decide +kernel
theorem dX7_init_779 : decode cX7_init 779 = .ok (.sipush 400, 3) := by decide +kernel
theorem dX7_init_782 : decode cX7_init 782 = .ok (.newarray .int, 2) := by decide +kernel
theorem dX7_init_784 : decode cX7_init 784 = .ok (.putfield 24, 3) := by decide +kernel
theorem dX7_init_787 : decode cX7_init 787 = .ok (.aload_n 0, 1) := by decide +kernel
theorem dX7_init_788 : decode cX7_init 788 = .ok (.sipush 400, 3) := by decide +kernel
theorem dX7_init_791 : decode cX7_init 791 = .ok (.newarray .int, 2) := by decide +kernel
theorem dX7_init_793 : decode cX7_init 793 = .ok (.putfield 27, 3) := by decide +kernel
theorem dX7_init_796 : decode cX7_init 796 = .ok (.aload_n 0, 1) := by decide +kernel
theorem dX7_init_797 : decode cX7_init 797 = .ok (.bipush 40, 2) := by decide +kernel
theorem dX7_init_799 : decode cX7_init 799 = .ok (.newarray .int, 2) := by decide +kernel
theorem dX7_init_801 : decode cX7_init 801 = .ok (.putfield 30, 3) := by decide +kernel
theorem dX7_init_804 : decode cX7_init 804 = .ok (.aload_n 0, 1) := by decide +kernel
theorem dX7_init_805 : decode cX7_init 805 = .ok (.bipush 41, 2) := by decide +kernel
theorem dX7_init_807 : decode cX7_init 807 = .ok (.newarray .boolean, 2) := by decide +kernel
theorem dX7_init_809 : decode cX7_init 809 = .ok (.putfield 33, 3) := by decide +kernel
theorem dX7_init_812 : decode cX7_init 812 = .ok (.aload_n 0, 1) := by decide +kernel
theorem dX7_init_813 : decode cX7_init 813 = .ok (.bipush 41, 2) := by decide +kernel
theorem dX7_init_815 : decode cX7_init 815 = .ok (.newarray .int, 2) := by decide +kernel
theorem dX7_init_817 : decode cX7_init 817 = .ok (.putfield 37, 3) := by decide +kernel
theorem dX7_init_820 : decode cX7_init 820 = .ok (.aload_n 0, 1) := by decide +kernel
theorem dX7_init_821 : decode cX7_init 821 = .ok (.sipush 918, 3) := by decide +kernel
theorem dX7_init_824 : decode cX7_init 824 = .ok (.newarray .int, 2) := by decide +kernel
theorem dX7_init_826 : decode cX7_init 826 = .ok (.putfield 40, 3) := by decide +kernel
theorem dX7_init_829 : decode cX7_init 829 = .ok (.aload_n 0, 1) := by decide +kernel
theorem dX7_init_830 : decode cX7_init 830 = .ok (.bipush 8, 2) := by decide +kernel
theorem dX7_init_832 : decode cX7_init 832 = .ok (.newarray .int, 2) := by decide +kernel
theorem dX7_init_834 : decode cX7_init 834 = .ok (.putfield 43, 3) := by decide +kernel
theorem dX7_init_837 : decode cX7_init 837 = .ok (.aload_n 0, 1) := by decide +kernel
theorem dX7_init_838 : decode cX7_init 838 = .ok (.bipush 8, 2) := by decide +kernel
theorem dX7_init_840 : decode cX7_init 840 = .ok (.newarray .int, 2) := by decide +kernel
theorem dX7_init_842 : decode cX7_init 842 = .ok (.putfield 46, 3) := by decide +kernel
theorem dX7_init_845 : decode cX7_init 845 = .ok (.aload_n 0, 1) := by decide +kernel
theorem dX7_init_846 : decode cX7_init 846 = .ok (.sipush 918, 3) := by decide +kernel
theorem dX7_init_849 : decode cX7_init 849 = .ok (.newarray .int, 2) := by decide +kernel
theorem dX7_init_851 : decode cX7_init 851 = .ok (.putfield 49, 3) := by decide +kernel
theorem dX7_init_854 : decode cX7_init 854 = .ok (.aload_n 0, 1) := by decide +kernel
theorem dX7_init_855 : decode cX7_init 855 = .ok (.ldc 52, 2) := by decide +kernel
theorem dX7_init_857 : decode cX7_init 857 = .ok (.newarray .int, 2) := by decide +kernel
theorem dX7_init_859 : decode cX7_init 859 = .ok (.putfield 53, 3) := by decide +kernel
theorem dX7_init_862 : decode cX7_init 862 = .ok (.aload_n 0, 1) := by decide +kernel
theorem dX7_init_863 : decode cX7_init 863 = .ok (.iconst 5, 1) := by decide +kernel
theorem dX7_init_864 : decode cX7_init 864 = .ok (.newarray .int, 2) := by decide +kernel
theorem dX7_init_866 : decode cX7_init 866 = .ok (.putfield 56, 3) := by decide +kernel
theorem dX7_init_869 : decode cX7_init 869 = .ok (.aload_n 0, 1) := by decide +kernel
theorem dX7_init_870 : decode cX7_init 870 = .ok (.bipush 16, 2) := by decide +kernel
theorem dX7_init_872 : decode cX7_init 872 = .ok (.newarray .int, 2) := by decide +kernel
theorem dX7_init_874 : decode cX7_init 874 = .ok (.putfield 59, 3) := by decide +kernel
theorem dX7_init_877 : decode cX7_init 877 = .ok (.aload_n 0, 1) := by decide +kernel
theorem dX7_init_878 : decode cX7_init 878 = .ok (.sipush 18360, 3) := by decide +kernel
theorem dX7_init_881 : decode cX7_init 881 = .ok (.newarray .int, 2) := by decide +kernel
theorem dX7_init_883 : decode cX7_init 883 = .ok (.putfield 62, 3) := by decide +kernel
theorem dX7_init_886 : decode cX7_init 886 = .ok (.aload_n 0, 1) := by decide +kernel
theorem dX7_init_887 : decode cX7_init 887 = .ok (.lconst 1, 1) := by decide +kernel
theorem dX7_init_888 : decode cX7_init 888 = .ok (.putfield 65, 3) := by decide +kernel
theorem dX7_init_891 : decode cX7_init 891 = .ok (.return_, 1) := by decide +kernel
