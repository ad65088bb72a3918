theorem dL_law_720 : decode cL_law 720 = .ok (.iaload, 1) := by decide +kernel
theorem dL_law_721 : decode cL_law 721 = .ok (.aload_n 0, 1) := by decide +kernel
theorem dL_law_722 : decode cL_law 722 = .ok (.iload_n 3, 1) := by decide +kernel
theorem dL_law_723 : decode cL_law 723 = .ok (.iconst 3, 1) := by decide +kernel
theorem dL_law_724 : decode cL_law 724 = .ok (.iadd, 1) := by decide +kernel
theorem dL_law_725 : decode cL_law 725 = .ok (.iaload, 1) := by decide +kernel
theorem dL_law_726 : decode cL_law 726 = .ok (.invokevirtual 84, 3) := by decide +kernel
theorem dL_law_729 : decode cL_law 729 = .ok (.if_icmp .eq 370, 3) := by decide +kernel
theorem dL_law_734 : decode cL_law 734 = .ok (.aload_n 1, 1) := by decide +kernel
theorem dL_law_735 : decode cL_law 735 = .ok (.aload_n 0, 1) := by decide +kernel
theorem dL_law_736 : decode cL_law 736 = .ok (.iload_n 3, 1) := by decide +kernel
theorem dL_law_737 : decode cL_law 737 = .ok (.iconst 1, 1) := by decide +kernel
theorem dL_law_738 : decode cL_law 738 = .ok (.iadd, 1) := by decide +kernel
theorem dL_law_739 : decode cL_law 739 = .ok (.iaload, 1) := by decide +kernel
theorem dL_law_740 : decode cL_law 740 = .ok (.invokevirtual 85, 3) := by decide +kernel
theorem dL_law_743 : decode cL_law 743 = .ok (.aload_n 2, 1) := by decide +kernel
theorem dL_law_744 : decode cL_law 744 = .ok (.aload_n 0, 1) := by decide +kernel
theorem dL_law_745 : decode cL_law 745 = .ok (.iload_n 3, 1) := by decide +kernel
theorem dL_law_746 : decode cL_law 746 = .ok (.iconst 1, 1) := by decide +kernel
theorem dL_law_747 : decode cL_law 747 = .ok (.iadd, 1) := by decide +kernel
theorem dL_law_748 : decode cL_law 748 = .ok (.iaload, 1) := by decide +kernel
theorem dL_law_749 : decode cL_law 749 = .ok (.invokevirtual 88, 3) := by decide +kernel
theorem dL_law_752 : decode cL_law 752 = .ok (.if_icmp .eq 347, 3) := by decide +kernel
theorem dL_law_757 : decode cL_law 757 = .ok (.aload_n 1, 1) := by decide +kernel
theorem dL_law_758 : decode cL_law 758 = .ok (.aload_n 0, 1) := by decide +kernel
theorem dL_law_759 : decode cL_law 759 = .ok (.iload_n 3, 1) := by decide +kernel
theorem dL_law_760 : decode cL_law 760 = .ok (.iconst 1, 1) := by decide +kernel
theorem dL_law_761 : decode cL_law 761 = .ok (.iadd, 1) := by decide +kernel
theorem dL_law_762 : decode cL_law 762 = .ok (.iaload, 1) := by decide +kernel
theorem dL_law_763 : decode cL_law 763 = .ok (.aload_n 0, 1) := by decide +kernel
theorem dL_law_764 : decode cL_law 764 = .ok (.iload_n 3, 1) := by decide +kernel
theorem dL_law_765 : decode cL_law 765 = .ok (.iconst 2, 1) := by decide +kernel
theorem dL_law_766 : decode cL_law 766 = .ok (.iadd, 1) := by decide +kernel
theorem dL_law_767 : decode cL_law 767 = .ok (.iaload, 1) := by decide +kernel
theorem dL_law_768 : decode cL_law 768 = .ok (.aload_n 0, 1) := by decide +kernel
theorem dL_law_769 : decode cL_law 769 = .ok (.iload_n 3, 1) := by decide +kernel
theorem dL_law_770 : decode cL_law 770 = .ok (.iconst 3, 1) := by decide +kernel
theorem dL_law_771 : decode cL_law 771 = .ok (.iadd, 1) := by decide +kernel
theorem dL_law_772 : decode cL_law 772 = .ok (.iaload, 1) := by decide +kernel
theorem dL_law_773 : decode cL_law 773 = .ok (.invokevirtual 89, 3) := by decide +kernel
theorem dL_law_776 : decode cL_law 776 = .ok (.aload_n 2, 1) := by decide +kernel
theorem dL_law_777 : decode cL_law 777 = .ok (.aload_n 0, 1) := by decide +kernel
theorem dL_law_778 : decode cL_law 778 = .ok (.iload_n 3, 1) := by decide +kernel
theorem dL_law_779 : decode cL_law 779 = .ok (.iconst 1, 1) := by decide +kernel
theorem dL_law_780 : decode cL_law 780 = .ok (.iadd, 1) := by decide +kernel
theorem dL_law_781 : decode cL_law 781 = .ok (.iaload, 1) := by decide +kernel
theorem dL_law_782 : decode cL_law 782 = .ok (.aload_n 0, 1) := by decide +kernel
theorem dL_law_783 : decode cL_law 783 = .ok (.iload_n 3, 1) := by decide +kernel
theorem dL_law_784 : decode cL_law 784 = .ok (.iconst 2, 1) := by decide +kernel
theorem dL_law_785 : decode cL_law 785 = .ok (.iadd, 1) := by decide +kernel
theorem dL_law_786 : decode cL_law 786 = .ok (.iaload, 1) := by decide +kernel
theorem dL_law_787 : decode cL_law 787 = .ok (.aload_n 0, 1) := by decide +kernel
theorem dL_law_788 : decode cL_law 788 = .ok (.iload_n 3, 1) := by decide +kernel
theorem dL_law_789 : decode cL_law 789 = .ok (.iconst 3, 1) := by decide +kernel
theorem dL_law_790 : decode cL_law 790 = .ok (.iadd, 1) := by decide +kernel
theorem dL_law_791 : decode cL_law 791 = .ok (.iaload, 1) := by decide +kernel
theorem dL_law_792 : decode cL_law 792 = .ok (.invokevirtual 92, 3) := by decide +kernel
theorem dL_law_795 : decode cL_law 795 = .ok (.if_icmp .eq 304, 3) := by decide +kernel
theorem dL_law_800 : decode cL_law 800 = .ok (.aload_n 1, 1) := by decide +kernel
theorem dL_law_801 : decode cL_law 801 = .ok (.invokevirtual 93, 3) := by decide +kernel
theorem dL_law_804 : decode cL_law 804 = .ok (.aload_n 2, 1) := by decide +kernel
theorem dL_law_805 : decode cL_law 805 = .ok (.invokevirtual 96, 3) := by decide +kernel
theorem dL_law_808 : decode cL_law 808 = .ok (.if_icmp .eq 291, 3) := by decide +kernel
theorem dL_law_813 : decode cL_law 813 = .ok (.aload_n 1, 1) := by decide +kernel
theorem dL_law_814 : decode cL_law 814 = .ok (.aload_n 0, 1) := by decide +kernel
theorem dL_law_815 : decode cL_law 815 = .ok (.iload_n 3, 1) := by decide +kernel
theorem dL_law_816 : decode cL_law 816 = .ok (.iconst 1, 1) := by decide +kernel
theorem dL_law_817 : decode cL_law 817 = .ok (.iadd, 1) := by decide +kernel
theorem dL_law_818 : decode cL_law 818 = .ok (.iaload, 1) := by decide +kernel
theorem dL_law_819 : decode cL_law 819 = .ok (.aload_n 0, 1) := by decide +kernel
theorem dL_law_820 : decode cL_law 820 = .ok (.iload_n 3, 1) := by decide +kernel
theorem dL_law_821 : decode cL_law 821 = .ok (.iconst 2, 1) := by decide +kernel
theorem dL_law_822 : decode cL_law 822 = .ok (.iadd, 1) := by decide +kernel
theorem dL_law_823 : decode cL_law 823 = .ok (.iaload, 1) := by decide +kernel
theorem dL_law_824 : decode cL_law 824 = .ok (.aload_n 0, 1) := by decide +kernel
theorem dL_law_825 : decode cL_law 825 = .ok (.iload_n 3, 1) := by decide +kernel
theorem dL_law_826 : decode cL_law 826 = .ok (.iconst 3, 1) := by decide +kernel
theorem dL_law_827 : decode cL_law 827 = .ok (.iadd, 1) := by decide +kernel
theorem dL_law_828 : decode cL_law 828 = .ok (.iaload, 1) := by decide +kernel
theorem dL_law_829 : decode cL_law 829 = .ok (.invokevirtual 97, 3) := by decide +kernel
theorem dL_law_832 : decode cL_law 832 = .ok (.aload_n 2, 1) := by decide +kernel
theorem dL_law_833 : decode cL_law 833 = .ok (.aload_n 0, 1) := by decide +kernel
theorem dL_law_834 : decode cL_law 834 = .ok (.iload_n 3, 1) := by decide +kernel
theorem dL_law_835 : decode cL_law 835 = .ok (.iconst 1, 1) := by decide +kernel
theorem dL_law_836 : decode cL_law 836 = .ok (.iadd, 1) := by decide +kernel
theorem dL_law_837 : decode cL_law 837 = .ok (.iaload, 1) := by decide +kernel
theorem dL_law_838 : decode cL_law 838 = .ok (.aload_n 0, 1) := by decide +kernel
theorem dL_law_839 : decode cL_law 839 = .ok (.iload_n 3, 1) := by decide +kernel
theorem dL_law_840 : decode cL_law 840 = .ok (.iconst 2, 1) := by decide +kernel
theorem dL_law_841 : decode cL_law 841 = .ok (.iadd, 1) := by decide +kernel
theorem dL_law_842 : decode cL_law 842 = .ok (.iaload, 1) := by decide +kernel
theorem dL_law_843 : decode cL_law 843 = .ok (.aload_n 0, 1) := by decide +kernel
theorem dL_law_844 : decode cL_law 844 = .ok (.iload_n 3, 1) := by decide +kernel
theorem dL_law_845 : decode cL_law 845 = .ok (.iconst 3, 1) := by decide +kernel
theorem dL_law_846 : decode cL_law 846 = .ok (.iadd, 1) := by decide +kernel
theorem dL_law_847 : decode cL_law 847 = .ok (.iaload, 1) := by decide +kernel
theorem dL_law_848 : decode cL_law 848 = .ok (.invokevirtual 100, 3) := by decide +kernel
theorem dL_law_851 : decode cL_law 851 = .ok (.if_icmp .eq 248, 3) := by decide +kernel
theorem dL_law_856 : decode cL_law 856 = .ok (.aload_n 1, 1) := by decide +kernel
theorem dL_law_857 : decode cL_law 857 = .ok (.aload_n 0, 1) := by decide +kernel
theorem dL_law_858 : decode cL_law 858 = .ok (.iload_n 3, 1) := by decide +kernel
theorem dL_law_859 : decode cL_law 859 = .ok (.iconst 1, 1) := by decide +kernel
theorem dL_law_860 : decode cL_law 860 = .ok (.iadd, 1) := by decide +kernel
theorem dL_law_861 : decode cL_law 861 = .ok (.iaload, 1) := by decide +kernel
theorem dL_law_862 : decode cL_law 862 = .ok (.invokevirtual 101, 3) := by decide +kernel
theorem dL_law_865 : decode cL_law 865 = .ok (.aload_n 2, 1) := by decide +kernel
theorem dL_law_866 : decode cL_law 866 = .ok (.aload_n 0, 1) := by decide +kernel
theorem dL_law_867 : decode cL_law 867 = .ok (.iload_n 3, 1) := by decide +kernel
theorem dL_law_868 : decode cL_law 868 = .ok (.iconst 1, 1) := by decide +kernel
theorem dL_law_869 : decode cL_law 869 = .ok (.iadd, 1) := by decide +kernel
theorem dL_law_870 : decode cL_law 870 = .ok (.iaload, 1) := by decide +kernel
theorem dL_law_871 : decode cL_law 871 = .ok (.invokevirtual 104, 3) := by decide +kernel
theorem dL_law_874 : decode cL_law 874 = .ok (.if_icmp .eq 225, 3) := by decide +kernel
theorem dL_law_879 : decode cL_law 879 = .ok (.aload_n 1, 1) := by decide +kernel
theorem dL_law_880 : decode cL_law 880 = .ok (.aload_n 0, 1) := by decide +kernel
theorem dL_law_881 : decode cL_law 881 = .ok (.iload_n 3, 1) := by decide +kernel
theorem dL_law_882 : decode cL_law 882 = .ok (.iconst 1, 1) := by decide +kernel
theorem dL_law_883 : decode cL_law 883 = .ok (.iadd, 1) := by decide +kernel
theorem dL_law_884 : decode cL_law 884 = .ok (.iaload, 1) := by decide +kernel
theorem dL_law_885 : decode cL_law 885 = .ok (.invokevirtual 105, 3) := by decide +kernel
theorem dL_law_888 : decode cL_law 888 = .ok (.aload_n 2, 1) := by decide +kernel
theorem dL_law_889 : decode cL_law 889 = .ok (.aload_n 0, 1) := by decide +kernel
theorem dL_law_890 : decode cL_law 890 = .ok (.iload_n 3, 1) := by decide +kernel
theorem dL_law_891 : decode cL_law 891 = .ok (.iconst 1, 1) := by decide +kernel
theorem dL_law_892 : decode cL_law 892 = .ok (.iadd, 1) := by decide +kernel
theorem dL_law_893 : decode cL_law 893 = .ok (.iaload, 1) := by decide +kernel
theorem dL_law_894 : decode cL_law 894 = .ok (.invokevirtual 108, 3) := by decide +kernel
theorem dL_law_897 : decode cL_law 897 = .ok (.if_icmp .eq 202, 3) := by decide +kernel
theorem dL_law_902 : decode cL_law 902 = .ok (.aload_n 1, 1) := by decide +kernel
theorem dL_law_903 : decode cL_law 903 = .ok (.aload_n 0, 1) := by decide +kernel
theorem dL_law_904 : decode cL_law 904 = .ok (.iload_n 3, 1) := by decide +kernel
theorem dL_law_905 : decode cL_law 905 = .ok (.iconst 1, 1) := by decide +kernel
theorem dL_law_906 : decode cL_law 906 = .ok (.iadd, 1) := by decide +kernel
theorem dL_law_907 : decode cL_law 907 = .ok (.iaload, 1) := by decide +kernel
theorem dL_law_908 : decode cL_law 908 = .ok (.ifCond .eq 7, 3) := by decide +kernel
theorem dL_law_911 : decode cL_law 911 = .ok (.iconst 1, 1) := by decide +kernel
theorem dL_law_912 : decode cL_law 912 = .ok (.goto 4, 3) := by decide +kernel
theorem dL_law_915 : decode cL_law 915 = .ok (.iconst 0, 1) := by decide +kernel
theorem dL_law_916 : decode cL_law 916 = .ok (.aload_n 0, 1) := by decide +kernel
theorem dL_law_917 : decode cL_law 917 = .ok (.iload_n 3, 1) := by decide +kernel
theorem dL_law_918 : decode cL_law 918 = .ok (.iconst 2, 1) := by decide +kernel
theorem dL_law_919 : decode cL_law 919 = .ok (.iadd, 1) := by decide +kernel
theorem dL_law_920 : decode cL_law 920 = .ok (.iaload, 1) := by decide +kernel
theorem dL_law_921 : decode cL_law 921 = .ok (.aload_n 0, 1) := by decide +kernel
theorem dL_law_922 : decode cL_law 922 = .ok (.iload_n 3, 1) := by decide +kernel
theorem dL_law_923 : decode cL_law 923 = .ok (.iconst 3, 1) := by decide +kernel
theorem dL_law_924 : decode cL_law 924 = .ok (.iadd, 1) := by decide +kernel
theorem dL_law_925 : decode cL_law 925 = .ok (.iaload, 1) := by decide +kernel
theorem dL_law_926 : decode cL_law 926 = .ok (.invokevirtual 109, 3) := by decide +kernel
theorem dL_law_929 : decode cL_law 929 = .ok (.aload_n 2, 1) := by decide +kernel
theorem dL_law_930 : decode cL_law 930 = .ok (.aload_n 0, 1) := by decide +kernel
theorem dL_law_931 : decode cL_law 931 = .ok (.iload_n 3, 1) := by decide +kernel
theorem dL_law_932 : decode cL_law 932 = .ok (.iconst 1, 1) := by decide +kernel
theorem dL_law_933 : decode cL_law 933 = .ok (.iadd, 1) := by decide +kernel
theorem dL_law_934 : decode cL_law 934 = .ok (.iaload, 1) := by decide +kernel
theorem dL_law_935 : decode cL_law 935 = .ok (.ifCond .eq 7, 3) := by decide +kernel
theorem dL_law_938 : decode cL_law 938 = .ok (.iconst 1, 1) := by decide +kernel
theorem dL_law_939 : decode cL_law 939 = .ok (.goto 4, 3) := by decide +kernel
theorem dL_law_942 : decode cL_law 942 = .ok (.iconst 0, 1) := by decide +kernel
theorem dL_law_943 : decode cL_law 943 = .ok (.aload_n 0, 1) := by decide +kernel
theorem dL_law_944 : decode cL_law 944 = .ok (.iload_n 3, 1) := by decide +kernel
theorem dL_law_945 : decode cL_law 945 = .ok (.iconst 2, 1) := by decide +kernel
theorem dL_law_946 : decode cL_law 946 = .ok (.iadd, 1) := by decide +kernel
theorem dL_law_947 : decode cL_law 947 = .ok (.iaload, 1) := by decide +kernel
theorem dL_law_948 : decode cL_law 948 = .ok (.aload_n 0, 1) := by decide +kernel
theorem dL_law_949 : decode cL_law 949 = .ok (.iload_n 3, 1) := by decide +kernel
theorem dL_law_950 : decode cL_law 950 = .ok (.iconst 3, 1) := by decide +kernel
theorem dL_law_951 : decode cL_law 951 = .ok (.iadd, 1) := by decide +kernel
theorem dL_law_952 : decode cL_law 952 = .ok (.iaload, 1) := by decide +kernel
theorem dL_law_953 : decode cL_law 953 = .ok (.invokevirtual 113, 3) := by decide +kernel
theorem dL_law_956 : decode cL_law 956 = .ok (.if_icmp .eq 143, 3) := by decide +kernel
theorem dL_law_961 : decode cL_law 961 = .ok (.aload_n 1, 1) := by decide +kernel
theorem dL_law_962 : decode cL_law 962 = .ok (.aload_n 0, 1) := by decide +kernel
theorem dL_law_963 : decode cL_law 963 = .ok (.iload_n 3, 1) := by decide +kernel
theorem dL_law_964 : decode cL_law 964 = .ok (.iconst 1, 1) := by decide +kernel
theorem dL_law_965 : decode cL_law 965 = .ok (.iadd, 1) := by decide +kernel
theorem dL_law_966 : decode cL_law 966 = .ok (.iaload, 1) := by decide +kernel
theorem dL_law_967 : decode cL_law 967 = .ok (.aload_n 0, 1) := by decide +kernel
theorem dL_law_968 : decode cL_law 968 = .ok (.iload_n 3, 1) := by decide +kernel
theorem dL_law_969 : decode cL_law 969 = .ok (.iconst 2, 1) := by decide +kernel
theorem dL_law_970 : decode cL_law 970 = .ok (.iadd, 1) := by decide +kernel
theorem dL_law_971 : decode cL_law 971 = .ok (.iaload, 1) := by decide +kernel
theorem dL_law_972 : decode cL_law 972 = .ok (.aload_n 0, 1) := by decide +kernel
theorem dL_law_973 : decode cL_law 973 = .ok (.iload_n 3, 1) := by decide +kernel
theorem dL_law_974 : decode cL_law 974 = .ok (.iconst 3, 1) := by decide +kernel
theorem dL_law_975 : decode cL_law 975 = .ok (.iadd, 1) := by decide +kernel
theorem dL_law_976 : decode cL_law 976 = .ok (.iaload, 1) := by decide +kernel
theorem dL_law_977 : decode cL_law 977 = .ok (.invokevirtual 114, 3) := by decide +kernel
theorem dL_law_980 : decode cL_law 980 = .ok (.aload_n 2, 1) := by decide +kernel
theorem dL_law_981 : decode cL_law 981 = .ok (.aload_n 0, 1) := by decide +kernel
theorem dL_law_982 : decode cL_law 982 = .ok (.iload_n 3, 1) := by decide +kernel
theorem dL_law_983 : decode cL_law 983 = .ok (.iconst 1, 1) := by decide +kernel
theorem dL_law_984 : decode cL_law 984 = .ok (.iadd, 1) := by decide +kernel
theorem dL_law_985 : decode cL_law 985 = .ok (.iaload, 1) := by decide +kernel
theorem dL_law_986 : decode cL_law 986 = .ok (.aload_n 0, 1) := by decide +kernel
theorem dL_law_987 : decode cL_law 987 = .ok (.iload_n 3, 1) := by decide +kernel
theorem dL_law_988 : decode cL_law 988 = .ok (.iconst 2, 1) := by decide +kernel
theorem dL_law_989 : decode cL_law 989 = .ok (.iadd, 1) := by decide +kernel
theorem dL_law_990 : decode cL_law 990 = .ok (.iaload, 1) := by decide +kernel
theorem dL_law_991 : decode cL_law 991 = .ok (.aload_n 0, 1) := by decide +kernel
theorem dL_law_992 : decode cL_law 992 = .ok (.iload_n 3, 1) := by decide +kernel
theorem dL_law_993 : decode cL_law 993 = .ok (.iconst 3, 1) := by decide +kernel
theorem dL_law_994 : decode cL_law 994 = .ok (.iadd, 1) := by decide +kernel
theorem dL_law_995 : decode cL_law 995 = .ok (.iaload, 1) := by decide +kernel
theorem dL_law_996 : decode cL_law 996 = .ok (.invokevirtual 118, 3) := by decide +kernel
theorem dL_law_999 : decode cL_law 999 = .ok (.if_icmp .eq 100, 3) := by decide +kernel
theorem dL_law_1004 : decode cL_law 1004 = .ok (.aload_n 1, 1) := by decide +kernel
theorem dL_law_1005 : decode cL_law 1005 = .ok (.invokevirtual 119, 3) := by decide +kernel
theorem dL_law_1008 : decode cL_law 1008 = .ok (.aload_n 2, 1) := by decide +kernel
theorem dL_law_1009 : decode cL_law 1009 = .ok (.invokevirtual 123, 3) := by decide +kernel
theorem dL_law_1012 : decode cL_law 1012 = .ok (.if_icmp .eq 87, 3) := by decide +kernel
theorem dL_law_1017 : decode cL_law 1017 = .ok (.aload_n 1, 1) := by decide +kernel
theorem dL_law_1018 : decode cL_law 1018 = .ok (.aload_n 0, 1) := by decide +kernel
theorem dL_law_1019 : decode cL_law 1019 = .ok (.iload_n 3, 1) := by decide +kernel
theorem dL_law_1020 : decode cL_law 1020 = .ok (.iconst 1, 1) := by decide +kernel
theorem dL_law_1021 : decode cL_law 1021 = .ok (.iadd, 1) := by decide +kernel
theorem dL_law_1022 : decode cL_law 1022 = .ok (.iaload, 1) := by decide +kernel
theorem dL_law_1023 : decode cL_law 1023 = .ok (.invokevirtual 124, 3) := by decide +kernel
theorem dL_law_1026 : decode cL_law 1026 = .ok (.aload_n 2, 1) := by decide +kernel
theorem dL_law_1027 : decode cL_law 1027 = .ok (.aload_n 0, 1) := by decide +kernel
