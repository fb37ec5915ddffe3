/-! PART 68: the law's cases -/
theorem dL_law_696 : decode cL_law 696 = .ok (.aload_n 1, 1) := by decide +kernel
theorem dL_law_697 : decode cL_law 697 = .ok (.aload_n 0, 1) := by decide +kernel
theorem dL_law_698 : decode cL_law 698 = .ok (.iload 4, 2) := by decide +kernel
theorem dL_law_700 : decode cL_law 700 = .ok (.iconst 1, 1) := by decide +kernel
theorem dL_law_701 : decode cL_law 701 = .ok (.iadd, 1) := by decide +kernel
theorem dL_law_702 : decode cL_law 702 = .ok (.iaload, 1) := by decide +kernel
theorem dL_law_703 : decode cL_law 703 = .ok (.aload_n 3, 1) := by decide +kernel
theorem dL_law_704 : decode cL_law 704 = .ok (.invokestatic 182, 3) := by decide +kernel
theorem dL_law_707 : decode cL_law 707 = .ok (.istore 5, 2) := by decide +kernel
theorem dL_law_709 : decode cL_law 709 = .ok (.aload_n 2, 1) := by decide +kernel
theorem dL_law_710 : decode cL_law 710 = .ok (.aload_n 0, 1) := by decide +kernel
theorem dL_law_711 : decode cL_law 711 = .ok (.iload 4, 2) := by decide +kernel
theorem dL_law_713 : decode cL_law 713 = .ok (.iconst 1, 1) := by decide +kernel
theorem dL_law_714 : decode cL_law 714 = .ok (.iadd, 1) := by decide +kernel
theorem dL_law_715 : decode cL_law 715 = .ok (.iaload, 1) := by decide +kernel
theorem dL_law_716 : decode cL_law 716 = .ok (.invokevirtual 185, 3) := by decide +kernel
theorem dL_law_719 : decode cL_law 719 = .ok (.istore 6, 2) := by decide +kernel
theorem dL_law_721 : decode cL_law 721 = .ok (.aload_n 2, 1) := by decide +kernel
theorem dL_law_722 : decode cL_law 722 = .ok (.invokevirtual 186, 3) := by decide +kernel
theorem dL_law_725 : decode cL_law 725 = .ok (.iload 5, 2) := by decide +kernel
theorem dL_law_727 : decode cL_law 727 = .ok (.if_icmp .eq 5, 3) := by decide +kernel
theorem dL_law_732 : decode cL_law 732 = .ok (.iload 5, 2) := by decide +kernel
theorem dL_law_734 : decode cL_law 734 = .ok (.ifCond .ne 16, 3) := by decide +kernel
theorem dL_law_737 : decode cL_law 737 = .ok (.aload_n 3, 1) := by decide +kernel
theorem dL_law_738 : decode cL_law 738 = .ok (.getfield 13, 3) := by decide +kernel
theorem dL_law_741 : decode cL_law 741 = .ok (.iload 6, 2) := by decide +kernel
theorem dL_law_743 : decode cL_law 743 = .ok (.i2l, 1) := by decide +kernel
theorem dL_law_744 : decode cL_law 744 = .ok (.lcmp, 1) := by decide +kernel
theorem dL_law_745 : decode cL_law 745 = .ok (.ifCond .eq 5, 3) := by decide +kernel
theorem dL_law_750 : decode cL_law 750 = .ok (.goto 1007, 3) := by decide +kernel
theorem dL_law_753 : decode cL_law 753 = .ok (.aload_n 1, 1) := by decide +kernel
theorem dL_law_754 : decode cL_law 754 = .ok (.aload_n 0, 1) := by decide +kernel
theorem dL_law_755 : decode cL_law 755 = .ok (.iload 4, 2) := by decide +kernel
theorem dL_law_757 : decode cL_law 757 = .ok (.iconst 1, 1) := by decide +kernel
theorem dL_law_758 : decode cL_law 758 = .ok (.iadd, 1) := by decide +kernel
theorem dL_law_759 : decode cL_law 759 = .ok (.iaload, 1) := by decide +kernel
theorem dL_law_760 : decode cL_law 760 = .ok (.aload_n 3, 1) := by decide +kernel
theorem dL_law_761 : decode cL_law 761 = .ok (.invokestatic 190, 3) := by decide +kernel
theorem dL_law_764 : decode cL_law 764 = .ok (.istore 5, 2) := by decide +kernel
theorem dL_law_766 : decode cL_law 766 = .ok (.aload_n 2, 1) := by decide +kernel
theorem dL_law_767 : decode cL_law 767 = .ok (.aload_n 0, 1) := by decide +kernel
theorem dL_law_768 : decode cL_law 768 = .ok (.iload 4, 2) := by decide +kernel
theorem dL_law_770 : decode cL_law 770 = .ok (.iconst 1, 1) := by decide +kernel
theorem dL_law_771 : decode cL_law 771 = .ok (.iadd, 1) := by decide +kernel
theorem dL_law_772 : decode cL_law 772 = .ok (.iaload, 1) := by decide +kernel
theorem dL_law_773 : decode cL_law 773 = .ok (.invokevirtual 192, 3) := by decide +kernel
theorem dL_law_776 : decode cL_law 776 = .ok (.istore 6, 2) := by decide +kernel
theorem dL_law_778 : decode cL_law 778 = .ok (.goto 979, 3) := by decide +kernel
theorem dL_law_781 : decode cL_law 781 = .ok (.aload_n 1, 1) := by decide +kernel
theorem dL_law_782 : decode cL_law 782 = .ok (.aload_n 0, 1) := by decide +kernel
theorem dL_law_783 : decode cL_law 783 = .ok (.iload 4, 2) := by decide +kernel
theorem dL_law_785 : decode cL_law 785 = .ok (.iconst 1, 1) := by decide +kernel
theorem dL_law_786 : decode cL_law 786 = .ok (.iadd, 1) := by decide +kernel
theorem dL_law_787 : decode cL_law 787 = .ok (.iaload, 1) := by decide +kernel
theorem dL_law_788 : decode cL_law 788 = .ok (.aload_n 3, 1) := by decide +kernel
theorem dL_law_789 : decode cL_law 789 = .ok (.invokestatic 193, 3) := by decide +kernel
theorem dL_law_792 : decode cL_law 792 = .ok (.istore 5, 2) := by decide +kernel
theorem dL_law_794 : decode cL_law 794 = .ok (.aload_n 2, 1) := by decide +kernel
theorem dL_law_795 : decode cL_law 795 = .ok (.aload_n 0, 1) := by decide +kernel
theorem dL_law_796 : decode cL_law 796 = .ok (.iload 4, 2) := by decide +kernel
theorem dL_law_798 : decode cL_law 798 = .ok (.iconst 1, 1) := by decide +kernel
theorem dL_law_799 : decode cL_law 799 = .ok (.iadd, 1) := by decide +kernel
theorem dL_law_800 : decode cL_law 800 = .ok (.iaload, 1) := by decide +kernel
theorem dL_law_801 : decode cL_law 801 = .ok (.invokevirtual 195, 3) := by decide +kernel
theorem dL_law_804 : decode cL_law 804 = .ok (.istore 6, 2) := by decide +kernel
theorem dL_law_806 : decode cL_law 806 = .ok (.goto 951, 3) := by decide +kernel
theorem dL_law_809 : decode cL_law 809 = .ok (.aload_n 1, 1) := by decide +kernel
theorem dL_law_810 : decode cL_law 810 = .ok (.aload_n 0, 1) := by decide +kernel
theorem dL_law_811 : decode cL_law 811 = .ok (.iload 4, 2) := by decide +kernel
theorem dL_law_813 : decode cL_law 813 = .ok (.iconst 1, 1) := by decide +kernel
theorem dL_law_814 : decode cL_law 814 = .ok (.iadd, 1) := by decide +kernel
theorem dL_law_815 : decode cL_law 815 = .ok (.iaload, 1) := by decide +kernel
theorem dL_law_816 : decode cL_law 816 = .ok (.aload_n 3, 1) := by decide +kernel
theorem dL_law_817 : decode cL_law 817 = .ok (.invokestatic 196, 3) := by decide +kernel
theorem dL_law_820 : decode cL_law 820 = .ok (.istore 5, 2) := by decide +kernel
theorem dL_law_822 : decode cL_law 822 = .ok (.aload_n 2, 1) := by decide +kernel
theorem dL_law_823 : decode cL_law 823 = .ok (.aload_n 0, 1) := by decide +kernel
theorem dL_law_824 : decode cL_law 824 = .ok (.iload 4, 2) := by decide +kernel
theorem dL_law_826 : decode cL_law 826 = .ok (.iconst 1, 1) := by decide +kernel
theorem dL_law_827 : decode cL_law 827 = .ok (.iadd, 1) := by decide +kernel
theorem dL_law_828 : decode cL_law 828 = .ok (.iaload, 1) := by decide +kernel
theorem dL_law_829 : decode cL_law 829 = .ok (.invokevirtual 198, 3) := by decide +kernel
theorem dL_law_832 : decode cL_law 832 = .ok (.istore 6, 2) := by decide +kernel
theorem dL_law_834 : decode cL_law 834 = .ok (.goto 923, 3) := by decide +kernel
theorem dL_law_837 : decode cL_law 837 = .ok (.aload_n 1, 1) := by decide +kernel
theorem dL_law_838 : decode cL_law 838 = .ok (.aload_n 0, 1) := by decide +kernel
theorem dL_law_839 : decode cL_law 839 = .ok (.iload 4, 2) := by decide +kernel
theorem dL_law_841 : decode cL_law 841 = .ok (.iconst 1, 1) := by decide +kernel
theorem dL_law_842 : decode cL_law 842 = .ok (.iadd, 1) := by decide +kernel
theorem dL_law_843 : decode cL_law 843 = .ok (.iaload, 1) := by decide +kernel
theorem dL_law_844 : decode cL_law 844 = .ok (.aload_n 3, 1) := by decide +kernel
theorem dL_law_845 : decode cL_law 845 = .ok (.invokestatic 199, 3) := by decide +kernel
theorem dL_law_848 : decode cL_law 848 = .ok (.istore 5, 2) := by decide +kernel
theorem dL_law_850 : decode cL_law 850 = .ok (.aload_n 2, 1) := by decide +kernel
theorem dL_law_851 : decode cL_law 851 = .ok (.aload_n 0, 1) := by decide +kernel
theorem dL_law_852 : decode cL_law 852 = .ok (.iload 4, 2) := by decide +kernel
theorem dL_law_854 : decode cL_law 854 = .ok (.iconst 1, 1) := by decide +kernel
theorem dL_law_855 : decode cL_law 855 = .ok (.iadd, 1) := by decide +kernel
theorem dL_law_856 : decode cL_law 856 = .ok (.iaload, 1) := by decide +kernel
theorem dL_law_857 : decode cL_law 857 = .ok (.invokevirtual 201, 3) := by decide +kernel
theorem dL_law_860 : decode cL_law 860 = .ok (.istore 6, 2) := by decide +kernel
theorem dL_law_862 : decode cL_law 862 = .ok (.goto 895, 3) := by decide +kernel
theorem dL_law_865 : decode cL_law 865 = .ok (.aload_n 1, 1) := by decide +kernel
theorem dL_law_866 : decode cL_law 866 = .ok (.aload_n 0, 1) := by decide +kernel
theorem dL_law_867 : decode cL_law 867 = .ok (.iload 4, 2) := by decide +kernel
theorem dL_law_869 : decode cL_law 869 = .ok (.iconst 1, 1) := by decide +kernel
theorem dL_law_870 : decode cL_law 870 = .ok (.iadd, 1) := by decide +kernel
theorem dL_law_871 : decode cL_law 871 = .ok (.iaload, 1) := by decide +kernel
theorem dL_law_872 : decode cL_law 872 = .ok (.aload_n 0, 1) := by decide +kernel
theorem dL_law_873 : decode cL_law 873 = .ok (.iload 4, 2) := by decide +kernel
theorem dL_law_875 : decode cL_law 875 = .ok (.iconst 2, 1) := by decide +kernel
theorem dL_law_876 : decode cL_law 876 = .ok (.iadd, 1) := by decide +kernel
theorem dL_law_877 : decode cL_law 877 = .ok (.iaload, 1) := by decide +kernel
theorem dL_law_878 : decode cL_law 878 = .ok (.aload_n 3, 1) := by decide +kernel
theorem dL_law_879 : decode cL_law 879 = .ok (.invokestatic 202, 3) := by decide +kernel
theorem dL_law_882 : decode cL_law 882 = .ok (.istore 5, 2) := by decide +kernel
theorem dL_law_884 : decode cL_law 884 = .ok (.aload_n 2, 1) := by decide +kernel
theorem dL_law_885 : decode cL_law 885 = .ok (.aload_n 0, 1) := by decide +kernel
theorem dL_law_886 : decode cL_law 886 = .ok (.iload 4, 2) := by decide +kernel
theorem dL_law_888 : decode cL_law 888 = .ok (.iconst 1, 1) := by decide +kernel
theorem dL_law_889 : decode cL_law 889 = .ok (.iadd, 1) := by decide +kernel
theorem dL_law_890 : decode cL_law 890 = .ok (.iaload, 1) := by decide +kernel
theorem dL_law_891 : decode cL_law 891 = .ok (.aload_n 0, 1) := by decide +kernel
theorem dL_law_892 : decode cL_law 892 = .ok (.iload 4, 2) := by decide +kernel
theorem dL_law_894 : decode cL_law 894 = .ok (.iconst 2, 1) := by decide +kernel
theorem dL_law_895 : decode cL_law 895 = .ok (.iadd, 1) := by decide +kernel
theorem dL_law_896 : decode cL_law 896 = .ok (.iaload, 1) := by decide +kernel
theorem dL_law_897 : decode cL_law 897 = .ok (.invokevirtual 204, 3) := by decide +kernel
theorem dL_law_900 : decode cL_law 900 = .ok (.istore 6, 2) := by decide +kernel
theorem dL_law_902 : decode cL_law 902 = .ok (.goto 855, 3) := by decide +kernel
theorem dL_law_905 : decode cL_law 905 = .ok (.aload_n 1, 1) := by decide +kernel
theorem dL_law_906 : decode cL_law 906 = .ok (.aload_n 0, 1) := by decide +kernel
theorem dL_law_907 : decode cL_law 907 = .ok (.iload 4, 2) := by decide +kernel
theorem dL_law_909 : decode cL_law 909 = .ok (.iconst 1, 1) := by decide +kernel
theorem dL_law_910 : decode cL_law 910 = .ok (.iadd, 1) := by decide +kernel
theorem dL_law_911 : decode cL_law 911 = .ok (.iaload, 1) := by decide +kernel
theorem dL_law_912 : decode cL_law 912 = .ok (.aload_n 0, 1) := by decide +kernel
theorem dL_law_913 : decode cL_law 913 = .ok (.iload 4, 2) := by decide +kernel
theorem dL_law_915 : decode cL_law 915 = .ok (.iconst 2, 1) := by decide +kernel
theorem dL_law_916 : decode cL_law 916 = .ok (.iadd, 1) := by decide +kernel
theorem dL_law_917 : decode cL_law 917 = .ok (.iaload, 1) := by decide +kernel
theorem dL_law_918 : decode cL_law 918 = .ok (.aload_n 0, 1) := by decide +kernel
theorem dL_law_919 : decode cL_law 919 = .ok (.iload 4, 2) := by decide +kernel
theorem dL_law_921 : decode cL_law 921 = .ok (.iconst 3, 1) := by decide +kernel
theorem dL_law_922 : decode cL_law 922 = .ok (.iadd, 1) := by decide +kernel
theorem dL_law_923 : decode cL_law 923 = .ok (.iaload, 1) := by decide +kernel
theorem dL_law_924 : decode cL_law 924 = .ok (.aload_n 3, 1) := by decide +kernel
theorem dL_law_925 : decode cL_law 925 = .ok (.invokestatic 205, 3) := by decide +kernel
theorem dL_law_928 : decode cL_law 928 = .ok (.istore 5, 2) := by decide +kernel
theorem dL_law_930 : decode cL_law 930 = .ok (.aload_n 2, 1) := by decide +kernel
theorem dL_law_931 : decode cL_law 931 = .ok (.aload_n 0, 1) := by decide +kernel
theorem dL_law_932 : decode cL_law 932 = .ok (.iload 4, 2) := by decide +kernel
theorem dL_law_934 : decode cL_law 934 = .ok (.iconst 1, 1) := by decide +kernel
theorem dL_law_935 : decode cL_law 935 = .ok (.iadd, 1) := by decide +kernel
theorem dL_law_936 : decode cL_law 936 = .ok (.iaload, 1) := by decide +kernel
theorem dL_law_937 : decode cL_law 937 = .ok (.aload_n 0, 1) := by decide +kernel
theorem dL_law_938 : decode cL_law 938 = .ok (.iload 4, 2) := by decide +kernel
theorem dL_law_940 : decode cL_law 940 = .ok (.iconst 2, 1) := by decide +kernel
theorem dL_law_941 : decode cL_law 941 = .ok (.iadd, 1) := by decide +kernel
theorem dL_law_942 : decode cL_law 942 = .ok (.iaload, 1) := by decide +kernel
theorem dL_law_943 : decode cL_law 943 = .ok (.aload_n 0, 1) := by decide +kernel
theorem dL_law_944 : decode cL_law 944 = .ok (.iload 4, 2) := by decide +kernel
theorem dL_law_946 : decode cL_law 946 = .ok (.iconst 3, 1) := by decide +kernel
theorem dL_law_947 : decode cL_law 947 = .ok (.iadd, 1) := by decide +kernel
theorem dL_law_948 : decode cL_law 948 = .ok (.iaload, 1) := by decide +kernel
theorem dL_law_949 : decode cL_law 949 = .ok (.invokevirtual 207, 3) := by decide +kernel
theorem dL_law_952 : decode cL_law 952 = .ok (.istore 6, 2) := by decide +kernel
theorem dL_law_954 : decode cL_law 954 = .ok (.goto 803, 3) := by decide +kernel
theorem dL_law_957 : decode cL_law 957 = .ok (.aload_n 1, 1) := by decide +kernel
theorem dL_law_958 : decode cL_law 958 = .ok (.aload_n 0, 1) := by decide +kernel
theorem dL_law_959 : decode cL_law 959 = .ok (.iload 4, 2) := by decide +kernel
theorem dL_law_961 : decode cL_law 961 = .ok (.iconst 1, 1) := by decide +kernel
theorem dL_law_962 : decode cL_law 962 = .ok (.iadd, 1) := by decide +kernel
theorem dL_law_963 : decode cL_law 963 = .ok (.iaload, 1) := by decide +kernel
theorem dL_law_964 : decode cL_law 964 = .ok (.aload_n 0, 1) := by decide +kernel
theorem dL_law_965 : decode cL_law 965 = .ok (.iload 4, 2) := by decide +kernel
theorem dL_law_967 : decode cL_law 967 = .ok (.iconst 2, 1) := by decide +kernel
theorem dL_law_968 : decode cL_law 968 = .ok (.iadd, 1) := by decide +kernel
theorem dL_law_969 : decode cL_law 969 = .ok (.iaload, 1) := by decide +kernel
theorem dL_law_970 : decode cL_law 970 = .ok (.aload_n 0, 1) := by decide +kernel
theorem dL_law_971 : decode cL_law 971 = .ok (.iload 4, 2) := by decide +kernel
theorem dL_law_973 : decode cL_law 973 = .ok (.iconst 3, 1) := by decide +kernel
theorem dL_law_974 : decode cL_law 974 = .ok (.iadd, 1) := by decide +kernel
theorem dL_law_975 : decode cL_law 975 = .ok (.iaload, 1) := by decide +kernel
theorem dL_law_976 : decode cL_law 976 = .ok (.aload_n 0, 1) := by decide +kernel
theorem dL_law_977 : decode cL_law 977 = .ok (.iload 4, 2) := by decide +kernel
theorem dL_law_979 : decode cL_law 979 = .ok (.iconst 4, 1) := by decide +kernel
theorem dL_law_980 : decode cL_law 980 = .ok (.iadd, 1) := by decide +kernel
theorem dL_law_981 : decode cL_law 981 = .ok (.iaload, 1) := by decide +kernel
theorem dL_law_982 : decode cL_law 982 = .ok (.aload_n 3, 1) := by decide +kernel
theorem dL_law_983 : decode cL_law 983 = .ok (.invokestatic 208, 3) := by decide +kernel
theorem dL_law_986 : decode cL_law 986 = .ok (.istore 5, 2) := by decide +kernel
theorem dL_law_988 : decode cL_law 988 = .ok (.aload_n 2, 1) := by decide +kernel
theorem dL_law_989 : decode cL_law 989 = .ok (.aload_n 0, 1) := by decide +kernel
theorem dL_law_990 : decode cL_law 990 = .ok (.iload 4, 2) := by decide +kernel
theorem dL_law_992 : decode cL_law 992 = .ok (.iconst 1, 1) := by decide +kernel
theorem dL_law_993 : decode cL_law 993 = .ok (.iadd, 1) := by decide +kernel
theorem dL_law_994 : decode cL_law 994 = .ok (.iaload, 1) := by decide +kernel
theorem dL_law_995 : decode cL_law 995 = .ok (.aload_n 0, 1) := by decide +kernel
theorem dL_law_996 : decode cL_law 996 = .ok (.iload 4, 2) := by decide +kernel
theorem dL_law_998 : decode cL_law 998 = .ok (.iconst 2, 1) := by decide +kernel
theorem dL_law_999 : decode cL_law 999 = .ok (.iadd, 1) := by decide +kernel
theorem dL_law_1000 : decode cL_law 1000 = .ok (.iaload, 1) := by decide +kernel
theorem dL_law_1001 : decode cL_law 1001 = .ok (.aload_n 0, 1) := by decide +kernel
theorem dL_law_1002 : decode cL_law 1002 = .ok (.iload 4, 2) := by decide +kernel
theorem dL_law_1004 : decode cL_law 1004 = .ok (.iconst 3, 1) := by decide +kernel
theorem dL_law_1005 : decode cL_law 1005 = .ok (.iadd, 1) := by decide +kernel
theorem dL_law_1006 : decode cL_law 1006 = .ok (.iaload, 1) := by decide +kernel
theorem dL_law_1007 : decode cL_law 1007 = .ok (.aload_n 0, 1) := by decide +kernel
theorem dL_law_1008 : decode cL_law 1008 = .ok (.iload 4, 2) := by decide +kernel
theorem dL_law_1010 : decode cL_law 1010 = .ok (.iconst 4, 1) := by decide +kernel
theorem dL_law_1011 : decode cL_law 1011 = .ok (.iadd, 1) := by decide +kernel
theorem dL_law_1012 : decode cL_law 1012 = .ok (.iaload, 1) := by decide +kernel
theorem dL_law_1013 : decode cL_law 1013 = .ok (.invokevirtual 210, 3) := by decide +kernel
theorem dL_law_1016 : decode cL_law 1016 = .ok (.istore 6, 2) := by decide +kernel
theorem dL_law_1018 : decode cL_law 1018 = .ok (.goto 739, 3) := by decide +kernel
theorem dL_law_1021 : decode cL_law 1021 = .ok (.aload_n 1, 1) := by decide +kernel
theorem dL_law_1022 : decode cL_law 1022 = .ok (.aload_n 0, 1) := by decide +kernel
theorem dL_law_1023 : decode cL_law 1023 = .ok (.iload 4, 2) := by decide +kernel
theorem dL_law_1025 : decode cL_law 1025 = .ok (.iconst 1, 1) := by decide +kernel
theorem dL_law_1026 : decode cL_law 1026 = .ok (.iadd, 1) := by decide +kernel
theorem dL_law_1027 : decode cL_law 1027 = .ok (.iaload, 1) := by decide +kernel
theorem dL_law_1028 : decode cL_law 1028 = .ok (.aload_n 0, 1) := by decide +kernel
theorem dL_law_1029 : decode cL_law 1029 = .ok (.iload 4, 2) := by decide +kernel
theorem dL_law_1031 : decode cL_law 1031 = .ok (.iconst 2, 1) := by decide +kernel
theorem dL_law_1032 : decode cL_law 1032 = .ok (.iadd, 1) := by decide +kernel
theorem dL_law_1033 : decode cL_law 1033 = .ok (.iaload, 1) := by decide +kernel
theorem dL_law_1034 : decode cL_law 1034 = .ok (.aload_n 0, 1) := by decide +kernel
theorem dL_law_1035 : decode cL_law 1035 = .ok (.iload 4, 2) := by decide +kernel
theorem dL_law_1037 : decode cL_law 1037 = .ok (.iconst 3, 1) := by decide +kernel
theorem dL_law_1038 : decode cL_law 1038 = .ok (.iadd, 1) := by decide +kernel
theorem dL_law_1039 : decode cL_law 1039 = .ok (.iaload, 1) := by decide +kernel
theorem dL_law_1040 : decode cL_law 1040 = .ok (.aload_n 0, 1) := by decide +kernel
theorem dL_law_1041 : decode cL_law 1041 = .ok (.iload 4, 2) := by decide +kernel
theorem dL_law_1043 : decode cL_law 1043 = .ok (.iconst 4, 1) := by decide +kernel
theorem dL_law_1044 : decode cL_law 1044 = .ok (.iadd, 1) := by decide +kernel
theorem dL_law_1045 : decode cL_law 1045 = .ok (.iaload, 1) := by decide +kernel
theorem dL_law_1046 : decode cL_law 1046 = .ok (.aload_n 3, 1) := by decide +kernel
theorem dL_law_1047 : decode cL_law 1047 = .ok (.invokestatic 211, 3) := by decide +kernel
theorem dL_law_1050 : decode cL_law 1050 = .ok (.istore 5, 2) := by decide +kernel
theorem dL_law_1052 : decode cL_law 1052 = .ok (.aload_n 2, 1) := by decide +kernel
theorem dL_law_1053 : decode cL_law 1053 = .ok (.aload_n 0, 1) := by decide +kernel
theorem dL_law_1054 : decode cL_law 1054 = .ok (.iload 4, 2) := by decide +kernel
theorem dL_law_1056 : decode cL_law 1056 = .ok (.iconst 1, 1) := by decide +kernel
theorem dL_law_1057 : decode cL_law 1057 = .ok (.iadd, 1) := by decide +kernel
theorem dL_law_1058 : decode cL_law 1058 = .ok (.iaload, 1) := by decide +kernel
theorem dL_law_1059 : decode cL_law 1059 = .ok (.aload_n 0, 1) := by decide +kernel
theorem dL_law_1060 : decode cL_law 1060 = .ok (.iload 4, 2) := by decide +kernel
theorem dL_law_1062 : decode cL_law 1062 = .ok (.iconst 2, 1) := by decide +kernel
theorem dL_law_1063 : decode cL_law 1063 = .ok (.iadd, 1) := by decide +kernel
theorem dL_law_1064 : decode cL_law 1064 = .ok (.iaload, 1) := by decide +kernel
theorem dL_law_1065 : decode cL_law 1065 = .ok (.aload_n 0, 1) := by decide +kernel
theorem dL_law_1066 : decode cL_law 1066 = .ok (.iload 4, 2) := by decide +kernel
theorem dL_law_1068 : decode cL_law 1068 = .ok (.iconst 3, 1) := by decide +kernel
theorem dL_law_1069 : decode cL_law 1069 = .ok (.iadd, 1) := by decide +kernel
theorem dL_law_1070 : decode cL_law 1070 = .ok (.iaload, 1) := by decide +kernel
theorem dL_law_1071 : decode cL_law 1071 = .ok (.aload_n 0, 1) := by decide +kernel
theorem dL_law_1072 : decode cL_law 1072 = .ok (.iload 4, 2) := by decide +kernel
theorem dL_law_1074 : decode cL_law 1074 = .ok (.iconst 4, 1) := by decide +kernel
theorem dL_law_1075 : decode cL_law 1075 = .ok (.iadd, 1) := by decide +kernel
theorem dL_law_1076 : decode cL_law 1076 = .ok (.iaload, 1) := by decide +kernel
theorem dL_law_1077 : decode cL_law 1077 = .ok (.invokevirtual 213, 3) := by decide +kernel
theorem dL_law_1080 : decode cL_law 1080 = .ok (.istore 6, 2) := by decide +kernel
theorem dL_law_1082 : decode cL_law 1082 = .ok (.goto 675, 3) := by decide +kernel
theorem dL_law_1085 : decode cL_law 1085 = .ok (.aload_n 1, 1) := by decide +kernel
theorem dL_law_1086 : decode cL_law 1086 = .ok (.aload_n 0, 1) := by decide +kernel
theorem dL_law_1087 : decode cL_law 1087 = .ok (.iload 4, 2) := by decide +kernel
theorem dL_law_1089 : decode cL_law 1089 = .ok (.iconst 1, 1) := by decide +kernel
theorem dL_law_1090 : decode cL_law 1090 = .ok (.iadd, 1) := by decide +kernel
theorem dL_law_1091 : decode cL_law 1091 = .ok (.iaload, 1) := by decide +kernel
theorem dL_law_1092 : decode cL_law 1092 = .ok (.aload_n 3, 1) := by decide +kernel
theorem dL_law_1093 : decode cL_law 1093 = .ok (.invokestatic 214, 3) := by decide +kernel
theorem dL_law_1096 : decode cL_law 1096 = .ok (.istore 5, 2) := by decide +kernel
theorem dL_law_1098 : decode cL_law 1098 = .ok (.aload_n 2, 1) := by decide +kernel
theorem dL_law_1099 : decode cL_law 1099 = .ok (.aload_n 0, 1) := by decide +kernel
theorem dL_law_1100 : decode cL_law 1100 = .ok (.iload 4, 2) := by decide +kernel
theorem dL_law_1102 : decode cL_law 1102 = .ok (.iconst 1, 1) := by decide +kernel
theorem dL_law_1103 : decode cL_law 1103 = .ok (.iadd, 1) := by decide +kernel
theorem dL_law_1104 : decode cL_law 1104 = .ok (.iaload, 1) := by decide +kernel
theorem dL_law_1105 : decode cL_law 1105 = .ok (.invokevirtual 216, 3) := by decide +kernel
theorem dL_law_1108 : decode cL_law 1108 = .ok (.istore 6, 2) := by decide +kernel
theorem dL_law_1110 : decode cL_law 1110 = .ok (.goto 647, 3) := by decide +kernel
theorem dL_law_1113 : decode cL_law 1113 = .ok (.aload_n 1, 1) := by decide +kernel
theorem dL_law_1114 : decode cL_law 1114 = .ok (.aload_n 0, 1) := by decide +kernel
theorem dL_law_1115 : decode cL_law 1115 = .ok (.iload 4, 2) := by decide +kernel
theorem dL_law_1117 : decode cL_law 1117 = .ok (.iconst 1, 1) := by decide +kernel
theorem dL_law_1118 : decode cL_law 1118 = .ok (.iadd, 1) := by decide +kernel
theorem dL_law_1119 : decode cL_law 1119 = .ok (.iaload, 1) := by decide +kernel
theorem dL_law_1120 : decode cL_law 1120 = .ok (.aload_n 0, 1) := by decide +kernel
theorem dL_law_1121 : decode cL_law 1121 = .ok (.iload 4, 2) := by decide +kernel
theorem dL_law_1123 : decode cL_law 1123 = .ok (.iconst 2, 1) := by decide +kernel
theorem dL_law_1124 : decode cL_law 1124 = .ok (.iadd, 1) := by decide +kernel
theorem dL_law_1125 : decode cL_law 1125 = .ok (.iaload, 1) := by decide +kernel
theorem dL_law_1126 : decode cL_law 1126 = .ok (.aload_n 0, 1) := by decide +kernel
theorem dL_law_1127 : decode cL_law 1127 = .ok (.iload 4, 2) := by decide +kernel
theorem dL_law_1129 : decode cL_law 1129 = .ok (.iconst 3, 1) := by decide +kernel
theorem dL_law_1130 : decode cL_law 1130 = .ok (.iadd, 1) := by decide +kernel
theorem dL_law_1131 : decode cL_law 1131 = .ok (.iaload, 1) := by decide +kernel
theorem dL_law_1132 : decode cL_law 1132 = .ok (.aload_n 3, 1) := by decide +kernel
theorem dL_law_1133 : decode cL_law 1133 = .ok (.invokestatic 217, 3) := by decide +kernel
theorem dL_law_1136 : decode cL_law 1136 = .ok (.istore 5, 2) := by decide +kernel
theorem dL_law_1138 : decode cL_law 1138 = .ok (.aload_n 2, 1) := by decide +kernel
theorem dL_law_1139 : decode cL_law 1139 = .ok (.aload_n 0, 1) := by decide +kernel
theorem dL_law_1140 : decode cL_law 1140 = .ok (.iload 4, 2) := by decide +kernel
theorem dL_law_1142 : decode cL_law 1142 = .ok (.iconst 1, 1) := by decide +kernel
theorem dL_law_1143 : decode cL_law 1143 = .ok (.iadd, 1) := by decide +kernel
theorem dL_law_1144 : decode cL_law 1144 = .ok (.iaload, 1) := by decide +kernel
theorem dL_law_1145 : decode cL_law 1145 = .ok (.aload_n 0, 1) := by decide +kernel
theorem dL_law_1146 : decode cL_law 1146 = .ok (.iload 4, 2) := by decide +kernel
theorem dL_law_1148 : decode cL_law 1148 = .ok (.iconst 2, 1) := by decide +kernel
theorem dL_law_1149 : decode cL_law 1149 = .ok (.iadd, 1) := by decide +kernel
theorem dL_law_1150 : decode cL_law 1150 = .ok (.iaload, 1) := by decide +kernel
theorem dL_law_1151 : decode cL_law 1151 = .ok (.aload_n 0, 1) := by decide +kernel
theorem dL_law_1152 : decode cL_law 1152 = .ok (.iload 4, 2) := by decide +kernel
theorem dL_law_1154 : decode cL_law 1154 = .ok (.iconst 3, 1) := by decide +kernel
theorem dL_law_1155 : decode cL_law 1155 = .ok (.iadd, 1) := by decide +kernel
theorem dL_law_1156 : decode cL_law 1156 = .ok (.iaload, 1) := by decide +kernel
theorem dL_law_1157 : decode cL_law 1157 = .ok (.invokevirtual 219, 3) := by decide +kernel
theorem dL_law_1160 : decode cL_law 1160 = .ok (.istore 6, 2) := by decide +kernel
theorem dL_law_1162 : decode cL_law 1162 = .ok (.goto 595, 3) := by decide +kernel
set_option maxRecDepth 20000 in
theorem lc_mark {X : zX} (C : z_C X cL_law RL 7 room_1) (h_st : (z_l X).stackTraces = false) {b L : Nat} {xs : Nat → Int32} (hX : va_X b L xs (z_s X) (z_s X).heap) (hbl : b < (z_s X).heap.size) (hbA : ¬ z_F X b) {jx : Nat} {a1 a2 a3 a4 : Int32} (hs1 : vp_in (nI (5 * jx) + 1) L ∧ xs (nI (5 * jx) + 1).toNatClampNeg = a1) (hs2 : vp_in (nI (5 * jx) + 2) L ∧ xs (nI (5 * jx) + 2).toNatClampNeg = a2) (hs3 : vp_in (nI (5 * jx) + 3) L ∧ xs (nI (5 * jx) + 3).toNatClampNeg = a3) (hs4 : vp_in (nI (5 * jx) + 4) L ∧ xs (nI (5 * jx) + 4).toNatClampNeg = a4) {u : sS} {x pa sp ln rf sb m pn td ou : Nat} {th : Int32} {on : Int64} {Mw : zM} (hI : s_LX (z_G X) x pa sp ln rf sb m pn td ou u u th on Mw) (hok : s_ok jx u) (hj : jx < 64) {kq nq : Nat} (hkq : kq + 4000 ≤ 600128) (hnq : nq + 60000 ≤ 7301098) (kk : ∀ v th on Mz, s_LX (z_G X) x pa sp ln rf sb m pn td ou v v th on Mz → s_ok (jx + 1) v → z_W X Mz (kq + 4000) (nq + 60000) 27 [(4, .int (nI (5 * (jx + 1)))), (0, .ref b), (1, .ref x), (2, .ref m), (3, .ref ou)] []) : z_W X Mw kq nq 696 [(4, .int (nI (5 * jx))), (0, .ref b), (1, .ref x), (2, .ref m), (3, .ref ou)] [] := by
  refine z_aload_n C dL_law_696 rfl 2 rfl ?_
  refine z_aload_n C dL_law_697 rfl 1 rfl ?_
  refine z_iload C dL_law_698 0 rfl ?_
  refine z_iconst C (v := 1) dL_law_700 (by decide) ?_
  refine z_iadd C dL_law_701 ?_
  refine z_sld C hX hbl hbA hs1.1 hs1.2 dL_law_702 ?_
  refine z_aload_n C dL_law_703 rfl 4 rfl ?_
  refine z_callHi (rest := []) (k' := kq + 8) (n' := nq + 48) C (s_LX_P hI (fun hC9 hd9 ho9 => w_mark (z_l X) h_st hC9 hd9 ho9 hok a1)) (ch_mark C ⟨Nat.le_of_ble_eq_true rfl, Nat.le_of_ble_eq_true rfl⟩) rfl rfl (Nat.le_of_ble_eq_true rfl) rfl rfl (by show _ ≤ 600128; omega) (by show _ ≤ 7301098; omega) dL_law_704 (fun xk M1 hq => ?_)
  obtain ⟨hk1, on1, hI1, ho1⟩ := hq
  refine z_istore (lv' := [(5, .int xk), (4, .int (nI (5 * jx))), (0, .ref b), (1, .ref x), (2, .ref m), (3, .ref ou)]) C dL_law_707 (by decide) rfl ?_
  refine z_aload_n C dL_law_709 rfl 4 rfl ?_
  refine z_aload_n C dL_law_710 rfl 2 rfl ?_
  refine z_iload C dL_law_711 1 rfl ?_
  refine z_iconst C (v := 1) dL_law_713 (by decide) ?_
  refine z_iadd C dL_law_714 ?_
  refine z_sld C hX hbl hbA hs1.1 hs1.2 dL_law_715 ?_
  obtain ⟨tp9, hm9⟩ := s_LX_m hI1
  refine z_callVi (rest := []) (k' := kq + 8) (n' := nq + 48) C (s_LX_R hI1 (fun hR9 => a_X5_mark (z_l X) hR9 hok (by omega) a1)) (cs_L_185 C ⟨Nat.le_of_ble_eq_true rfl, Nat.le_of_ble_eq_true rfl⟩) hm9 rfl rfl rfl rfl (Nat.le_of_ble_eq_true rfl) rfl rfl (by show _ ≤ 600128; omega) (by show _ ≤ 7301098; omega) dL_law_716 (fun xr M2 hq => ?_)
  obtain ⟨hI2, hr2⟩ := hq
  obtain ⟨tp8, hm8⟩ := s_LX_m hI2
  obtain ⟨os8, hou8⟩ := s_LX_ou hI2
  refine z_istore (lv' := [(6, .int xr), (5, .int xk), (4, .int (nI (5 * jx))), (0, .ref b), (1, .ref x), (2, .ref m), (3, .ref ou)]) C dL_law_719 (by decide) rfl ?_
  refine z_aload_n C dL_law_721 rfl 5 rfl ?_
  refine z_callVi (rest := []) (k' := kq + 8) (n' := nq + 48) C (c_X5_thrown (z_l X) (z_G X) hm8) (cs_L_186 C ⟨Nat.le_of_ble_eq_true rfl, Nat.le_of_ble_eq_true rfl⟩) hm8 rfl rfl rfl rfl (Nat.le_of_ble_eq_true rfl) rfl rfl (by show _ ≤ 600128; omega) (by show _ ≤ 7301098; omega) dL_law_722 (fun x3 M3 hq => ?_)
  obtain ⟨e3, rfl⟩ := hq
  rw [e3]
  refine z_iload C dL_law_725 1 rfl ?_
  refine z_icmp_eq C (tgt := 732) dL_law_727 (by decide) (fun _ => ?_) (fun c727 => absurd hk1.symm c727)
  refine z_iload C dL_law_732 1 rfl ?_
  refine z_if_ne C (tgt := 750) dL_law_734 (by decide) (fun c734 => ?_) (fun c734 => ?_)
  · refine z_goto C (tgt := 1757) dL_law_750 (by decide) ?_
    refine z_iinc (v := nI (5 * (jx + 1))) (lv' := [(4, .int (nI (5 * (jx + 1)))), (6, .int xr), (5, .int xk), (0, .ref b), (1, .ref x), (2, .ref m), (3, .ref ou)]) C dL_law_1757 2 rfl (j_inc5 jx) (by decide) rfl ?_
    refine z_goto C (tgt := 27) dL_law_1760 (by decide) ?_
    refine z_fewer [0, 3, 4, 5, 6] rfl ?_
    refine z_widen (k' := kq + 4000) (n' := nq + 60000) (by omega) (by omega) ?_
    exact kk _ _ _ _ hI2 (so_mark hok)
  · refine z_aload_n C dL_law_737 rfl 6 rfl ?_
    refine gf_L_13 C hou8 dL_law_738 ?_
    refine z_iload C dL_law_741 0 rfl ?_
    refine z_i2l C dL_law_743 ?_
    refine z_lcmp C dL_law_744 ?_
    refine z_if_eq C (tgt := 750) dL_law_745 (by decide) (fun _ => ?_) (fun c745 => absurd (by rw [ho1 (hk1.symm.trans c734), hr2 (hk1.symm.trans c734)]; exact lg_cmp_rf _) c745)
    refine z_goto C (tgt := 1757) dL_law_750 (by decide) ?_
    refine z_iinc (v := nI (5 * (jx + 1))) (lv' := [(4, .int (nI (5 * (jx + 1)))), (6, .int xr), (5, .int xk), (0, .ref b), (1, .ref x), (2, .ref m), (3, .ref ou)]) C dL_law_1757 2 rfl (j_inc5 jx) (by decide) rfl ?_
    refine z_goto C (tgt := 27) dL_law_1760 (by decide) ?_
    refine z_fewer [0, 3, 4, 5, 6] rfl ?_
    refine z_widen (k' := kq + 4000) (n' := nq + 60000) (by omega) (by omega) ?_
    exact kk _ _ _ _ hI2 (so_mark hok)
set_option maxRecDepth 20000 in
theorem lc_back {X : zX} (C : z_C X cL_law RL 7 room_1) (h_st : (z_l X).stackTraces = false) {b L : Nat} {xs : Nat → Int32} (hX : va_X b L xs (z_s X) (z_s X).heap) (hbl : b < (z_s X).heap.size) (hbA : ¬ z_F X b) {jx : Nat} {a1 a2 a3 a4 : Int32} (hs1 : vp_in (nI (5 * jx) + 1) L ∧ xs (nI (5 * jx) + 1).toNatClampNeg = a1) (hs2 : vp_in (nI (5 * jx) + 2) L ∧ xs (nI (5 * jx) + 2).toNatClampNeg = a2) (hs3 : vp_in (nI (5 * jx) + 3) L ∧ xs (nI (5 * jx) + 3).toNatClampNeg = a3) (hs4 : vp_in (nI (5 * jx) + 4) L ∧ xs (nI (5 * jx) + 4).toNatClampNeg = a4) {u : sS} {x pa sp ln rf sb m pn td ou : Nat} {th : Int32} {on : Int64} {Mw : zM} (hI : s_LX (z_G X) x pa sp ln rf sb m pn td ou u u th on Mw) (hok : s_ok jx u) (hj : jx < 64) {kq nq : Nat} (hkq : kq + 4000 ≤ 600128) (hnq : nq + 60000 ≤ 7301098) (kk : ∀ v th on Mz, s_LX (z_G X) x pa sp ln rf sb m pn td ou v v th on Mz → s_ok (jx + 1) v → z_W X Mz (kq + 4000) (nq + 60000) 27 [(4, .int (nI (5 * (jx + 1)))), (0, .ref b), (1, .ref x), (2, .ref m), (3, .ref ou)] []) : z_W X Mw kq nq 753 [(4, .int (nI (5 * jx))), (0, .ref b), (1, .ref x), (2, .ref m), (3, .ref ou)] [] := by
  refine z_aload_n C dL_law_753 rfl 2 rfl ?_
  refine z_aload_n C dL_law_754 rfl 1 rfl ?_
  refine z_iload C dL_law_755 0 rfl ?_
  refine z_iconst C (v := 1) dL_law_757 (by decide) ?_
  refine z_iadd C dL_law_758 ?_
  refine z_sld C hX hbl hbA hs1.1 hs1.2 dL_law_759 ?_
  refine z_aload_n C dL_law_760 rfl 4 rfl ?_
  refine z_callHi (rest := []) (k' := kq + 8) (n' := nq + 48) C (s_LX_P hI (fun hC9 hd9 ho9 => w_back (z_l X) h_st hC9 hd9 ho9 hok a1)) (ch_back C ⟨Nat.le_of_ble_eq_true rfl, Nat.le_of_ble_eq_true rfl⟩) rfl rfl (Nat.le_of_ble_eq_true rfl) rfl rfl (by show _ ≤ 600128; omega) (by show _ ≤ 7301098; omega) dL_law_761 (fun xk M1 hq => ?_)
  obtain ⟨hk1, on1, hI1, ho1⟩ := hq
  refine z_istore (lv' := [(5, .int xk), (4, .int (nI (5 * jx))), (0, .ref b), (1, .ref x), (2, .ref m), (3, .ref ou)]) C dL_law_764 (by decide) rfl ?_
  refine z_aload_n C dL_law_766 rfl 4 rfl ?_
  refine z_aload_n C dL_law_767 rfl 2 rfl ?_
  refine z_iload C dL_law_768 1 rfl ?_
  refine z_iconst C (v := 1) dL_law_770 (by decide) ?_
  refine z_iadd C dL_law_771 ?_
  refine z_sld C hX hbl hbA hs1.1 hs1.2 dL_law_772 ?_
  obtain ⟨tp9, hm9⟩ := s_LX_m hI1
  refine z_callVi (rest := []) (k' := kq + 8) (n' := nq + 48) C (s_LX_R hI1 (fun hR9 => a_X5_back (z_l X) hR9 hok (by omega) a1)) (cs_L_192 C ⟨Nat.le_of_ble_eq_true rfl, Nat.le_of_ble_eq_true rfl⟩) hm9 rfl rfl rfl rfl (Nat.le_of_ble_eq_true rfl) rfl rfl (by show _ ≤ 600128; omega) (by show _ ≤ 7301098; omega) dL_law_773 (fun xr M2 hq => ?_)
  obtain ⟨hI2, hr2⟩ := hq
  refine z_istore (lv' := [(6, .int xr), (5, .int xk), (4, .int (nI (5 * jx))), (0, .ref b), (1, .ref x), (2, .ref m), (3, .ref ou)]) C dL_law_776 (by decide) rfl ?_
  refine z_goto C (tgt := 1757) dL_law_778 (by decide) ?_
  refine z_iinc (v := nI (5 * (jx + 1))) (lv' := [(4, .int (nI (5 * (jx + 1)))), (6, .int xr), (5, .int xk), (0, .ref b), (1, .ref x), (2, .ref m), (3, .ref ou)]) C dL_law_1757 2 rfl (j_inc5 jx) (by decide) rfl ?_
  refine z_goto C (tgt := 27) dL_law_1760 (by decide) ?_
  refine z_fewer [0, 3, 4, 5, 6] rfl ?_
  refine z_widen (k' := kq + 4000) (n' := nq + 60000) (by omega) (by omega) ?_
  exact kk _ _ _ _ hI2 (so_back hok)
set_option maxRecDepth 20000 in
theorem lc_clear {X : zX} (C : z_C X cL_law RL 7 room_1) (h_st : (z_l X).stackTraces = false) {b L : Nat} {xs : Nat → Int32} (hX : va_X b L xs (z_s X) (z_s X).heap) (hbl : b < (z_s X).heap.size) (hbA : ¬ z_F X b) {jx : Nat} {a1 a2 a3 a4 : Int32} (hs1 : vp_in (nI (5 * jx) + 1) L ∧ xs (nI (5 * jx) + 1).toNatClampNeg = a1) (hs2 : vp_in (nI (5 * jx) + 2) L ∧ xs (nI (5 * jx) + 2).toNatClampNeg = a2) (hs3 : vp_in (nI (5 * jx) + 3) L ∧ xs (nI (5 * jx) + 3).toNatClampNeg = a3) (hs4 : vp_in (nI (5 * jx) + 4) L ∧ xs (nI (5 * jx) + 4).toNatClampNeg = a4) {u : sS} {x pa sp ln rf sb m pn td ou : Nat} {th : Int32} {on : Int64} {Mw : zM} (hI : s_LX (z_G X) x pa sp ln rf sb m pn td ou u u th on Mw) (hok : s_ok jx u) (hj : jx < 64) {kq nq : Nat} (hkq : kq + 4000 ≤ 600128) (hnq : nq + 60000 ≤ 7301098) (kk : ∀ v th on Mz, s_LX (z_G X) x pa sp ln rf sb m pn td ou v v th on Mz → s_ok (jx + 1) v → z_W X Mz (kq + 4000) (nq + 60000) 27 [(4, .int (nI (5 * (jx + 1)))), (0, .ref b), (1, .ref x), (2, .ref m), (3, .ref ou)] []) : z_W X Mw kq nq 781 [(4, .int (nI (5 * jx))), (0, .ref b), (1, .ref x), (2, .ref m), (3, .ref ou)] [] := by
  refine z_aload_n C dL_law_781 rfl 2 rfl ?_
  refine z_aload_n C dL_law_782 rfl 1 rfl ?_
  refine z_iload C dL_law_783 0 rfl ?_
  refine z_iconst C (v := 1) dL_law_785 (by decide) ?_
  refine z_iadd C dL_law_786 ?_
  refine z_sld C hX hbl hbA hs1.1 hs1.2 dL_law_787 ?_
  refine z_aload_n C dL_law_788 rfl 4 rfl ?_
  refine z_callHi (rest := []) (k' := kq + 8) (n' := nq + 48) C (s_LX_P hI (fun hC9 hd9 ho9 => w_clear (z_l X) h_st hC9 hd9 ho9 hok a1)) (ch_clear C ⟨Nat.le_of_ble_eq_true rfl, Nat.le_of_ble_eq_true rfl⟩) rfl rfl (Nat.le_of_ble_eq_true rfl) rfl rfl (by show _ ≤ 600128; omega) (by show _ ≤ 7301098; omega) dL_law_789 (fun xk M1 hq => ?_)
  obtain ⟨hk1, on1, hI1, ho1⟩ := hq
  refine z_istore (lv' := [(5, .int xk), (4, .int (nI (5 * jx))), (0, .ref b), (1, .ref x), (2, .ref m), (3, .ref ou)]) C dL_law_792 (by decide) rfl ?_
  refine z_aload_n C dL_law_794 rfl 4 rfl ?_
  refine z_aload_n C dL_law_795 rfl 2 rfl ?_
  refine z_iload C dL_law_796 1 rfl ?_
  refine z_iconst C (v := 1) dL_law_798 (by decide) ?_
  refine z_iadd C dL_law_799 ?_
  refine z_sld C hX hbl hbA hs1.1 hs1.2 dL_law_800 ?_
  obtain ⟨tp9, hm9⟩ := s_LX_m hI1
  refine z_callVi (rest := []) (k' := kq + 8) (n' := nq + 48) C (s_LX_R hI1 (fun hR9 => a_X5_clear (z_l X) hR9 hok (by omega) a1)) (cs_L_195 C ⟨Nat.le_of_ble_eq_true rfl, Nat.le_of_ble_eq_true rfl⟩) hm9 rfl rfl rfl rfl (Nat.le_of_ble_eq_true rfl) rfl rfl (by show _ ≤ 600128; omega) (by show _ ≤ 7301098; omega) dL_law_801 (fun xr M2 hq => ?_)
  obtain ⟨hI2, hr2⟩ := hq
  refine z_istore (lv' := [(6, .int xr), (5, .int xk), (4, .int (nI (5 * jx))), (0, .ref b), (1, .ref x), (2, .ref m), (3, .ref ou)]) C dL_law_804 (by decide) rfl ?_
  refine z_goto C (tgt := 1757) dL_law_806 (by decide) ?_
  refine z_iinc (v := nI (5 * (jx + 1))) (lv' := [(4, .int (nI (5 * (jx + 1)))), (6, .int xr), (5, .int xk), (0, .ref b), (1, .ref x), (2, .ref m), (3, .ref ou)]) C dL_law_1757 2 rfl (j_inc5 jx) (by decide) rfl ?_
  refine z_goto C (tgt := 27) dL_law_1760 (by decide) ?_
  refine z_fewer [0, 3, 4, 5, 6] rfl ?_
  refine z_widen (k' := kq + 4000) (n' := nq + 60000) (by omega) (by omega) ?_
  exact kk _ _ _ _ hI2 (so_clear hok)
set_option maxRecDepth 20000 in
theorem lc_flip {X : zX} (C : z_C X cL_law RL 7 room_1) (h_st : (z_l X).stackTraces = false) {b L : Nat} {xs : Nat → Int32} (hX : va_X b L xs (z_s X) (z_s X).heap) (hbl : b < (z_s X).heap.size) (hbA : ¬ z_F X b) {jx : Nat} {a1 a2 a3 a4 : Int32} (hs1 : vp_in (nI (5 * jx) + 1) L ∧ xs (nI (5 * jx) + 1).toNatClampNeg = a1) (hs2 : vp_in (nI (5 * jx) + 2) L ∧ xs (nI (5 * jx) + 2).toNatClampNeg = a2) (hs3 : vp_in (nI (5 * jx) + 3) L ∧ xs (nI (5 * jx) + 3).toNatClampNeg = a3) (hs4 : vp_in (nI (5 * jx) + 4) L ∧ xs (nI (5 * jx) + 4).toNatClampNeg = a4) {u : sS} {x pa sp ln rf sb m pn td ou : Nat} {th : Int32} {on : Int64} {Mw : zM} (hI : s_LX (z_G X) x pa sp ln rf sb m pn td ou u u th on Mw) (hok : s_ok jx u) (hj : jx < 64) {kq nq : Nat} (hkq : kq + 4000 ≤ 600128) (hnq : nq + 60000 ≤ 7301098) (kk : ∀ v th on Mz, s_LX (z_G X) x pa sp ln rf sb m pn td ou v v th on Mz → s_ok (jx + 1) v → z_W X Mz (kq + 4000) (nq + 60000) 27 [(4, .int (nI (5 * (jx + 1)))), (0, .ref b), (1, .ref x), (2, .ref m), (3, .ref ou)] []) : z_W X Mw kq nq 809 [(4, .int (nI (5 * jx))), (0, .ref b), (1, .ref x), (2, .ref m), (3, .ref ou)] [] := by
  refine z_aload_n C dL_law_809 rfl 2 rfl ?_
  refine z_aload_n C dL_law_810 rfl 1 rfl ?_
  refine z_iload C dL_law_811 0 rfl ?_
  refine z_iconst C (v := 1) dL_law_813 (by decide) ?_
  refine z_iadd C dL_law_814 ?_
  refine z_sld C hX hbl hbA hs1.1 hs1.2 dL_law_815 ?_
  refine z_aload_n C dL_law_816 rfl 4 rfl ?_
  refine z_callHi (rest := []) (k' := kq + 8) (n' := nq + 48) C (s_LX_P hI (fun hC9 hd9 ho9 => w_flip (z_l X) h_st hC9 hd9 ho9 hok a1)) (ch_flip C ⟨Nat.le_of_ble_eq_true rfl, Nat.le_of_ble_eq_true rfl⟩) rfl rfl (Nat.le_of_ble_eq_true rfl) rfl rfl (by show _ ≤ 600128; omega) (by show _ ≤ 7301098; omega) dL_law_817 (fun xk M1 hq => ?_)
  obtain ⟨hk1, on1, hI1, ho1⟩ := hq
  refine z_istore (lv' := [(5, .int xk), (4, .int (nI (5 * jx))), (0, .ref b), (1, .ref x), (2, .ref m), (3, .ref ou)]) C dL_law_820 (by decide) rfl ?_
  refine z_aload_n C dL_law_822 rfl 4 rfl ?_
  refine z_aload_n C dL_law_823 rfl 2 rfl ?_
  refine z_iload C dL_law_824 1 rfl ?_
  refine z_iconst C (v := 1) dL_law_826 (by decide) ?_
  refine z_iadd C dL_law_827 ?_
  refine z_sld C hX hbl hbA hs1.1 hs1.2 dL_law_828 ?_
  obtain ⟨tp9, hm9⟩ := s_LX_m hI1
  refine z_callVi (rest := []) (k' := kq + 8) (n' := nq + 48) C (s_LX_R hI1 (fun hR9 => a_X5_flip (z_l X) hR9 hok (by omega) a1)) (cs_L_198 C ⟨Nat.le_of_ble_eq_true rfl, Nat.le_of_ble_eq_true rfl⟩) hm9 rfl rfl rfl rfl (Nat.le_of_ble_eq_true rfl) rfl rfl (by show _ ≤ 600128; omega) (by show _ ≤ 7301098; omega) dL_law_829 (fun xr M2 hq => ?_)
  obtain ⟨hI2, hr2⟩ := hq
  refine z_istore (lv' := [(6, .int xr), (5, .int xk), (4, .int (nI (5 * jx))), (0, .ref b), (1, .ref x), (2, .ref m), (3, .ref ou)]) C dL_law_832 (by decide) rfl ?_
  refine z_goto C (tgt := 1757) dL_law_834 (by decide) ?_
  refine z_iinc (v := nI (5 * (jx + 1))) (lv' := [(4, .int (nI (5 * (jx + 1)))), (6, .int xr), (5, .int xk), (0, .ref b), (1, .ref x), (2, .ref m), (3, .ref ou)]) C dL_law_1757 2 rfl (j_inc5 jx) (by decide) rfl ?_
  refine z_goto C (tgt := 27) dL_law_1760 (by decide) ?_
  refine z_fewer [0, 3, 4, 5, 6] rfl ?_
  refine z_widen (k' := kq + 4000) (n' := nq + 60000) (by omega) (by omega) ?_
  exact kk _ _ _ _ hI2 (so_flip hok)
set_option maxRecDepth 20000 in
theorem lc_rewind {X : zX} (C : z_C X cL_law RL 7 room_1) (h_st : (z_l X).stackTraces = false) {b L : Nat} {xs : Nat → Int32} (hX : va_X b L xs (z_s X) (z_s X).heap) (hbl : b < (z_s X).heap.size) (hbA : ¬ z_F X b) {jx : Nat} {a1 a2 a3 a4 : Int32} (hs1 : vp_in (nI (5 * jx) + 1) L ∧ xs (nI (5 * jx) + 1).toNatClampNeg = a1) (hs2 : vp_in (nI (5 * jx) + 2) L ∧ xs (nI (5 * jx) + 2).toNatClampNeg = a2) (hs3 : vp_in (nI (5 * jx) + 3) L ∧ xs (nI (5 * jx) + 3).toNatClampNeg = a3) (hs4 : vp_in (nI (5 * jx) + 4) L ∧ xs (nI (5 * jx) + 4).toNatClampNeg = a4) {u : sS} {x pa sp ln rf sb m pn td ou : Nat} {th : Int32} {on : Int64} {Mw : zM} (hI : s_LX (z_G X) x pa sp ln rf sb m pn td ou u u th on Mw) (hok : s_ok jx u) (hj : jx < 64) {kq nq : Nat} (hkq : kq + 4000 ≤ 600128) (hnq : nq + 60000 ≤ 7301098) (kk : ∀ v th on Mz, s_LX (z_G X) x pa sp ln rf sb m pn td ou v v th on Mz → s_ok (jx + 1) v → z_W X Mz (kq + 4000) (nq + 60000) 27 [(4, .int (nI (5 * (jx + 1)))), (0, .ref b), (1, .ref x), (2, .ref m), (3, .ref ou)] []) : z_W X Mw kq nq 837 [(4, .int (nI (5 * jx))), (0, .ref b), (1, .ref x), (2, .ref m), (3, .ref ou)] [] := by
  refine z_aload_n C dL_law_837 rfl 2 rfl ?_
  refine z_aload_n C dL_law_838 rfl 1 rfl ?_
  refine z_iload C dL_law_839 0 rfl ?_
  refine z_iconst C (v := 1) dL_law_841 (by decide) ?_
  refine z_iadd C dL_law_842 ?_
  refine z_sld C hX hbl hbA hs1.1 hs1.2 dL_law_843 ?_
  refine z_aload_n C dL_law_844 rfl 4 rfl ?_
  refine z_callHi (rest := []) (k' := kq + 8) (n' := nq + 48) C (s_LX_P hI (fun hC9 hd9 ho9 => w_rewind (z_l X) h_st hC9 hd9 ho9 hok a1)) (ch_rewind C ⟨Nat.le_of_ble_eq_true rfl, Nat.le_of_ble_eq_true rfl⟩) rfl rfl (Nat.le_of_ble_eq_true rfl) rfl rfl (by show _ ≤ 600128; omega) (by show _ ≤ 7301098; omega) dL_law_845 (fun xk M1 hq => ?_)
  obtain ⟨hk1, on1, hI1, ho1⟩ := hq
  refine z_istore (lv' := [(5, .int xk), (4, .int (nI (5 * jx))), (0, .ref b), (1, .ref x), (2, .ref m), (3, .ref ou)]) C dL_law_848 (by decide) rfl ?_
  refine z_aload_n C dL_law_850 rfl 4 rfl ?_
  refine z_aload_n C dL_law_851 rfl 2 rfl ?_
  refine z_iload C dL_law_852 1 rfl ?_
  refine z_iconst C (v := 1) dL_law_854 (by decide) ?_
  refine z_iadd C dL_law_855 ?_
  refine z_sld C hX hbl hbA hs1.1 hs1.2 dL_law_856 ?_
  obtain ⟨tp9, hm9⟩ := s_LX_m hI1
  refine z_callVi (rest := []) (k' := kq + 8) (n' := nq + 48) C (s_LX_R hI1 (fun hR9 => a_X5_rewind (z_l X) hR9 hok (by omega) a1)) (cs_L_201 C ⟨Nat.le_of_ble_eq_true rfl, Nat.le_of_ble_eq_true rfl⟩) hm9 rfl rfl rfl rfl (Nat.le_of_ble_eq_true rfl) rfl rfl (by show _ ≤ 600128; omega) (by show _ ≤ 7301098; omega) dL_law_857 (fun xr M2 hq => ?_)
  obtain ⟨hI2, hr2⟩ := hq
  refine z_istore (lv' := [(6, .int xr), (5, .int xk), (4, .int (nI (5 * jx))), (0, .ref b), (1, .ref x), (2, .ref m), (3, .ref ou)]) C dL_law_860 (by decide) rfl ?_
  refine z_goto C (tgt := 1757) dL_law_862 (by decide) ?_
  refine z_iinc (v := nI (5 * (jx + 1))) (lv' := [(4, .int (nI (5 * (jx + 1)))), (6, .int xr), (5, .int xk), (0, .ref b), (1, .ref x), (2, .ref m), (3, .ref ou)]) C dL_law_1757 2 rfl (j_inc5 jx) (by decide) rfl ?_
  refine z_goto C (tgt := 27) dL_law_1760 (by decide) ?_
  refine z_fewer [0, 3, 4, 5, 6] rfl ?_
  refine z_widen (k' := kq + 4000) (n' := nq + 60000) (by omega) (by omega) ?_
  exact kk _ _ _ _ hI2 (so_rewind hok)
set_option maxRecDepth 20000 in
theorem lc_put {X : zX} (C : z_C X cL_law RL 7 room_1) (h_st : (z_l X).stackTraces = false) {b L : Nat} {xs : Nat → Int32} (hX : va_X b L xs (z_s X) (z_s X).heap) (hbl : b < (z_s X).heap.size) (hbA : ¬ z_F X b) {jx : Nat} {a1 a2 a3 a4 : Int32} (hs1 : vp_in (nI (5 * jx) + 1) L ∧ xs (nI (5 * jx) + 1).toNatClampNeg = a1) (hs2 : vp_in (nI (5 * jx) + 2) L ∧ xs (nI (5 * jx) + 2).toNatClampNeg = a2) (hs3 : vp_in (nI (5 * jx) + 3) L ∧ xs (nI (5 * jx) + 3).toNatClampNeg = a3) (hs4 : vp_in (nI (5 * jx) + 4) L ∧ xs (nI (5 * jx) + 4).toNatClampNeg = a4) {u : sS} {x pa sp ln rf sb m pn td ou : Nat} {th : Int32} {on : Int64} {Mw : zM} (hI : s_LX (z_G X) x pa sp ln rf sb m pn td ou u u th on Mw) (hok : s_ok jx u) (hj : jx < 64) {kq nq : Nat} (hkq : kq + 4000 ≤ 600128) (hnq : nq + 60000 ≤ 7301098) (kk : ∀ v th on Mz, s_LX (z_G X) x pa sp ln rf sb m pn td ou v v th on Mz → s_ok (jx + 1) v → z_W X Mz (kq + 4000) (nq + 60000) 27 [(4, .int (nI (5 * (jx + 1)))), (0, .ref b), (1, .ref x), (2, .ref m), (3, .ref ou)] []) : z_W X Mw kq nq 865 [(4, .int (nI (5 * jx))), (0, .ref b), (1, .ref x), (2, .ref m), (3, .ref ou)] [] := by
  refine z_aload_n C dL_law_865 rfl 2 rfl ?_
  refine z_aload_n C dL_law_866 rfl 1 rfl ?_
  refine z_iload C dL_law_867 0 rfl ?_
  refine z_iconst C (v := 1) dL_law_869 (by decide) ?_
  refine z_iadd C dL_law_870 ?_
  refine z_sld C hX hbl hbA hs1.1 hs1.2 dL_law_871 ?_
  refine z_aload_n C dL_law_872 rfl 1 rfl ?_
  refine z_iload C dL_law_873 0 rfl ?_
  refine z_iconst C (v := 2) dL_law_875 (by decide) ?_
  refine z_iadd C dL_law_876 ?_
  refine z_sld C hX hbl hbA hs2.1 hs2.2 dL_law_877 ?_
  refine z_aload_n C dL_law_878 rfl 4 rfl ?_
  refine z_callHi (rest := []) (k' := kq + 8) (n' := nq + 48) C (s_LX_P hI (fun hC9 hd9 ho9 => w_put (z_l X) h_st hC9 hd9 ho9 hok a1 a2)) (ch_put C ⟨Nat.le_of_ble_eq_true rfl, Nat.le_of_ble_eq_true rfl⟩) rfl rfl (Nat.le_of_ble_eq_true rfl) rfl rfl (by show _ ≤ 600128; omega) (by show _ ≤ 7301098; omega) dL_law_879 (fun xk M1 hq => ?_)
  obtain ⟨hk1, on1, hI1, ho1⟩ := hq
  refine z_istore (lv' := [(5, .int xk), (4, .int (nI (5 * jx))), (0, .ref b), (1, .ref x), (2, .ref m), (3, .ref ou)]) C dL_law_882 (by decide) rfl ?_
  refine z_aload_n C dL_law_884 rfl 4 rfl ?_
  refine z_aload_n C dL_law_885 rfl 2 rfl ?_
  refine z_iload C dL_law_886 1 rfl ?_
  refine z_iconst C (v := 1) dL_law_888 (by decide) ?_
  refine z_iadd C dL_law_889 ?_
  refine z_sld C hX hbl hbA hs1.1 hs1.2 dL_law_890 ?_
  refine z_aload_n C dL_law_891 rfl 2 rfl ?_
  refine z_iload C dL_law_892 1 rfl ?_
  refine z_iconst C (v := 2) dL_law_894 (by decide) ?_
  refine z_iadd C dL_law_895 ?_
  refine z_sld C hX hbl hbA hs2.1 hs2.2 dL_law_896 ?_
  obtain ⟨tp9, hm9⟩ := s_LX_m hI1
  refine z_callVi (rest := []) (k' := kq + 8) (n' := nq + 48) C (s_LX_R hI1 (fun hR9 => a_X5_put (z_l X) hR9 hok (by omega) a1 a2)) (cs_L_204 C ⟨Nat.le_of_ble_eq_true rfl, Nat.le_of_ble_eq_true rfl⟩) hm9 rfl rfl rfl rfl (Nat.le_of_ble_eq_true rfl) rfl rfl (by show _ ≤ 600128; omega) (by show _ ≤ 7301098; omega) dL_law_897 (fun xr M2 hq => ?_)
  obtain ⟨hI2, hr2⟩ := hq
  refine z_istore (lv' := [(6, .int xr), (5, .int xk), (4, .int (nI (5 * jx))), (0, .ref b), (1, .ref x), (2, .ref m), (3, .ref ou)]) C dL_law_900 (by decide) rfl ?_
  refine z_goto C (tgt := 1757) dL_law_902 (by decide) ?_
  refine z_iinc (v := nI (5 * (jx + 1))) (lv' := [(4, .int (nI (5 * (jx + 1)))), (6, .int xr), (5, .int xk), (0, .ref b), (1, .ref x), (2, .ref m), (3, .ref ou)]) C dL_law_1757 2 rfl (j_inc5 jx) (by decide) rfl ?_
  refine z_goto C (tgt := 27) dL_law_1760 (by decide) ?_
  refine z_fewer [0, 3, 4, 5, 6] rfl ?_
  refine z_widen (k' := kq + 4000) (n' := nq + 60000) (by omega) (by omega) ?_
  exact kk _ _ _ _ hI2 (so_put hok)
set_option maxRecDepth 20000 in
theorem lc_putAt {X : zX} (C : z_C X cL_law RL 7 room_1) (h_st : (z_l X).stackTraces = false) {b L : Nat} {xs : Nat → Int32} (hX : va_X b L xs (z_s X) (z_s X).heap) (hbl : b < (z_s X).heap.size) (hbA : ¬ z_F X b) {jx : Nat} {a1 a2 a3 a4 : Int32} (hs1 : vp_in (nI (5 * jx) + 1) L ∧ xs (nI (5 * jx) + 1).toNatClampNeg = a1) (hs2 : vp_in (nI (5 * jx) + 2) L ∧ xs (nI (5 * jx) + 2).toNatClampNeg = a2) (hs3 : vp_in (nI (5 * jx) + 3) L ∧ xs (nI (5 * jx) + 3).toNatClampNeg = a3) (hs4 : vp_in (nI (5 * jx) + 4) L ∧ xs (nI (5 * jx) + 4).toNatClampNeg = a4) {u : sS} {x pa sp ln rf sb m pn td ou : Nat} {th : Int32} {on : Int64} {Mw : zM} (hI : s_LX (z_G X) x pa sp ln rf sb m pn td ou u u th on Mw) (hok : s_ok jx u) (hj : jx < 64) {kq nq : Nat} (hkq : kq + 4000 ≤ 600128) (hnq : nq + 60000 ≤ 7301098) (kk : ∀ v th on Mz, s_LX (z_G X) x pa sp ln rf sb m pn td ou v v th on Mz → s_ok (jx + 1) v → z_W X Mz (kq + 4000) (nq + 60000) 27 [(4, .int (nI (5 * (jx + 1)))), (0, .ref b), (1, .ref x), (2, .ref m), (3, .ref ou)] []) : z_W X Mw kq nq 905 [(4, .int (nI (5 * jx))), (0, .ref b), (1, .ref x), (2, .ref m), (3, .ref ou)] [] := by
  refine z_aload_n C dL_law_905 rfl 2 rfl ?_
  refine z_aload_n C dL_law_906 rfl 1 rfl ?_
  refine z_iload C dL_law_907 0 rfl ?_
  refine z_iconst C (v := 1) dL_law_909 (by decide) ?_
  refine z_iadd C dL_law_910 ?_
  refine z_sld C hX hbl hbA hs1.1 hs1.2 dL_law_911 ?_
  refine z_aload_n C dL_law_912 rfl 1 rfl ?_
  refine z_iload C dL_law_913 0 rfl ?_
  refine z_iconst C (v := 2) dL_law_915 (by decide) ?_
  refine z_iadd C dL_law_916 ?_
  refine z_sld C hX hbl hbA hs2.1 hs2.2 dL_law_917 ?_
  refine z_aload_n C dL_law_918 rfl 1 rfl ?_
  refine z_iload C dL_law_919 0 rfl ?_
  refine z_iconst C (v := 3) dL_law_921 (by decide) ?_
  refine z_iadd C dL_law_922 ?_
  refine z_sld C hX hbl hbA hs3.1 hs3.2 dL_law_923 ?_
  refine z_aload_n C dL_law_924 rfl 4 rfl ?_
  refine z_callHi (rest := []) (k' := kq + 8) (n' := nq + 48) C (s_LX_P hI (fun hC9 hd9 ho9 => w_putAt (z_l X) h_st hC9 hd9 ho9 hok a1 a2 a3)) (ch_putAt C ⟨Nat.le_of_ble_eq_true rfl, Nat.le_of_ble_eq_true rfl⟩) rfl rfl (Nat.le_of_ble_eq_true rfl) rfl rfl (by show _ ≤ 600128; omega) (by show _ ≤ 7301098; omega) dL_law_925 (fun xk M1 hq => ?_)
  obtain ⟨hk1, on1, hI1, ho1⟩ := hq
  refine z_istore (lv' := [(5, .int xk), (4, .int (nI (5 * jx))), (0, .ref b), (1, .ref x), (2, .ref m), (3, .ref ou)]) C dL_law_928 (by decide) rfl ?_
  refine z_aload_n C dL_law_930 rfl 4 rfl ?_
  refine z_aload_n C dL_law_931 rfl 2 rfl ?_
  refine z_iload C dL_law_932 1 rfl ?_
  refine z_iconst C (v := 1) dL_law_934 (by decide) ?_
  refine z_iadd C dL_law_935 ?_
  refine z_sld C hX hbl hbA hs1.1 hs1.2 dL_law_936 ?_
  refine z_aload_n C dL_law_937 rfl 2 rfl ?_
  refine z_iload C dL_law_938 1 rfl ?_
  refine z_iconst C (v := 2) dL_law_940 (by decide) ?_
  refine z_iadd C dL_law_941 ?_
  refine z_sld C hX hbl hbA hs2.1 hs2.2 dL_law_942 ?_
  refine z_aload_n C dL_law_943 rfl 2 rfl ?_
  refine z_iload C dL_law_944 1 rfl ?_
  refine z_iconst C (v := 3) dL_law_946 (by decide) ?_
  refine z_iadd C dL_law_947 ?_
  refine z_sld C hX hbl hbA hs3.1 hs3.2 dL_law_948 ?_
  obtain ⟨tp9, hm9⟩ := s_LX_m hI1
  refine z_callVi (rest := []) (k' := kq + 8) (n' := nq + 48) C (s_LX_R hI1 (fun hR9 => a_X5_putAt (z_l X) hR9 hok (by omega) a1 a2 a3)) (cs_L_207 C ⟨Nat.le_of_ble_eq_true rfl, Nat.le_of_ble_eq_true rfl⟩) hm9 rfl rfl rfl rfl (Nat.le_of_ble_eq_true rfl) rfl rfl (by show _ ≤ 600128; omega) (by show _ ≤ 7301098; omega) dL_law_949 (fun xr M2 hq => ?_)
  obtain ⟨hI2, hr2⟩ := hq
  refine z_istore (lv' := [(6, .int xr), (5, .int xk), (4, .int (nI (5 * jx))), (0, .ref b), (1, .ref x), (2, .ref m), (3, .ref ou)]) C dL_law_952 (by decide) rfl ?_
  refine z_goto C (tgt := 1757) dL_law_954 (by decide) ?_
  refine z_iinc (v := nI (5 * (jx + 1))) (lv' := [(4, .int (nI (5 * (jx + 1)))), (6, .int xr), (5, .int xk), (0, .ref b), (1, .ref x), (2, .ref m), (3, .ref ou)]) C dL_law_1757 2 rfl (j_inc5 jx) (by decide) rfl ?_
  refine z_goto C (tgt := 27) dL_law_1760 (by decide) ?_
  refine z_fewer [0, 3, 4, 5, 6] rfl ?_
  refine z_widen (k' := kq + 4000) (n' := nq + 60000) (by omega) (by omega) ?_
  exact kk _ _ _ _ hI2 (so_putAt hok)
set_option maxRecDepth 20000 in
theorem lc_bring {X : zX} (C : z_C X cL_law RL 7 room_1) (h_st : (z_l X).stackTraces = false) {b L : Nat} {xs : Nat → Int32} (hX : va_X b L xs (z_s X) (z_s X).heap) (hbl : b < (z_s X).heap.size) (hbA : ¬ z_F X b) {jx : Nat} {a1 a2 a3 a4 : Int32} (hs1 : vp_in (nI (5 * jx) + 1) L ∧ xs (nI (5 * jx) + 1).toNatClampNeg = a1) (hs2 : vp_in (nI (5 * jx) + 2) L ∧ xs (nI (5 * jx) + 2).toNatClampNeg = a2) (hs3 : vp_in (nI (5 * jx) + 3) L ∧ xs (nI (5 * jx) + 3).toNatClampNeg = a3) (hs4 : vp_in (nI (5 * jx) + 4) L ∧ xs (nI (5 * jx) + 4).toNatClampNeg = a4) {u : sS} {x pa sp ln rf sb m pn td ou : Nat} {th : Int32} {on : Int64} {Mw : zM} (hI : s_LX (z_G X) x pa sp ln rf sb m pn td ou u u th on Mw) (hok : s_ok jx u) (hj : jx < 64) {kq nq : Nat} (hkq : kq + 4000 ≤ 600128) (hnq : nq + 60000 ≤ 7301098) (kk : ∀ v th on Mz, s_LX (z_G X) x pa sp ln rf sb m pn td ou v v th on Mz → s_ok (jx + 1) v → z_W X Mz (kq + 4000) (nq + 60000) 27 [(4, .int (nI (5 * (jx + 1)))), (0, .ref b), (1, .ref x), (2, .ref m), (3, .ref ou)] []) : z_W X Mw kq nq 957 [(4, .int (nI (5 * jx))), (0, .ref b), (1, .ref x), (2, .ref m), (3, .ref ou)] [] := by
  refine z_aload_n C dL_law_957 rfl 2 rfl ?_
  refine z_aload_n C dL_law_958 rfl 1 rfl ?_
  refine z_iload C dL_law_959 0 rfl ?_
  refine z_iconst C (v := 1) dL_law_961 (by decide) ?_
  refine z_iadd C dL_law_962 ?_
  refine z_sld C hX hbl hbA hs1.1 hs1.2 dL_law_963 ?_
  refine z_aload_n C dL_law_964 rfl 1 rfl ?_
  refine z_iload C dL_law_965 0 rfl ?_
  refine z_iconst C (v := 2) dL_law_967 (by decide) ?_
  refine z_iadd C dL_law_968 ?_
  refine z_sld C hX hbl hbA hs2.1 hs2.2 dL_law_969 ?_
  refine z_aload_n C dL_law_970 rfl 1 rfl ?_
  refine z_iload C dL_law_971 0 rfl ?_
  refine z_iconst C (v := 3) dL_law_973 (by decide) ?_
  refine z_iadd C dL_law_974 ?_
  refine z_sld C hX hbl hbA hs3.1 hs3.2 dL_law_975 ?_
  refine z_aload_n C dL_law_976 rfl 1 rfl ?_
  refine z_iload C dL_law_977 0 rfl ?_
  refine z_iconst C (v := 4) dL_law_979 (by decide) ?_
  refine z_iadd C dL_law_980 ?_
  refine z_sld C hX hbl hbA hs4.1 hs4.2 dL_law_981 ?_
  refine z_aload_n C dL_law_982 rfl 4 rfl ?_
  refine z_callHi (rest := []) (k' := kq + 8) (n' := nq + 48) C (s_LX_P hI (fun hC9 hd9 ho9 => w_bring (z_l X) h_st hC9 hd9 ho9 hok a1 a2 a3 a4)) (ch_bring C ⟨Nat.le_of_ble_eq_true rfl, Nat.le_of_ble_eq_true rfl⟩) rfl rfl (Nat.le_of_ble_eq_true rfl) rfl rfl (by show _ ≤ 600128; omega) (by show _ ≤ 7301098; omega) dL_law_983 (fun xk M1 hq => ?_)
  obtain ⟨hk1, on1, hI1, ho1⟩ := hq
  refine z_istore (lv' := [(5, .int xk), (4, .int (nI (5 * jx))), (0, .ref b), (1, .ref x), (2, .ref m), (3, .ref ou)]) C dL_law_986 (by decide) rfl ?_
  refine z_aload_n C dL_law_988 rfl 4 rfl ?_
  refine z_aload_n C dL_law_989 rfl 2 rfl ?_
  refine z_iload C dL_law_990 1 rfl ?_
  refine z_iconst C (v := 1) dL_law_992 (by decide) ?_
  refine z_iadd C dL_law_993 ?_
  refine z_sld C hX hbl hbA hs1.1 hs1.2 dL_law_994 ?_
  refine z_aload_n C dL_law_995 rfl 2 rfl ?_
  refine z_iload C dL_law_996 1 rfl ?_
  refine z_iconst C (v := 2) dL_law_998 (by decide) ?_
  refine z_iadd C dL_law_999 ?_
  refine z_sld C hX hbl hbA hs2.1 hs2.2 dL_law_1000 ?_
  refine z_aload_n C dL_law_1001 rfl 2 rfl ?_
  refine z_iload C dL_law_1002 1 rfl ?_
  refine z_iconst C (v := 3) dL_law_1004 (by decide) ?_
  refine z_iadd C dL_law_1005 ?_
  refine z_sld C hX hbl hbA hs3.1 hs3.2 dL_law_1006 ?_
  refine z_aload_n C dL_law_1007 rfl 2 rfl ?_
  refine z_iload C dL_law_1008 1 rfl ?_
  refine z_iconst C (v := 4) dL_law_1010 (by decide) ?_
  refine z_iadd C dL_law_1011 ?_
  refine z_sld C hX hbl hbA hs4.1 hs4.2 dL_law_1012 ?_
  obtain ⟨tp9, hm9⟩ := s_LX_m hI1
  refine z_callVi (rest := []) (k' := kq + 8) (n' := nq + 48) C (s_LX_R hI1 (fun hR9 => a_X5_bring (z_l X) hR9 hok (by omega) a1 a2 a3 a4)) (cs_L_210 C ⟨Nat.le_of_ble_eq_true rfl, Nat.le_of_ble_eq_true rfl⟩) hm9 rfl rfl rfl rfl (Nat.le_of_ble_eq_true rfl) rfl rfl (by show _ ≤ 600128; omega) (by show _ ≤ 7301098; omega) dL_law_1013 (fun xr M2 hq => ?_)
  obtain ⟨hI2, hr2⟩ := hq
  refine z_istore (lv' := [(6, .int xr), (5, .int xk), (4, .int (nI (5 * jx))), (0, .ref b), (1, .ref x), (2, .ref m), (3, .ref ou)]) C dL_law_1016 (by decide) rfl ?_
  refine z_goto C (tgt := 1757) dL_law_1018 (by decide) ?_
  refine z_iinc (v := nI (5 * (jx + 1))) (lv' := [(4, .int (nI (5 * (jx + 1)))), (6, .int xr), (5, .int xk), (0, .ref b), (1, .ref x), (2, .ref m), (3, .ref ou)]) C dL_law_1757 2 rfl (j_inc5 jx) (by decide) rfl ?_
  refine z_goto C (tgt := 27) dL_law_1760 (by decide) ?_
  refine z_fewer [0, 3, 4, 5, 6] rfl ?_
  refine z_widen (k' := kq + 4000) (n' := nq + 60000) (by omega) (by omega) ?_
  exact kk _ _ _ _ hI2 (so_bring hok)
set_option maxRecDepth 20000 in
theorem lc_fill {X : zX} (C : z_C X cL_law RL 7 room_1) (h_st : (z_l X).stackTraces = false) {b L : Nat} {xs : Nat → Int32} (hX : va_X b L xs (z_s X) (z_s X).heap) (hbl : b < (z_s X).heap.size) (hbA : ¬ z_F X b) {jx : Nat} {a1 a2 a3 a4 : Int32} (hs1 : vp_in (nI (5 * jx) + 1) L ∧ xs (nI (5 * jx) + 1).toNatClampNeg = a1) (hs2 : vp_in (nI (5 * jx) + 2) L ∧ xs (nI (5 * jx) + 2).toNatClampNeg = a2) (hs3 : vp_in (nI (5 * jx) + 3) L ∧ xs (nI (5 * jx) + 3).toNatClampNeg = a3) (hs4 : vp_in (nI (5 * jx) + 4) L ∧ xs (nI (5 * jx) + 4).toNatClampNeg = a4) {u : sS} {x pa sp ln rf sb m pn td ou : Nat} {th : Int32} {on : Int64} {Mw : zM} (hI : s_LX (z_G X) x pa sp ln rf sb m pn td ou u u th on Mw) (hok : s_ok jx u) (hj : jx < 64) {kq nq : Nat} (hkq : kq + 4000 ≤ 600128) (hnq : nq + 60000 ≤ 7301098) (kk : ∀ v th on Mz, s_LX (z_G X) x pa sp ln rf sb m pn td ou v v th on Mz → s_ok (jx + 1) v → z_W X Mz (kq + 4000) (nq + 60000) 27 [(4, .int (nI (5 * (jx + 1)))), (0, .ref b), (1, .ref x), (2, .ref m), (3, .ref ou)] []) : z_W X Mw kq nq 1021 [(4, .int (nI (5 * jx))), (0, .ref b), (1, .ref x), (2, .ref m), (3, .ref ou)] [] := by
  refine z_aload_n C dL_law_1021 rfl 2 rfl ?_
  refine z_aload_n C dL_law_1022 rfl 1 rfl ?_
  refine z_iload C dL_law_1023 0 rfl ?_
  refine z_iconst C (v := 1) dL_law_1025 (by decide) ?_
  refine z_iadd C dL_law_1026 ?_
  refine z_sld C hX hbl hbA hs1.1 hs1.2 dL_law_1027 ?_
  refine z_aload_n C dL_law_1028 rfl 1 rfl ?_
  refine z_iload C dL_law_1029 0 rfl ?_
  refine z_iconst C (v := 2) dL_law_1031 (by decide) ?_
  refine z_iadd C dL_law_1032 ?_
  refine z_sld C hX hbl hbA hs2.1 hs2.2 dL_law_1033 ?_
  refine z_aload_n C dL_law_1034 rfl 1 rfl ?_
  refine z_iload C dL_law_1035 0 rfl ?_
  refine z_iconst C (v := 3) dL_law_1037 (by decide) ?_
  refine z_iadd C dL_law_1038 ?_
  refine z_sld C hX hbl hbA hs3.1 hs3.2 dL_law_1039 ?_
  refine z_aload_n C dL_law_1040 rfl 1 rfl ?_
  refine z_iload C dL_law_1041 0 rfl ?_
  refine z_iconst C (v := 4) dL_law_1043 (by decide) ?_
  refine z_iadd C dL_law_1044 ?_
  refine z_sld C hX hbl hbA hs4.1 hs4.2 dL_law_1045 ?_
  refine z_aload_n C dL_law_1046 rfl 4 rfl ?_
  refine z_callHi (rest := []) (k' := kq + 8) (n' := nq + 48) C (s_LX_P hI (fun hC9 hd9 ho9 => w_fill (z_l X) h_st hC9 hd9 ho9 hok a1 a2 a3 a4)) (ch_fill C ⟨Nat.le_of_ble_eq_true rfl, Nat.le_of_ble_eq_true rfl⟩) rfl rfl (Nat.le_of_ble_eq_true rfl) rfl rfl (by show _ ≤ 600128; omega) (by show _ ≤ 7301098; omega) dL_law_1047 (fun xk M1 hq => ?_)
  obtain ⟨hk1, on1, hI1, ho1⟩ := hq
  refine z_istore (lv' := [(5, .int xk), (4, .int (nI (5 * jx))), (0, .ref b), (1, .ref x), (2, .ref m), (3, .ref ou)]) C dL_law_1050 (by decide) rfl ?_
  refine z_aload_n C dL_law_1052 rfl 4 rfl ?_
  refine z_aload_n C dL_law_1053 rfl 2 rfl ?_
  refine z_iload C dL_law_1054 1 rfl ?_
  refine z_iconst C (v := 1) dL_law_1056 (by decide) ?_
  refine z_iadd C dL_law_1057 ?_
  refine z_sld C hX hbl hbA hs1.1 hs1.2 dL_law_1058 ?_
  refine z_aload_n C dL_law_1059 rfl 2 rfl ?_
  refine z_iload C dL_law_1060 1 rfl ?_
  refine z_iconst C (v := 2) dL_law_1062 (by decide) ?_
  refine z_iadd C dL_law_1063 ?_
  refine z_sld C hX hbl hbA hs2.1 hs2.2 dL_law_1064 ?_
  refine z_aload_n C dL_law_1065 rfl 2 rfl ?_
  refine z_iload C dL_law_1066 1 rfl ?_
  refine z_iconst C (v := 3) dL_law_1068 (by decide) ?_
  refine z_iadd C dL_law_1069 ?_
  refine z_sld C hX hbl hbA hs3.1 hs3.2 dL_law_1070 ?_
  refine z_aload_n C dL_law_1071 rfl 2 rfl ?_
  refine z_iload C dL_law_1072 1 rfl ?_
  refine z_iconst C (v := 4) dL_law_1074 (by decide) ?_
  refine z_iadd C dL_law_1075 ?_
  refine z_sld C hX hbl hbA hs4.1 hs4.2 dL_law_1076 ?_
  obtain ⟨tp9, hm9⟩ := s_LX_m hI1
  refine z_callVi (rest := []) (k' := kq + 8) (n' := nq + 48) C (s_LX_R hI1 (fun hR9 => a_X5_fill (z_l X) hR9 hok (by omega) a1 a2 a3 a4)) (cs_L_213 C ⟨Nat.le_of_ble_eq_true rfl, Nat.le_of_ble_eq_true rfl⟩) hm9 rfl rfl rfl rfl (Nat.le_of_ble_eq_true rfl) rfl rfl (by show _ ≤ 600128; omega) (by show _ ≤ 7301098; omega) dL_law_1077 (fun xr M2 hq => ?_)
  obtain ⟨hI2, hr2⟩ := hq
  refine z_istore (lv' := [(6, .int xr), (5, .int xk), (4, .int (nI (5 * jx))), (0, .ref b), (1, .ref x), (2, .ref m), (3, .ref ou)]) C dL_law_1080 (by decide) rfl ?_
  refine z_goto C (tgt := 1757) dL_law_1082 (by decide) ?_
  refine z_iinc (v := nI (5 * (jx + 1))) (lv' := [(4, .int (nI (5 * (jx + 1)))), (6, .int xr), (5, .int xk), (0, .ref b), (1, .ref x), (2, .ref m), (3, .ref ou)]) C dL_law_1757 2 rfl (j_inc5 jx) (by decide) rfl ?_
  refine z_goto C (tgt := 27) dL_law_1760 (by decide) ?_
  refine z_fewer [0, 3, 4, 5, 6] rfl ?_
  refine z_widen (k' := kq + 4000) (n' := nq + 60000) (by omega) (by omega) ?_
  exact kk _ _ _ _ hI2 (so_fill hok)
set_option maxRecDepth 20000 in
theorem lc_pack {X : zX} (C : z_C X cL_law RL 7 room_1) (h_st : (z_l X).stackTraces = false) {b L : Nat} {xs : Nat → Int32} (hX : va_X b L xs (z_s X) (z_s X).heap) (hbl : b < (z_s X).heap.size) (hbA : ¬ z_F X b) {jx : Nat} {a1 a2 a3 a4 : Int32} (hs1 : vp_in (nI (5 * jx) + 1) L ∧ xs (nI (5 * jx) + 1).toNatClampNeg = a1) (hs2 : vp_in (nI (5 * jx) + 2) L ∧ xs (nI (5 * jx) + 2).toNatClampNeg = a2) (hs3 : vp_in (nI (5 * jx) + 3) L ∧ xs (nI (5 * jx) + 3).toNatClampNeg = a3) (hs4 : vp_in (nI (5 * jx) + 4) L ∧ xs (nI (5 * jx) + 4).toNatClampNeg = a4) {u : sS} {x pa sp ln rf sb m pn td ou : Nat} {th : Int32} {on : Int64} {Mw : zM} (hI : s_LX (z_G X) x pa sp ln rf sb m pn td ou u u th on Mw) (hok : s_ok jx u) (hj : jx < 64) {kq nq : Nat} (hkq : kq + 4000 ≤ 600128) (hnq : nq + 60000 ≤ 7301098) (kk : ∀ v th on Mz, s_LX (z_G X) x pa sp ln rf sb m pn td ou v v th on Mz → s_ok (jx + 1) v → z_W X Mz (kq + 4000) (nq + 60000) 27 [(4, .int (nI (5 * (jx + 1)))), (0, .ref b), (1, .ref x), (2, .ref m), (3, .ref ou)] []) : z_W X Mw kq nq 1085 [(4, .int (nI (5 * jx))), (0, .ref b), (1, .ref x), (2, .ref m), (3, .ref ou)] [] := by
  refine z_aload_n C dL_law_1085 rfl 2 rfl ?_
  refine z_aload_n C dL_law_1086 rfl 1 rfl ?_
  refine z_iload C dL_law_1087 0 rfl ?_
  refine z_iconst C (v := 1) dL_law_1089 (by decide) ?_
  refine z_iadd C dL_law_1090 ?_
  refine z_sld C hX hbl hbA hs1.1 hs1.2 dL_law_1091 ?_
  refine z_aload_n C dL_law_1092 rfl 4 rfl ?_
  refine z_callHi (rest := []) (k' := kq + 8) (n' := nq + 48) C (s_LX_P hI (fun hC9 hd9 ho9 => w_pack (z_l X) h_st hC9 hd9 ho9 hok a1)) (ch_pack C ⟨Nat.le_of_ble_eq_true rfl, Nat.le_of_ble_eq_true rfl⟩) rfl rfl (Nat.le_of_ble_eq_true rfl) rfl rfl (by show _ ≤ 600128; omega) (by show _ ≤ 7301098; omega) dL_law_1093 (fun xk M1 hq => ?_)
  obtain ⟨hk1, on1, hI1, ho1⟩ := hq
  refine z_istore (lv' := [(5, .int xk), (4, .int (nI (5 * jx))), (0, .ref b), (1, .ref x), (2, .ref m), (3, .ref ou)]) C dL_law_1096 (by decide) rfl ?_
  refine z_aload_n C dL_law_1098 rfl 4 rfl ?_
  refine z_aload_n C dL_law_1099 rfl 2 rfl ?_
  refine z_iload C dL_law_1100 1 rfl ?_
  refine z_iconst C (v := 1) dL_law_1102 (by decide) ?_
  refine z_iadd C dL_law_1103 ?_
  refine z_sld C hX hbl hbA hs1.1 hs1.2 dL_law_1104 ?_
  obtain ⟨tp9, hm9⟩ := s_LX_m hI1
  refine z_callVi (rest := []) (k' := kq + 8) (n' := nq + 48) C (s_LX_R hI1 (fun hR9 => a_X5_pack (z_l X) hR9 hok (by omega) a1)) (cs_L_216 C ⟨Nat.le_of_ble_eq_true rfl, Nat.le_of_ble_eq_true rfl⟩) hm9 rfl rfl rfl rfl (Nat.le_of_ble_eq_true rfl) rfl rfl (by show _ ≤ 600128; omega) (by show _ ≤ 7301098; omega) dL_law_1105 (fun xr M2 hq => ?_)
  obtain ⟨hI2, hr2⟩ := hq
  refine z_istore (lv' := [(6, .int xr), (5, .int xk), (4, .int (nI (5 * jx))), (0, .ref b), (1, .ref x), (2, .ref m), (3, .ref ou)]) C dL_law_1108 (by decide) rfl ?_
  refine z_goto C (tgt := 1757) dL_law_1110 (by decide) ?_
  refine z_iinc (v := nI (5 * (jx + 1))) (lv' := [(4, .int (nI (5 * (jx + 1)))), (6, .int xr), (5, .int xk), (0, .ref b), (1, .ref x), (2, .ref m), (3, .ref ou)]) C dL_law_1757 2 rfl (j_inc5 jx) (by decide) rfl ?_
  refine z_goto C (tgt := 27) dL_law_1760 (by decide) ?_
  refine z_fewer [0, 3, 4, 5, 6] rfl ?_
  refine z_widen (k' := kq + 4000) (n' := nq + 60000) (by omega) (by omega) ?_
  exact kk _ _ _ _ hI2 (so_pack hok)
set_option maxRecDepth 20000 in
theorem lc_pour {X : zX} (C : z_C X cL_law RL 7 room_1) (h_st : (z_l X).stackTraces = false) {b L : Nat} {xs : Nat → Int32} (hX : va_X b L xs (z_s X) (z_s X).heap) (hbl : b < (z_s X).heap.size) (hbA : ¬ z_F X b) {jx : Nat} {a1 a2 a3 a4 : Int32} (hs1 : vp_in (nI (5 * jx) + 1) L ∧ xs (nI (5 * jx) + 1).toNatClampNeg = a1) (hs2 : vp_in (nI (5 * jx) + 2) L ∧ xs (nI (5 * jx) + 2).toNatClampNeg = a2) (hs3 : vp_in (nI (5 * jx) + 3) L ∧ xs (nI (5 * jx) + 3).toNatClampNeg = a3) (hs4 : vp_in (nI (5 * jx) + 4) L ∧ xs (nI (5 * jx) + 4).toNatClampNeg = a4) {u : sS} {x pa sp ln rf sb m pn td ou : Nat} {th : Int32} {on : Int64} {Mw : zM} (hI : s_LX (z_G X) x pa sp ln rf sb m pn td ou u u th on Mw) (hok : s_ok jx u) (hj : jx < 64) {kq nq : Nat} (hkq : kq + 4000 ≤ 600128) (hnq : nq + 60000 ≤ 7301098) (kk : ∀ v th on Mz, s_LX (z_G X) x pa sp ln rf sb m pn td ou v v th on Mz → s_ok (jx + 1) v → z_W X Mz (kq + 4000) (nq + 60000) 27 [(4, .int (nI (5 * (jx + 1)))), (0, .ref b), (1, .ref x), (2, .ref m), (3, .ref ou)] []) : z_W X Mw kq nq 1113 [(4, .int (nI (5 * jx))), (0, .ref b), (1, .ref x), (2, .ref m), (3, .ref ou)] [] := by
  refine z_aload_n C dL_law_1113 rfl 2 rfl ?_
  refine z_aload_n C dL_law_1114 rfl 1 rfl ?_
  refine z_iload C dL_law_1115 0 rfl ?_
  refine z_iconst C (v := 1) dL_law_1117 (by decide) ?_
  refine z_iadd C dL_law_1118 ?_
  refine z_sld C hX hbl hbA hs1.1 hs1.2 dL_law_1119 ?_
  refine z_aload_n C dL_law_1120 rfl 1 rfl ?_
  refine z_iload C dL_law_1121 0 rfl ?_
  refine z_iconst C (v := 2) dL_law_1123 (by decide) ?_
  refine z_iadd C dL_law_1124 ?_
  refine z_sld C hX hbl hbA hs2.1 hs2.2 dL_law_1125 ?_
  refine z_aload_n C dL_law_1126 rfl 1 rfl ?_
  refine z_iload C dL_law_1127 0 rfl ?_
  refine z_iconst C (v := 3) dL_law_1129 (by decide) ?_
  refine z_iadd C dL_law_1130 ?_
  refine z_sld C hX hbl hbA hs3.1 hs3.2 dL_law_1131 ?_
  refine z_aload_n C dL_law_1132 rfl 4 rfl ?_
  refine z_callHi (rest := []) (k' := kq + 8) (n' := nq + 48) C (s_LX_P hI (fun hC9 hd9 ho9 => w_pour (z_l X) h_st hC9 hd9 ho9 hok a1 a2 a3)) (ch_pour C ⟨Nat.le_of_ble_eq_true rfl, Nat.le_of_ble_eq_true rfl⟩) rfl rfl (Nat.le_of_ble_eq_true rfl) rfl rfl (by show _ ≤ 600128; omega) (by show _ ≤ 7301098; omega) dL_law_1133 (fun xk M1 hq => ?_)
  obtain ⟨hk1, on1, hI1, ho1⟩ := hq
  refine z_istore (lv' := [(5, .int xk), (4, .int (nI (5 * jx))), (0, .ref b), (1, .ref x), (2, .ref m), (3, .ref ou)]) C dL_law_1136 (by decide) rfl ?_
  refine z_aload_n C dL_law_1138 rfl 4 rfl ?_
  refine z_aload_n C dL_law_1139 rfl 2 rfl ?_
  refine z_iload C dL_law_1140 1 rfl ?_
  refine z_iconst C (v := 1) dL_law_1142 (by decide) ?_
  refine z_iadd C dL_law_1143 ?_
  refine z_sld C hX hbl hbA hs1.1 hs1.2 dL_law_1144 ?_
  refine z_aload_n C dL_law_1145 rfl 2 rfl ?_
  refine z_iload C dL_law_1146 1 rfl ?_
  refine z_iconst C (v := 2) dL_law_1148 (by decide) ?_
  refine z_iadd C dL_law_1149 ?_
  refine z_sld C hX hbl hbA hs2.1 hs2.2 dL_law_1150 ?_
  refine z_aload_n C dL_law_1151 rfl 2 rfl ?_
  refine z_iload C dL_law_1152 1 rfl ?_
  refine z_iconst C (v := 3) dL_law_1154 (by decide) ?_
  refine z_iadd C dL_law_1155 ?_
  refine z_sld C hX hbl hbA hs3.1 hs3.2 dL_law_1156 ?_
  obtain ⟨tp9, hm9⟩ := s_LX_m hI1
  refine z_callVi (rest := []) (k' := kq + 8) (n' := nq + 48) C (s_LX_R hI1 (fun hR9 => a_X5_pour (z_l X) hR9 hok (by omega) a1 a2 a3)) (cs_L_219 C ⟨Nat.le_of_ble_eq_true rfl, Nat.le_of_ble_eq_true rfl⟩) hm9 rfl rfl rfl rfl (Nat.le_of_ble_eq_true rfl) rfl rfl (by show _ ≤ 600128; omega) (by show _ ≤ 7301098; omega) dL_law_1157 (fun xr M2 hq => ?_)
  obtain ⟨hI2, hr2⟩ := hq
  refine z_istore (lv' := [(6, .int xr), (5, .int xk), (4, .int (nI (5 * jx))), (0, .ref b), (1, .ref x), (2, .ref m), (3, .ref ou)]) C dL_law_1160 (by decide) rfl ?_
  refine z_goto C (tgt := 1757) dL_law_1162 (by decide) ?_
  refine z_iinc (v := nI (5 * (jx + 1))) (lv' := [(4, .int (nI (5 * (jx + 1)))), (6, .int xr), (5, .int xk), (0, .ref b), (1, .ref x), (2, .ref m), (3, .ref ou)]) C dL_law_1757 2 rfl (j_inc5 jx) (by decide) rfl ?_
  refine z_goto C (tgt := 27) dL_law_1760 (by decide) ?_
  refine z_fewer [0, 3, 4, 5, 6] rfl ?_
  refine z_widen (k' := kq + 4000) (n' := nq + 60000) (by omega) (by omega) ?_
  exact kk _ _ _ _ hI2 (so_pour hok)
