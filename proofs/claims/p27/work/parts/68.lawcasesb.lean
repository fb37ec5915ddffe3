section
/-! PART 68: the law's cases -/
theorem dbL_law_696 : (decode cL_law 696 = .ok (.aload_n 1, 1)) ∧ (decode cL_law 697 = .ok (.aload_n 0, 1)) ∧ (decode cL_law 698 = .ok (.iload 4, 2)) ∧ (decode cL_law 700 = .ok (.iconst 1, 1)) ∧ (decode cL_law 701 = .ok (.iadd, 1)) ∧ (decode cL_law 702 = .ok (.iaload, 1)) ∧ (decode cL_law 703 = .ok (.aload_n 3, 1)) ∧ (decode cL_law 704 = .ok (.invokestatic 182, 3)) ∧ (decode cL_law 707 = .ok (.istore 5, 2)) ∧ (decode cL_law 709 = .ok (.aload_n 2, 1)) := by decide +kernel
theorem dL_law_696 : decode cL_law 696 = .ok (.aload_n 1, 1) := dbL_law_696.1
theorem dL_law_697 : decode cL_law 697 = .ok (.aload_n 0, 1) := dbL_law_696.2.1
theorem dL_law_698 : decode cL_law 698 = .ok (.iload 4, 2) := dbL_law_696.2.2.1
theorem dL_law_700 : decode cL_law 700 = .ok (.iconst 1, 1) := dbL_law_696.2.2.2.1
theorem dL_law_701 : decode cL_law 701 = .ok (.iadd, 1) := dbL_law_696.2.2.2.2.1
theorem dL_law_702 : decode cL_law 702 = .ok (.iaload, 1) := dbL_law_696.2.2.2.2.2.1
theorem dL_law_703 : decode cL_law 703 = .ok (.aload_n 3, 1) := dbL_law_696.2.2.2.2.2.2.1
theorem dL_law_704 : decode cL_law 704 = .ok (.invokestatic 182, 3) := dbL_law_696.2.2.2.2.2.2.2.1
theorem dL_law_707 : decode cL_law 707 = .ok (.istore 5, 2) := dbL_law_696.2.2.2.2.2.2.2.2.1
theorem dL_law_709 : decode cL_law 709 = .ok (.aload_n 2, 1) := dbL_law_696.2.2.2.2.2.2.2.2.2
theorem dbL_law_710 : (decode cL_law 710 = .ok (.aload_n 0, 1)) ∧ (decode cL_law 711 = .ok (.iload 4, 2)) ∧ (decode cL_law 713 = .ok (.iconst 1, 1)) ∧ (decode cL_law 714 = .ok (.iadd, 1)) ∧ (decode cL_law 715 = .ok (.iaload, 1)) ∧ (decode cL_law 716 = .ok (.invokevirtual 185, 3)) ∧ (decode cL_law 719 = .ok (.istore 6, 2)) ∧ (decode cL_law 721 = .ok (.goto 1036, 3)) ∧ (decode cL_law 724 = .ok (.aload_n 1, 1)) ∧ (decode cL_law 725 = .ok (.aload_n 0, 1)) := by decide +kernel
theorem dL_law_710 : decode cL_law 710 = .ok (.aload_n 0, 1) := dbL_law_710.1
theorem dL_law_711 : decode cL_law 711 = .ok (.iload 4, 2) := dbL_law_710.2.1
theorem dL_law_713 : decode cL_law 713 = .ok (.iconst 1, 1) := dbL_law_710.2.2.1
theorem dL_law_714 : decode cL_law 714 = .ok (.iadd, 1) := dbL_law_710.2.2.2.1
theorem dL_law_715 : decode cL_law 715 = .ok (.iaload, 1) := dbL_law_710.2.2.2.2.1
theorem dL_law_716 : decode cL_law 716 = .ok (.invokevirtual 185, 3) := dbL_law_710.2.2.2.2.2.1
theorem dL_law_719 : decode cL_law 719 = .ok (.istore 6, 2) := dbL_law_710.2.2.2.2.2.2.1
theorem dL_law_721 : decode cL_law 721 = .ok (.goto 1036, 3) := dbL_law_710.2.2.2.2.2.2.2.1
theorem dL_law_724 : decode cL_law 724 = .ok (.aload_n 1, 1) := dbL_law_710.2.2.2.2.2.2.2.2.1
theorem dL_law_725 : decode cL_law 725 = .ok (.aload_n 0, 1) := dbL_law_710.2.2.2.2.2.2.2.2.2
theorem dbL_law_726 : (decode cL_law 726 = .ok (.iload 4, 2)) ∧ (decode cL_law 728 = .ok (.iconst 1, 1)) ∧ (decode cL_law 729 = .ok (.iadd, 1)) ∧ (decode cL_law 730 = .ok (.iaload, 1)) ∧ (decode cL_law 731 = .ok (.aload_n 3, 1)) ∧ (decode cL_law 732 = .ok (.invokestatic 186, 3)) ∧ (decode cL_law 735 = .ok (.istore 5, 2)) ∧ (decode cL_law 737 = .ok (.aload_n 2, 1)) ∧ (decode cL_law 738 = .ok (.aload_n 0, 1)) ∧ (decode cL_law 739 = .ok (.iload 4, 2)) := by decide +kernel
theorem dL_law_726 : decode cL_law 726 = .ok (.iload 4, 2) := dbL_law_726.1
theorem dL_law_728 : decode cL_law 728 = .ok (.iconst 1, 1) := dbL_law_726.2.1
theorem dL_law_729 : decode cL_law 729 = .ok (.iadd, 1) := dbL_law_726.2.2.1
theorem dL_law_730 : decode cL_law 730 = .ok (.iaload, 1) := dbL_law_726.2.2.2.1
theorem dL_law_731 : decode cL_law 731 = .ok (.aload_n 3, 1) := dbL_law_726.2.2.2.2.1
theorem dL_law_732 : decode cL_law 732 = .ok (.invokestatic 186, 3) := dbL_law_726.2.2.2.2.2.1
theorem dL_law_735 : decode cL_law 735 = .ok (.istore 5, 2) := dbL_law_726.2.2.2.2.2.2.1
theorem dL_law_737 : decode cL_law 737 = .ok (.aload_n 2, 1) := dbL_law_726.2.2.2.2.2.2.2.1
theorem dL_law_738 : decode cL_law 738 = .ok (.aload_n 0, 1) := dbL_law_726.2.2.2.2.2.2.2.2.1
theorem dL_law_739 : decode cL_law 739 = .ok (.iload 4, 2) := dbL_law_726.2.2.2.2.2.2.2.2.2
theorem dbL_law_741 : (decode cL_law 741 = .ok (.iconst 1, 1)) ∧ (decode cL_law 742 = .ok (.iadd, 1)) ∧ (decode cL_law 743 = .ok (.iaload, 1)) ∧ (decode cL_law 744 = .ok (.invokevirtual 188, 3)) ∧ (decode cL_law 747 = .ok (.istore 6, 2)) ∧ (decode cL_law 749 = .ok (.goto 1008, 3)) ∧ (decode cL_law 752 = .ok (.aload_n 1, 1)) ∧ (decode cL_law 753 = .ok (.aload_n 0, 1)) ∧ (decode cL_law 754 = .ok (.iload 4, 2)) ∧ (decode cL_law 756 = .ok (.iconst 1, 1)) := by decide +kernel
theorem dL_law_741 : decode cL_law 741 = .ok (.iconst 1, 1) := dbL_law_741.1
theorem dL_law_742 : decode cL_law 742 = .ok (.iadd, 1) := dbL_law_741.2.1
theorem dL_law_743 : decode cL_law 743 = .ok (.iaload, 1) := dbL_law_741.2.2.1
theorem dL_law_744 : decode cL_law 744 = .ok (.invokevirtual 188, 3) := dbL_law_741.2.2.2.1
theorem dL_law_747 : decode cL_law 747 = .ok (.istore 6, 2) := dbL_law_741.2.2.2.2.1
theorem dL_law_749 : decode cL_law 749 = .ok (.goto 1008, 3) := dbL_law_741.2.2.2.2.2.1
theorem dL_law_752 : decode cL_law 752 = .ok (.aload_n 1, 1) := dbL_law_741.2.2.2.2.2.2.1
theorem dL_law_753 : decode cL_law 753 = .ok (.aload_n 0, 1) := dbL_law_741.2.2.2.2.2.2.2.1
theorem dL_law_754 : decode cL_law 754 = .ok (.iload 4, 2) := dbL_law_741.2.2.2.2.2.2.2.2.1
theorem dL_law_756 : decode cL_law 756 = .ok (.iconst 1, 1) := dbL_law_741.2.2.2.2.2.2.2.2.2
theorem dbL_law_757 : (decode cL_law 757 = .ok (.iadd, 1)) ∧ (decode cL_law 758 = .ok (.iaload, 1)) ∧ (decode cL_law 759 = .ok (.aload_n 3, 1)) ∧ (decode cL_law 760 = .ok (.invokestatic 189, 3)) ∧ (decode cL_law 763 = .ok (.istore 5, 2)) ∧ (decode cL_law 765 = .ok (.aload_n 2, 1)) ∧ (decode cL_law 766 = .ok (.aload_n 0, 1)) ∧ (decode cL_law 767 = .ok (.iload 4, 2)) ∧ (decode cL_law 769 = .ok (.iconst 1, 1)) ∧ (decode cL_law 770 = .ok (.iadd, 1)) := by decide +kernel
theorem dL_law_757 : decode cL_law 757 = .ok (.iadd, 1) := dbL_law_757.1
theorem dL_law_758 : decode cL_law 758 = .ok (.iaload, 1) := dbL_law_757.2.1
theorem dL_law_759 : decode cL_law 759 = .ok (.aload_n 3, 1) := dbL_law_757.2.2.1
theorem dL_law_760 : decode cL_law 760 = .ok (.invokestatic 189, 3) := dbL_law_757.2.2.2.1
theorem dL_law_763 : decode cL_law 763 = .ok (.istore 5, 2) := dbL_law_757.2.2.2.2.1
theorem dL_law_765 : decode cL_law 765 = .ok (.aload_n 2, 1) := dbL_law_757.2.2.2.2.2.1
theorem dL_law_766 : decode cL_law 766 = .ok (.aload_n 0, 1) := dbL_law_757.2.2.2.2.2.2.1
theorem dL_law_767 : decode cL_law 767 = .ok (.iload 4, 2) := dbL_law_757.2.2.2.2.2.2.2.1
theorem dL_law_769 : decode cL_law 769 = .ok (.iconst 1, 1) := dbL_law_757.2.2.2.2.2.2.2.2.1
theorem dL_law_770 : decode cL_law 770 = .ok (.iadd, 1) := dbL_law_757.2.2.2.2.2.2.2.2.2
theorem dbL_law_771 : (decode cL_law 771 = .ok (.iaload, 1)) ∧ (decode cL_law 772 = .ok (.invokevirtual 191, 3)) ∧ (decode cL_law 775 = .ok (.istore 6, 2)) ∧ (decode cL_law 777 = .ok (.goto 980, 3)) ∧ (decode cL_law 780 = .ok (.aload_n 1, 1)) ∧ (decode cL_law 781 = .ok (.aload_n 0, 1)) ∧ (decode cL_law 782 = .ok (.iload 4, 2)) ∧ (decode cL_law 784 = .ok (.iconst 1, 1)) ∧ (decode cL_law 785 = .ok (.iadd, 1)) ∧ (decode cL_law 786 = .ok (.iaload, 1)) := by decide +kernel
theorem dL_law_771 : decode cL_law 771 = .ok (.iaload, 1) := dbL_law_771.1
theorem dL_law_772 : decode cL_law 772 = .ok (.invokevirtual 191, 3) := dbL_law_771.2.1
theorem dL_law_775 : decode cL_law 775 = .ok (.istore 6, 2) := dbL_law_771.2.2.1
theorem dL_law_777 : decode cL_law 777 = .ok (.goto 980, 3) := dbL_law_771.2.2.2.1
theorem dL_law_780 : decode cL_law 780 = .ok (.aload_n 1, 1) := dbL_law_771.2.2.2.2.1
theorem dL_law_781 : decode cL_law 781 = .ok (.aload_n 0, 1) := dbL_law_771.2.2.2.2.2.1
theorem dL_law_782 : decode cL_law 782 = .ok (.iload 4, 2) := dbL_law_771.2.2.2.2.2.2.1
theorem dL_law_784 : decode cL_law 784 = .ok (.iconst 1, 1) := dbL_law_771.2.2.2.2.2.2.2.1
theorem dL_law_785 : decode cL_law 785 = .ok (.iadd, 1) := dbL_law_771.2.2.2.2.2.2.2.2.1
theorem dL_law_786 : decode cL_law 786 = .ok (.iaload, 1) := dbL_law_771.2.2.2.2.2.2.2.2.2
theorem dbL_law_787 : (decode cL_law 787 = .ok (.aload_n 3, 1)) ∧ (decode cL_law 788 = .ok (.invokestatic 192, 3)) ∧ (decode cL_law 791 = .ok (.istore 5, 2)) ∧ (decode cL_law 793 = .ok (.aload_n 2, 1)) ∧ (decode cL_law 794 = .ok (.aload_n 0, 1)) ∧ (decode cL_law 795 = .ok (.iload 4, 2)) ∧ (decode cL_law 797 = .ok (.iconst 1, 1)) ∧ (decode cL_law 798 = .ok (.iadd, 1)) ∧ (decode cL_law 799 = .ok (.iaload, 1)) ∧ (decode cL_law 800 = .ok (.invokevirtual 194, 3)) := by decide +kernel
theorem dL_law_787 : decode cL_law 787 = .ok (.aload_n 3, 1) := dbL_law_787.1
theorem dL_law_788 : decode cL_law 788 = .ok (.invokestatic 192, 3) := dbL_law_787.2.1
theorem dL_law_791 : decode cL_law 791 = .ok (.istore 5, 2) := dbL_law_787.2.2.1
theorem dL_law_793 : decode cL_law 793 = .ok (.aload_n 2, 1) := dbL_law_787.2.2.2.1
theorem dL_law_794 : decode cL_law 794 = .ok (.aload_n 0, 1) := dbL_law_787.2.2.2.2.1
theorem dL_law_795 : decode cL_law 795 = .ok (.iload 4, 2) := dbL_law_787.2.2.2.2.2.1
theorem dL_law_797 : decode cL_law 797 = .ok (.iconst 1, 1) := dbL_law_787.2.2.2.2.2.2.1
theorem dL_law_798 : decode cL_law 798 = .ok (.iadd, 1) := dbL_law_787.2.2.2.2.2.2.2.1
theorem dL_law_799 : decode cL_law 799 = .ok (.iaload, 1) := dbL_law_787.2.2.2.2.2.2.2.2.1
theorem dL_law_800 : decode cL_law 800 = .ok (.invokevirtual 194, 3) := dbL_law_787.2.2.2.2.2.2.2.2.2
theorem dbL_law_803 : (decode cL_law 803 = .ok (.istore 6, 2)) ∧ (decode cL_law 805 = .ok (.goto 952, 3)) ∧ (decode cL_law 808 = .ok (.aload_n 1, 1)) ∧ (decode cL_law 809 = .ok (.aload_n 0, 1)) ∧ (decode cL_law 810 = .ok (.iload 4, 2)) ∧ (decode cL_law 812 = .ok (.iconst 1, 1)) ∧ (decode cL_law 813 = .ok (.iadd, 1)) ∧ (decode cL_law 814 = .ok (.iaload, 1)) ∧ (decode cL_law 815 = .ok (.aload_n 3, 1)) ∧ (decode cL_law 816 = .ok (.invokestatic 195, 3)) := by decide +kernel
theorem dL_law_803 : decode cL_law 803 = .ok (.istore 6, 2) := dbL_law_803.1
theorem dL_law_805 : decode cL_law 805 = .ok (.goto 952, 3) := dbL_law_803.2.1
theorem dL_law_808 : decode cL_law 808 = .ok (.aload_n 1, 1) := dbL_law_803.2.2.1
theorem dL_law_809 : decode cL_law 809 = .ok (.aload_n 0, 1) := dbL_law_803.2.2.2.1
theorem dL_law_810 : decode cL_law 810 = .ok (.iload 4, 2) := dbL_law_803.2.2.2.2.1
theorem dL_law_812 : decode cL_law 812 = .ok (.iconst 1, 1) := dbL_law_803.2.2.2.2.2.1
theorem dL_law_813 : decode cL_law 813 = .ok (.iadd, 1) := dbL_law_803.2.2.2.2.2.2.1
theorem dL_law_814 : decode cL_law 814 = .ok (.iaload, 1) := dbL_law_803.2.2.2.2.2.2.2.1
theorem dL_law_815 : decode cL_law 815 = .ok (.aload_n 3, 1) := dbL_law_803.2.2.2.2.2.2.2.2.1
theorem dL_law_816 : decode cL_law 816 = .ok (.invokestatic 195, 3) := dbL_law_803.2.2.2.2.2.2.2.2.2
theorem dbL_law_819 : (decode cL_law 819 = .ok (.istore 5, 2)) ∧ (decode cL_law 821 = .ok (.aload_n 2, 1)) ∧ (decode cL_law 822 = .ok (.aload_n 0, 1)) ∧ (decode cL_law 823 = .ok (.iload 4, 2)) ∧ (decode cL_law 825 = .ok (.iconst 1, 1)) ∧ (decode cL_law 826 = .ok (.iadd, 1)) ∧ (decode cL_law 827 = .ok (.iaload, 1)) ∧ (decode cL_law 828 = .ok (.invokevirtual 197, 3)) ∧ (decode cL_law 831 = .ok (.istore 6, 2)) ∧ (decode cL_law 833 = .ok (.goto 924, 3)) := by decide +kernel
theorem dL_law_819 : decode cL_law 819 = .ok (.istore 5, 2) := dbL_law_819.1
theorem dL_law_821 : decode cL_law 821 = .ok (.aload_n 2, 1) := dbL_law_819.2.1
theorem dL_law_822 : decode cL_law 822 = .ok (.aload_n 0, 1) := dbL_law_819.2.2.1
theorem dL_law_823 : decode cL_law 823 = .ok (.iload 4, 2) := dbL_law_819.2.2.2.1
theorem dL_law_825 : decode cL_law 825 = .ok (.iconst 1, 1) := dbL_law_819.2.2.2.2.1
theorem dL_law_826 : decode cL_law 826 = .ok (.iadd, 1) := dbL_law_819.2.2.2.2.2.1
theorem dL_law_827 : decode cL_law 827 = .ok (.iaload, 1) := dbL_law_819.2.2.2.2.2.2.1
theorem dL_law_828 : decode cL_law 828 = .ok (.invokevirtual 197, 3) := dbL_law_819.2.2.2.2.2.2.2.1
theorem dL_law_831 : decode cL_law 831 = .ok (.istore 6, 2) := dbL_law_819.2.2.2.2.2.2.2.2.1
theorem dL_law_833 : decode cL_law 833 = .ok (.goto 924, 3) := dbL_law_819.2.2.2.2.2.2.2.2.2
theorem dbL_law_836 : (decode cL_law 836 = .ok (.aload_n 1, 1)) ∧ (decode cL_law 837 = .ok (.aload_n 0, 1)) ∧ (decode cL_law 838 = .ok (.iload 4, 2)) ∧ (decode cL_law 840 = .ok (.iconst 1, 1)) ∧ (decode cL_law 841 = .ok (.iadd, 1)) ∧ (decode cL_law 842 = .ok (.iaload, 1)) ∧ (decode cL_law 843 = .ok (.aload_n 0, 1)) ∧ (decode cL_law 844 = .ok (.iload 4, 2)) ∧ (decode cL_law 846 = .ok (.iconst 2, 1)) ∧ (decode cL_law 847 = .ok (.iadd, 1)) := by decide +kernel
theorem dL_law_836 : decode cL_law 836 = .ok (.aload_n 1, 1) := dbL_law_836.1
theorem dL_law_837 : decode cL_law 837 = .ok (.aload_n 0, 1) := dbL_law_836.2.1
theorem dL_law_838 : decode cL_law 838 = .ok (.iload 4, 2) := dbL_law_836.2.2.1
theorem dL_law_840 : decode cL_law 840 = .ok (.iconst 1, 1) := dbL_law_836.2.2.2.1
theorem dL_law_841 : decode cL_law 841 = .ok (.iadd, 1) := dbL_law_836.2.2.2.2.1
theorem dL_law_842 : decode cL_law 842 = .ok (.iaload, 1) := dbL_law_836.2.2.2.2.2.1
theorem dL_law_843 : decode cL_law 843 = .ok (.aload_n 0, 1) := dbL_law_836.2.2.2.2.2.2.1
theorem dL_law_844 : decode cL_law 844 = .ok (.iload 4, 2) := dbL_law_836.2.2.2.2.2.2.2.1
theorem dL_law_846 : decode cL_law 846 = .ok (.iconst 2, 1) := dbL_law_836.2.2.2.2.2.2.2.2.1
theorem dL_law_847 : decode cL_law 847 = .ok (.iadd, 1) := dbL_law_836.2.2.2.2.2.2.2.2.2
theorem dbL_law_848 : (decode cL_law 848 = .ok (.iaload, 1)) ∧ (decode cL_law 849 = .ok (.aload_n 3, 1)) ∧ (decode cL_law 850 = .ok (.invokestatic 198, 3)) ∧ (decode cL_law 853 = .ok (.istore 5, 2)) ∧ (decode cL_law 855 = .ok (.aload_n 2, 1)) ∧ (decode cL_law 856 = .ok (.aload_n 0, 1)) ∧ (decode cL_law 857 = .ok (.iload 4, 2)) ∧ (decode cL_law 859 = .ok (.iconst 1, 1)) ∧ (decode cL_law 860 = .ok (.iadd, 1)) ∧ (decode cL_law 861 = .ok (.iaload, 1)) := by decide +kernel
theorem dL_law_848 : decode cL_law 848 = .ok (.iaload, 1) := dbL_law_848.1
theorem dL_law_849 : decode cL_law 849 = .ok (.aload_n 3, 1) := dbL_law_848.2.1
theorem dL_law_850 : decode cL_law 850 = .ok (.invokestatic 198, 3) := dbL_law_848.2.2.1
theorem dL_law_853 : decode cL_law 853 = .ok (.istore 5, 2) := dbL_law_848.2.2.2.1
theorem dL_law_855 : decode cL_law 855 = .ok (.aload_n 2, 1) := dbL_law_848.2.2.2.2.1
theorem dL_law_856 : decode cL_law 856 = .ok (.aload_n 0, 1) := dbL_law_848.2.2.2.2.2.1
theorem dL_law_857 : decode cL_law 857 = .ok (.iload 4, 2) := dbL_law_848.2.2.2.2.2.2.1
theorem dL_law_859 : decode cL_law 859 = .ok (.iconst 1, 1) := dbL_law_848.2.2.2.2.2.2.2.1
theorem dL_law_860 : decode cL_law 860 = .ok (.iadd, 1) := dbL_law_848.2.2.2.2.2.2.2.2.1
theorem dL_law_861 : decode cL_law 861 = .ok (.iaload, 1) := dbL_law_848.2.2.2.2.2.2.2.2.2
theorem dbL_law_862 : (decode cL_law 862 = .ok (.aload_n 0, 1)) ∧ (decode cL_law 863 = .ok (.iload 4, 2)) ∧ (decode cL_law 865 = .ok (.iconst 2, 1)) ∧ (decode cL_law 866 = .ok (.iadd, 1)) ∧ (decode cL_law 867 = .ok (.iaload, 1)) ∧ (decode cL_law 868 = .ok (.invokevirtual 200, 3)) ∧ (decode cL_law 871 = .ok (.istore 6, 2)) ∧ (decode cL_law 873 = .ok (.goto 884, 3)) ∧ (decode cL_law 876 = .ok (.aload_n 1, 1)) ∧ (decode cL_law 877 = .ok (.aload_n 0, 1)) := by decide +kernel
theorem dL_law_862 : decode cL_law 862 = .ok (.aload_n 0, 1) := dbL_law_862.1
theorem dL_law_863 : decode cL_law 863 = .ok (.iload 4, 2) := dbL_law_862.2.1
theorem dL_law_865 : decode cL_law 865 = .ok (.iconst 2, 1) := dbL_law_862.2.2.1
theorem dL_law_866 : decode cL_law 866 = .ok (.iadd, 1) := dbL_law_862.2.2.2.1
theorem dL_law_867 : decode cL_law 867 = .ok (.iaload, 1) := dbL_law_862.2.2.2.2.1
theorem dL_law_868 : decode cL_law 868 = .ok (.invokevirtual 200, 3) := dbL_law_862.2.2.2.2.2.1
theorem dL_law_871 : decode cL_law 871 = .ok (.istore 6, 2) := dbL_law_862.2.2.2.2.2.2.1
theorem dL_law_873 : decode cL_law 873 = .ok (.goto 884, 3) := dbL_law_862.2.2.2.2.2.2.2.1
theorem dL_law_876 : decode cL_law 876 = .ok (.aload_n 1, 1) := dbL_law_862.2.2.2.2.2.2.2.2.1
theorem dL_law_877 : decode cL_law 877 = .ok (.aload_n 0, 1) := dbL_law_862.2.2.2.2.2.2.2.2.2
theorem dbL_law_878 : (decode cL_law 878 = .ok (.iload 4, 2)) ∧ (decode cL_law 880 = .ok (.iconst 1, 1)) ∧ (decode cL_law 881 = .ok (.iadd, 1)) ∧ (decode cL_law 882 = .ok (.iaload, 1)) ∧ (decode cL_law 883 = .ok (.aload_n 0, 1)) ∧ (decode cL_law 884 = .ok (.iload 4, 2)) ∧ (decode cL_law 886 = .ok (.iconst 2, 1)) ∧ (decode cL_law 887 = .ok (.iadd, 1)) ∧ (decode cL_law 888 = .ok (.iaload, 1)) ∧ (decode cL_law 889 = .ok (.aload_n 0, 1)) := by decide +kernel
theorem dL_law_878 : decode cL_law 878 = .ok (.iload 4, 2) := dbL_law_878.1
theorem dL_law_880 : decode cL_law 880 = .ok (.iconst 1, 1) := dbL_law_878.2.1
theorem dL_law_881 : decode cL_law 881 = .ok (.iadd, 1) := dbL_law_878.2.2.1
theorem dL_law_882 : decode cL_law 882 = .ok (.iaload, 1) := dbL_law_878.2.2.2.1
theorem dL_law_883 : decode cL_law 883 = .ok (.aload_n 0, 1) := dbL_law_878.2.2.2.2.1
theorem dL_law_884 : decode cL_law 884 = .ok (.iload 4, 2) := dbL_law_878.2.2.2.2.2.1
theorem dL_law_886 : decode cL_law 886 = .ok (.iconst 2, 1) := dbL_law_878.2.2.2.2.2.2.1
theorem dL_law_887 : decode cL_law 887 = .ok (.iadd, 1) := dbL_law_878.2.2.2.2.2.2.2.1
theorem dL_law_888 : decode cL_law 888 = .ok (.iaload, 1) := dbL_law_878.2.2.2.2.2.2.2.2.1
theorem dL_law_889 : decode cL_law 889 = .ok (.aload_n 0, 1) := dbL_law_878.2.2.2.2.2.2.2.2.2
theorem dbL_law_890 : (decode cL_law 890 = .ok (.iload 4, 2)) ∧ (decode cL_law 892 = .ok (.iconst 3, 1)) ∧ (decode cL_law 893 = .ok (.iadd, 1)) ∧ (decode cL_law 894 = .ok (.iaload, 1)) ∧ (decode cL_law 895 = .ok (.aload_n 3, 1)) ∧ (decode cL_law 896 = .ok (.invokestatic 201, 3)) ∧ (decode cL_law 899 = .ok (.istore 5, 2)) ∧ (decode cL_law 901 = .ok (.aload_n 2, 1)) ∧ (decode cL_law 902 = .ok (.aload_n 0, 1)) ∧ (decode cL_law 903 = .ok (.iload 4, 2)) := by decide +kernel
theorem dL_law_890 : decode cL_law 890 = .ok (.iload 4, 2) := dbL_law_890.1
theorem dL_law_892 : decode cL_law 892 = .ok (.iconst 3, 1) := dbL_law_890.2.1
theorem dL_law_893 : decode cL_law 893 = .ok (.iadd, 1) := dbL_law_890.2.2.1
theorem dL_law_894 : decode cL_law 894 = .ok (.iaload, 1) := dbL_law_890.2.2.2.1
theorem dL_law_895 : decode cL_law 895 = .ok (.aload_n 3, 1) := dbL_law_890.2.2.2.2.1
theorem dL_law_896 : decode cL_law 896 = .ok (.invokestatic 201, 3) := dbL_law_890.2.2.2.2.2.1
theorem dL_law_899 : decode cL_law 899 = .ok (.istore 5, 2) := dbL_law_890.2.2.2.2.2.2.1
theorem dL_law_901 : decode cL_law 901 = .ok (.aload_n 2, 1) := dbL_law_890.2.2.2.2.2.2.2.1
theorem dL_law_902 : decode cL_law 902 = .ok (.aload_n 0, 1) := dbL_law_890.2.2.2.2.2.2.2.2.1
theorem dL_law_903 : decode cL_law 903 = .ok (.iload 4, 2) := dbL_law_890.2.2.2.2.2.2.2.2.2
theorem dbL_law_905 : (decode cL_law 905 = .ok (.iconst 1, 1)) ∧ (decode cL_law 906 = .ok (.iadd, 1)) ∧ (decode cL_law 907 = .ok (.iaload, 1)) ∧ (decode cL_law 908 = .ok (.aload_n 0, 1)) ∧ (decode cL_law 909 = .ok (.iload 4, 2)) ∧ (decode cL_law 911 = .ok (.iconst 2, 1)) ∧ (decode cL_law 912 = .ok (.iadd, 1)) ∧ (decode cL_law 913 = .ok (.iaload, 1)) ∧ (decode cL_law 914 = .ok (.aload_n 0, 1)) ∧ (decode cL_law 915 = .ok (.iload 4, 2)) := by decide +kernel
theorem dL_law_905 : decode cL_law 905 = .ok (.iconst 1, 1) := dbL_law_905.1
theorem dL_law_906 : decode cL_law 906 = .ok (.iadd, 1) := dbL_law_905.2.1
theorem dL_law_907 : decode cL_law 907 = .ok (.iaload, 1) := dbL_law_905.2.2.1
theorem dL_law_908 : decode cL_law 908 = .ok (.aload_n 0, 1) := dbL_law_905.2.2.2.1
theorem dL_law_909 : decode cL_law 909 = .ok (.iload 4, 2) := dbL_law_905.2.2.2.2.1
theorem dL_law_911 : decode cL_law 911 = .ok (.iconst 2, 1) := dbL_law_905.2.2.2.2.2.1
theorem dL_law_912 : decode cL_law 912 = .ok (.iadd, 1) := dbL_law_905.2.2.2.2.2.2.1
theorem dL_law_913 : decode cL_law 913 = .ok (.iaload, 1) := dbL_law_905.2.2.2.2.2.2.2.1
theorem dL_law_914 : decode cL_law 914 = .ok (.aload_n 0, 1) := dbL_law_905.2.2.2.2.2.2.2.2.1
theorem dL_law_915 : decode cL_law 915 = .ok (.iload 4, 2) := dbL_law_905.2.2.2.2.2.2.2.2.2
theorem dbL_law_917 : (decode cL_law 917 = .ok (.iconst 3, 1)) ∧ (decode cL_law 918 = .ok (.iadd, 1)) ∧ (decode cL_law 919 = .ok (.iaload, 1)) ∧ (decode cL_law 920 = .ok (.invokevirtual 203, 3)) ∧ (decode cL_law 923 = .ok (.istore 6, 2)) ∧ (decode cL_law 925 = .ok (.goto 832, 3)) ∧ (decode cL_law 928 = .ok (.aload_n 1, 1)) ∧ (decode cL_law 929 = .ok (.aload_n 0, 1)) ∧ (decode cL_law 930 = .ok (.iload 4, 2)) ∧ (decode cL_law 932 = .ok (.iconst 1, 1)) := by decide +kernel
theorem dL_law_917 : decode cL_law 917 = .ok (.iconst 3, 1) := dbL_law_917.1
theorem dL_law_918 : decode cL_law 918 = .ok (.iadd, 1) := dbL_law_917.2.1
theorem dL_law_919 : decode cL_law 919 = .ok (.iaload, 1) := dbL_law_917.2.2.1
theorem dL_law_920 : decode cL_law 920 = .ok (.invokevirtual 203, 3) := dbL_law_917.2.2.2.1
theorem dL_law_923 : decode cL_law 923 = .ok (.istore 6, 2) := dbL_law_917.2.2.2.2.1
theorem dL_law_925 : decode cL_law 925 = .ok (.goto 832, 3) := dbL_law_917.2.2.2.2.2.1
theorem dL_law_928 : decode cL_law 928 = .ok (.aload_n 1, 1) := dbL_law_917.2.2.2.2.2.2.1
theorem dL_law_929 : decode cL_law 929 = .ok (.aload_n 0, 1) := dbL_law_917.2.2.2.2.2.2.2.1
theorem dL_law_930 : decode cL_law 930 = .ok (.iload 4, 2) := dbL_law_917.2.2.2.2.2.2.2.2.1
theorem dL_law_932 : decode cL_law 932 = .ok (.iconst 1, 1) := dbL_law_917.2.2.2.2.2.2.2.2.2
theorem dbL_law_933 : (decode cL_law 933 = .ok (.iadd, 1)) ∧ (decode cL_law 934 = .ok (.iaload, 1)) ∧ (decode cL_law 935 = .ok (.aload_n 0, 1)) ∧ (decode cL_law 936 = .ok (.iload 4, 2)) ∧ (decode cL_law 938 = .ok (.iconst 2, 1)) ∧ (decode cL_law 939 = .ok (.iadd, 1)) ∧ (decode cL_law 940 = .ok (.iaload, 1)) ∧ (decode cL_law 941 = .ok (.aload_n 0, 1)) ∧ (decode cL_law 942 = .ok (.iload 4, 2)) ∧ (decode cL_law 944 = .ok (.iconst 3, 1)) := by decide +kernel
theorem dL_law_933 : decode cL_law 933 = .ok (.iadd, 1) := dbL_law_933.1
theorem dL_law_934 : decode cL_law 934 = .ok (.iaload, 1) := dbL_law_933.2.1
theorem dL_law_935 : decode cL_law 935 = .ok (.aload_n 0, 1) := dbL_law_933.2.2.1
theorem dL_law_936 : decode cL_law 936 = .ok (.iload 4, 2) := dbL_law_933.2.2.2.1
theorem dL_law_938 : decode cL_law 938 = .ok (.iconst 2, 1) := dbL_law_933.2.2.2.2.1
theorem dL_law_939 : decode cL_law 939 = .ok (.iadd, 1) := dbL_law_933.2.2.2.2.2.1
theorem dL_law_940 : decode cL_law 940 = .ok (.iaload, 1) := dbL_law_933.2.2.2.2.2.2.1
theorem dL_law_941 : decode cL_law 941 = .ok (.aload_n 0, 1) := dbL_law_933.2.2.2.2.2.2.2.1
theorem dL_law_942 : decode cL_law 942 = .ok (.iload 4, 2) := dbL_law_933.2.2.2.2.2.2.2.2.1
theorem dL_law_944 : decode cL_law 944 = .ok (.iconst 3, 1) := dbL_law_933.2.2.2.2.2.2.2.2.2
theorem dbL_law_945 : (decode cL_law 945 = .ok (.iadd, 1)) ∧ (decode cL_law 946 = .ok (.iaload, 1)) ∧ (decode cL_law 947 = .ok (.aload_n 0, 1)) ∧ (decode cL_law 948 = .ok (.iload 4, 2)) ∧ (decode cL_law 950 = .ok (.iconst 4, 1)) ∧ (decode cL_law 951 = .ok (.iadd, 1)) ∧ (decode cL_law 952 = .ok (.iaload, 1)) ∧ (decode cL_law 953 = .ok (.aload_n 3, 1)) ∧ (decode cL_law 954 = .ok (.invokestatic 204, 3)) ∧ (decode cL_law 957 = .ok (.istore 5, 2)) := by decide +kernel
theorem dL_law_945 : decode cL_law 945 = .ok (.iadd, 1) := dbL_law_945.1
theorem dL_law_946 : decode cL_law 946 = .ok (.iaload, 1) := dbL_law_945.2.1
theorem dL_law_947 : decode cL_law 947 = .ok (.aload_n 0, 1) := dbL_law_945.2.2.1
theorem dL_law_948 : decode cL_law 948 = .ok (.iload 4, 2) := dbL_law_945.2.2.2.1
theorem dL_law_950 : decode cL_law 950 = .ok (.iconst 4, 1) := dbL_law_945.2.2.2.2.1
theorem dL_law_951 : decode cL_law 951 = .ok (.iadd, 1) := dbL_law_945.2.2.2.2.2.1
theorem dL_law_952 : decode cL_law 952 = .ok (.iaload, 1) := dbL_law_945.2.2.2.2.2.2.1
theorem dL_law_953 : decode cL_law 953 = .ok (.aload_n 3, 1) := dbL_law_945.2.2.2.2.2.2.2.1
theorem dL_law_954 : decode cL_law 954 = .ok (.invokestatic 204, 3) := dbL_law_945.2.2.2.2.2.2.2.2.1
theorem dL_law_957 : decode cL_law 957 = .ok (.istore 5, 2) := dbL_law_945.2.2.2.2.2.2.2.2.2
theorem dbL_law_959 : (decode cL_law 959 = .ok (.aload_n 2, 1)) ∧ (decode cL_law 960 = .ok (.aload_n 0, 1)) ∧ (decode cL_law 961 = .ok (.iload 4, 2)) ∧ (decode cL_law 963 = .ok (.iconst 1, 1)) ∧ (decode cL_law 964 = .ok (.iadd, 1)) ∧ (decode cL_law 965 = .ok (.iaload, 1)) ∧ (decode cL_law 966 = .ok (.aload_n 0, 1)) ∧ (decode cL_law 967 = .ok (.iload 4, 2)) ∧ (decode cL_law 969 = .ok (.iconst 2, 1)) ∧ (decode cL_law 970 = .ok (.iadd, 1)) := by decide +kernel
theorem dL_law_959 : decode cL_law 959 = .ok (.aload_n 2, 1) := dbL_law_959.1
theorem dL_law_960 : decode cL_law 960 = .ok (.aload_n 0, 1) := dbL_law_959.2.1
theorem dL_law_961 : decode cL_law 961 = .ok (.iload 4, 2) := dbL_law_959.2.2.1
theorem dL_law_963 : decode cL_law 963 = .ok (.iconst 1, 1) := dbL_law_959.2.2.2.1
theorem dL_law_964 : decode cL_law 964 = .ok (.iadd, 1) := dbL_law_959.2.2.2.2.1
theorem dL_law_965 : decode cL_law 965 = .ok (.iaload, 1) := dbL_law_959.2.2.2.2.2.1
theorem dL_law_966 : decode cL_law 966 = .ok (.aload_n 0, 1) := dbL_law_959.2.2.2.2.2.2.1
theorem dL_law_967 : decode cL_law 967 = .ok (.iload 4, 2) := dbL_law_959.2.2.2.2.2.2.2.1
theorem dL_law_969 : decode cL_law 969 = .ok (.iconst 2, 1) := dbL_law_959.2.2.2.2.2.2.2.2.1
theorem dL_law_970 : decode cL_law 970 = .ok (.iadd, 1) := dbL_law_959.2.2.2.2.2.2.2.2.2
theorem dbL_law_971 : (decode cL_law 971 = .ok (.iaload, 1)) ∧ (decode cL_law 972 = .ok (.aload_n 0, 1)) ∧ (decode cL_law 973 = .ok (.iload 4, 2)) ∧ (decode cL_law 975 = .ok (.iconst 3, 1)) ∧ (decode cL_law 976 = .ok (.iadd, 1)) ∧ (decode cL_law 977 = .ok (.iaload, 1)) ∧ (decode cL_law 978 = .ok (.aload_n 0, 1)) ∧ (decode cL_law 979 = .ok (.iload 4, 2)) ∧ (decode cL_law 981 = .ok (.iconst 4, 1)) ∧ (decode cL_law 982 = .ok (.iadd, 1)) := by decide +kernel
theorem dL_law_971 : decode cL_law 971 = .ok (.iaload, 1) := dbL_law_971.1
theorem dL_law_972 : decode cL_law 972 = .ok (.aload_n 0, 1) := dbL_law_971.2.1
theorem dL_law_973 : decode cL_law 973 = .ok (.iload 4, 2) := dbL_law_971.2.2.1
theorem dL_law_975 : decode cL_law 975 = .ok (.iconst 3, 1) := dbL_law_971.2.2.2.1
theorem dL_law_976 : decode cL_law 976 = .ok (.iadd, 1) := dbL_law_971.2.2.2.2.1
theorem dL_law_977 : decode cL_law 977 = .ok (.iaload, 1) := dbL_law_971.2.2.2.2.2.1
theorem dL_law_978 : decode cL_law 978 = .ok (.aload_n 0, 1) := dbL_law_971.2.2.2.2.2.2.1
theorem dL_law_979 : decode cL_law 979 = .ok (.iload 4, 2) := dbL_law_971.2.2.2.2.2.2.2.1
theorem dL_law_981 : decode cL_law 981 = .ok (.iconst 4, 1) := dbL_law_971.2.2.2.2.2.2.2.2.1
theorem dL_law_982 : decode cL_law 982 = .ok (.iadd, 1) := dbL_law_971.2.2.2.2.2.2.2.2.2
theorem dbL_law_983 : (decode cL_law 983 = .ok (.iaload, 1)) ∧ (decode cL_law 984 = .ok (.invokevirtual 206, 3)) ∧ (decode cL_law 987 = .ok (.istore 6, 2)) ∧ (decode cL_law 989 = .ok (.goto 768, 3)) ∧ (decode cL_law 992 = .ok (.aload_n 1, 1)) ∧ (decode cL_law 993 = .ok (.aload_n 0, 1)) ∧ (decode cL_law 994 = .ok (.iload 4, 2)) ∧ (decode cL_law 996 = .ok (.iconst 1, 1)) ∧ (decode cL_law 997 = .ok (.iadd, 1)) ∧ (decode cL_law 998 = .ok (.iaload, 1)) := by decide +kernel
theorem dL_law_983 : decode cL_law 983 = .ok (.iaload, 1) := dbL_law_983.1
theorem dL_law_984 : decode cL_law 984 = .ok (.invokevirtual 206, 3) := dbL_law_983.2.1
theorem dL_law_987 : decode cL_law 987 = .ok (.istore 6, 2) := dbL_law_983.2.2.1
theorem dL_law_989 : decode cL_law 989 = .ok (.goto 768, 3) := dbL_law_983.2.2.2.1
theorem dL_law_992 : decode cL_law 992 = .ok (.aload_n 1, 1) := dbL_law_983.2.2.2.2.1
theorem dL_law_993 : decode cL_law 993 = .ok (.aload_n 0, 1) := dbL_law_983.2.2.2.2.2.1
theorem dL_law_994 : decode cL_law 994 = .ok (.iload 4, 2) := dbL_law_983.2.2.2.2.2.2.1
theorem dL_law_996 : decode cL_law 996 = .ok (.iconst 1, 1) := dbL_law_983.2.2.2.2.2.2.2.1
theorem dL_law_997 : decode cL_law 997 = .ok (.iadd, 1) := dbL_law_983.2.2.2.2.2.2.2.2.1
theorem dL_law_998 : decode cL_law 998 = .ok (.iaload, 1) := dbL_law_983.2.2.2.2.2.2.2.2.2
theorem dbL_law_999 : (decode cL_law 999 = .ok (.aload_n 0, 1)) ∧ (decode cL_law 1000 = .ok (.iload 4, 2)) ∧ (decode cL_law 1002 = .ok (.iconst 2, 1)) ∧ (decode cL_law 1003 = .ok (.iadd, 1)) ∧ (decode cL_law 1004 = .ok (.iaload, 1)) ∧ (decode cL_law 1005 = .ok (.aload_n 0, 1)) ∧ (decode cL_law 1006 = .ok (.iload 4, 2)) ∧ (decode cL_law 1008 = .ok (.iconst 3, 1)) ∧ (decode cL_law 1009 = .ok (.iadd, 1)) ∧ (decode cL_law 1010 = .ok (.iaload, 1)) := by decide +kernel
theorem dL_law_999 : decode cL_law 999 = .ok (.aload_n 0, 1) := dbL_law_999.1
theorem dL_law_1000 : decode cL_law 1000 = .ok (.iload 4, 2) := dbL_law_999.2.1
theorem dL_law_1002 : decode cL_law 1002 = .ok (.iconst 2, 1) := dbL_law_999.2.2.1
theorem dL_law_1003 : decode cL_law 1003 = .ok (.iadd, 1) := dbL_law_999.2.2.2.1
theorem dL_law_1004 : decode cL_law 1004 = .ok (.iaload, 1) := dbL_law_999.2.2.2.2.1
theorem dL_law_1005 : decode cL_law 1005 = .ok (.aload_n 0, 1) := dbL_law_999.2.2.2.2.2.1
theorem dL_law_1006 : decode cL_law 1006 = .ok (.iload 4, 2) := dbL_law_999.2.2.2.2.2.2.1
theorem dL_law_1008 : decode cL_law 1008 = .ok (.iconst 3, 1) := dbL_law_999.2.2.2.2.2.2.2.1
theorem dL_law_1009 : decode cL_law 1009 = .ok (.iadd, 1) := dbL_law_999.2.2.2.2.2.2.2.2.1
theorem dL_law_1010 : decode cL_law 1010 = .ok (.iaload, 1) := dbL_law_999.2.2.2.2.2.2.2.2.2
theorem dbL_law_1011 : (decode cL_law 1011 = .ok (.aload_n 0, 1)) ∧ (decode cL_law 1012 = .ok (.iload 4, 2)) ∧ (decode cL_law 1014 = .ok (.iconst 4, 1)) ∧ (decode cL_law 1015 = .ok (.iadd, 1)) ∧ (decode cL_law 1016 = .ok (.iaload, 1)) ∧ (decode cL_law 1017 = .ok (.aload_n 3, 1)) ∧ (decode cL_law 1018 = .ok (.invokestatic 207, 3)) ∧ (decode cL_law 1021 = .ok (.istore 5, 2)) ∧ (decode cL_law 1023 = .ok (.aload_n 2, 1)) ∧ (decode cL_law 1024 = .ok (.aload_n 0, 1)) := by decide +kernel
theorem dL_law_1011 : decode cL_law 1011 = .ok (.aload_n 0, 1) := dbL_law_1011.1
theorem dL_law_1012 : decode cL_law 1012 = .ok (.iload 4, 2) := dbL_law_1011.2.1
theorem dL_law_1014 : decode cL_law 1014 = .ok (.iconst 4, 1) := dbL_law_1011.2.2.1
theorem dL_law_1015 : decode cL_law 1015 = .ok (.iadd, 1) := dbL_law_1011.2.2.2.1
theorem dL_law_1016 : decode cL_law 1016 = .ok (.iaload, 1) := dbL_law_1011.2.2.2.2.1
theorem dL_law_1017 : decode cL_law 1017 = .ok (.aload_n 3, 1) := dbL_law_1011.2.2.2.2.2.1
theorem dL_law_1018 : decode cL_law 1018 = .ok (.invokestatic 207, 3) := dbL_law_1011.2.2.2.2.2.2.1
theorem dL_law_1021 : decode cL_law 1021 = .ok (.istore 5, 2) := dbL_law_1011.2.2.2.2.2.2.2.1
theorem dL_law_1023 : decode cL_law 1023 = .ok (.aload_n 2, 1) := dbL_law_1011.2.2.2.2.2.2.2.2.1
theorem dL_law_1024 : decode cL_law 1024 = .ok (.aload_n 0, 1) := dbL_law_1011.2.2.2.2.2.2.2.2.2
theorem dbL_law_1025 : (decode cL_law 1025 = .ok (.iload 4, 2)) ∧ (decode cL_law 1027 = .ok (.iconst 1, 1)) ∧ (decode cL_law 1028 = .ok (.iadd, 1)) ∧ (decode cL_law 1029 = .ok (.iaload, 1)) ∧ (decode cL_law 1030 = .ok (.aload_n 0, 1)) ∧ (decode cL_law 1031 = .ok (.iload 4, 2)) ∧ (decode cL_law 1033 = .ok (.iconst 2, 1)) ∧ (decode cL_law 1034 = .ok (.iadd, 1)) ∧ (decode cL_law 1035 = .ok (.iaload, 1)) ∧ (decode cL_law 1036 = .ok (.aload_n 0, 1)) := by decide +kernel
theorem dL_law_1025 : decode cL_law 1025 = .ok (.iload 4, 2) := dbL_law_1025.1
theorem dL_law_1027 : decode cL_law 1027 = .ok (.iconst 1, 1) := dbL_law_1025.2.1
theorem dL_law_1028 : decode cL_law 1028 = .ok (.iadd, 1) := dbL_law_1025.2.2.1
theorem dL_law_1029 : decode cL_law 1029 = .ok (.iaload, 1) := dbL_law_1025.2.2.2.1
theorem dL_law_1030 : decode cL_law 1030 = .ok (.aload_n 0, 1) := dbL_law_1025.2.2.2.2.1
theorem dL_law_1031 : decode cL_law 1031 = .ok (.iload 4, 2) := dbL_law_1025.2.2.2.2.2.1
theorem dL_law_1033 : decode cL_law 1033 = .ok (.iconst 2, 1) := dbL_law_1025.2.2.2.2.2.2.1
theorem dL_law_1034 : decode cL_law 1034 = .ok (.iadd, 1) := dbL_law_1025.2.2.2.2.2.2.2.1
theorem dL_law_1035 : decode cL_law 1035 = .ok (.iaload, 1) := dbL_law_1025.2.2.2.2.2.2.2.2.1
theorem dL_law_1036 : decode cL_law 1036 = .ok (.aload_n 0, 1) := dbL_law_1025.2.2.2.2.2.2.2.2.2
theorem dbL_law_1037 : (decode cL_law 1037 = .ok (.iload 4, 2)) ∧ (decode cL_law 1039 = .ok (.iconst 3, 1)) ∧ (decode cL_law 1040 = .ok (.iadd, 1)) ∧ (decode cL_law 1041 = .ok (.iaload, 1)) ∧ (decode cL_law 1042 = .ok (.aload_n 0, 1)) ∧ (decode cL_law 1043 = .ok (.iload 4, 2)) ∧ (decode cL_law 1045 = .ok (.iconst 4, 1)) ∧ (decode cL_law 1046 = .ok (.iadd, 1)) ∧ (decode cL_law 1047 = .ok (.iaload, 1)) ∧ (decode cL_law 1048 = .ok (.invokevirtual 209, 3)) := by decide +kernel
theorem dL_law_1037 : decode cL_law 1037 = .ok (.iload 4, 2) := dbL_law_1037.1
theorem dL_law_1039 : decode cL_law 1039 = .ok (.iconst 3, 1) := dbL_law_1037.2.1
theorem dL_law_1040 : decode cL_law 1040 = .ok (.iadd, 1) := dbL_law_1037.2.2.1
theorem dL_law_1041 : decode cL_law 1041 = .ok (.iaload, 1) := dbL_law_1037.2.2.2.1
theorem dL_law_1042 : decode cL_law 1042 = .ok (.aload_n 0, 1) := dbL_law_1037.2.2.2.2.1
theorem dL_law_1043 : decode cL_law 1043 = .ok (.iload 4, 2) := dbL_law_1037.2.2.2.2.2.1
theorem dL_law_1045 : decode cL_law 1045 = .ok (.iconst 4, 1) := dbL_law_1037.2.2.2.2.2.2.1
theorem dL_law_1046 : decode cL_law 1046 = .ok (.iadd, 1) := dbL_law_1037.2.2.2.2.2.2.2.1
theorem dL_law_1047 : decode cL_law 1047 = .ok (.iaload, 1) := dbL_law_1037.2.2.2.2.2.2.2.2.1
theorem dL_law_1048 : decode cL_law 1048 = .ok (.invokevirtual 209, 3) := dbL_law_1037.2.2.2.2.2.2.2.2.2
theorem dbL_law_1051 : (decode cL_law 1051 = .ok (.istore 6, 2)) ∧ (decode cL_law 1053 = .ok (.goto 704, 3)) ∧ (decode cL_law 1056 = .ok (.aload_n 1, 1)) ∧ (decode cL_law 1057 = .ok (.aload_n 0, 1)) ∧ (decode cL_law 1058 = .ok (.iload 4, 2)) ∧ (decode cL_law 1060 = .ok (.iconst 1, 1)) ∧ (decode cL_law 1061 = .ok (.iadd, 1)) ∧ (decode cL_law 1062 = .ok (.iaload, 1)) ∧ (decode cL_law 1063 = .ok (.aload_n 3, 1)) ∧ (decode cL_law 1064 = .ok (.invokestatic 210, 3)) := by decide +kernel
theorem dL_law_1051 : decode cL_law 1051 = .ok (.istore 6, 2) := dbL_law_1051.1
theorem dL_law_1053 : decode cL_law 1053 = .ok (.goto 704, 3) := dbL_law_1051.2.1
theorem dL_law_1056 : decode cL_law 1056 = .ok (.aload_n 1, 1) := dbL_law_1051.2.2.1
theorem dL_law_1057 : decode cL_law 1057 = .ok (.aload_n 0, 1) := dbL_law_1051.2.2.2.1
theorem dL_law_1058 : decode cL_law 1058 = .ok (.iload 4, 2) := dbL_law_1051.2.2.2.2.1
theorem dL_law_1060 : decode cL_law 1060 = .ok (.iconst 1, 1) := dbL_law_1051.2.2.2.2.2.1
theorem dL_law_1061 : decode cL_law 1061 = .ok (.iadd, 1) := dbL_law_1051.2.2.2.2.2.2.1
theorem dL_law_1062 : decode cL_law 1062 = .ok (.iaload, 1) := dbL_law_1051.2.2.2.2.2.2.2.1
theorem dL_law_1063 : decode cL_law 1063 = .ok (.aload_n 3, 1) := dbL_law_1051.2.2.2.2.2.2.2.2.1
theorem dL_law_1064 : decode cL_law 1064 = .ok (.invokestatic 210, 3) := dbL_law_1051.2.2.2.2.2.2.2.2.2
theorem dbL_law_1067 : (decode cL_law 1067 = .ok (.istore 5, 2)) ∧ (decode cL_law 1069 = .ok (.aload_n 2, 1)) ∧ (decode cL_law 1070 = .ok (.aload_n 0, 1)) ∧ (decode cL_law 1071 = .ok (.iload 4, 2)) ∧ (decode cL_law 1073 = .ok (.iconst 1, 1)) ∧ (decode cL_law 1074 = .ok (.iadd, 1)) ∧ (decode cL_law 1075 = .ok (.iaload, 1)) ∧ (decode cL_law 1076 = .ok (.invokevirtual 212, 3)) ∧ (decode cL_law 1079 = .ok (.istore 6, 2)) ∧ (decode cL_law 1081 = .ok (.goto 676, 3)) := by decide +kernel
theorem dL_law_1067 : decode cL_law 1067 = .ok (.istore 5, 2) := dbL_law_1067.1
theorem dL_law_1069 : decode cL_law 1069 = .ok (.aload_n 2, 1) := dbL_law_1067.2.1
theorem dL_law_1070 : decode cL_law 1070 = .ok (.aload_n 0, 1) := dbL_law_1067.2.2.1
theorem dL_law_1071 : decode cL_law 1071 = .ok (.iload 4, 2) := dbL_law_1067.2.2.2.1
theorem dL_law_1073 : decode cL_law 1073 = .ok (.iconst 1, 1) := dbL_law_1067.2.2.2.2.1
theorem dL_law_1074 : decode cL_law 1074 = .ok (.iadd, 1) := dbL_law_1067.2.2.2.2.2.1
theorem dL_law_1075 : decode cL_law 1075 = .ok (.iaload, 1) := dbL_law_1067.2.2.2.2.2.2.1
theorem dL_law_1076 : decode cL_law 1076 = .ok (.invokevirtual 212, 3) := dbL_law_1067.2.2.2.2.2.2.2.1
theorem dL_law_1079 : decode cL_law 1079 = .ok (.istore 6, 2) := dbL_law_1067.2.2.2.2.2.2.2.2.1
theorem dL_law_1081 : decode cL_law 1081 = .ok (.goto 676, 3) := dbL_law_1067.2.2.2.2.2.2.2.2.2
theorem dbL_law_1084 : (decode cL_law 1084 = .ok (.aload_n 1, 1)) ∧ (decode cL_law 1085 = .ok (.aload_n 0, 1)) ∧ (decode cL_law 1086 = .ok (.iload 4, 2)) ∧ (decode cL_law 1088 = .ok (.iconst 1, 1)) ∧ (decode cL_law 1089 = .ok (.iadd, 1)) ∧ (decode cL_law 1090 = .ok (.iaload, 1)) ∧ (decode cL_law 1091 = .ok (.aload_n 0, 1)) ∧ (decode cL_law 1092 = .ok (.iload 4, 2)) ∧ (decode cL_law 1094 = .ok (.iconst 2, 1)) ∧ (decode cL_law 1095 = .ok (.iadd, 1)) := by decide +kernel
theorem dL_law_1084 : decode cL_law 1084 = .ok (.aload_n 1, 1) := dbL_law_1084.1
theorem dL_law_1085 : decode cL_law 1085 = .ok (.aload_n 0, 1) := dbL_law_1084.2.1
theorem dL_law_1086 : decode cL_law 1086 = .ok (.iload 4, 2) := dbL_law_1084.2.2.1
theorem dL_law_1088 : decode cL_law 1088 = .ok (.iconst 1, 1) := dbL_law_1084.2.2.2.1
theorem dL_law_1089 : decode cL_law 1089 = .ok (.iadd, 1) := dbL_law_1084.2.2.2.2.1
theorem dL_law_1090 : decode cL_law 1090 = .ok (.iaload, 1) := dbL_law_1084.2.2.2.2.2.1
theorem dL_law_1091 : decode cL_law 1091 = .ok (.aload_n 0, 1) := dbL_law_1084.2.2.2.2.2.2.1
theorem dL_law_1092 : decode cL_law 1092 = .ok (.iload 4, 2) := dbL_law_1084.2.2.2.2.2.2.2.1
theorem dL_law_1094 : decode cL_law 1094 = .ok (.iconst 2, 1) := dbL_law_1084.2.2.2.2.2.2.2.2.1
theorem dL_law_1095 : decode cL_law 1095 = .ok (.iadd, 1) := dbL_law_1084.2.2.2.2.2.2.2.2.2
theorem dbL_law_1096 : (decode cL_law 1096 = .ok (.iaload, 1)) ∧ (decode cL_law 1097 = .ok (.aload_n 0, 1)) ∧ (decode cL_law 1098 = .ok (.iload 4, 2)) ∧ (decode cL_law 1100 = .ok (.iconst 3, 1)) ∧ (decode cL_law 1101 = .ok (.iadd, 1)) ∧ (decode cL_law 1102 = .ok (.iaload, 1)) ∧ (decode cL_law 1103 = .ok (.aload_n 3, 1)) ∧ (decode cL_law 1104 = .ok (.invokestatic 213, 3)) ∧ (decode cL_law 1107 = .ok (.istore 5, 2)) ∧ (decode cL_law 1109 = .ok (.aload_n 2, 1)) := by decide +kernel
theorem dL_law_1096 : decode cL_law 1096 = .ok (.iaload, 1) := dbL_law_1096.1
theorem dL_law_1097 : decode cL_law 1097 = .ok (.aload_n 0, 1) := dbL_law_1096.2.1
theorem dL_law_1098 : decode cL_law 1098 = .ok (.iload 4, 2) := dbL_law_1096.2.2.1
theorem dL_law_1100 : decode cL_law 1100 = .ok (.iconst 3, 1) := dbL_law_1096.2.2.2.1
theorem dL_law_1101 : decode cL_law 1101 = .ok (.iadd, 1) := dbL_law_1096.2.2.2.2.1
theorem dL_law_1102 : decode cL_law 1102 = .ok (.iaload, 1) := dbL_law_1096.2.2.2.2.2.1
theorem dL_law_1103 : decode cL_law 1103 = .ok (.aload_n 3, 1) := dbL_law_1096.2.2.2.2.2.2.1
theorem dL_law_1104 : decode cL_law 1104 = .ok (.invokestatic 213, 3) := dbL_law_1096.2.2.2.2.2.2.2.1
theorem dL_law_1107 : decode cL_law 1107 = .ok (.istore 5, 2) := dbL_law_1096.2.2.2.2.2.2.2.2.1
theorem dL_law_1109 : decode cL_law 1109 = .ok (.aload_n 2, 1) := dbL_law_1096.2.2.2.2.2.2.2.2.2
theorem dbL_law_1110 : (decode cL_law 1110 = .ok (.aload_n 0, 1)) ∧ (decode cL_law 1111 = .ok (.iload 4, 2)) ∧ (decode cL_law 1113 = .ok (.iconst 1, 1)) ∧ (decode cL_law 1114 = .ok (.iadd, 1)) ∧ (decode cL_law 1115 = .ok (.iaload, 1)) ∧ (decode cL_law 1116 = .ok (.aload_n 0, 1)) ∧ (decode cL_law 1117 = .ok (.iload 4, 2)) ∧ (decode cL_law 1119 = .ok (.iconst 2, 1)) ∧ (decode cL_law 1120 = .ok (.iadd, 1)) ∧ (decode cL_law 1121 = .ok (.iaload, 1)) := by decide +kernel
theorem dL_law_1110 : decode cL_law 1110 = .ok (.aload_n 0, 1) := dbL_law_1110.1
theorem dL_law_1111 : decode cL_law 1111 = .ok (.iload 4, 2) := dbL_law_1110.2.1
theorem dL_law_1113 : decode cL_law 1113 = .ok (.iconst 1, 1) := dbL_law_1110.2.2.1
theorem dL_law_1114 : decode cL_law 1114 = .ok (.iadd, 1) := dbL_law_1110.2.2.2.1
theorem dL_law_1115 : decode cL_law 1115 = .ok (.iaload, 1) := dbL_law_1110.2.2.2.2.1
theorem dL_law_1116 : decode cL_law 1116 = .ok (.aload_n 0, 1) := dbL_law_1110.2.2.2.2.2.1
theorem dL_law_1117 : decode cL_law 1117 = .ok (.iload 4, 2) := dbL_law_1110.2.2.2.2.2.2.1
theorem dL_law_1119 : decode cL_law 1119 = .ok (.iconst 2, 1) := dbL_law_1110.2.2.2.2.2.2.2.1
theorem dL_law_1120 : decode cL_law 1120 = .ok (.iadd, 1) := dbL_law_1110.2.2.2.2.2.2.2.2.1
theorem dL_law_1121 : decode cL_law 1121 = .ok (.iaload, 1) := dbL_law_1110.2.2.2.2.2.2.2.2.2
theorem dbL_law_1122 : (decode cL_law 1122 = .ok (.aload_n 0, 1)) ∧ (decode cL_law 1123 = .ok (.iload 4, 2)) ∧ (decode cL_law 1125 = .ok (.iconst 3, 1)) ∧ (decode cL_law 1126 = .ok (.iadd, 1)) ∧ (decode cL_law 1127 = .ok (.iaload, 1)) ∧ (decode cL_law 1128 = .ok (.invokevirtual 215, 3)) ∧ (decode cL_law 1131 = .ok (.istore 6, 2)) ∧ (decode cL_law 1133 = .ok (.goto 624, 3)) := by decide +kernel
theorem dL_law_1122 : decode cL_law 1122 = .ok (.aload_n 0, 1) := dbL_law_1122.1
theorem dL_law_1123 : decode cL_law 1123 = .ok (.iload 4, 2) := dbL_law_1122.2.1
theorem dL_law_1125 : decode cL_law 1125 = .ok (.iconst 3, 1) := dbL_law_1122.2.2.1
theorem dL_law_1126 : decode cL_law 1126 = .ok (.iadd, 1) := dbL_law_1122.2.2.2.1
theorem dL_law_1127 : decode cL_law 1127 = .ok (.iaload, 1) := dbL_law_1122.2.2.2.2.1
theorem dL_law_1128 : decode cL_law 1128 = .ok (.invokevirtual 215, 3) := dbL_law_1122.2.2.2.2.2.1
theorem dL_law_1131 : decode cL_law 1131 = .ok (.istore 6, 2) := dbL_law_1122.2.2.2.2.2.2.1
theorem dL_law_1133 : decode cL_law 1133 = .ok (.goto 624, 3) := dbL_law_1122.2.2.2.2.2.2.2
set_option maxRecDepth 20000 in
theorem lc_mark {X : zX} (C : z_C X cL_law RL 7 room_1) (h_st : (z_l X).stackTraces = false) {b L : Nat} {xs : Nat → Int32} (hX : va_X b L xs (z_s X) (z_s X).heap) (hbl : b < (z_s X).heap.size) (hbA : ¬ z_F X b) {jx : Nat} {a1 a2 a3 a4 : Int32} (hs1 : vp_in (nI (5 * jx) + 1) L ∧ xs (nI (5 * jx) + 1).toNatClampNeg = a1) (hs2 : vp_in (nI (5 * jx) + 2) L ∧ xs (nI (5 * jx) + 2).toNatClampNeg = a2) (hs3 : vp_in (nI (5 * jx) + 3) L ∧ xs (nI (5 * jx) + 3).toNatClampNeg = a3) (hs4 : vp_in (nI (5 * jx) + 4) L ∧ xs (nI (5 * jx) + 4).toNatClampNeg = a4) {u : sS} {x pa sp ln rf sb m pn td ou : Nat} {th : Int32} {on : Int64} {Mw : zM} (hI : s_LX (z_G X) x pa sp ln rf sb m pn td ou u u th on Mw) (hok : s_ok jx u) (hj : jx < 64) {kq nq : Nat} (hkq : kq + 4000 ≤ 600128) (hnq : nq + 60000 ≤ 7301098) (kk : ∀ v th on Mz, s_LX (z_G X) x pa sp ln rf sb m pn td ou v v th on Mz → s_ok (jx + 1) v → z_W X Mz (kq + 4000) (nq + 60000) 27 [(4, .int (nI (5 * (jx + 1)))), (0, .ref b), (1, .ref x), (2, .ref m), (3, .ref ou)] []) : z_W X Mw kq nq 696 [(4, .int (nI (5 * jx))), (0, .ref b), (1, .ref x), (2, .ref m), (3, .ref ou)] [] := by
  refine z_aload_n C dL_law_696 rfl 2 rfl ?_
  refine z_aload_n C dL_law_697 rfl 1 rfl ?_
  refine z_iload C dL_law_698 0 rfl ?_
  refine z_iconst C (v := 1) dL_law_700 (by decide) ?_
  refine z_iadd C dL_law_701 ?_
  refine z_sld C hX hbl hbA hs1.1 hs1.2 dL_law_702 ?_
  refine z_aload_n C dL_law_703 rfl 4 rfl ?_
  refine z_callHi (rest := []) (k' := kq + 8) (n' := nq + 48) C (s_LX_P hI (fun hC9 hd9 ho9 => w_mark (z_l X) h_st hC9 hd9 ho9 hok a1)) (ch_mark C ⟨Nat.le_of_ble_eq_true rfl, Nat.le_of_ble_eq_true rfl⟩) rfl rfl (Nat.le_of_ble_eq_true rfl) rfl rfl (by show _ ≤ 600128; omega) (by show _ ≤ 7301098; omega) dL_law_704 (fun xk M1 hq => ?_)
  obtain ⟨hk1, on1, hI1, ho1⟩ := hq
  refine z_istore (lv' := [(5, .int xk), (4, .int (nI (5 * jx))), (0, .ref b), (1, .ref x), (2, .ref m), (3, .ref ou)]) C dL_law_707 (by decide) rfl ?_
  refine z_aload_n C dL_law_709 rfl 4 rfl ?_
  refine z_aload_n C dL_law_710 rfl 2 rfl ?_
  refine z_iload C dL_law_711 1 rfl ?_
  refine z_iconst C (v := 1) dL_law_713 (by decide) ?_
  refine z_iadd C dL_law_714 ?_
  refine z_sld C hX hbl hbA hs1.1 hs1.2 dL_law_715 ?_
  obtain ⟨tp9, hm9⟩ := s_LX_m hI1
  refine z_callVi (rest := []) (k' := kq + 8) (n' := nq + 48) C (s_LX_R hI1 (fun hR9 => a_X5_mark (z_l X) hR9 hok (by omega) a1)) (cs_L_185 C ⟨Nat.le_of_ble_eq_true rfl, Nat.le_of_ble_eq_true rfl⟩) hm9 rfl rfl rfl rfl (Nat.le_of_ble_eq_true rfl) rfl rfl (by show _ ≤ 600128; omega) (by show _ ≤ 7301098; omega) dL_law_716 (fun xr M2 hq => ?_)
  obtain ⟨hI2, hr2⟩ := hq
  refine z_istore (lv' := [(6, .int xr), (5, .int xk), (4, .int (nI (5 * jx))), (0, .ref b), (1, .ref x), (2, .ref m), (3, .ref ou)]) C dL_law_719 (by decide) rfl ?_
  refine z_goto C (tgt := 1757) dL_law_721 (by decide) ?_
  refine z_iinc (v := nI (5 * (jx + 1))) (lv' := [(4, .int (nI (5 * (jx + 1)))), (6, .int xr), (5, .int xk), (0, .ref b), (1, .ref x), (2, .ref m), (3, .ref ou)]) C dL_law_1757 2 rfl (j_inc5 jx) (by decide) rfl ?_
  refine z_goto C (tgt := 27) dL_law_1760 (by decide) ?_
  refine z_fewer [0, 3, 4, 5, 6] rfl ?_
  refine z_widen (k' := kq + 4000) (n' := nq + 60000) (by omega) (by omega) ?_
  exact kk _ _ _ _ hI2 (so_mark hok)
set_option maxRecDepth 20000 in
theorem lc_back {X : zX} (C : z_C X cL_law RL 7 room_1) (h_st : (z_l X).stackTraces = false) {b L : Nat} {xs : Nat → Int32} (hX : va_X b L xs (z_s X) (z_s X).heap) (hbl : b < (z_s X).heap.size) (hbA : ¬ z_F X b) {jx : Nat} {a1 a2 a3 a4 : Int32} (hs1 : vp_in (nI (5 * jx) + 1) L ∧ xs (nI (5 * jx) + 1).toNatClampNeg = a1) (hs2 : vp_in (nI (5 * jx) + 2) L ∧ xs (nI (5 * jx) + 2).toNatClampNeg = a2) (hs3 : vp_in (nI (5 * jx) + 3) L ∧ xs (nI (5 * jx) + 3).toNatClampNeg = a3) (hs4 : vp_in (nI (5 * jx) + 4) L ∧ xs (nI (5 * jx) + 4).toNatClampNeg = a4) {u : sS} {x pa sp ln rf sb m pn td ou : Nat} {th : Int32} {on : Int64} {Mw : zM} (hI : s_LX (z_G X) x pa sp ln rf sb m pn td ou u u th on Mw) (hok : s_ok jx u) (hj : jx < 64) {kq nq : Nat} (hkq : kq + 4000 ≤ 600128) (hnq : nq + 60000 ≤ 7301098) (kk : ∀ v th on Mz, s_LX (z_G X) x pa sp ln rf sb m pn td ou v v th on Mz → s_ok (jx + 1) v → z_W X Mz (kq + 4000) (nq + 60000) 27 [(4, .int (nI (5 * (jx + 1)))), (0, .ref b), (1, .ref x), (2, .ref m), (3, .ref ou)] []) : z_W X Mw kq nq 724 [(4, .int (nI (5 * jx))), (0, .ref b), (1, .ref x), (2, .ref m), (3, .ref ou)] [] := by
  refine z_aload_n C dL_law_724 rfl 2 rfl ?_
  refine z_aload_n C dL_law_725 rfl 1 rfl ?_
  refine z_iload C dL_law_726 0 rfl ?_
  refine z_iconst C (v := 1) dL_law_728 (by decide) ?_
  refine z_iadd C dL_law_729 ?_
  refine z_sld C hX hbl hbA hs1.1 hs1.2 dL_law_730 ?_
  refine z_aload_n C dL_law_731 rfl 4 rfl ?_
  refine z_callHi (rest := []) (k' := kq + 8) (n' := nq + 48) C (s_LX_P hI (fun hC9 hd9 ho9 => w_back (z_l X) h_st hC9 hd9 ho9 hok a1)) (ch_back C ⟨Nat.le_of_ble_eq_true rfl, Nat.le_of_ble_eq_true rfl⟩) rfl rfl (Nat.le_of_ble_eq_true rfl) rfl rfl (by show _ ≤ 600128; omega) (by show _ ≤ 7301098; omega) dL_law_732 (fun xk M1 hq => ?_)
  obtain ⟨hk1, on1, hI1, ho1⟩ := hq
  refine z_istore (lv' := [(5, .int xk), (4, .int (nI (5 * jx))), (0, .ref b), (1, .ref x), (2, .ref m), (3, .ref ou)]) C dL_law_735 (by decide) rfl ?_
  refine z_aload_n C dL_law_737 rfl 4 rfl ?_
  refine z_aload_n C dL_law_738 rfl 2 rfl ?_
  refine z_iload C dL_law_739 1 rfl ?_
  refine z_iconst C (v := 1) dL_law_741 (by decide) ?_
  refine z_iadd C dL_law_742 ?_
  refine z_sld C hX hbl hbA hs1.1 hs1.2 dL_law_743 ?_
  obtain ⟨tp9, hm9⟩ := s_LX_m hI1
  refine z_callVi (rest := []) (k' := kq + 8) (n' := nq + 48) C (s_LX_R hI1 (fun hR9 => a_X5_back (z_l X) hR9 hok (by omega) a1)) (cs_L_188 C ⟨Nat.le_of_ble_eq_true rfl, Nat.le_of_ble_eq_true rfl⟩) hm9 rfl rfl rfl rfl (Nat.le_of_ble_eq_true rfl) rfl rfl (by show _ ≤ 600128; omega) (by show _ ≤ 7301098; omega) dL_law_744 (fun xr M2 hq => ?_)
  obtain ⟨hI2, hr2⟩ := hq
  refine z_istore (lv' := [(6, .int xr), (5, .int xk), (4, .int (nI (5 * jx))), (0, .ref b), (1, .ref x), (2, .ref m), (3, .ref ou)]) C dL_law_747 (by decide) rfl ?_
  refine z_goto C (tgt := 1757) dL_law_749 (by decide) ?_
  refine z_iinc (v := nI (5 * (jx + 1))) (lv' := [(4, .int (nI (5 * (jx + 1)))), (6, .int xr), (5, .int xk), (0, .ref b), (1, .ref x), (2, .ref m), (3, .ref ou)]) C dL_law_1757 2 rfl (j_inc5 jx) (by decide) rfl ?_
  refine z_goto C (tgt := 27) dL_law_1760 (by decide) ?_
  refine z_fewer [0, 3, 4, 5, 6] rfl ?_
  refine z_widen (k' := kq + 4000) (n' := nq + 60000) (by omega) (by omega) ?_
  exact kk _ _ _ _ hI2 (so_back hok)
set_option maxRecDepth 20000 in
theorem lc_clear {X : zX} (C : z_C X cL_law RL 7 room_1) (h_st : (z_l X).stackTraces = false) {b L : Nat} {xs : Nat → Int32} (hX : va_X b L xs (z_s X) (z_s X).heap) (hbl : b < (z_s X).heap.size) (hbA : ¬ z_F X b) {jx : Nat} {a1 a2 a3 a4 : Int32} (hs1 : vp_in (nI (5 * jx) + 1) L ∧ xs (nI (5 * jx) + 1).toNatClampNeg = a1) (hs2 : vp_in (nI (5 * jx) + 2) L ∧ xs (nI (5 * jx) + 2).toNatClampNeg = a2) (hs3 : vp_in (nI (5 * jx) + 3) L ∧ xs (nI (5 * jx) + 3).toNatClampNeg = a3) (hs4 : vp_in (nI (5 * jx) + 4) L ∧ xs (nI (5 * jx) + 4).toNatClampNeg = a4) {u : sS} {x pa sp ln rf sb m pn td ou : Nat} {th : Int32} {on : Int64} {Mw : zM} (hI : s_LX (z_G X) x pa sp ln rf sb m pn td ou u u th on Mw) (hok : s_ok jx u) (hj : jx < 64) {kq nq : Nat} (hkq : kq + 4000 ≤ 600128) (hnq : nq + 60000 ≤ 7301098) (kk : ∀ v th on Mz, s_LX (z_G X) x pa sp ln rf sb m pn td ou v v th on Mz → s_ok (jx + 1) v → z_W X Mz (kq + 4000) (nq + 60000) 27 [(4, .int (nI (5 * (jx + 1)))), (0, .ref b), (1, .ref x), (2, .ref m), (3, .ref ou)] []) : z_W X Mw kq nq 752 [(4, .int (nI (5 * jx))), (0, .ref b), (1, .ref x), (2, .ref m), (3, .ref ou)] [] := by
  refine z_aload_n C dL_law_752 rfl 2 rfl ?_
  refine z_aload_n C dL_law_753 rfl 1 rfl ?_
  refine z_iload C dL_law_754 0 rfl ?_
  refine z_iconst C (v := 1) dL_law_756 (by decide) ?_
  refine z_iadd C dL_law_757 ?_
  refine z_sld C hX hbl hbA hs1.1 hs1.2 dL_law_758 ?_
  refine z_aload_n C dL_law_759 rfl 4 rfl ?_
  refine z_callHi (rest := []) (k' := kq + 8) (n' := nq + 48) C (s_LX_P hI (fun hC9 hd9 ho9 => w_clear (z_l X) h_st hC9 hd9 ho9 hok a1)) (ch_clear C ⟨Nat.le_of_ble_eq_true rfl, Nat.le_of_ble_eq_true rfl⟩) rfl rfl (Nat.le_of_ble_eq_true rfl) rfl rfl (by show _ ≤ 600128; omega) (by show _ ≤ 7301098; omega) dL_law_760 (fun xk M1 hq => ?_)
  obtain ⟨hk1, on1, hI1, ho1⟩ := hq
  refine z_istore (lv' := [(5, .int xk), (4, .int (nI (5 * jx))), (0, .ref b), (1, .ref x), (2, .ref m), (3, .ref ou)]) C dL_law_763 (by decide) rfl ?_
  refine z_aload_n C dL_law_765 rfl 4 rfl ?_
  refine z_aload_n C dL_law_766 rfl 2 rfl ?_
  refine z_iload C dL_law_767 1 rfl ?_
  refine z_iconst C (v := 1) dL_law_769 (by decide) ?_
  refine z_iadd C dL_law_770 ?_
  refine z_sld C hX hbl hbA hs1.1 hs1.2 dL_law_771 ?_
  obtain ⟨tp9, hm9⟩ := s_LX_m hI1
  refine z_callVi (rest := []) (k' := kq + 8) (n' := nq + 48) C (s_LX_R hI1 (fun hR9 => a_X5_clear (z_l X) hR9 hok (by omega) a1)) (cs_L_191 C ⟨Nat.le_of_ble_eq_true rfl, Nat.le_of_ble_eq_true rfl⟩) hm9 rfl rfl rfl rfl (Nat.le_of_ble_eq_true rfl) rfl rfl (by show _ ≤ 600128; omega) (by show _ ≤ 7301098; omega) dL_law_772 (fun xr M2 hq => ?_)
  obtain ⟨hI2, hr2⟩ := hq
  refine z_istore (lv' := [(6, .int xr), (5, .int xk), (4, .int (nI (5 * jx))), (0, .ref b), (1, .ref x), (2, .ref m), (3, .ref ou)]) C dL_law_775 (by decide) rfl ?_
  refine z_goto C (tgt := 1757) dL_law_777 (by decide) ?_
  refine z_iinc (v := nI (5 * (jx + 1))) (lv' := [(4, .int (nI (5 * (jx + 1)))), (6, .int xr), (5, .int xk), (0, .ref b), (1, .ref x), (2, .ref m), (3, .ref ou)]) C dL_law_1757 2 rfl (j_inc5 jx) (by decide) rfl ?_
  refine z_goto C (tgt := 27) dL_law_1760 (by decide) ?_
  refine z_fewer [0, 3, 4, 5, 6] rfl ?_
  refine z_widen (k' := kq + 4000) (n' := nq + 60000) (by omega) (by omega) ?_
  exact kk _ _ _ _ hI2 (so_clear hok)
set_option maxRecDepth 20000 in
theorem lc_flip {X : zX} (C : z_C X cL_law RL 7 room_1) (h_st : (z_l X).stackTraces = false) {b L : Nat} {xs : Nat → Int32} (hX : va_X b L xs (z_s X) (z_s X).heap) (hbl : b < (z_s X).heap.size) (hbA : ¬ z_F X b) {jx : Nat} {a1 a2 a3 a4 : Int32} (hs1 : vp_in (nI (5 * jx) + 1) L ∧ xs (nI (5 * jx) + 1).toNatClampNeg = a1) (hs2 : vp_in (nI (5 * jx) + 2) L ∧ xs (nI (5 * jx) + 2).toNatClampNeg = a2) (hs3 : vp_in (nI (5 * jx) + 3) L ∧ xs (nI (5 * jx) + 3).toNatClampNeg = a3) (hs4 : vp_in (nI (5 * jx) + 4) L ∧ xs (nI (5 * jx) + 4).toNatClampNeg = a4) {u : sS} {x pa sp ln rf sb m pn td ou : Nat} {th : Int32} {on : Int64} {Mw : zM} (hI : s_LX (z_G X) x pa sp ln rf sb m pn td ou u u th on Mw) (hok : s_ok jx u) (hj : jx < 64) {kq nq : Nat} (hkq : kq + 4000 ≤ 600128) (hnq : nq + 60000 ≤ 7301098) (kk : ∀ v th on Mz, s_LX (z_G X) x pa sp ln rf sb m pn td ou v v th on Mz → s_ok (jx + 1) v → z_W X Mz (kq + 4000) (nq + 60000) 27 [(4, .int (nI (5 * (jx + 1)))), (0, .ref b), (1, .ref x), (2, .ref m), (3, .ref ou)] []) : z_W X Mw kq nq 780 [(4, .int (nI (5 * jx))), (0, .ref b), (1, .ref x), (2, .ref m), (3, .ref ou)] [] := by
  refine z_aload_n C dL_law_780 rfl 2 rfl ?_
  refine z_aload_n C dL_law_781 rfl 1 rfl ?_
  refine z_iload C dL_law_782 0 rfl ?_
  refine z_iconst C (v := 1) dL_law_784 (by decide) ?_
  refine z_iadd C dL_law_785 ?_
  refine z_sld C hX hbl hbA hs1.1 hs1.2 dL_law_786 ?_
  refine z_aload_n C dL_law_787 rfl 4 rfl ?_
  refine z_callHi (rest := []) (k' := kq + 8) (n' := nq + 48) C (s_LX_P hI (fun hC9 hd9 ho9 => w_flip (z_l X) h_st hC9 hd9 ho9 hok a1)) (ch_flip C ⟨Nat.le_of_ble_eq_true rfl, Nat.le_of_ble_eq_true rfl⟩) rfl rfl (Nat.le_of_ble_eq_true rfl) rfl rfl (by show _ ≤ 600128; omega) (by show _ ≤ 7301098; omega) dL_law_788 (fun xk M1 hq => ?_)
  obtain ⟨hk1, on1, hI1, ho1⟩ := hq
  refine z_istore (lv' := [(5, .int xk), (4, .int (nI (5 * jx))), (0, .ref b), (1, .ref x), (2, .ref m), (3, .ref ou)]) C dL_law_791 (by decide) rfl ?_
  refine z_aload_n C dL_law_793 rfl 4 rfl ?_
  refine z_aload_n C dL_law_794 rfl 2 rfl ?_
  refine z_iload C dL_law_795 1 rfl ?_
  refine z_iconst C (v := 1) dL_law_797 (by decide) ?_
  refine z_iadd C dL_law_798 ?_
  refine z_sld C hX hbl hbA hs1.1 hs1.2 dL_law_799 ?_
  obtain ⟨tp9, hm9⟩ := s_LX_m hI1
  refine z_callVi (rest := []) (k' := kq + 8) (n' := nq + 48) C (s_LX_R hI1 (fun hR9 => a_X5_flip (z_l X) hR9 hok (by omega) a1)) (cs_L_194 C ⟨Nat.le_of_ble_eq_true rfl, Nat.le_of_ble_eq_true rfl⟩) hm9 rfl rfl rfl rfl (Nat.le_of_ble_eq_true rfl) rfl rfl (by show _ ≤ 600128; omega) (by show _ ≤ 7301098; omega) dL_law_800 (fun xr M2 hq => ?_)
  obtain ⟨hI2, hr2⟩ := hq
  refine z_istore (lv' := [(6, .int xr), (5, .int xk), (4, .int (nI (5 * jx))), (0, .ref b), (1, .ref x), (2, .ref m), (3, .ref ou)]) C dL_law_803 (by decide) rfl ?_
  refine z_goto C (tgt := 1757) dL_law_805 (by decide) ?_
  refine z_iinc (v := nI (5 * (jx + 1))) (lv' := [(4, .int (nI (5 * (jx + 1)))), (6, .int xr), (5, .int xk), (0, .ref b), (1, .ref x), (2, .ref m), (3, .ref ou)]) C dL_law_1757 2 rfl (j_inc5 jx) (by decide) rfl ?_
  refine z_goto C (tgt := 27) dL_law_1760 (by decide) ?_
  refine z_fewer [0, 3, 4, 5, 6] rfl ?_
  refine z_widen (k' := kq + 4000) (n' := nq + 60000) (by omega) (by omega) ?_
  exact kk _ _ _ _ hI2 (so_flip hok)
set_option maxRecDepth 20000 in
theorem lc_rewind {X : zX} (C : z_C X cL_law RL 7 room_1) (h_st : (z_l X).stackTraces = false) {b L : Nat} {xs : Nat → Int32} (hX : va_X b L xs (z_s X) (z_s X).heap) (hbl : b < (z_s X).heap.size) (hbA : ¬ z_F X b) {jx : Nat} {a1 a2 a3 a4 : Int32} (hs1 : vp_in (nI (5 * jx) + 1) L ∧ xs (nI (5 * jx) + 1).toNatClampNeg = a1) (hs2 : vp_in (nI (5 * jx) + 2) L ∧ xs (nI (5 * jx) + 2).toNatClampNeg = a2) (hs3 : vp_in (nI (5 * jx) + 3) L ∧ xs (nI (5 * jx) + 3).toNatClampNeg = a3) (hs4 : vp_in (nI (5 * jx) + 4) L ∧ xs (nI (5 * jx) + 4).toNatClampNeg = a4) {u : sS} {x pa sp ln rf sb m pn td ou : Nat} {th : Int32} {on : Int64} {Mw : zM} (hI : s_LX (z_G X) x pa sp ln rf sb m pn td ou u u th on Mw) (hok : s_ok jx u) (hj : jx < 64) {kq nq : Nat} (hkq : kq + 4000 ≤ 600128) (hnq : nq + 60000 ≤ 7301098) (kk : ∀ v th on Mz, s_LX (z_G X) x pa sp ln rf sb m pn td ou v v th on Mz → s_ok (jx + 1) v → z_W X Mz (kq + 4000) (nq + 60000) 27 [(4, .int (nI (5 * (jx + 1)))), (0, .ref b), (1, .ref x), (2, .ref m), (3, .ref ou)] []) : z_W X Mw kq nq 808 [(4, .int (nI (5 * jx))), (0, .ref b), (1, .ref x), (2, .ref m), (3, .ref ou)] [] := by
  refine z_aload_n C dL_law_808 rfl 2 rfl ?_
  refine z_aload_n C dL_law_809 rfl 1 rfl ?_
  refine z_iload C dL_law_810 0 rfl ?_
  refine z_iconst C (v := 1) dL_law_812 (by decide) ?_
  refine z_iadd C dL_law_813 ?_
  refine z_sld C hX hbl hbA hs1.1 hs1.2 dL_law_814 ?_
  refine z_aload_n C dL_law_815 rfl 4 rfl ?_
  refine z_callHi (rest := []) (k' := kq + 8) (n' := nq + 48) C (s_LX_P hI (fun hC9 hd9 ho9 => w_rewind (z_l X) h_st hC9 hd9 ho9 hok a1)) (ch_rewind C ⟨Nat.le_of_ble_eq_true rfl, Nat.le_of_ble_eq_true rfl⟩) rfl rfl (Nat.le_of_ble_eq_true rfl) rfl rfl (by show _ ≤ 600128; omega) (by show _ ≤ 7301098; omega) dL_law_816 (fun xk M1 hq => ?_)
  obtain ⟨hk1, on1, hI1, ho1⟩ := hq
  refine z_istore (lv' := [(5, .int xk), (4, .int (nI (5 * jx))), (0, .ref b), (1, .ref x), (2, .ref m), (3, .ref ou)]) C dL_law_819 (by decide) rfl ?_
  refine z_aload_n C dL_law_821 rfl 4 rfl ?_
  refine z_aload_n C dL_law_822 rfl 2 rfl ?_
  refine z_iload C dL_law_823 1 rfl ?_
  refine z_iconst C (v := 1) dL_law_825 (by decide) ?_
  refine z_iadd C dL_law_826 ?_
  refine z_sld C hX hbl hbA hs1.1 hs1.2 dL_law_827 ?_
  obtain ⟨tp9, hm9⟩ := s_LX_m hI1
  refine z_callVi (rest := []) (k' := kq + 8) (n' := nq + 48) C (s_LX_R hI1 (fun hR9 => a_X5_rewind (z_l X) hR9 hok (by omega) a1)) (cs_L_197 C ⟨Nat.le_of_ble_eq_true rfl, Nat.le_of_ble_eq_true rfl⟩) hm9 rfl rfl rfl rfl (Nat.le_of_ble_eq_true rfl) rfl rfl (by show _ ≤ 600128; omega) (by show _ ≤ 7301098; omega) dL_law_828 (fun xr M2 hq => ?_)
  obtain ⟨hI2, hr2⟩ := hq
  refine z_istore (lv' := [(6, .int xr), (5, .int xk), (4, .int (nI (5 * jx))), (0, .ref b), (1, .ref x), (2, .ref m), (3, .ref ou)]) C dL_law_831 (by decide) rfl ?_
  refine z_goto C (tgt := 1757) dL_law_833 (by decide) ?_
  refine z_iinc (v := nI (5 * (jx + 1))) (lv' := [(4, .int (nI (5 * (jx + 1)))), (6, .int xr), (5, .int xk), (0, .ref b), (1, .ref x), (2, .ref m), (3, .ref ou)]) C dL_law_1757 2 rfl (j_inc5 jx) (by decide) rfl ?_
  refine z_goto C (tgt := 27) dL_law_1760 (by decide) ?_
  refine z_fewer [0, 3, 4, 5, 6] rfl ?_
  refine z_widen (k' := kq + 4000) (n' := nq + 60000) (by omega) (by omega) ?_
  exact kk _ _ _ _ hI2 (so_rewind hok)
set_option maxRecDepth 20000 in
theorem lc_put {X : zX} (C : z_C X cL_law RL 7 room_1) (h_st : (z_l X).stackTraces = false) {b L : Nat} {xs : Nat → Int32} (hX : va_X b L xs (z_s X) (z_s X).heap) (hbl : b < (z_s X).heap.size) (hbA : ¬ z_F X b) {jx : Nat} {a1 a2 a3 a4 : Int32} (hs1 : vp_in (nI (5 * jx) + 1) L ∧ xs (nI (5 * jx) + 1).toNatClampNeg = a1) (hs2 : vp_in (nI (5 * jx) + 2) L ∧ xs (nI (5 * jx) + 2).toNatClampNeg = a2) (hs3 : vp_in (nI (5 * jx) + 3) L ∧ xs (nI (5 * jx) + 3).toNatClampNeg = a3) (hs4 : vp_in (nI (5 * jx) + 4) L ∧ xs (nI (5 * jx) + 4).toNatClampNeg = a4) {u : sS} {x pa sp ln rf sb m pn td ou : Nat} {th : Int32} {on : Int64} {Mw : zM} (hI : s_LX (z_G X) x pa sp ln rf sb m pn td ou u u th on Mw) (hok : s_ok jx u) (hj : jx < 64) {kq nq : Nat} (hkq : kq + 4000 ≤ 600128) (hnq : nq + 60000 ≤ 7301098) (kk : ∀ v th on Mz, s_LX (z_G X) x pa sp ln rf sb m pn td ou v v th on Mz → s_ok (jx + 1) v → z_W X Mz (kq + 4000) (nq + 60000) 27 [(4, .int (nI (5 * (jx + 1)))), (0, .ref b), (1, .ref x), (2, .ref m), (3, .ref ou)] []) : z_W X Mw kq nq 836 [(4, .int (nI (5 * jx))), (0, .ref b), (1, .ref x), (2, .ref m), (3, .ref ou)] [] := by
  refine z_aload_n C dL_law_836 rfl 2 rfl ?_
  refine z_aload_n C dL_law_837 rfl 1 rfl ?_
  refine z_iload C dL_law_838 0 rfl ?_
  refine z_iconst C (v := 1) dL_law_840 (by decide) ?_
  refine z_iadd C dL_law_841 ?_
  refine z_sld C hX hbl hbA hs1.1 hs1.2 dL_law_842 ?_
  refine z_aload_n C dL_law_843 rfl 1 rfl ?_
  refine z_iload C dL_law_844 0 rfl ?_
  refine z_iconst C (v := 2) dL_law_846 (by decide) ?_
  refine z_iadd C dL_law_847 ?_
  refine z_sld C hX hbl hbA hs2.1 hs2.2 dL_law_848 ?_
  refine z_aload_n C dL_law_849 rfl 4 rfl ?_
  refine z_callHi (rest := []) (k' := kq + 8) (n' := nq + 48) C (s_LX_P hI (fun hC9 hd9 ho9 => w_put (z_l X) h_st hC9 hd9 ho9 hok a1 a2)) (ch_put C ⟨Nat.le_of_ble_eq_true rfl, Nat.le_of_ble_eq_true rfl⟩) rfl rfl (Nat.le_of_ble_eq_true rfl) rfl rfl (by show _ ≤ 600128; omega) (by show _ ≤ 7301098; omega) dL_law_850 (fun xk M1 hq => ?_)
  obtain ⟨hk1, on1, hI1, ho1⟩ := hq
  refine z_istore (lv' := [(5, .int xk), (4, .int (nI (5 * jx))), (0, .ref b), (1, .ref x), (2, .ref m), (3, .ref ou)]) C dL_law_853 (by decide) rfl ?_
  refine z_aload_n C dL_law_855 rfl 4 rfl ?_
  refine z_aload_n C dL_law_856 rfl 2 rfl ?_
  refine z_iload C dL_law_857 1 rfl ?_
  refine z_iconst C (v := 1) dL_law_859 (by decide) ?_
  refine z_iadd C dL_law_860 ?_
  refine z_sld C hX hbl hbA hs1.1 hs1.2 dL_law_861 ?_
  refine z_aload_n C dL_law_862 rfl 2 rfl ?_
  refine z_iload C dL_law_863 1 rfl ?_
  refine z_iconst C (v := 2) dL_law_865 (by decide) ?_
  refine z_iadd C dL_law_866 ?_
  refine z_sld C hX hbl hbA hs2.1 hs2.2 dL_law_867 ?_
  obtain ⟨tp9, hm9⟩ := s_LX_m hI1
  refine z_callVi (rest := []) (k' := kq + 8) (n' := nq + 48) C (s_LX_R hI1 (fun hR9 => a_X5_put (z_l X) hR9 hok (by omega) a1 a2)) (cs_L_200 C ⟨Nat.le_of_ble_eq_true rfl, Nat.le_of_ble_eq_true rfl⟩) hm9 rfl rfl rfl rfl (Nat.le_of_ble_eq_true rfl) rfl rfl (by show _ ≤ 600128; omega) (by show _ ≤ 7301098; omega) dL_law_868 (fun xr M2 hq => ?_)
  obtain ⟨hI2, hr2⟩ := hq
  refine z_istore (lv' := [(6, .int xr), (5, .int xk), (4, .int (nI (5 * jx))), (0, .ref b), (1, .ref x), (2, .ref m), (3, .ref ou)]) C dL_law_871 (by decide) rfl ?_
  refine z_goto C (tgt := 1757) dL_law_873 (by decide) ?_
  refine z_iinc (v := nI (5 * (jx + 1))) (lv' := [(4, .int (nI (5 * (jx + 1)))), (6, .int xr), (5, .int xk), (0, .ref b), (1, .ref x), (2, .ref m), (3, .ref ou)]) C dL_law_1757 2 rfl (j_inc5 jx) (by decide) rfl ?_
  refine z_goto C (tgt := 27) dL_law_1760 (by decide) ?_
  refine z_fewer [0, 3, 4, 5, 6] rfl ?_
  refine z_widen (k' := kq + 4000) (n' := nq + 60000) (by omega) (by omega) ?_
  exact kk _ _ _ _ hI2 (so_put hok)
set_option maxRecDepth 20000 in
theorem lc_putAt {X : zX} (C : z_C X cL_law RL 7 room_1) (h_st : (z_l X).stackTraces = false) {b L : Nat} {xs : Nat → Int32} (hX : va_X b L xs (z_s X) (z_s X).heap) (hbl : b < (z_s X).heap.size) (hbA : ¬ z_F X b) {jx : Nat} {a1 a2 a3 a4 : Int32} (hs1 : vp_in (nI (5 * jx) + 1) L ∧ xs (nI (5 * jx) + 1).toNatClampNeg = a1) (hs2 : vp_in (nI (5 * jx) + 2) L ∧ xs (nI (5 * jx) + 2).toNatClampNeg = a2) (hs3 : vp_in (nI (5 * jx) + 3) L ∧ xs (nI (5 * jx) + 3).toNatClampNeg = a3) (hs4 : vp_in (nI (5 * jx) + 4) L ∧ xs (nI (5 * jx) + 4).toNatClampNeg = a4) {u : sS} {x pa sp ln rf sb m pn td ou : Nat} {th : Int32} {on : Int64} {Mw : zM} (hI : s_LX (z_G X) x pa sp ln rf sb m pn td ou u u th on Mw) (hok : s_ok jx u) (hj : jx < 64) {kq nq : Nat} (hkq : kq + 4000 ≤ 600128) (hnq : nq + 60000 ≤ 7301098) (kk : ∀ v th on Mz, s_LX (z_G X) x pa sp ln rf sb m pn td ou v v th on Mz → s_ok (jx + 1) v → z_W X Mz (kq + 4000) (nq + 60000) 27 [(4, .int (nI (5 * (jx + 1)))), (0, .ref b), (1, .ref x), (2, .ref m), (3, .ref ou)] []) : z_W X Mw kq nq 876 [(4, .int (nI (5 * jx))), (0, .ref b), (1, .ref x), (2, .ref m), (3, .ref ou)] [] := by
  refine z_aload_n C dL_law_876 rfl 2 rfl ?_
  refine z_aload_n C dL_law_877 rfl 1 rfl ?_
  refine z_iload C dL_law_878 0 rfl ?_
  refine z_iconst C (v := 1) dL_law_880 (by decide) ?_
  refine z_iadd C dL_law_881 ?_
  refine z_sld C hX hbl hbA hs1.1 hs1.2 dL_law_882 ?_
  refine z_aload_n C dL_law_883 rfl 1 rfl ?_
  refine z_iload C dL_law_884 0 rfl ?_
  refine z_iconst C (v := 2) dL_law_886 (by decide) ?_
  refine z_iadd C dL_law_887 ?_
  refine z_sld C hX hbl hbA hs2.1 hs2.2 dL_law_888 ?_
  refine z_aload_n C dL_law_889 rfl 1 rfl ?_
  refine z_iload C dL_law_890 0 rfl ?_
  refine z_iconst C (v := 3) dL_law_892 (by decide) ?_
  refine z_iadd C dL_law_893 ?_
  refine z_sld C hX hbl hbA hs3.1 hs3.2 dL_law_894 ?_
  refine z_aload_n C dL_law_895 rfl 4 rfl ?_
  refine z_callHi (rest := []) (k' := kq + 8) (n' := nq + 48) C (s_LX_P hI (fun hC9 hd9 ho9 => w_putAt (z_l X) h_st hC9 hd9 ho9 hok a1 a2 a3)) (ch_putAt C ⟨Nat.le_of_ble_eq_true rfl, Nat.le_of_ble_eq_true rfl⟩) rfl rfl (Nat.le_of_ble_eq_true rfl) rfl rfl (by show _ ≤ 600128; omega) (by show _ ≤ 7301098; omega) dL_law_896 (fun xk M1 hq => ?_)
  obtain ⟨hk1, on1, hI1, ho1⟩ := hq
  refine z_istore (lv' := [(5, .int xk), (4, .int (nI (5 * jx))), (0, .ref b), (1, .ref x), (2, .ref m), (3, .ref ou)]) C dL_law_899 (by decide) rfl ?_
  refine z_aload_n C dL_law_901 rfl 4 rfl ?_
  refine z_aload_n C dL_law_902 rfl 2 rfl ?_
  refine z_iload C dL_law_903 1 rfl ?_
  refine z_iconst C (v := 1) dL_law_905 (by decide) ?_
  refine z_iadd C dL_law_906 ?_
  refine z_sld C hX hbl hbA hs1.1 hs1.2 dL_law_907 ?_
  refine z_aload_n C dL_law_908 rfl 2 rfl ?_
  refine z_iload C dL_law_909 1 rfl ?_
  refine z_iconst C (v := 2) dL_law_911 (by decide) ?_
  refine z_iadd C dL_law_912 ?_
  refine z_sld C hX hbl hbA hs2.1 hs2.2 dL_law_913 ?_
  refine z_aload_n C dL_law_914 rfl 2 rfl ?_
  refine z_iload C dL_law_915 1 rfl ?_
  refine z_iconst C (v := 3) dL_law_917 (by decide) ?_
  refine z_iadd C dL_law_918 ?_
  refine z_sld C hX hbl hbA hs3.1 hs3.2 dL_law_919 ?_
  obtain ⟨tp9, hm9⟩ := s_LX_m hI1
  refine z_callVi (rest := []) (k' := kq + 8) (n' := nq + 48) C (s_LX_R hI1 (fun hR9 => a_X5_putAt (z_l X) hR9 hok (by omega) a1 a2 a3)) (cs_L_203 C ⟨Nat.le_of_ble_eq_true rfl, Nat.le_of_ble_eq_true rfl⟩) hm9 rfl rfl rfl rfl (Nat.le_of_ble_eq_true rfl) rfl rfl (by show _ ≤ 600128; omega) (by show _ ≤ 7301098; omega) dL_law_920 (fun xr M2 hq => ?_)
  obtain ⟨hI2, hr2⟩ := hq
  refine z_istore (lv' := [(6, .int xr), (5, .int xk), (4, .int (nI (5 * jx))), (0, .ref b), (1, .ref x), (2, .ref m), (3, .ref ou)]) C dL_law_923 (by decide) rfl ?_
  refine z_goto C (tgt := 1757) dL_law_925 (by decide) ?_
  refine z_iinc (v := nI (5 * (jx + 1))) (lv' := [(4, .int (nI (5 * (jx + 1)))), (6, .int xr), (5, .int xk), (0, .ref b), (1, .ref x), (2, .ref m), (3, .ref ou)]) C dL_law_1757 2 rfl (j_inc5 jx) (by decide) rfl ?_
  refine z_goto C (tgt := 27) dL_law_1760 (by decide) ?_
  refine z_fewer [0, 3, 4, 5, 6] rfl ?_
  refine z_widen (k' := kq + 4000) (n' := nq + 60000) (by omega) (by omega) ?_
  exact kk _ _ _ _ hI2 (so_putAt hok)
set_option maxRecDepth 20000 in
theorem lc_bring {X : zX} (C : z_C X cL_law RL 7 room_1) (h_st : (z_l X).stackTraces = false) {b L : Nat} {xs : Nat → Int32} (hX : va_X b L xs (z_s X) (z_s X).heap) (hbl : b < (z_s X).heap.size) (hbA : ¬ z_F X b) {jx : Nat} {a1 a2 a3 a4 : Int32} (hs1 : vp_in (nI (5 * jx) + 1) L ∧ xs (nI (5 * jx) + 1).toNatClampNeg = a1) (hs2 : vp_in (nI (5 * jx) + 2) L ∧ xs (nI (5 * jx) + 2).toNatClampNeg = a2) (hs3 : vp_in (nI (5 * jx) + 3) L ∧ xs (nI (5 * jx) + 3).toNatClampNeg = a3) (hs4 : vp_in (nI (5 * jx) + 4) L ∧ xs (nI (5 * jx) + 4).toNatClampNeg = a4) {u : sS} {x pa sp ln rf sb m pn td ou : Nat} {th : Int32} {on : Int64} {Mw : zM} (hI : s_LX (z_G X) x pa sp ln rf sb m pn td ou u u th on Mw) (hok : s_ok jx u) (hj : jx < 64) {kq nq : Nat} (hkq : kq + 4000 ≤ 600128) (hnq : nq + 60000 ≤ 7301098) (kk : ∀ v th on Mz, s_LX (z_G X) x pa sp ln rf sb m pn td ou v v th on Mz → s_ok (jx + 1) v → z_W X Mz (kq + 4000) (nq + 60000) 27 [(4, .int (nI (5 * (jx + 1)))), (0, .ref b), (1, .ref x), (2, .ref m), (3, .ref ou)] []) : z_W X Mw kq nq 928 [(4, .int (nI (5 * jx))), (0, .ref b), (1, .ref x), (2, .ref m), (3, .ref ou)] [] := by
  refine z_aload_n C dL_law_928 rfl 2 rfl ?_
  refine z_aload_n C dL_law_929 rfl 1 rfl ?_
  refine z_iload C dL_law_930 0 rfl ?_
  refine z_iconst C (v := 1) dL_law_932 (by decide) ?_
  refine z_iadd C dL_law_933 ?_
  refine z_sld C hX hbl hbA hs1.1 hs1.2 dL_law_934 ?_
  refine z_aload_n C dL_law_935 rfl 1 rfl ?_
  refine z_iload C dL_law_936 0 rfl ?_
  refine z_iconst C (v := 2) dL_law_938 (by decide) ?_
  refine z_iadd C dL_law_939 ?_
  refine z_sld C hX hbl hbA hs2.1 hs2.2 dL_law_940 ?_
  refine z_aload_n C dL_law_941 rfl 1 rfl ?_
  refine z_iload C dL_law_942 0 rfl ?_
  refine z_iconst C (v := 3) dL_law_944 (by decide) ?_
  refine z_iadd C dL_law_945 ?_
  refine z_sld C hX hbl hbA hs3.1 hs3.2 dL_law_946 ?_
  refine z_aload_n C dL_law_947 rfl 1 rfl ?_
  refine z_iload C dL_law_948 0 rfl ?_
  refine z_iconst C (v := 4) dL_law_950 (by decide) ?_
  refine z_iadd C dL_law_951 ?_
  refine z_sld C hX hbl hbA hs4.1 hs4.2 dL_law_952 ?_
  refine z_aload_n C dL_law_953 rfl 4 rfl ?_
  refine z_callHi (rest := []) (k' := kq + 8) (n' := nq + 48) C (s_LX_P hI (fun hC9 hd9 ho9 => w_bring (z_l X) h_st hC9 hd9 ho9 hok a1 a2 a3 a4)) (ch_bring C ⟨Nat.le_of_ble_eq_true rfl, Nat.le_of_ble_eq_true rfl⟩) rfl rfl (Nat.le_of_ble_eq_true rfl) rfl rfl (by show _ ≤ 600128; omega) (by show _ ≤ 7301098; omega) dL_law_954 (fun xk M1 hq => ?_)
  obtain ⟨hk1, on1, hI1, ho1⟩ := hq
  refine z_istore (lv' := [(5, .int xk), (4, .int (nI (5 * jx))), (0, .ref b), (1, .ref x), (2, .ref m), (3, .ref ou)]) C dL_law_957 (by decide) rfl ?_
  refine z_aload_n C dL_law_959 rfl 4 rfl ?_
  refine z_aload_n C dL_law_960 rfl 2 rfl ?_
  refine z_iload C dL_law_961 1 rfl ?_
  refine z_iconst C (v := 1) dL_law_963 (by decide) ?_
  refine z_iadd C dL_law_964 ?_
  refine z_sld C hX hbl hbA hs1.1 hs1.2 dL_law_965 ?_
  refine z_aload_n C dL_law_966 rfl 2 rfl ?_
  refine z_iload C dL_law_967 1 rfl ?_
  refine z_iconst C (v := 2) dL_law_969 (by decide) ?_
  refine z_iadd C dL_law_970 ?_
  refine z_sld C hX hbl hbA hs2.1 hs2.2 dL_law_971 ?_
  refine z_aload_n C dL_law_972 rfl 2 rfl ?_
  refine z_iload C dL_law_973 1 rfl ?_
  refine z_iconst C (v := 3) dL_law_975 (by decide) ?_
  refine z_iadd C dL_law_976 ?_
  refine z_sld C hX hbl hbA hs3.1 hs3.2 dL_law_977 ?_
  refine z_aload_n C dL_law_978 rfl 2 rfl ?_
  refine z_iload C dL_law_979 1 rfl ?_
  refine z_iconst C (v := 4) dL_law_981 (by decide) ?_
  refine z_iadd C dL_law_982 ?_
  refine z_sld C hX hbl hbA hs4.1 hs4.2 dL_law_983 ?_
  obtain ⟨tp9, hm9⟩ := s_LX_m hI1
  refine z_callVi (rest := []) (k' := kq + 8) (n' := nq + 48) C (s_LX_R hI1 (fun hR9 => a_X5_bring (z_l X) hR9 hok (by omega) a1 a2 a3 a4)) (cs_L_206 C ⟨Nat.le_of_ble_eq_true rfl, Nat.le_of_ble_eq_true rfl⟩) hm9 rfl rfl rfl rfl (Nat.le_of_ble_eq_true rfl) rfl rfl (by show _ ≤ 600128; omega) (by show _ ≤ 7301098; omega) dL_law_984 (fun xr M2 hq => ?_)
  obtain ⟨hI2, hr2⟩ := hq
  refine z_istore (lv' := [(6, .int xr), (5, .int xk), (4, .int (nI (5 * jx))), (0, .ref b), (1, .ref x), (2, .ref m), (3, .ref ou)]) C dL_law_987 (by decide) rfl ?_
  refine z_goto C (tgt := 1757) dL_law_989 (by decide) ?_
  refine z_iinc (v := nI (5 * (jx + 1))) (lv' := [(4, .int (nI (5 * (jx + 1)))), (6, .int xr), (5, .int xk), (0, .ref b), (1, .ref x), (2, .ref m), (3, .ref ou)]) C dL_law_1757 2 rfl (j_inc5 jx) (by decide) rfl ?_
  refine z_goto C (tgt := 27) dL_law_1760 (by decide) ?_
  refine z_fewer [0, 3, 4, 5, 6] rfl ?_
  refine z_widen (k' := kq + 4000) (n' := nq + 60000) (by omega) (by omega) ?_
  exact kk _ _ _ _ hI2 (so_bring hok)
set_option maxRecDepth 20000 in
theorem lc_fill {X : zX} (C : z_C X cL_law RL 7 room_1) (h_st : (z_l X).stackTraces = false) {b L : Nat} {xs : Nat → Int32} (hX : va_X b L xs (z_s X) (z_s X).heap) (hbl : b < (z_s X).heap.size) (hbA : ¬ z_F X b) {jx : Nat} {a1 a2 a3 a4 : Int32} (hs1 : vp_in (nI (5 * jx) + 1) L ∧ xs (nI (5 * jx) + 1).toNatClampNeg = a1) (hs2 : vp_in (nI (5 * jx) + 2) L ∧ xs (nI (5 * jx) + 2).toNatClampNeg = a2) (hs3 : vp_in (nI (5 * jx) + 3) L ∧ xs (nI (5 * jx) + 3).toNatClampNeg = a3) (hs4 : vp_in (nI (5 * jx) + 4) L ∧ xs (nI (5 * jx) + 4).toNatClampNeg = a4) {u : sS} {x pa sp ln rf sb m pn td ou : Nat} {th : Int32} {on : Int64} {Mw : zM} (hI : s_LX (z_G X) x pa sp ln rf sb m pn td ou u u th on Mw) (hok : s_ok jx u) (hj : jx < 64) {kq nq : Nat} (hkq : kq + 4000 ≤ 600128) (hnq : nq + 60000 ≤ 7301098) (kk : ∀ v th on Mz, s_LX (z_G X) x pa sp ln rf sb m pn td ou v v th on Mz → s_ok (jx + 1) v → z_W X Mz (kq + 4000) (nq + 60000) 27 [(4, .int (nI (5 * (jx + 1)))), (0, .ref b), (1, .ref x), (2, .ref m), (3, .ref ou)] []) : z_W X Mw kq nq 992 [(4, .int (nI (5 * jx))), (0, .ref b), (1, .ref x), (2, .ref m), (3, .ref ou)] [] := by
  refine z_aload_n C dL_law_992 rfl 2 rfl ?_
  refine z_aload_n C dL_law_993 rfl 1 rfl ?_
  refine z_iload C dL_law_994 0 rfl ?_
  refine z_iconst C (v := 1) dL_law_996 (by decide) ?_
  refine z_iadd C dL_law_997 ?_
  refine z_sld C hX hbl hbA hs1.1 hs1.2 dL_law_998 ?_
  refine z_aload_n C dL_law_999 rfl 1 rfl ?_
  refine z_iload C dL_law_1000 0 rfl ?_
  refine z_iconst C (v := 2) dL_law_1002 (by decide) ?_
  refine z_iadd C dL_law_1003 ?_
  refine z_sld C hX hbl hbA hs2.1 hs2.2 dL_law_1004 ?_
  refine z_aload_n C dL_law_1005 rfl 1 rfl ?_
  refine z_iload C dL_law_1006 0 rfl ?_
  refine z_iconst C (v := 3) dL_law_1008 (by decide) ?_
  refine z_iadd C dL_law_1009 ?_
  refine z_sld C hX hbl hbA hs3.1 hs3.2 dL_law_1010 ?_
  refine z_aload_n C dL_law_1011 rfl 1 rfl ?_
  refine z_iload C dL_law_1012 0 rfl ?_
  refine z_iconst C (v := 4) dL_law_1014 (by decide) ?_
  refine z_iadd C dL_law_1015 ?_
  refine z_sld C hX hbl hbA hs4.1 hs4.2 dL_law_1016 ?_
  refine z_aload_n C dL_law_1017 rfl 4 rfl ?_
  refine z_callHi (rest := []) (k' := kq + 8) (n' := nq + 48) C (s_LX_P hI (fun hC9 hd9 ho9 => w_fill (z_l X) h_st hC9 hd9 ho9 hok a1 a2 a3 a4)) (ch_fill C ⟨Nat.le_of_ble_eq_true rfl, Nat.le_of_ble_eq_true rfl⟩) rfl rfl (Nat.le_of_ble_eq_true rfl) rfl rfl (by show _ ≤ 600128; omega) (by show _ ≤ 7301098; omega) dL_law_1018 (fun xk M1 hq => ?_)
  obtain ⟨hk1, on1, hI1, ho1⟩ := hq
  refine z_istore (lv' := [(5, .int xk), (4, .int (nI (5 * jx))), (0, .ref b), (1, .ref x), (2, .ref m), (3, .ref ou)]) C dL_law_1021 (by decide) rfl ?_
  refine z_aload_n C dL_law_1023 rfl 4 rfl ?_
  refine z_aload_n C dL_law_1024 rfl 2 rfl ?_
  refine z_iload C dL_law_1025 1 rfl ?_
  refine z_iconst C (v := 1) dL_law_1027 (by decide) ?_
  refine z_iadd C dL_law_1028 ?_
  refine z_sld C hX hbl hbA hs1.1 hs1.2 dL_law_1029 ?_
  refine z_aload_n C dL_law_1030 rfl 2 rfl ?_
  refine z_iload C dL_law_1031 1 rfl ?_
  refine z_iconst C (v := 2) dL_law_1033 (by decide) ?_
  refine z_iadd C dL_law_1034 ?_
  refine z_sld C hX hbl hbA hs2.1 hs2.2 dL_law_1035 ?_
  refine z_aload_n C dL_law_1036 rfl 2 rfl ?_
  refine z_iload C dL_law_1037 1 rfl ?_
  refine z_iconst C (v := 3) dL_law_1039 (by decide) ?_
  refine z_iadd C dL_law_1040 ?_
  refine z_sld C hX hbl hbA hs3.1 hs3.2 dL_law_1041 ?_
  refine z_aload_n C dL_law_1042 rfl 2 rfl ?_
  refine z_iload C dL_law_1043 1 rfl ?_
  refine z_iconst C (v := 4) dL_law_1045 (by decide) ?_
  refine z_iadd C dL_law_1046 ?_
  refine z_sld C hX hbl hbA hs4.1 hs4.2 dL_law_1047 ?_
  obtain ⟨tp9, hm9⟩ := s_LX_m hI1
  refine z_callVi (rest := []) (k' := kq + 8) (n' := nq + 48) C (s_LX_R hI1 (fun hR9 => a_X5_fill (z_l X) hR9 hok (by omega) a1 a2 a3 a4)) (cs_L_209 C ⟨Nat.le_of_ble_eq_true rfl, Nat.le_of_ble_eq_true rfl⟩) hm9 rfl rfl rfl rfl (Nat.le_of_ble_eq_true rfl) rfl rfl (by show _ ≤ 600128; omega) (by show _ ≤ 7301098; omega) dL_law_1048 (fun xr M2 hq => ?_)
  obtain ⟨hI2, hr2⟩ := hq
  refine z_istore (lv' := [(6, .int xr), (5, .int xk), (4, .int (nI (5 * jx))), (0, .ref b), (1, .ref x), (2, .ref m), (3, .ref ou)]) C dL_law_1051 (by decide) rfl ?_
  refine z_goto C (tgt := 1757) dL_law_1053 (by decide) ?_
  refine z_iinc (v := nI (5 * (jx + 1))) (lv' := [(4, .int (nI (5 * (jx + 1)))), (6, .int xr), (5, .int xk), (0, .ref b), (1, .ref x), (2, .ref m), (3, .ref ou)]) C dL_law_1757 2 rfl (j_inc5 jx) (by decide) rfl ?_
  refine z_goto C (tgt := 27) dL_law_1760 (by decide) ?_
  refine z_fewer [0, 3, 4, 5, 6] rfl ?_
  refine z_widen (k' := kq + 4000) (n' := nq + 60000) (by omega) (by omega) ?_
  exact kk _ _ _ _ hI2 (so_fill hok)
set_option maxRecDepth 20000 in
theorem lc_pack {X : zX} (C : z_C X cL_law RL 7 room_1) (h_st : (z_l X).stackTraces = false) {b L : Nat} {xs : Nat → Int32} (hX : va_X b L xs (z_s X) (z_s X).heap) (hbl : b < (z_s X).heap.size) (hbA : ¬ z_F X b) {jx : Nat} {a1 a2 a3 a4 : Int32} (hs1 : vp_in (nI (5 * jx) + 1) L ∧ xs (nI (5 * jx) + 1).toNatClampNeg = a1) (hs2 : vp_in (nI (5 * jx) + 2) L ∧ xs (nI (5 * jx) + 2).toNatClampNeg = a2) (hs3 : vp_in (nI (5 * jx) + 3) L ∧ xs (nI (5 * jx) + 3).toNatClampNeg = a3) (hs4 : vp_in (nI (5 * jx) + 4) L ∧ xs (nI (5 * jx) + 4).toNatClampNeg = a4) {u : sS} {x pa sp ln rf sb m pn td ou : Nat} {th : Int32} {on : Int64} {Mw : zM} (hI : s_LX (z_G X) x pa sp ln rf sb m pn td ou u u th on Mw) (hok : s_ok jx u) (hj : jx < 64) {kq nq : Nat} (hkq : kq + 4000 ≤ 600128) (hnq : nq + 60000 ≤ 7301098) (kk : ∀ v th on Mz, s_LX (z_G X) x pa sp ln rf sb m pn td ou v v th on Mz → s_ok (jx + 1) v → z_W X Mz (kq + 4000) (nq + 60000) 27 [(4, .int (nI (5 * (jx + 1)))), (0, .ref b), (1, .ref x), (2, .ref m), (3, .ref ou)] []) : z_W X Mw kq nq 1056 [(4, .int (nI (5 * jx))), (0, .ref b), (1, .ref x), (2, .ref m), (3, .ref ou)] [] := by
  refine z_aload_n C dL_law_1056 rfl 2 rfl ?_
  refine z_aload_n C dL_law_1057 rfl 1 rfl ?_
  refine z_iload C dL_law_1058 0 rfl ?_
  refine z_iconst C (v := 1) dL_law_1060 (by decide) ?_
  refine z_iadd C dL_law_1061 ?_
  refine z_sld C hX hbl hbA hs1.1 hs1.2 dL_law_1062 ?_
  refine z_aload_n C dL_law_1063 rfl 4 rfl ?_
  refine z_callHi (rest := []) (k' := kq + 8) (n' := nq + 48) C (s_LX_P hI (fun hC9 hd9 ho9 => w_pack (z_l X) h_st hC9 hd9 ho9 hok a1)) (ch_pack C ⟨Nat.le_of_ble_eq_true rfl, Nat.le_of_ble_eq_true rfl⟩) rfl rfl (Nat.le_of_ble_eq_true rfl) rfl rfl (by show _ ≤ 600128; omega) (by show _ ≤ 7301098; omega) dL_law_1064 (fun xk M1 hq => ?_)
  obtain ⟨hk1, on1, hI1, ho1⟩ := hq
  refine z_istore (lv' := [(5, .int xk), (4, .int (nI (5 * jx))), (0, .ref b), (1, .ref x), (2, .ref m), (3, .ref ou)]) C dL_law_1067 (by decide) rfl ?_
  refine z_aload_n C dL_law_1069 rfl 4 rfl ?_
  refine z_aload_n C dL_law_1070 rfl 2 rfl ?_
  refine z_iload C dL_law_1071 1 rfl ?_
  refine z_iconst C (v := 1) dL_law_1073 (by decide) ?_
  refine z_iadd C dL_law_1074 ?_
  refine z_sld C hX hbl hbA hs1.1 hs1.2 dL_law_1075 ?_
  obtain ⟨tp9, hm9⟩ := s_LX_m hI1
  refine z_callVi (rest := []) (k' := kq + 8) (n' := nq + 48) C (s_LX_R hI1 (fun hR9 => a_X5_pack (z_l X) hR9 hok (by omega) a1)) (cs_L_212 C ⟨Nat.le_of_ble_eq_true rfl, Nat.le_of_ble_eq_true rfl⟩) hm9 rfl rfl rfl rfl (Nat.le_of_ble_eq_true rfl) rfl rfl (by show _ ≤ 600128; omega) (by show _ ≤ 7301098; omega) dL_law_1076 (fun xr M2 hq => ?_)
  obtain ⟨hI2, hr2⟩ := hq
  refine z_istore (lv' := [(6, .int xr), (5, .int xk), (4, .int (nI (5 * jx))), (0, .ref b), (1, .ref x), (2, .ref m), (3, .ref ou)]) C dL_law_1079 (by decide) rfl ?_
  refine z_goto C (tgt := 1757) dL_law_1081 (by decide) ?_
  refine z_iinc (v := nI (5 * (jx + 1))) (lv' := [(4, .int (nI (5 * (jx + 1)))), (6, .int xr), (5, .int xk), (0, .ref b), (1, .ref x), (2, .ref m), (3, .ref ou)]) C dL_law_1757 2 rfl (j_inc5 jx) (by decide) rfl ?_
  refine z_goto C (tgt := 27) dL_law_1760 (by decide) ?_
  refine z_fewer [0, 3, 4, 5, 6] rfl ?_
  refine z_widen (k' := kq + 4000) (n' := nq + 60000) (by omega) (by omega) ?_
  exact kk _ _ _ _ hI2 (so_pack hok)
set_option maxRecDepth 20000 in
theorem lc_pour {X : zX} (C : z_C X cL_law RL 7 room_1) (h_st : (z_l X).stackTraces = false) {b L : Nat} {xs : Nat → Int32} (hX : va_X b L xs (z_s X) (z_s X).heap) (hbl : b < (z_s X).heap.size) (hbA : ¬ z_F X b) {jx : Nat} {a1 a2 a3 a4 : Int32} (hs1 : vp_in (nI (5 * jx) + 1) L ∧ xs (nI (5 * jx) + 1).toNatClampNeg = a1) (hs2 : vp_in (nI (5 * jx) + 2) L ∧ xs (nI (5 * jx) + 2).toNatClampNeg = a2) (hs3 : vp_in (nI (5 * jx) + 3) L ∧ xs (nI (5 * jx) + 3).toNatClampNeg = a3) (hs4 : vp_in (nI (5 * jx) + 4) L ∧ xs (nI (5 * jx) + 4).toNatClampNeg = a4) {u : sS} {x pa sp ln rf sb m pn td ou : Nat} {th : Int32} {on : Int64} {Mw : zM} (hI : s_LX (z_G X) x pa sp ln rf sb m pn td ou u u th on Mw) (hok : s_ok jx u) (hj : jx < 64) {kq nq : Nat} (hkq : kq + 4000 ≤ 600128) (hnq : nq + 60000 ≤ 7301098) (kk : ∀ v th on Mz, s_LX (z_G X) x pa sp ln rf sb m pn td ou v v th on Mz → s_ok (jx + 1) v → z_W X Mz (kq + 4000) (nq + 60000) 27 [(4, .int (nI (5 * (jx + 1)))), (0, .ref b), (1, .ref x), (2, .ref m), (3, .ref ou)] []) : z_W X Mw kq nq 1084 [(4, .int (nI (5 * jx))), (0, .ref b), (1, .ref x), (2, .ref m), (3, .ref ou)] [] := by
  refine z_aload_n C dL_law_1084 rfl 2 rfl ?_
  refine z_aload_n C dL_law_1085 rfl 1 rfl ?_
  refine z_iload C dL_law_1086 0 rfl ?_
  refine z_iconst C (v := 1) dL_law_1088 (by decide) ?_
  refine z_iadd C dL_law_1089 ?_
  refine z_sld C hX hbl hbA hs1.1 hs1.2 dL_law_1090 ?_
  refine z_aload_n C dL_law_1091 rfl 1 rfl ?_
  refine z_iload C dL_law_1092 0 rfl ?_
  refine z_iconst C (v := 2) dL_law_1094 (by decide) ?_
  refine z_iadd C dL_law_1095 ?_
  refine z_sld C hX hbl hbA hs2.1 hs2.2 dL_law_1096 ?_
  refine z_aload_n C dL_law_1097 rfl 1 rfl ?_
  refine z_iload C dL_law_1098 0 rfl ?_
  refine z_iconst C (v := 3) dL_law_1100 (by decide) ?_
  refine z_iadd C dL_law_1101 ?_
  refine z_sld C hX hbl hbA hs3.1 hs3.2 dL_law_1102 ?_
  refine z_aload_n C dL_law_1103 rfl 4 rfl ?_
  refine z_callHi (rest := []) (k' := kq + 8) (n' := nq + 48) C (s_LX_P hI (fun hC9 hd9 ho9 => w_pour (z_l X) h_st hC9 hd9 ho9 hok a1 a2 a3)) (ch_pour C ⟨Nat.le_of_ble_eq_true rfl, Nat.le_of_ble_eq_true rfl⟩) rfl rfl (Nat.le_of_ble_eq_true rfl) rfl rfl (by show _ ≤ 600128; omega) (by show _ ≤ 7301098; omega) dL_law_1104 (fun xk M1 hq => ?_)
  obtain ⟨hk1, on1, hI1, ho1⟩ := hq
  refine z_istore (lv' := [(5, .int xk), (4, .int (nI (5 * jx))), (0, .ref b), (1, .ref x), (2, .ref m), (3, .ref ou)]) C dL_law_1107 (by decide) rfl ?_
  refine z_aload_n C dL_law_1109 rfl 4 rfl ?_
  refine z_aload_n C dL_law_1110 rfl 2 rfl ?_
  refine z_iload C dL_law_1111 1 rfl ?_
  refine z_iconst C (v := 1) dL_law_1113 (by decide) ?_
  refine z_iadd C dL_law_1114 ?_
  refine z_sld C hX hbl hbA hs1.1 hs1.2 dL_law_1115 ?_
  refine z_aload_n C dL_law_1116 rfl 2 rfl ?_
  refine z_iload C dL_law_1117 1 rfl ?_
  refine z_iconst C (v := 2) dL_law_1119 (by decide) ?_
  refine z_iadd C dL_law_1120 ?_
  refine z_sld C hX hbl hbA hs2.1 hs2.2 dL_law_1121 ?_
  refine z_aload_n C dL_law_1122 rfl 2 rfl ?_
  refine z_iload C dL_law_1123 1 rfl ?_
  refine z_iconst C (v := 3) dL_law_1125 (by decide) ?_
  refine z_iadd C dL_law_1126 ?_
  refine z_sld C hX hbl hbA hs3.1 hs3.2 dL_law_1127 ?_
  obtain ⟨tp9, hm9⟩ := s_LX_m hI1
  refine z_callVi (rest := []) (k' := kq + 8) (n' := nq + 48) C (s_LX_R hI1 (fun hR9 => a_X5_pour (z_l X) hR9 hok (by omega) a1 a2 a3)) (cs_L_215 C ⟨Nat.le_of_ble_eq_true rfl, Nat.le_of_ble_eq_true rfl⟩) hm9 rfl rfl rfl rfl (Nat.le_of_ble_eq_true rfl) rfl rfl (by show _ ≤ 600128; omega) (by show _ ≤ 7301098; omega) dL_law_1128 (fun xr M2 hq => ?_)
  obtain ⟨hI2, hr2⟩ := hq
  refine z_istore (lv' := [(6, .int xr), (5, .int xk), (4, .int (nI (5 * jx))), (0, .ref b), (1, .ref x), (2, .ref m), (3, .ref ou)]) C dL_law_1131 (by decide) rfl ?_
  refine z_goto C (tgt := 1757) dL_law_1133 (by decide) ?_
  refine z_iinc (v := nI (5 * (jx + 1))) (lv' := [(4, .int (nI (5 * (jx + 1)))), (6, .int xr), (5, .int xk), (0, .ref b), (1, .ref x), (2, .ref m), (3, .ref ou)]) C dL_law_1757 2 rfl (j_inc5 jx) (by decide) rfl ?_
  refine z_goto C (tgt := 27) dL_law_1760 (by decide) ?_
  refine z_fewer [0, 3, 4, 5, 6] rfl ?_
  refine z_widen (k' := kq + 4000) (n' := nq + 60000) (by omega) (by omega) ?_
  exact kk _ _ _ _ hI2 (so_pour hok)
end
section
/-! PART 69: the law's cases -/
theorem dbL_law_1136 : (decode cL_law 1136 = .ok (.aload_n 1, 1)) ∧ (decode cL_law 1137 = .ok (.aload_n 0, 1)) ∧ (decode cL_law 1138 = .ok (.iload 4, 2)) ∧ (decode cL_law 1140 = .ok (.iconst 1, 1)) ∧ (decode cL_law 1141 = .ok (.iadd, 1)) ∧ (decode cL_law 1142 = .ok (.iaload, 1)) ∧ (decode cL_law 1143 = .ok (.aload_n 0, 1)) ∧ (decode cL_law 1144 = .ok (.iload 4, 2)) ∧ (decode cL_law 1146 = .ok (.iconst 2, 1)) ∧ (decode cL_law 1147 = .ok (.iadd, 1)) := by decide +kernel
theorem dL_law_1136 : decode cL_law 1136 = .ok (.aload_n 1, 1) := dbL_law_1136.1
theorem dL_law_1137 : decode cL_law 1137 = .ok (.aload_n 0, 1) := dbL_law_1136.2.1
theorem dL_law_1138 : decode cL_law 1138 = .ok (.iload 4, 2) := dbL_law_1136.2.2.1
theorem dL_law_1140 : decode cL_law 1140 = .ok (.iconst 1, 1) := dbL_law_1136.2.2.2.1
theorem dL_law_1141 : decode cL_law 1141 = .ok (.iadd, 1) := dbL_law_1136.2.2.2.2.1
theorem dL_law_1142 : decode cL_law 1142 = .ok (.iaload, 1) := dbL_law_1136.2.2.2.2.2.1
theorem dL_law_1143 : decode cL_law 1143 = .ok (.aload_n 0, 1) := dbL_law_1136.2.2.2.2.2.2.1
theorem dL_law_1144 : decode cL_law 1144 = .ok (.iload 4, 2) := dbL_law_1136.2.2.2.2.2.2.2.1
theorem dL_law_1146 : decode cL_law 1146 = .ok (.iconst 2, 1) := dbL_law_1136.2.2.2.2.2.2.2.2.1
theorem dL_law_1147 : decode cL_law 1147 = .ok (.iadd, 1) := dbL_law_1136.2.2.2.2.2.2.2.2.2
theorem dbL_law_1148 : (decode cL_law 1148 = .ok (.iaload, 1)) ∧ (decode cL_law 1149 = .ok (.aload_n 3, 1)) ∧ (decode cL_law 1150 = .ok (.invokestatic 216, 3)) ∧ (decode cL_law 1153 = .ok (.istore 5, 2)) ∧ (decode cL_law 1155 = .ok (.aload_n 2, 1)) ∧ (decode cL_law 1156 = .ok (.aload_n 0, 1)) ∧ (decode cL_law 1157 = .ok (.iload 4, 2)) ∧ (decode cL_law 1159 = .ok (.iconst 1, 1)) ∧ (decode cL_law 1160 = .ok (.iadd, 1)) ∧ (decode cL_law 1161 = .ok (.iaload, 1)) := by decide +kernel
theorem dL_law_1148 : decode cL_law 1148 = .ok (.iaload, 1) := dbL_law_1148.1
theorem dL_law_1149 : decode cL_law 1149 = .ok (.aload_n 3, 1) := dbL_law_1148.2.1
theorem dL_law_1150 : decode cL_law 1150 = .ok (.invokestatic 216, 3) := dbL_law_1148.2.2.1
theorem dL_law_1153 : decode cL_law 1153 = .ok (.istore 5, 2) := dbL_law_1148.2.2.2.1
theorem dL_law_1155 : decode cL_law 1155 = .ok (.aload_n 2, 1) := dbL_law_1148.2.2.2.2.1
theorem dL_law_1156 : decode cL_law 1156 = .ok (.aload_n 0, 1) := dbL_law_1148.2.2.2.2.2.1
theorem dL_law_1157 : decode cL_law 1157 = .ok (.iload 4, 2) := dbL_law_1148.2.2.2.2.2.2.1
theorem dL_law_1159 : decode cL_law 1159 = .ok (.iconst 1, 1) := dbL_law_1148.2.2.2.2.2.2.2.1
theorem dL_law_1160 : decode cL_law 1160 = .ok (.iadd, 1) := dbL_law_1148.2.2.2.2.2.2.2.2.1
theorem dL_law_1161 : decode cL_law 1161 = .ok (.iaload, 1) := dbL_law_1148.2.2.2.2.2.2.2.2.2
theorem dbL_law_1162 : (decode cL_law 1162 = .ok (.aload_n 0, 1)) ∧ (decode cL_law 1163 = .ok (.iload 4, 2)) ∧ (decode cL_law 1165 = .ok (.iconst 2, 1)) ∧ (decode cL_law 1166 = .ok (.iadd, 1)) ∧ (decode cL_law 1167 = .ok (.iaload, 1)) ∧ (decode cL_law 1168 = .ok (.invokevirtual 218, 3)) ∧ (decode cL_law 1171 = .ok (.istore 6, 2)) ∧ (decode cL_law 1173 = .ok (.goto 584, 3)) ∧ (decode cL_law 1176 = .ok (.aload_n 1, 1)) ∧ (decode cL_law 1177 = .ok (.aload_n 0, 1)) := by decide +kernel
theorem dL_law_1162 : decode cL_law 1162 = .ok (.aload_n 0, 1) := dbL_law_1162.1
theorem dL_law_1163 : decode cL_law 1163 = .ok (.iload 4, 2) := dbL_law_1162.2.1
theorem dL_law_1165 : decode cL_law 1165 = .ok (.iconst 2, 1) := dbL_law_1162.2.2.1
theorem dL_law_1166 : decode cL_law 1166 = .ok (.iadd, 1) := dbL_law_1162.2.2.2.1
theorem dL_law_1167 : decode cL_law 1167 = .ok (.iaload, 1) := dbL_law_1162.2.2.2.2.1
theorem dL_law_1168 : decode cL_law 1168 = .ok (.invokevirtual 218, 3) := dbL_law_1162.2.2.2.2.2.1
theorem dL_law_1171 : decode cL_law 1171 = .ok (.istore 6, 2) := dbL_law_1162.2.2.2.2.2.2.1
theorem dL_law_1173 : decode cL_law 1173 = .ok (.goto 584, 3) := dbL_law_1162.2.2.2.2.2.2.2.1
theorem dL_law_1176 : decode cL_law 1176 = .ok (.aload_n 1, 1) := dbL_law_1162.2.2.2.2.2.2.2.2.1
theorem dL_law_1177 : decode cL_law 1177 = .ok (.aload_n 0, 1) := dbL_law_1162.2.2.2.2.2.2.2.2.2
theorem dbL_law_1178 : (decode cL_law 1178 = .ok (.iload 4, 2)) ∧ (decode cL_law 1180 = .ok (.iconst 1, 1)) ∧ (decode cL_law 1181 = .ok (.iadd, 1)) ∧ (decode cL_law 1182 = .ok (.iaload, 1)) ∧ (decode cL_law 1183 = .ok (.aload_n 0, 1)) ∧ (decode cL_law 1184 = .ok (.iload 4, 2)) ∧ (decode cL_law 1186 = .ok (.iconst 2, 1)) ∧ (decode cL_law 1187 = .ok (.iadd, 1)) ∧ (decode cL_law 1188 = .ok (.iaload, 1)) ∧ (decode cL_law 1189 = .ok (.aload_n 0, 1)) := by decide +kernel
theorem dL_law_1178 : decode cL_law 1178 = .ok (.iload 4, 2) := dbL_law_1178.1
theorem dL_law_1180 : decode cL_law 1180 = .ok (.iconst 1, 1) := dbL_law_1178.2.1
theorem dL_law_1181 : decode cL_law 1181 = .ok (.iadd, 1) := dbL_law_1178.2.2.1
theorem dL_law_1182 : decode cL_law 1182 = .ok (.iaload, 1) := dbL_law_1178.2.2.2.1
theorem dL_law_1183 : decode cL_law 1183 = .ok (.aload_n 0, 1) := dbL_law_1178.2.2.2.2.1
theorem dL_law_1184 : decode cL_law 1184 = .ok (.iload 4, 2) := dbL_law_1178.2.2.2.2.2.1
theorem dL_law_1186 : decode cL_law 1186 = .ok (.iconst 2, 1) := dbL_law_1178.2.2.2.2.2.2.1
theorem dL_law_1187 : decode cL_law 1187 = .ok (.iadd, 1) := dbL_law_1178.2.2.2.2.2.2.2.1
theorem dL_law_1188 : decode cL_law 1188 = .ok (.iaload, 1) := dbL_law_1178.2.2.2.2.2.2.2.2.1
theorem dL_law_1189 : decode cL_law 1189 = .ok (.aload_n 0, 1) := dbL_law_1178.2.2.2.2.2.2.2.2.2
theorem dbL_law_1190 : (decode cL_law 1190 = .ok (.iload 4, 2)) ∧ (decode cL_law 1192 = .ok (.iconst 3, 1)) ∧ (decode cL_law 1193 = .ok (.iadd, 1)) ∧ (decode cL_law 1194 = .ok (.iaload, 1)) ∧ (decode cL_law 1195 = .ok (.aload_n 3, 1)) ∧ (decode cL_law 1196 = .ok (.invokestatic 219, 3)) ∧ (decode cL_law 1199 = .ok (.istore 5, 2)) ∧ (decode cL_law 1201 = .ok (.aload_n 2, 1)) ∧ (decode cL_law 1202 = .ok (.aload_n 0, 1)) ∧ (decode cL_law 1203 = .ok (.iload 4, 2)) := by decide +kernel
theorem dL_law_1190 : decode cL_law 1190 = .ok (.iload 4, 2) := dbL_law_1190.1
theorem dL_law_1192 : decode cL_law 1192 = .ok (.iconst 3, 1) := dbL_law_1190.2.1
theorem dL_law_1193 : decode cL_law 1193 = .ok (.iadd, 1) := dbL_law_1190.2.2.1
theorem dL_law_1194 : decode cL_law 1194 = .ok (.iaload, 1) := dbL_law_1190.2.2.2.1
theorem dL_law_1195 : decode cL_law 1195 = .ok (.aload_n 3, 1) := dbL_law_1190.2.2.2.2.1
theorem dL_law_1196 : decode cL_law 1196 = .ok (.invokestatic 219, 3) := dbL_law_1190.2.2.2.2.2.1
theorem dL_law_1199 : decode cL_law 1199 = .ok (.istore 5, 2) := dbL_law_1190.2.2.2.2.2.2.1
theorem dL_law_1201 : decode cL_law 1201 = .ok (.aload_n 2, 1) := dbL_law_1190.2.2.2.2.2.2.2.1
theorem dL_law_1202 : decode cL_law 1202 = .ok (.aload_n 0, 1) := dbL_law_1190.2.2.2.2.2.2.2.2.1
theorem dL_law_1203 : decode cL_law 1203 = .ok (.iload 4, 2) := dbL_law_1190.2.2.2.2.2.2.2.2.2
theorem dbL_law_1205 : (decode cL_law 1205 = .ok (.iconst 1, 1)) ∧ (decode cL_law 1206 = .ok (.iadd, 1)) ∧ (decode cL_law 1207 = .ok (.iaload, 1)) ∧ (decode cL_law 1208 = .ok (.aload_n 0, 1)) ∧ (decode cL_law 1209 = .ok (.iload 4, 2)) ∧ (decode cL_law 1211 = .ok (.iconst 2, 1)) ∧ (decode cL_law 1212 = .ok (.iadd, 1)) ∧ (decode cL_law 1213 = .ok (.iaload, 1)) ∧ (decode cL_law 1214 = .ok (.aload_n 0, 1)) ∧ (decode cL_law 1215 = .ok (.iload 4, 2)) := by decide +kernel
theorem dL_law_1205 : decode cL_law 1205 = .ok (.iconst 1, 1) := dbL_law_1205.1
theorem dL_law_1206 : decode cL_law 1206 = .ok (.iadd, 1) := dbL_law_1205.2.1
theorem dL_law_1207 : decode cL_law 1207 = .ok (.iaload, 1) := dbL_law_1205.2.2.1
theorem dL_law_1208 : decode cL_law 1208 = .ok (.aload_n 0, 1) := dbL_law_1205.2.2.2.1
theorem dL_law_1209 : decode cL_law 1209 = .ok (.iload 4, 2) := dbL_law_1205.2.2.2.2.1
theorem dL_law_1211 : decode cL_law 1211 = .ok (.iconst 2, 1) := dbL_law_1205.2.2.2.2.2.1
theorem dL_law_1212 : decode cL_law 1212 = .ok (.iadd, 1) := dbL_law_1205.2.2.2.2.2.2.1
theorem dL_law_1213 : decode cL_law 1213 = .ok (.iaload, 1) := dbL_law_1205.2.2.2.2.2.2.2.1
theorem dL_law_1214 : decode cL_law 1214 = .ok (.aload_n 0, 1) := dbL_law_1205.2.2.2.2.2.2.2.2.1
theorem dL_law_1215 : decode cL_law 1215 = .ok (.iload 4, 2) := dbL_law_1205.2.2.2.2.2.2.2.2.2
theorem dbL_law_1217 : (decode cL_law 1217 = .ok (.iconst 3, 1)) ∧ (decode cL_law 1218 = .ok (.iadd, 1)) ∧ (decode cL_law 1219 = .ok (.iaload, 1)) ∧ (decode cL_law 1220 = .ok (.invokevirtual 221, 3)) ∧ (decode cL_law 1223 = .ok (.istore 6, 2)) ∧ (decode cL_law 1225 = .ok (.goto 532, 3)) ∧ (decode cL_law 1228 = .ok (.aload_n 1, 1)) ∧ (decode cL_law 1229 = .ok (.aload_n 0, 1)) ∧ (decode cL_law 1230 = .ok (.iload 4, 2)) ∧ (decode cL_law 1232 = .ok (.iconst 1, 1)) := by decide +kernel
theorem dL_law_1217 : decode cL_law 1217 = .ok (.iconst 3, 1) := dbL_law_1217.1
theorem dL_law_1218 : decode cL_law 1218 = .ok (.iadd, 1) := dbL_law_1217.2.1
theorem dL_law_1219 : decode cL_law 1219 = .ok (.iaload, 1) := dbL_law_1217.2.2.1
theorem dL_law_1220 : decode cL_law 1220 = .ok (.invokevirtual 221, 3) := dbL_law_1217.2.2.2.1
theorem dL_law_1223 : decode cL_law 1223 = .ok (.istore 6, 2) := dbL_law_1217.2.2.2.2.1
theorem dL_law_1225 : decode cL_law 1225 = .ok (.goto 532, 3) := dbL_law_1217.2.2.2.2.2.1
theorem dL_law_1228 : decode cL_law 1228 = .ok (.aload_n 1, 1) := dbL_law_1217.2.2.2.2.2.2.1
theorem dL_law_1229 : decode cL_law 1229 = .ok (.aload_n 0, 1) := dbL_law_1217.2.2.2.2.2.2.2.1
theorem dL_law_1230 : decode cL_law 1230 = .ok (.iload 4, 2) := dbL_law_1217.2.2.2.2.2.2.2.2.1
theorem dL_law_1232 : decode cL_law 1232 = .ok (.iconst 1, 1) := dbL_law_1217.2.2.2.2.2.2.2.2.2
theorem dbL_law_1233 : (decode cL_law 1233 = .ok (.iadd, 1)) ∧ (decode cL_law 1234 = .ok (.iaload, 1)) ∧ (decode cL_law 1235 = .ok (.aload_n 3, 1)) ∧ (decode cL_law 1236 = .ok (.invokestatic 222, 3)) ∧ (decode cL_law 1239 = .ok (.istore 5, 2)) ∧ (decode cL_law 1241 = .ok (.aload_n 2, 1)) ∧ (decode cL_law 1242 = .ok (.aload_n 0, 1)) ∧ (decode cL_law 1243 = .ok (.iload 4, 2)) ∧ (decode cL_law 1245 = .ok (.iconst 1, 1)) ∧ (decode cL_law 1246 = .ok (.iadd, 1)) := by decide +kernel
theorem dL_law_1233 : decode cL_law 1233 = .ok (.iadd, 1) := dbL_law_1233.1
theorem dL_law_1234 : decode cL_law 1234 = .ok (.iaload, 1) := dbL_law_1233.2.1
theorem dL_law_1235 : decode cL_law 1235 = .ok (.aload_n 3, 1) := dbL_law_1233.2.2.1
theorem dL_law_1236 : decode cL_law 1236 = .ok (.invokestatic 222, 3) := dbL_law_1233.2.2.2.1
theorem dL_law_1239 : decode cL_law 1239 = .ok (.istore 5, 2) := dbL_law_1233.2.2.2.2.1
theorem dL_law_1241 : decode cL_law 1241 = .ok (.aload_n 2, 1) := dbL_law_1233.2.2.2.2.2.1
theorem dL_law_1242 : decode cL_law 1242 = .ok (.aload_n 0, 1) := dbL_law_1233.2.2.2.2.2.2.1
theorem dL_law_1243 : decode cL_law 1243 = .ok (.iload 4, 2) := dbL_law_1233.2.2.2.2.2.2.2.1
theorem dL_law_1245 : decode cL_law 1245 = .ok (.iconst 1, 1) := dbL_law_1233.2.2.2.2.2.2.2.2.1
theorem dL_law_1246 : decode cL_law 1246 = .ok (.iadd, 1) := dbL_law_1233.2.2.2.2.2.2.2.2.2
theorem dbL_law_1247 : (decode cL_law 1247 = .ok (.iaload, 1)) ∧ (decode cL_law 1248 = .ok (.invokevirtual 224, 3)) ∧ (decode cL_law 1251 = .ok (.istore 6, 2)) ∧ (decode cL_law 1253 = .ok (.goto 504, 3)) ∧ (decode cL_law 1256 = .ok (.aload_n 1, 1)) ∧ (decode cL_law 1257 = .ok (.aload_n 0, 1)) ∧ (decode cL_law 1258 = .ok (.iload 4, 2)) ∧ (decode cL_law 1260 = .ok (.iconst 1, 1)) ∧ (decode cL_law 1261 = .ok (.iadd, 1)) ∧ (decode cL_law 1262 = .ok (.iaload, 1)) := by decide +kernel
theorem dL_law_1247 : decode cL_law 1247 = .ok (.iaload, 1) := dbL_law_1247.1
theorem dL_law_1248 : decode cL_law 1248 = .ok (.invokevirtual 224, 3) := dbL_law_1247.2.1
theorem dL_law_1251 : decode cL_law 1251 = .ok (.istore 6, 2) := dbL_law_1247.2.2.1
theorem dL_law_1253 : decode cL_law 1253 = .ok (.goto 504, 3) := dbL_law_1247.2.2.2.1
theorem dL_law_1256 : decode cL_law 1256 = .ok (.aload_n 1, 1) := dbL_law_1247.2.2.2.2.1
theorem dL_law_1257 : decode cL_law 1257 = .ok (.aload_n 0, 1) := dbL_law_1247.2.2.2.2.2.1
theorem dL_law_1258 : decode cL_law 1258 = .ok (.iload 4, 2) := dbL_law_1247.2.2.2.2.2.2.1
theorem dL_law_1260 : decode cL_law 1260 = .ok (.iconst 1, 1) := dbL_law_1247.2.2.2.2.2.2.2.1
theorem dL_law_1261 : decode cL_law 1261 = .ok (.iadd, 1) := dbL_law_1247.2.2.2.2.2.2.2.2.1
theorem dL_law_1262 : decode cL_law 1262 = .ok (.iaload, 1) := dbL_law_1247.2.2.2.2.2.2.2.2.2
theorem dbL_law_1263 : (decode cL_law 1263 = .ok (.aload_n 0, 1)) ∧ (decode cL_law 1264 = .ok (.iload 4, 2)) ∧ (decode cL_law 1266 = .ok (.iconst 2, 1)) ∧ (decode cL_law 1267 = .ok (.iadd, 1)) ∧ (decode cL_law 1268 = .ok (.iaload, 1)) ∧ (decode cL_law 1269 = .ok (.aload_n 3, 1)) ∧ (decode cL_law 1270 = .ok (.invokestatic 225, 3)) ∧ (decode cL_law 1273 = .ok (.istore 5, 2)) ∧ (decode cL_law 1275 = .ok (.aload_n 2, 1)) ∧ (decode cL_law 1276 = .ok (.aload_n 0, 1)) := by decide +kernel
theorem dL_law_1263 : decode cL_law 1263 = .ok (.aload_n 0, 1) := dbL_law_1263.1
theorem dL_law_1264 : decode cL_law 1264 = .ok (.iload 4, 2) := dbL_law_1263.2.1
theorem dL_law_1266 : decode cL_law 1266 = .ok (.iconst 2, 1) := dbL_law_1263.2.2.1
theorem dL_law_1267 : decode cL_law 1267 = .ok (.iadd, 1) := dbL_law_1263.2.2.2.1
theorem dL_law_1268 : decode cL_law 1268 = .ok (.iaload, 1) := dbL_law_1263.2.2.2.2.1
theorem dL_law_1269 : decode cL_law 1269 = .ok (.aload_n 3, 1) := dbL_law_1263.2.2.2.2.2.1
theorem dL_law_1270 : decode cL_law 1270 = .ok (.invokestatic 225, 3) := dbL_law_1263.2.2.2.2.2.2.1
theorem dL_law_1273 : decode cL_law 1273 = .ok (.istore 5, 2) := dbL_law_1263.2.2.2.2.2.2.2.1
theorem dL_law_1275 : decode cL_law 1275 = .ok (.aload_n 2, 1) := dbL_law_1263.2.2.2.2.2.2.2.2.1
theorem dL_law_1276 : decode cL_law 1276 = .ok (.aload_n 0, 1) := dbL_law_1263.2.2.2.2.2.2.2.2.2
theorem dbL_law_1277 : (decode cL_law 1277 = .ok (.iload 4, 2)) ∧ (decode cL_law 1279 = .ok (.iconst 1, 1)) ∧ (decode cL_law 1280 = .ok (.iadd, 1)) ∧ (decode cL_law 1281 = .ok (.iaload, 1)) ∧ (decode cL_law 1282 = .ok (.aload_n 0, 1)) ∧ (decode cL_law 1283 = .ok (.iload 4, 2)) ∧ (decode cL_law 1285 = .ok (.iconst 2, 1)) ∧ (decode cL_law 1286 = .ok (.iadd, 1)) ∧ (decode cL_law 1287 = .ok (.iaload, 1)) ∧ (decode cL_law 1288 = .ok (.invokevirtual 227, 3)) := by decide +kernel
theorem dL_law_1277 : decode cL_law 1277 = .ok (.iload 4, 2) := dbL_law_1277.1
theorem dL_law_1279 : decode cL_law 1279 = .ok (.iconst 1, 1) := dbL_law_1277.2.1
theorem dL_law_1280 : decode cL_law 1280 = .ok (.iadd, 1) := dbL_law_1277.2.2.1
theorem dL_law_1281 : decode cL_law 1281 = .ok (.iaload, 1) := dbL_law_1277.2.2.2.1
theorem dL_law_1282 : decode cL_law 1282 = .ok (.aload_n 0, 1) := dbL_law_1277.2.2.2.2.1
theorem dL_law_1283 : decode cL_law 1283 = .ok (.iload 4, 2) := dbL_law_1277.2.2.2.2.2.1
theorem dL_law_1285 : decode cL_law 1285 = .ok (.iconst 2, 1) := dbL_law_1277.2.2.2.2.2.2.1
theorem dL_law_1286 : decode cL_law 1286 = .ok (.iadd, 1) := dbL_law_1277.2.2.2.2.2.2.2.1
theorem dL_law_1287 : decode cL_law 1287 = .ok (.iaload, 1) := dbL_law_1277.2.2.2.2.2.2.2.2.1
theorem dL_law_1288 : decode cL_law 1288 = .ok (.invokevirtual 227, 3) := dbL_law_1277.2.2.2.2.2.2.2.2.2
theorem dbL_law_1291 : (decode cL_law 1291 = .ok (.istore 6, 2)) ∧ (decode cL_law 1293 = .ok (.aload_n 2, 1)) ∧ (decode cL_law 1294 = .ok (.invokevirtual 228, 3)) ∧ (decode cL_law 1297 = .ok (.iload 5, 2)) ∧ (decode cL_law 1299 = .ok (.if_icmp .eq 5, 3)) ∧ (decode cL_law 1304 = .ok (.iload 5, 2)) ∧ (decode cL_law 1306 = .ok (.ifCond .ne 16, 3)) ∧ (decode cL_law 1309 = .ok (.aload_n 3, 1)) ∧ (decode cL_law 1310 = .ok (.getfield 13, 3)) ∧ (decode cL_law 1313 = .ok (.iload 6, 2)) := by decide +kernel
theorem dL_law_1291 : decode cL_law 1291 = .ok (.istore 6, 2) := dbL_law_1291.1
theorem dL_law_1293 : decode cL_law 1293 = .ok (.aload_n 2, 1) := dbL_law_1291.2.1
theorem dL_law_1294 : decode cL_law 1294 = .ok (.invokevirtual 228, 3) := dbL_law_1291.2.2.1
theorem dL_law_1297 : decode cL_law 1297 = .ok (.iload 5, 2) := dbL_law_1291.2.2.2.1
theorem dL_law_1299 : decode cL_law 1299 = .ok (.if_icmp .eq 5, 3) := dbL_law_1291.2.2.2.2.1
theorem dL_law_1304 : decode cL_law 1304 = .ok (.iload 5, 2) := dbL_law_1291.2.2.2.2.2.1
theorem dL_law_1306 : decode cL_law 1306 = .ok (.ifCond .ne 16, 3) := dbL_law_1291.2.2.2.2.2.2.1
theorem dL_law_1309 : decode cL_law 1309 = .ok (.aload_n 3, 1) := dbL_law_1291.2.2.2.2.2.2.2.1
theorem dL_law_1310 : decode cL_law 1310 = .ok (.getfield 13, 3) := dbL_law_1291.2.2.2.2.2.2.2.2.1
theorem dL_law_1313 : decode cL_law 1313 = .ok (.iload 6, 2) := dbL_law_1291.2.2.2.2.2.2.2.2.2
theorem dbL_law_1315 : (decode cL_law 1315 = .ok (.i2l, 1)) ∧ (decode cL_law 1316 = .ok (.lcmp, 1)) ∧ (decode cL_law 1317 = .ok (.ifCond .eq 5, 3)) ∧ (decode cL_law 1322 = .ok (.goto 435, 3)) ∧ (decode cL_law 1325 = .ok (.aload_n 1, 1)) ∧ (decode cL_law 1326 = .ok (.aload_n 0, 1)) ∧ (decode cL_law 1327 = .ok (.iload 4, 2)) ∧ (decode cL_law 1329 = .ok (.iconst 1, 1)) ∧ (decode cL_law 1330 = .ok (.iadd, 1)) ∧ (decode cL_law 1331 = .ok (.iaload, 1)) := by decide +kernel
theorem dL_law_1315 : decode cL_law 1315 = .ok (.i2l, 1) := dbL_law_1315.1
theorem dL_law_1316 : decode cL_law 1316 = .ok (.lcmp, 1) := dbL_law_1315.2.1
theorem dL_law_1317 : decode cL_law 1317 = .ok (.ifCond .eq 5, 3) := dbL_law_1315.2.2.1
theorem dL_law_1322 : decode cL_law 1322 = .ok (.goto 435, 3) := dbL_law_1315.2.2.2.1
theorem dL_law_1325 : decode cL_law 1325 = .ok (.aload_n 1, 1) := dbL_law_1315.2.2.2.2.1
theorem dL_law_1326 : decode cL_law 1326 = .ok (.aload_n 0, 1) := dbL_law_1315.2.2.2.2.2.1
theorem dL_law_1327 : decode cL_law 1327 = .ok (.iload 4, 2) := dbL_law_1315.2.2.2.2.2.2.1
theorem dL_law_1329 : decode cL_law 1329 = .ok (.iconst 1, 1) := dbL_law_1315.2.2.2.2.2.2.2.1
theorem dL_law_1330 : decode cL_law 1330 = .ok (.iadd, 1) := dbL_law_1315.2.2.2.2.2.2.2.2.1
theorem dL_law_1331 : decode cL_law 1331 = .ok (.iaload, 1) := dbL_law_1315.2.2.2.2.2.2.2.2.2
theorem dbL_law_1332 : (decode cL_law 1332 = .ok (.aload_n 3, 1)) ∧ (decode cL_law 1333 = .ok (.invokestatic 232, 3)) ∧ (decode cL_law 1336 = .ok (.istore 5, 2)) ∧ (decode cL_law 1338 = .ok (.aload_n 2, 1)) ∧ (decode cL_law 1339 = .ok (.aload_n 0, 1)) ∧ (decode cL_law 1340 = .ok (.iload 4, 2)) ∧ (decode cL_law 1342 = .ok (.iconst 1, 1)) ∧ (decode cL_law 1343 = .ok (.iadd, 1)) ∧ (decode cL_law 1344 = .ok (.iaload, 1)) ∧ (decode cL_law 1345 = .ok (.invokevirtual 234, 3)) := by decide +kernel
theorem dL_law_1332 : decode cL_law 1332 = .ok (.aload_n 3, 1) := dbL_law_1332.1
theorem dL_law_1333 : decode cL_law 1333 = .ok (.invokestatic 232, 3) := dbL_law_1332.2.1
theorem dL_law_1336 : decode cL_law 1336 = .ok (.istore 5, 2) := dbL_law_1332.2.2.1
theorem dL_law_1338 : decode cL_law 1338 = .ok (.aload_n 2, 1) := dbL_law_1332.2.2.2.1
theorem dL_law_1339 : decode cL_law 1339 = .ok (.aload_n 0, 1) := dbL_law_1332.2.2.2.2.1
theorem dL_law_1340 : decode cL_law 1340 = .ok (.iload 4, 2) := dbL_law_1332.2.2.2.2.2.1
theorem dL_law_1342 : decode cL_law 1342 = .ok (.iconst 1, 1) := dbL_law_1332.2.2.2.2.2.2.1
theorem dL_law_1343 : decode cL_law 1343 = .ok (.iadd, 1) := dbL_law_1332.2.2.2.2.2.2.2.1
theorem dL_law_1344 : decode cL_law 1344 = .ok (.iaload, 1) := dbL_law_1332.2.2.2.2.2.2.2.2.1
theorem dL_law_1345 : decode cL_law 1345 = .ok (.invokevirtual 234, 3) := dbL_law_1332.2.2.2.2.2.2.2.2.2
theorem dbL_law_1348 : (decode cL_law 1348 = .ok (.istore 6, 2)) ∧ (decode cL_law 1350 = .ok (.goto 407, 3)) ∧ (decode cL_law 1353 = .ok (.aload_n 1, 1)) ∧ (decode cL_law 1354 = .ok (.aload_n 0, 1)) ∧ (decode cL_law 1355 = .ok (.iload 4, 2)) ∧ (decode cL_law 1357 = .ok (.iconst 1, 1)) ∧ (decode cL_law 1358 = .ok (.iadd, 1)) ∧ (decode cL_law 1359 = .ok (.iaload, 1)) ∧ (decode cL_law 1360 = .ok (.aload_n 0, 1)) ∧ (decode cL_law 1361 = .ok (.iload 4, 2)) := by decide +kernel
theorem dL_law_1348 : decode cL_law 1348 = .ok (.istore 6, 2) := dbL_law_1348.1
theorem dL_law_1350 : decode cL_law 1350 = .ok (.goto 407, 3) := dbL_law_1348.2.1
theorem dL_law_1353 : decode cL_law 1353 = .ok (.aload_n 1, 1) := dbL_law_1348.2.2.1
theorem dL_law_1354 : decode cL_law 1354 = .ok (.aload_n 0, 1) := dbL_law_1348.2.2.2.1
theorem dL_law_1355 : decode cL_law 1355 = .ok (.iload 4, 2) := dbL_law_1348.2.2.2.2.1
theorem dL_law_1357 : decode cL_law 1357 = .ok (.iconst 1, 1) := dbL_law_1348.2.2.2.2.2.1
theorem dL_law_1358 : decode cL_law 1358 = .ok (.iadd, 1) := dbL_law_1348.2.2.2.2.2.2.1
theorem dL_law_1359 : decode cL_law 1359 = .ok (.iaload, 1) := dbL_law_1348.2.2.2.2.2.2.2.1
theorem dL_law_1360 : decode cL_law 1360 = .ok (.aload_n 0, 1) := dbL_law_1348.2.2.2.2.2.2.2.2.1
theorem dL_law_1361 : decode cL_law 1361 = .ok (.iload 4, 2) := dbL_law_1348.2.2.2.2.2.2.2.2.2
theorem dbL_law_1363 : (decode cL_law 1363 = .ok (.iconst 2, 1)) ∧ (decode cL_law 1364 = .ok (.iadd, 1)) ∧ (decode cL_law 1365 = .ok (.iaload, 1)) ∧ (decode cL_law 1366 = .ok (.aload_n 3, 1)) ∧ (decode cL_law 1367 = .ok (.invokestatic 235, 3)) ∧ (decode cL_law 1370 = .ok (.istore 5, 2)) ∧ (decode cL_law 1372 = .ok (.aload_n 2, 1)) ∧ (decode cL_law 1373 = .ok (.aload_n 0, 1)) ∧ (decode cL_law 1374 = .ok (.iload 4, 2)) ∧ (decode cL_law 1376 = .ok (.iconst 1, 1)) := by decide +kernel
theorem dL_law_1363 : decode cL_law 1363 = .ok (.iconst 2, 1) := dbL_law_1363.1
theorem dL_law_1364 : decode cL_law 1364 = .ok (.iadd, 1) := dbL_law_1363.2.1
theorem dL_law_1365 : decode cL_law 1365 = .ok (.iaload, 1) := dbL_law_1363.2.2.1
theorem dL_law_1366 : decode cL_law 1366 = .ok (.aload_n 3, 1) := dbL_law_1363.2.2.2.1
theorem dL_law_1367 : decode cL_law 1367 = .ok (.invokestatic 235, 3) := dbL_law_1363.2.2.2.2.1
theorem dL_law_1370 : decode cL_law 1370 = .ok (.istore 5, 2) := dbL_law_1363.2.2.2.2.2.1
theorem dL_law_1372 : decode cL_law 1372 = .ok (.aload_n 2, 1) := dbL_law_1363.2.2.2.2.2.2.1
theorem dL_law_1373 : decode cL_law 1373 = .ok (.aload_n 0, 1) := dbL_law_1363.2.2.2.2.2.2.2.1
theorem dL_law_1374 : decode cL_law 1374 = .ok (.iload 4, 2) := dbL_law_1363.2.2.2.2.2.2.2.2.1
theorem dL_law_1376 : decode cL_law 1376 = .ok (.iconst 1, 1) := dbL_law_1363.2.2.2.2.2.2.2.2.2
theorem dbL_law_1377 : (decode cL_law 1377 = .ok (.iadd, 1)) ∧ (decode cL_law 1378 = .ok (.iaload, 1)) ∧ (decode cL_law 1379 = .ok (.aload_n 0, 1)) ∧ (decode cL_law 1380 = .ok (.iload 4, 2)) ∧ (decode cL_law 1382 = .ok (.iconst 2, 1)) ∧ (decode cL_law 1383 = .ok (.iadd, 1)) ∧ (decode cL_law 1384 = .ok (.iaload, 1)) ∧ (decode cL_law 1385 = .ok (.invokevirtual 237, 3)) ∧ (decode cL_law 1388 = .ok (.istore 6, 2)) ∧ (decode cL_law 1390 = .ok (.goto 367, 3)) := by decide +kernel
theorem dL_law_1377 : decode cL_law 1377 = .ok (.iadd, 1) := dbL_law_1377.1
theorem dL_law_1378 : decode cL_law 1378 = .ok (.iaload, 1) := dbL_law_1377.2.1
theorem dL_law_1379 : decode cL_law 1379 = .ok (.aload_n 0, 1) := dbL_law_1377.2.2.1
theorem dL_law_1380 : decode cL_law 1380 = .ok (.iload 4, 2) := dbL_law_1377.2.2.2.1
theorem dL_law_1382 : decode cL_law 1382 = .ok (.iconst 2, 1) := dbL_law_1377.2.2.2.2.1
theorem dL_law_1383 : decode cL_law 1383 = .ok (.iadd, 1) := dbL_law_1377.2.2.2.2.2.1
theorem dL_law_1384 : decode cL_law 1384 = .ok (.iaload, 1) := dbL_law_1377.2.2.2.2.2.2.1
theorem dL_law_1385 : decode cL_law 1385 = .ok (.invokevirtual 237, 3) := dbL_law_1377.2.2.2.2.2.2.2.1
theorem dL_law_1388 : decode cL_law 1388 = .ok (.istore 6, 2) := dbL_law_1377.2.2.2.2.2.2.2.2.1
theorem dL_law_1390 : decode cL_law 1390 = .ok (.goto 367, 3) := dbL_law_1377.2.2.2.2.2.2.2.2.2
theorem dbL_law_1393 : (decode cL_law 1393 = .ok (.aload_n 1, 1)) ∧ (decode cL_law 1394 = .ok (.aload_n 0, 1)) ∧ (decode cL_law 1395 = .ok (.iload 4, 2)) ∧ (decode cL_law 1397 = .ok (.iconst 1, 1)) ∧ (decode cL_law 1398 = .ok (.iadd, 1)) ∧ (decode cL_law 1399 = .ok (.iaload, 1)) ∧ (decode cL_law 1400 = .ok (.aload_n 0, 1)) ∧ (decode cL_law 1401 = .ok (.iload 4, 2)) ∧ (decode cL_law 1403 = .ok (.iconst 2, 1)) ∧ (decode cL_law 1404 = .ok (.iadd, 1)) := by decide +kernel
theorem dL_law_1393 : decode cL_law 1393 = .ok (.aload_n 1, 1) := dbL_law_1393.1
theorem dL_law_1394 : decode cL_law 1394 = .ok (.aload_n 0, 1) := dbL_law_1393.2.1
theorem dL_law_1395 : decode cL_law 1395 = .ok (.iload 4, 2) := dbL_law_1393.2.2.1
theorem dL_law_1397 : decode cL_law 1397 = .ok (.iconst 1, 1) := dbL_law_1393.2.2.2.1
theorem dL_law_1398 : decode cL_law 1398 = .ok (.iadd, 1) := dbL_law_1393.2.2.2.2.1
theorem dL_law_1399 : decode cL_law 1399 = .ok (.iaload, 1) := dbL_law_1393.2.2.2.2.2.1
theorem dL_law_1400 : decode cL_law 1400 = .ok (.aload_n 0, 1) := dbL_law_1393.2.2.2.2.2.2.1
theorem dL_law_1401 : decode cL_law 1401 = .ok (.iload 4, 2) := dbL_law_1393.2.2.2.2.2.2.2.1
theorem dL_law_1403 : decode cL_law 1403 = .ok (.iconst 2, 1) := dbL_law_1393.2.2.2.2.2.2.2.2.1
theorem dL_law_1404 : decode cL_law 1404 = .ok (.iadd, 1) := dbL_law_1393.2.2.2.2.2.2.2.2.2
theorem dbL_law_1405 : (decode cL_law 1405 = .ok (.iaload, 1)) ∧ (decode cL_law 1406 = .ok (.aload_n 3, 1)) ∧ (decode cL_law 1407 = .ok (.invokestatic 238, 3)) ∧ (decode cL_law 1410 = .ok (.istore 5, 2)) ∧ (decode cL_law 1412 = .ok (.aload_n 2, 1)) ∧ (decode cL_law 1413 = .ok (.aload_n 0, 1)) ∧ (decode cL_law 1414 = .ok (.iload 4, 2)) ∧ (decode cL_law 1416 = .ok (.iconst 1, 1)) ∧ (decode cL_law 1417 = .ok (.iadd, 1)) ∧ (decode cL_law 1418 = .ok (.iaload, 1)) := by decide +kernel
theorem dL_law_1405 : decode cL_law 1405 = .ok (.iaload, 1) := dbL_law_1405.1
theorem dL_law_1406 : decode cL_law 1406 = .ok (.aload_n 3, 1) := dbL_law_1405.2.1
theorem dL_law_1407 : decode cL_law 1407 = .ok (.invokestatic 238, 3) := dbL_law_1405.2.2.1
theorem dL_law_1410 : decode cL_law 1410 = .ok (.istore 5, 2) := dbL_law_1405.2.2.2.1
theorem dL_law_1412 : decode cL_law 1412 = .ok (.aload_n 2, 1) := dbL_law_1405.2.2.2.2.1
theorem dL_law_1413 : decode cL_law 1413 = .ok (.aload_n 0, 1) := dbL_law_1405.2.2.2.2.2.1
theorem dL_law_1414 : decode cL_law 1414 = .ok (.iload 4, 2) := dbL_law_1405.2.2.2.2.2.2.1
theorem dL_law_1416 : decode cL_law 1416 = .ok (.iconst 1, 1) := dbL_law_1405.2.2.2.2.2.2.2.1
theorem dL_law_1417 : decode cL_law 1417 = .ok (.iadd, 1) := dbL_law_1405.2.2.2.2.2.2.2.2.1
theorem dL_law_1418 : decode cL_law 1418 = .ok (.iaload, 1) := dbL_law_1405.2.2.2.2.2.2.2.2.2
theorem dbL_law_1419 : (decode cL_law 1419 = .ok (.aload_n 0, 1)) ∧ (decode cL_law 1420 = .ok (.iload 4, 2)) ∧ (decode cL_law 1422 = .ok (.iconst 2, 1)) ∧ (decode cL_law 1423 = .ok (.iadd, 1)) ∧ (decode cL_law 1424 = .ok (.iaload, 1)) ∧ (decode cL_law 1425 = .ok (.invokevirtual 240, 3)) ∧ (decode cL_law 1428 = .ok (.istore 6, 2)) ∧ (decode cL_law 1430 = .ok (.goto 327, 3)) ∧ (decode cL_law 1433 = .ok (.aload_n 1, 1)) ∧ (decode cL_law 1434 = .ok (.aload_n 0, 1)) := by decide +kernel
theorem dL_law_1419 : decode cL_law 1419 = .ok (.aload_n 0, 1) := dbL_law_1419.1
theorem dL_law_1420 : decode cL_law 1420 = .ok (.iload 4, 2) := dbL_law_1419.2.1
theorem dL_law_1422 : decode cL_law 1422 = .ok (.iconst 2, 1) := dbL_law_1419.2.2.1
theorem dL_law_1423 : decode cL_law 1423 = .ok (.iadd, 1) := dbL_law_1419.2.2.2.1
theorem dL_law_1424 : decode cL_law 1424 = .ok (.iaload, 1) := dbL_law_1419.2.2.2.2.1
theorem dL_law_1425 : decode cL_law 1425 = .ok (.invokevirtual 240, 3) := dbL_law_1419.2.2.2.2.2.1
theorem dL_law_1428 : decode cL_law 1428 = .ok (.istore 6, 2) := dbL_law_1419.2.2.2.2.2.2.1
theorem dL_law_1430 : decode cL_law 1430 = .ok (.goto 327, 3) := dbL_law_1419.2.2.2.2.2.2.2.1
theorem dL_law_1433 : decode cL_law 1433 = .ok (.aload_n 1, 1) := dbL_law_1419.2.2.2.2.2.2.2.2.1
theorem dL_law_1434 : decode cL_law 1434 = .ok (.aload_n 0, 1) := dbL_law_1419.2.2.2.2.2.2.2.2.2
theorem dbL_law_1435 : (decode cL_law 1435 = .ok (.iload 4, 2)) ∧ (decode cL_law 1437 = .ok (.iconst 1, 1)) ∧ (decode cL_law 1438 = .ok (.iadd, 1)) ∧ (decode cL_law 1439 = .ok (.iaload, 1)) ∧ (decode cL_law 1440 = .ok (.aload_n 3, 1)) ∧ (decode cL_law 1441 = .ok (.invokestatic 241, 3)) ∧ (decode cL_law 1444 = .ok (.istore 5, 2)) ∧ (decode cL_law 1446 = .ok (.aload_n 2, 1)) ∧ (decode cL_law 1447 = .ok (.aload_n 0, 1)) ∧ (decode cL_law 1448 = .ok (.iload 4, 2)) := by decide +kernel
theorem dL_law_1435 : decode cL_law 1435 = .ok (.iload 4, 2) := dbL_law_1435.1
theorem dL_law_1437 : decode cL_law 1437 = .ok (.iconst 1, 1) := dbL_law_1435.2.1
theorem dL_law_1438 : decode cL_law 1438 = .ok (.iadd, 1) := dbL_law_1435.2.2.1
theorem dL_law_1439 : decode cL_law 1439 = .ok (.iaload, 1) := dbL_law_1435.2.2.2.1
theorem dL_law_1440 : decode cL_law 1440 = .ok (.aload_n 3, 1) := dbL_law_1435.2.2.2.2.1
theorem dL_law_1441 : decode cL_law 1441 = .ok (.invokestatic 241, 3) := dbL_law_1435.2.2.2.2.2.1
theorem dL_law_1444 : decode cL_law 1444 = .ok (.istore 5, 2) := dbL_law_1435.2.2.2.2.2.2.1
theorem dL_law_1446 : decode cL_law 1446 = .ok (.aload_n 2, 1) := dbL_law_1435.2.2.2.2.2.2.2.1
theorem dL_law_1447 : decode cL_law 1447 = .ok (.aload_n 0, 1) := dbL_law_1435.2.2.2.2.2.2.2.2.1
theorem dL_law_1448 : decode cL_law 1448 = .ok (.iload 4, 2) := dbL_law_1435.2.2.2.2.2.2.2.2.2
theorem dbL_law_1450 : (decode cL_law 1450 = .ok (.iconst 1, 1)) ∧ (decode cL_law 1451 = .ok (.iadd, 1)) ∧ (decode cL_law 1452 = .ok (.iaload, 1)) ∧ (decode cL_law 1453 = .ok (.invokevirtual 243, 3)) ∧ (decode cL_law 1456 = .ok (.istore 6, 2)) ∧ (decode cL_law 1458 = .ok (.goto 299, 3)) ∧ (decode cL_law 1461 = .ok (.aload_n 1, 1)) ∧ (decode cL_law 1462 = .ok (.aload_n 0, 1)) ∧ (decode cL_law 1463 = .ok (.iload 4, 2)) ∧ (decode cL_law 1465 = .ok (.iconst 1, 1)) := by decide +kernel
theorem dL_law_1450 : decode cL_law 1450 = .ok (.iconst 1, 1) := dbL_law_1450.1
theorem dL_law_1451 : decode cL_law 1451 = .ok (.iadd, 1) := dbL_law_1450.2.1
theorem dL_law_1452 : decode cL_law 1452 = .ok (.iaload, 1) := dbL_law_1450.2.2.1
theorem dL_law_1453 : decode cL_law 1453 = .ok (.invokevirtual 243, 3) := dbL_law_1450.2.2.2.1
theorem dL_law_1456 : decode cL_law 1456 = .ok (.istore 6, 2) := dbL_law_1450.2.2.2.2.1
theorem dL_law_1458 : decode cL_law 1458 = .ok (.goto 299, 3) := dbL_law_1450.2.2.2.2.2.1
theorem dL_law_1461 : decode cL_law 1461 = .ok (.aload_n 1, 1) := dbL_law_1450.2.2.2.2.2.2.1
theorem dL_law_1462 : decode cL_law 1462 = .ok (.aload_n 0, 1) := dbL_law_1450.2.2.2.2.2.2.2.1
theorem dL_law_1463 : decode cL_law 1463 = .ok (.iload 4, 2) := dbL_law_1450.2.2.2.2.2.2.2.2.1
theorem dL_law_1465 : decode cL_law 1465 = .ok (.iconst 1, 1) := dbL_law_1450.2.2.2.2.2.2.2.2.2
theorem dbL_law_1466 : (decode cL_law 1466 = .ok (.iadd, 1)) ∧ (decode cL_law 1467 = .ok (.iaload, 1)) ∧ (decode cL_law 1468 = .ok (.aload_n 3, 1)) ∧ (decode cL_law 1469 = .ok (.invokestatic 244, 3)) ∧ (decode cL_law 1472 = .ok (.istore 5, 2)) ∧ (decode cL_law 1474 = .ok (.aload_n 2, 1)) ∧ (decode cL_law 1475 = .ok (.aload_n 0, 1)) ∧ (decode cL_law 1476 = .ok (.iload 4, 2)) ∧ (decode cL_law 1478 = .ok (.iconst 1, 1)) ∧ (decode cL_law 1479 = .ok (.iadd, 1)) := by decide +kernel
theorem dL_law_1466 : decode cL_law 1466 = .ok (.iadd, 1) := dbL_law_1466.1
theorem dL_law_1467 : decode cL_law 1467 = .ok (.iaload, 1) := dbL_law_1466.2.1
theorem dL_law_1468 : decode cL_law 1468 = .ok (.aload_n 3, 1) := dbL_law_1466.2.2.1
theorem dL_law_1469 : decode cL_law 1469 = .ok (.invokestatic 244, 3) := dbL_law_1466.2.2.2.1
theorem dL_law_1472 : decode cL_law 1472 = .ok (.istore 5, 2) := dbL_law_1466.2.2.2.2.1
theorem dL_law_1474 : decode cL_law 1474 = .ok (.aload_n 2, 1) := dbL_law_1466.2.2.2.2.2.1
theorem dL_law_1475 : decode cL_law 1475 = .ok (.aload_n 0, 1) := dbL_law_1466.2.2.2.2.2.2.1
theorem dL_law_1476 : decode cL_law 1476 = .ok (.iload 4, 2) := dbL_law_1466.2.2.2.2.2.2.2.1
theorem dL_law_1478 : decode cL_law 1478 = .ok (.iconst 1, 1) := dbL_law_1466.2.2.2.2.2.2.2.2.1
theorem dL_law_1479 : decode cL_law 1479 = .ok (.iadd, 1) := dbL_law_1466.2.2.2.2.2.2.2.2.2
theorem dbL_law_1480 : (decode cL_law 1480 = .ok (.iaload, 1)) ∧ (decode cL_law 1481 = .ok (.invokevirtual 246, 3)) ∧ (decode cL_law 1484 = .ok (.astore 6, 2)) ∧ (decode cL_law 1486 = .ok (.goto 271, 3)) ∧ (decode cL_law 1489 = .ok (.aload_n 1, 1)) ∧ (decode cL_law 1490 = .ok (.aload_n 0, 1)) ∧ (decode cL_law 1491 = .ok (.iload 4, 2)) ∧ (decode cL_law 1493 = .ok (.iconst 1, 1)) ∧ (decode cL_law 1494 = .ok (.iadd, 1)) ∧ (decode cL_law 1495 = .ok (.iaload, 1)) := by decide +kernel
theorem dL_law_1480 : decode cL_law 1480 = .ok (.iaload, 1) := dbL_law_1480.1
theorem dL_law_1481 : decode cL_law 1481 = .ok (.invokevirtual 246, 3) := dbL_law_1480.2.1
theorem dL_law_1484 : decode cL_law 1484 = .ok (.astore 6, 2) := dbL_law_1480.2.2.1
theorem dL_law_1486 : decode cL_law 1486 = .ok (.goto 271, 3) := dbL_law_1480.2.2.2.1
theorem dL_law_1489 : decode cL_law 1489 = .ok (.aload_n 1, 1) := dbL_law_1480.2.2.2.2.1
theorem dL_law_1490 : decode cL_law 1490 = .ok (.aload_n 0, 1) := dbL_law_1480.2.2.2.2.2.1
theorem dL_law_1491 : decode cL_law 1491 = .ok (.iload 4, 2) := dbL_law_1480.2.2.2.2.2.2.1
theorem dL_law_1493 : decode cL_law 1493 = .ok (.iconst 1, 1) := dbL_law_1480.2.2.2.2.2.2.2.1
theorem dL_law_1494 : decode cL_law 1494 = .ok (.iadd, 1) := dbL_law_1480.2.2.2.2.2.2.2.2.1
theorem dL_law_1495 : decode cL_law 1495 = .ok (.iaload, 1) := dbL_law_1480.2.2.2.2.2.2.2.2.2
theorem dbL_law_1496 : (decode cL_law 1496 = .ok (.aload_n 3, 1)) ∧ (decode cL_law 1497 = .ok (.invokestatic 247, 3)) ∧ (decode cL_law 1500 = .ok (.istore 5, 2)) ∧ (decode cL_law 1502 = .ok (.aload_n 2, 1)) ∧ (decode cL_law 1503 = .ok (.aload_n 0, 1)) ∧ (decode cL_law 1504 = .ok (.iload 4, 2)) ∧ (decode cL_law 1506 = .ok (.iconst 1, 1)) ∧ (decode cL_law 1507 = .ok (.iadd, 1)) ∧ (decode cL_law 1508 = .ok (.iaload, 1)) ∧ (decode cL_law 1509 = .ok (.invokevirtual 249, 3)) := by decide +kernel
theorem dL_law_1496 : decode cL_law 1496 = .ok (.aload_n 3, 1) := dbL_law_1496.1
theorem dL_law_1497 : decode cL_law 1497 = .ok (.invokestatic 247, 3) := dbL_law_1496.2.1
theorem dL_law_1500 : decode cL_law 1500 = .ok (.istore 5, 2) := dbL_law_1496.2.2.1
theorem dL_law_1502 : decode cL_law 1502 = .ok (.aload_n 2, 1) := dbL_law_1496.2.2.2.1
theorem dL_law_1503 : decode cL_law 1503 = .ok (.aload_n 0, 1) := dbL_law_1496.2.2.2.2.1
theorem dL_law_1504 : decode cL_law 1504 = .ok (.iload 4, 2) := dbL_law_1496.2.2.2.2.2.1
theorem dL_law_1506 : decode cL_law 1506 = .ok (.iconst 1, 1) := dbL_law_1496.2.2.2.2.2.2.1
theorem dL_law_1507 : decode cL_law 1507 = .ok (.iadd, 1) := dbL_law_1496.2.2.2.2.2.2.2.1
theorem dL_law_1508 : decode cL_law 1508 = .ok (.iaload, 1) := dbL_law_1496.2.2.2.2.2.2.2.2.1
theorem dL_law_1509 : decode cL_law 1509 = .ok (.invokevirtual 249, 3) := dbL_law_1496.2.2.2.2.2.2.2.2.2
theorem dbL_law_1512 : (decode cL_law 1512 = .ok (.astore 6, 2)) ∧ (decode cL_law 1514 = .ok (.goto 243, 3)) ∧ (decode cL_law 1517 = .ok (.aload_n 1, 1)) ∧ (decode cL_law 1518 = .ok (.aload_n 0, 1)) ∧ (decode cL_law 1519 = .ok (.iload 4, 2)) ∧ (decode cL_law 1521 = .ok (.iconst 1, 1)) ∧ (decode cL_law 1522 = .ok (.iadd, 1)) ∧ (decode cL_law 1523 = .ok (.iaload, 1)) ∧ (decode cL_law 1524 = .ok (.aload_n 3, 1)) ∧ (decode cL_law 1525 = .ok (.invokestatic 250, 3)) := by decide +kernel
theorem dL_law_1512 : decode cL_law 1512 = .ok (.astore 6, 2) := dbL_law_1512.1
theorem dL_law_1514 : decode cL_law 1514 = .ok (.goto 243, 3) := dbL_law_1512.2.1
theorem dL_law_1517 : decode cL_law 1517 = .ok (.aload_n 1, 1) := dbL_law_1512.2.2.1
theorem dL_law_1518 : decode cL_law 1518 = .ok (.aload_n 0, 1) := dbL_law_1512.2.2.2.1
theorem dL_law_1519 : decode cL_law 1519 = .ok (.iload 4, 2) := dbL_law_1512.2.2.2.2.1
theorem dL_law_1521 : decode cL_law 1521 = .ok (.iconst 1, 1) := dbL_law_1512.2.2.2.2.2.1
theorem dL_law_1522 : decode cL_law 1522 = .ok (.iadd, 1) := dbL_law_1512.2.2.2.2.2.2.1
theorem dL_law_1523 : decode cL_law 1523 = .ok (.iaload, 1) := dbL_law_1512.2.2.2.2.2.2.2.1
theorem dL_law_1524 : decode cL_law 1524 = .ok (.aload_n 3, 1) := dbL_law_1512.2.2.2.2.2.2.2.2.1
theorem dL_law_1525 : decode cL_law 1525 = .ok (.invokestatic 250, 3) := dbL_law_1512.2.2.2.2.2.2.2.2.2
theorem dbL_law_1528 : (decode cL_law 1528 = .ok (.istore 5, 2)) ∧ (decode cL_law 1530 = .ok (.aload_n 2, 1)) ∧ (decode cL_law 1531 = .ok (.aload_n 0, 1)) ∧ (decode cL_law 1532 = .ok (.iload 4, 2)) ∧ (decode cL_law 1534 = .ok (.iconst 1, 1)) ∧ (decode cL_law 1535 = .ok (.iadd, 1)) ∧ (decode cL_law 1536 = .ok (.iaload, 1)) ∧ (decode cL_law 1537 = .ok (.invokevirtual 252, 3)) ∧ (decode cL_law 1540 = .ok (.astore 6, 2)) ∧ (decode cL_law 1542 = .ok (.goto 215, 3)) := by decide +kernel
theorem dL_law_1528 : decode cL_law 1528 = .ok (.istore 5, 2) := dbL_law_1528.1
theorem dL_law_1530 : decode cL_law 1530 = .ok (.aload_n 2, 1) := dbL_law_1528.2.1
theorem dL_law_1531 : decode cL_law 1531 = .ok (.aload_n 0, 1) := dbL_law_1528.2.2.1
theorem dL_law_1532 : decode cL_law 1532 = .ok (.iload 4, 2) := dbL_law_1528.2.2.2.1
theorem dL_law_1534 : decode cL_law 1534 = .ok (.iconst 1, 1) := dbL_law_1528.2.2.2.2.1
theorem dL_law_1535 : decode cL_law 1535 = .ok (.iadd, 1) := dbL_law_1528.2.2.2.2.2.1
theorem dL_law_1536 : decode cL_law 1536 = .ok (.iaload, 1) := dbL_law_1528.2.2.2.2.2.2.1
theorem dL_law_1537 : decode cL_law 1537 = .ok (.invokevirtual 252, 3) := dbL_law_1528.2.2.2.2.2.2.2.1
theorem dL_law_1540 : decode cL_law 1540 = .ok (.astore 6, 2) := dbL_law_1528.2.2.2.2.2.2.2.2.1
theorem dL_law_1542 : decode cL_law 1542 = .ok (.goto 215, 3) := dbL_law_1528.2.2.2.2.2.2.2.2.2
set_option maxRecDepth 20000 in
theorem lc_lay {X : zX} (C : z_C X cL_law RL 7 room_1) (h_st : (z_l X).stackTraces = false) {b L : Nat} {xs : Nat → Int32} (hX : va_X b L xs (z_s X) (z_s X).heap) (hbl : b < (z_s X).heap.size) (hbA : ¬ z_F X b) {jx : Nat} {a1 a2 a3 a4 : Int32} (hs1 : vp_in (nI (5 * jx) + 1) L ∧ xs (nI (5 * jx) + 1).toNatClampNeg = a1) (hs2 : vp_in (nI (5 * jx) + 2) L ∧ xs (nI (5 * jx) + 2).toNatClampNeg = a2) (hs3 : vp_in (nI (5 * jx) + 3) L ∧ xs (nI (5 * jx) + 3).toNatClampNeg = a3) (hs4 : vp_in (nI (5 * jx) + 4) L ∧ xs (nI (5 * jx) + 4).toNatClampNeg = a4) {u : sS} {x pa sp ln rf sb m pn td ou : Nat} {th : Int32} {on : Int64} {Mw : zM} (hI : s_LX (z_G X) x pa sp ln rf sb m pn td ou u u th on Mw) (hok : s_ok jx u) (hj : jx < 64) {kq nq : Nat} (hkq : kq + 4000 ≤ 600128) (hnq : nq + 60000 ≤ 7301098) (kk : ∀ v th on Mz, s_LX (z_G X) x pa sp ln rf sb m pn td ou v v th on Mz → s_ok (jx + 1) v → z_W X Mz (kq + 4000) (nq + 60000) 27 [(4, .int (nI (5 * (jx + 1)))), (0, .ref b), (1, .ref x), (2, .ref m), (3, .ref ou)] []) : z_W X Mw kq nq 1136 [(4, .int (nI (5 * jx))), (0, .ref b), (1, .ref x), (2, .ref m), (3, .ref ou)] [] := by
  refine z_aload_n C dL_law_1136 rfl 2 rfl ?_
  refine z_aload_n C dL_law_1137 rfl 1 rfl ?_
  refine z_iload C dL_law_1138 0 rfl ?_
  refine z_iconst C (v := 1) dL_law_1140 (by decide) ?_
  refine z_iadd C dL_law_1141 ?_
  refine z_sld C hX hbl hbA hs1.1 hs1.2 dL_law_1142 ?_
  refine z_aload_n C dL_law_1143 rfl 1 rfl ?_
  refine z_iload C dL_law_1144 0 rfl ?_
  refine z_iconst C (v := 2) dL_law_1146 (by decide) ?_
  refine z_iadd C dL_law_1147 ?_
  refine z_sld C hX hbl hbA hs2.1 hs2.2 dL_law_1148 ?_
  refine z_aload_n C dL_law_1149 rfl 4 rfl ?_
  refine z_callHi (rest := []) (k' := kq + 8) (n' := nq + 48) C (s_LX_P hI (fun hC9 hd9 ho9 => w_lay (z_l X) h_st hC9 hd9 ho9 hok a1 a2)) (ch_lay C ⟨Nat.le_of_ble_eq_true rfl, Nat.le_of_ble_eq_true rfl⟩) rfl rfl (Nat.le_of_ble_eq_true rfl) rfl rfl (by show _ ≤ 600128; omega) (by show _ ≤ 7301098; omega) dL_law_1150 (fun xk M1 hq => ?_)
  obtain ⟨hk1, on1, hI1, ho1⟩ := hq
  refine z_istore (lv' := [(5, .int xk), (4, .int (nI (5 * jx))), (0, .ref b), (1, .ref x), (2, .ref m), (3, .ref ou)]) C dL_law_1153 (by decide) rfl ?_
  refine z_aload_n C dL_law_1155 rfl 4 rfl ?_
  refine z_aload_n C dL_law_1156 rfl 2 rfl ?_
  refine z_iload C dL_law_1157 1 rfl ?_
  refine z_iconst C (v := 1) dL_law_1159 (by decide) ?_
  refine z_iadd C dL_law_1160 ?_
  refine z_sld C hX hbl hbA hs1.1 hs1.2 dL_law_1161 ?_
  refine z_aload_n C dL_law_1162 rfl 2 rfl ?_
  refine z_iload C dL_law_1163 1 rfl ?_
  refine z_iconst C (v := 2) dL_law_1165 (by decide) ?_
  refine z_iadd C dL_law_1166 ?_
  refine z_sld C hX hbl hbA hs2.1 hs2.2 dL_law_1167 ?_
  obtain ⟨tp9, hm9⟩ := s_LX_m hI1
  refine z_callVi (rest := []) (k' := kq + 8) (n' := nq + 48) C (s_LX_R hI1 (fun hR9 => a_X5_lay (z_l X) hR9 hok (by omega) a1 a2)) (cs_L_218 C ⟨Nat.le_of_ble_eq_true rfl, Nat.le_of_ble_eq_true rfl⟩) hm9 rfl rfl rfl rfl (Nat.le_of_ble_eq_true rfl) rfl rfl (by show _ ≤ 600128; omega) (by show _ ≤ 7301098; omega) dL_law_1168 (fun xr M2 hq => ?_)
  obtain ⟨hI2, hr2⟩ := hq
  refine z_istore (lv' := [(6, .int xr), (5, .int xk), (4, .int (nI (5 * jx))), (0, .ref b), (1, .ref x), (2, .ref m), (3, .ref ou)]) C dL_law_1171 (by decide) rfl ?_
  refine z_goto C (tgt := 1757) dL_law_1173 (by decide) ?_
  refine z_iinc (v := nI (5 * (jx + 1))) (lv' := [(4, .int (nI (5 * (jx + 1)))), (6, .int xr), (5, .int xk), (0, .ref b), (1, .ref x), (2, .ref m), (3, .ref ou)]) C dL_law_1757 2 rfl (j_inc5 jx) (by decide) rfl ?_
  refine z_goto C (tgt := 27) dL_law_1760 (by decide) ?_
  refine z_fewer [0, 3, 4, 5, 6] rfl ?_
  refine z_widen (k' := kq + 4000) (n' := nq + 60000) (by omega) (by omega) ?_
  exact kk _ _ _ _ hI2 (so_lay hok)
set_option maxRecDepth 20000 in
theorem lc_reach {X : zX} (C : z_C X cL_law RL 7 room_1) (h_st : (z_l X).stackTraces = false) {b L : Nat} {xs : Nat → Int32} (hX : va_X b L xs (z_s X) (z_s X).heap) (hbl : b < (z_s X).heap.size) (hbA : ¬ z_F X b) {jx : Nat} {a1 a2 a3 a4 : Int32} (hs1 : vp_in (nI (5 * jx) + 1) L ∧ xs (nI (5 * jx) + 1).toNatClampNeg = a1) (hs2 : vp_in (nI (5 * jx) + 2) L ∧ xs (nI (5 * jx) + 2).toNatClampNeg = a2) (hs3 : vp_in (nI (5 * jx) + 3) L ∧ xs (nI (5 * jx) + 3).toNatClampNeg = a3) (hs4 : vp_in (nI (5 * jx) + 4) L ∧ xs (nI (5 * jx) + 4).toNatClampNeg = a4) {u : sS} {x pa sp ln rf sb m pn td ou : Nat} {th : Int32} {on : Int64} {Mw : zM} (hI : s_LX (z_G X) x pa sp ln rf sb m pn td ou u u th on Mw) (hok : s_ok jx u) (hj : jx < 64) {kq nq : Nat} (hkq : kq + 4000 ≤ 600128) (hnq : nq + 60000 ≤ 7301098) (kk : ∀ v th on Mz, s_LX (z_G X) x pa sp ln rf sb m pn td ou v v th on Mz → s_ok (jx + 1) v → z_W X Mz (kq + 4000) (nq + 60000) 27 [(4, .int (nI (5 * (jx + 1)))), (0, .ref b), (1, .ref x), (2, .ref m), (3, .ref ou)] []) : z_W X Mw kq nq 1176 [(4, .int (nI (5 * jx))), (0, .ref b), (1, .ref x), (2, .ref m), (3, .ref ou)] [] := by
  refine z_aload_n C dL_law_1176 rfl 2 rfl ?_
  refine z_aload_n C dL_law_1177 rfl 1 rfl ?_
  refine z_iload C dL_law_1178 0 rfl ?_
  refine z_iconst C (v := 1) dL_law_1180 (by decide) ?_
  refine z_iadd C dL_law_1181 ?_
  refine z_sld C hX hbl hbA hs1.1 hs1.2 dL_law_1182 ?_
  refine z_aload_n C dL_law_1183 rfl 1 rfl ?_
  refine z_iload C dL_law_1184 0 rfl ?_
  refine z_iconst C (v := 2) dL_law_1186 (by decide) ?_
  refine z_iadd C dL_law_1187 ?_
  refine z_sld C hX hbl hbA hs2.1 hs2.2 dL_law_1188 ?_
  refine z_aload_n C dL_law_1189 rfl 1 rfl ?_
  refine z_iload C dL_law_1190 0 rfl ?_
  refine z_iconst C (v := 3) dL_law_1192 (by decide) ?_
  refine z_iadd C dL_law_1193 ?_
  refine z_sld C hX hbl hbA hs3.1 hs3.2 dL_law_1194 ?_
  refine z_aload_n C dL_law_1195 rfl 4 rfl ?_
  refine z_callHi (rest := []) (k' := kq + 8) (n' := nq + 48) C (s_LX_P hI (fun hC9 hd9 ho9 => w_reach (z_l X) h_st hC9 hd9 ho9 hok a1 a2 a3)) (ch_reach C ⟨Nat.le_of_ble_eq_true rfl, Nat.le_of_ble_eq_true rfl⟩) rfl rfl (Nat.le_of_ble_eq_true rfl) rfl rfl (by show _ ≤ 600128; omega) (by show _ ≤ 7301098; omega) dL_law_1196 (fun xk M1 hq => ?_)
  obtain ⟨hk1, on1, hI1, ho1⟩ := hq
  refine z_istore (lv' := [(5, .int xk), (4, .int (nI (5 * jx))), (0, .ref b), (1, .ref x), (2, .ref m), (3, .ref ou)]) C dL_law_1199 (by decide) rfl ?_
  refine z_aload_n C dL_law_1201 rfl 4 rfl ?_
  refine z_aload_n C dL_law_1202 rfl 2 rfl ?_
  refine z_iload C dL_law_1203 1 rfl ?_
  refine z_iconst C (v := 1) dL_law_1205 (by decide) ?_
  refine z_iadd C dL_law_1206 ?_
  refine z_sld C hX hbl hbA hs1.1 hs1.2 dL_law_1207 ?_
  refine z_aload_n C dL_law_1208 rfl 2 rfl ?_
  refine z_iload C dL_law_1209 1 rfl ?_
  refine z_iconst C (v := 2) dL_law_1211 (by decide) ?_
  refine z_iadd C dL_law_1212 ?_
  refine z_sld C hX hbl hbA hs2.1 hs2.2 dL_law_1213 ?_
  refine z_aload_n C dL_law_1214 rfl 2 rfl ?_
  refine z_iload C dL_law_1215 1 rfl ?_
  refine z_iconst C (v := 3) dL_law_1217 (by decide) ?_
  refine z_iadd C dL_law_1218 ?_
  refine z_sld C hX hbl hbA hs3.1 hs3.2 dL_law_1219 ?_
  obtain ⟨tp9, hm9⟩ := s_LX_m hI1
  refine z_callVi (rest := []) (k' := kq + 8) (n' := nq + 48) C (s_LX_R hI1 (fun hR9 => a_X5_reach (z_l X) hR9 hok (by omega) a1 a2 a3)) (cs_L_221 C ⟨Nat.le_of_ble_eq_true rfl, Nat.le_of_ble_eq_true rfl⟩) hm9 rfl rfl rfl rfl (Nat.le_of_ble_eq_true rfl) rfl rfl (by show _ ≤ 600128; omega) (by show _ ≤ 7301098; omega) dL_law_1220 (fun xr M2 hq => ?_)
  obtain ⟨hI2, hr2⟩ := hq
  refine z_istore (lv' := [(6, .int xr), (5, .int xk), (4, .int (nI (5 * jx))), (0, .ref b), (1, .ref x), (2, .ref m), (3, .ref ou)]) C dL_law_1223 (by decide) rfl ?_
  refine z_goto C (tgt := 1757) dL_law_1225 (by decide) ?_
  refine z_iinc (v := nI (5 * (jx + 1))) (lv' := [(4, .int (nI (5 * (jx + 1)))), (6, .int xr), (5, .int xk), (0, .ref b), (1, .ref x), (2, .ref m), (3, .ref ou)]) C dL_law_1757 2 rfl (j_inc5 jx) (by decide) rfl ?_
  refine z_goto C (tgt := 27) dL_law_1760 (by decide) ?_
  refine z_fewer [0, 3, 4, 5, 6] rfl ?_
  refine z_widen (k' := kq + 4000) (n' := nq + 60000) (by omega) (by omega) ?_
  exact kk _ _ _ _ hI2 (so_reach hok)
set_option maxRecDepth 20000 in
theorem lc_get {X : zX} (C : z_C X cL_law RL 7 room_1) (h_st : (z_l X).stackTraces = false) {b L : Nat} {xs : Nat → Int32} (hX : va_X b L xs (z_s X) (z_s X).heap) (hbl : b < (z_s X).heap.size) (hbA : ¬ z_F X b) {jx : Nat} {a1 a2 a3 a4 : Int32} (hs1 : vp_in (nI (5 * jx) + 1) L ∧ xs (nI (5 * jx) + 1).toNatClampNeg = a1) (hs2 : vp_in (nI (5 * jx) + 2) L ∧ xs (nI (5 * jx) + 2).toNatClampNeg = a2) (hs3 : vp_in (nI (5 * jx) + 3) L ∧ xs (nI (5 * jx) + 3).toNatClampNeg = a3) (hs4 : vp_in (nI (5 * jx) + 4) L ∧ xs (nI (5 * jx) + 4).toNatClampNeg = a4) {u : sS} {x pa sp ln rf sb m pn td ou : Nat} {th : Int32} {on : Int64} {Mw : zM} (hI : s_LX (z_G X) x pa sp ln rf sb m pn td ou u u th on Mw) (hok : s_ok jx u) (hj : jx < 64) {kq nq : Nat} (hkq : kq + 4000 ≤ 600128) (hnq : nq + 60000 ≤ 7301098) (kk : ∀ v th on Mz, s_LX (z_G X) x pa sp ln rf sb m pn td ou v v th on Mz → s_ok (jx + 1) v → z_W X Mz (kq + 4000) (nq + 60000) 27 [(4, .int (nI (5 * (jx + 1)))), (0, .ref b), (1, .ref x), (2, .ref m), (3, .ref ou)] []) : z_W X Mw kq nq 1228 [(4, .int (nI (5 * jx))), (0, .ref b), (1, .ref x), (2, .ref m), (3, .ref ou)] [] := by
  refine z_aload_n C dL_law_1228 rfl 2 rfl ?_
  refine z_aload_n C dL_law_1229 rfl 1 rfl ?_
  refine z_iload C dL_law_1230 0 rfl ?_
  refine z_iconst C (v := 1) dL_law_1232 (by decide) ?_
  refine z_iadd C dL_law_1233 ?_
  refine z_sld C hX hbl hbA hs1.1 hs1.2 dL_law_1234 ?_
  refine z_aload_n C dL_law_1235 rfl 4 rfl ?_
  refine z_callHi (rest := []) (k' := kq + 8) (n' := nq + 48) C (s_LX_P hI (fun hC9 hd9 ho9 => w_get (z_l X) h_st hC9 hd9 ho9 hok a1)) (ch_get C ⟨Nat.le_of_ble_eq_true rfl, Nat.le_of_ble_eq_true rfl⟩) rfl rfl (Nat.le_of_ble_eq_true rfl) rfl rfl (by show _ ≤ 600128; omega) (by show _ ≤ 7301098; omega) dL_law_1236 (fun xk M1 hq => ?_)
  obtain ⟨hk1, on1, hI1, ho1⟩ := hq
  refine z_istore (lv' := [(5, .int xk), (4, .int (nI (5 * jx))), (0, .ref b), (1, .ref x), (2, .ref m), (3, .ref ou)]) C dL_law_1239 (by decide) rfl ?_
  refine z_aload_n C dL_law_1241 rfl 4 rfl ?_
  refine z_aload_n C dL_law_1242 rfl 2 rfl ?_
  refine z_iload C dL_law_1243 1 rfl ?_
  refine z_iconst C (v := 1) dL_law_1245 (by decide) ?_
  refine z_iadd C dL_law_1246 ?_
  refine z_sld C hX hbl hbA hs1.1 hs1.2 dL_law_1247 ?_
  obtain ⟨tp9, hm9⟩ := s_LX_m hI1
  refine z_callVi (rest := []) (k' := kq + 8) (n' := nq + 48) C (s_LX_R hI1 (fun hR9 => a_X5_get (z_l X) hR9 hok (by omega) a1)) (cs_L_224 C ⟨Nat.le_of_ble_eq_true rfl, Nat.le_of_ble_eq_true rfl⟩) hm9 rfl rfl rfl rfl (Nat.le_of_ble_eq_true rfl) rfl rfl (by show _ ≤ 600128; omega) (by show _ ≤ 7301098; omega) dL_law_1248 (fun xr M2 hq => ?_)
  obtain ⟨hI2, hr2⟩ := hq
  refine z_istore (lv' := [(6, .int xr), (5, .int xk), (4, .int (nI (5 * jx))), (0, .ref b), (1, .ref x), (2, .ref m), (3, .ref ou)]) C dL_law_1251 (by decide) rfl ?_
  refine z_goto C (tgt := 1757) dL_law_1253 (by decide) ?_
  refine z_iinc (v := nI (5 * (jx + 1))) (lv' := [(4, .int (nI (5 * (jx + 1)))), (6, .int xr), (5, .int xk), (0, .ref b), (1, .ref x), (2, .ref m), (3, .ref ou)]) C dL_law_1757 2 rfl (j_inc5 jx) (by decide) rfl ?_
  refine z_goto C (tgt := 27) dL_law_1760 (by decide) ?_
  refine z_fewer [0, 3, 4, 5, 6] rfl ?_
  refine z_widen (k' := kq + 4000) (n' := nq + 60000) (by omega) (by omega) ?_
  exact kk _ _ _ _ hI2 (so_get hok)
set_option maxRecDepth 20000 in
theorem lc_drain {X : zX} (C : z_C X cL_law RL 7 room_1) (h_st : (z_l X).stackTraces = false) {b L : Nat} {xs : Nat → Int32} (hX : va_X b L xs (z_s X) (z_s X).heap) (hbl : b < (z_s X).heap.size) (hbA : ¬ z_F X b) {jx : Nat} {a1 a2 a3 a4 : Int32} (hs1 : vp_in (nI (5 * jx) + 1) L ∧ xs (nI (5 * jx) + 1).toNatClampNeg = a1) (hs2 : vp_in (nI (5 * jx) + 2) L ∧ xs (nI (5 * jx) + 2).toNatClampNeg = a2) (hs3 : vp_in (nI (5 * jx) + 3) L ∧ xs (nI (5 * jx) + 3).toNatClampNeg = a3) (hs4 : vp_in (nI (5 * jx) + 4) L ∧ xs (nI (5 * jx) + 4).toNatClampNeg = a4) {u : sS} {x pa sp ln rf sb m pn td ou : Nat} {th : Int32} {on : Int64} {Mw : zM} (hI : s_LX (z_G X) x pa sp ln rf sb m pn td ou u u th on Mw) (hok : s_ok jx u) (hj : jx < 64) {kq nq : Nat} (hkq : kq + 4000 ≤ 600128) (hnq : nq + 60000 ≤ 7301098) (kk : ∀ v th on Mz, s_LX (z_G X) x pa sp ln rf sb m pn td ou v v th on Mz → s_ok (jx + 1) v → z_W X Mz (kq + 4000) (nq + 60000) 27 [(4, .int (nI (5 * (jx + 1)))), (0, .ref b), (1, .ref x), (2, .ref m), (3, .ref ou)] []) : z_W X Mw kq nq 1256 [(4, .int (nI (5 * jx))), (0, .ref b), (1, .ref x), (2, .ref m), (3, .ref ou)] [] := by
  refine z_aload_n C dL_law_1256 rfl 2 rfl ?_
  refine z_aload_n C dL_law_1257 rfl 1 rfl ?_
  refine z_iload C dL_law_1258 0 rfl ?_
  refine z_iconst C (v := 1) dL_law_1260 (by decide) ?_
  refine z_iadd C dL_law_1261 ?_
  refine z_sld C hX hbl hbA hs1.1 hs1.2 dL_law_1262 ?_
  refine z_aload_n C dL_law_1263 rfl 1 rfl ?_
  refine z_iload C dL_law_1264 0 rfl ?_
  refine z_iconst C (v := 2) dL_law_1266 (by decide) ?_
  refine z_iadd C dL_law_1267 ?_
  refine z_sld C hX hbl hbA hs2.1 hs2.2 dL_law_1268 ?_
  refine z_aload_n C dL_law_1269 rfl 4 rfl ?_
  refine z_callHi (rest := []) (k' := kq + 8) (n' := nq + 48) C (s_LX_P hI (fun hC9 hd9 ho9 => w_drain (z_l X) h_st hC9 hd9 ho9 hok a1 a2)) (ch_drain C ⟨Nat.le_of_ble_eq_true rfl, Nat.le_of_ble_eq_true rfl⟩) rfl rfl (Nat.le_of_ble_eq_true rfl) rfl rfl (by show _ ≤ 600128; omega) (by show _ ≤ 7301098; omega) dL_law_1270 (fun xk M1 hq => ?_)
  obtain ⟨hk1, on1, hI1, ho1⟩ := hq
  refine z_istore (lv' := [(5, .int xk), (4, .int (nI (5 * jx))), (0, .ref b), (1, .ref x), (2, .ref m), (3, .ref ou)]) C dL_law_1273 (by decide) rfl ?_
  refine z_aload_n C dL_law_1275 rfl 4 rfl ?_
  refine z_aload_n C dL_law_1276 rfl 2 rfl ?_
  refine z_iload C dL_law_1277 1 rfl ?_
  refine z_iconst C (v := 1) dL_law_1279 (by decide) ?_
  refine z_iadd C dL_law_1280 ?_
  refine z_sld C hX hbl hbA hs1.1 hs1.2 dL_law_1281 ?_
  refine z_aload_n C dL_law_1282 rfl 2 rfl ?_
  refine z_iload C dL_law_1283 1 rfl ?_
  refine z_iconst C (v := 2) dL_law_1285 (by decide) ?_
  refine z_iadd C dL_law_1286 ?_
  refine z_sld C hX hbl hbA hs2.1 hs2.2 dL_law_1287 ?_
  obtain ⟨tp9, hm9⟩ := s_LX_m hI1
  refine z_callVi (rest := []) (k' := kq + 8) (n' := nq + 48) C (s_LX_R hI1 (fun hR9 => a_X5_drain (z_l X) hR9 hok (by omega) a1 a2)) (cs_L_227 C ⟨Nat.le_of_ble_eq_true rfl, Nat.le_of_ble_eq_true rfl⟩) hm9 rfl rfl rfl rfl (Nat.le_of_ble_eq_true rfl) rfl rfl (by show _ ≤ 600128; omega) (by show _ ≤ 7301098; omega) dL_law_1288 (fun xr M2 hq => ?_)
  obtain ⟨hI2, hr2⟩ := hq
  obtain ⟨tp8, hm8⟩ := s_LX_m hI2
  obtain ⟨os8, hou8⟩ := s_LX_ou hI2
  refine z_istore (lv' := [(6, .int xr), (5, .int xk), (4, .int (nI (5 * jx))), (0, .ref b), (1, .ref x), (2, .ref m), (3, .ref ou)]) C dL_law_1291 (by decide) rfl ?_
  refine z_aload_n C dL_law_1293 rfl 5 rfl ?_
  refine z_callVi (rest := []) (k' := kq + 8) (n' := nq + 48) C (c_X5_thrown (z_l X) (z_G X) hm8) (cs_L_228 C ⟨Nat.le_of_ble_eq_true rfl, Nat.le_of_ble_eq_true rfl⟩) hm8 rfl rfl rfl rfl (Nat.le_of_ble_eq_true rfl) rfl rfl (by show _ ≤ 600128; omega) (by show _ ≤ 7301098; omega) dL_law_1294 (fun x3 M3 hq => ?_)
  obtain ⟨e3, rfl⟩ := hq
  rw [e3]
  refine z_iload C dL_law_1297 1 rfl ?_
  refine z_icmp_eq C (tgt := 1304) dL_law_1299 (by decide) (fun _ => ?_) (fun c1299 => absurd hk1.symm c1299)
  refine z_iload C dL_law_1304 1 rfl ?_
  refine z_if_ne C (tgt := 1322) dL_law_1306 (by decide) (fun c1306 => ?_) (fun c1306 => ?_)
  · refine z_goto C (tgt := 1757) dL_law_1322 (by decide) ?_
    refine z_iinc (v := nI (5 * (jx + 1))) (lv' := [(4, .int (nI (5 * (jx + 1)))), (6, .int xr), (5, .int xk), (0, .ref b), (1, .ref x), (2, .ref m), (3, .ref ou)]) C dL_law_1757 2 rfl (j_inc5 jx) (by decide) rfl ?_
    refine z_goto C (tgt := 27) dL_law_1760 (by decide) ?_
    refine z_fewer [0, 3, 4, 5, 6] rfl ?_
    refine z_widen (k' := kq + 4000) (n' := nq + 60000) (by omega) (by omega) ?_
    exact kk _ _ _ _ hI2 (so_drain hok)
  · refine z_aload_n C dL_law_1309 rfl 6 rfl ?_
    refine gf_L_13 C hou8 dL_law_1310 ?_
    refine z_iload C dL_law_1313 0 rfl ?_
    refine z_i2l C dL_law_1315 ?_
    refine z_lcmp C dL_law_1316 ?_
    refine z_if_eq C (tgt := 1322) dL_law_1317 (by decide) (fun _ => ?_) (fun c1317 => absurd (by rw [ho1 (hk1.symm.trans c1306), hr2 (hk1.symm.trans c1306)]; exact lg_cmp_rf _) c1317)
    refine z_goto C (tgt := 1757) dL_law_1322 (by decide) ?_
    refine z_iinc (v := nI (5 * (jx + 1))) (lv' := [(4, .int (nI (5 * (jx + 1)))), (6, .int xr), (5, .int xk), (0, .ref b), (1, .ref x), (2, .ref m), (3, .ref ou)]) C dL_law_1757 2 rfl (j_inc5 jx) (by decide) rfl ?_
    refine z_goto C (tgt := 27) dL_law_1760 (by decide) ?_
    refine z_fewer [0, 3, 4, 5, 6] rfl ?_
    refine z_widen (k' := kq + 4000) (n' := nq + 60000) (by omega) (by omega) ?_
    exact kk _ _ _ _ hI2 (so_drain hok)
set_option maxRecDepth 20000 in
theorem lc_pop {X : zX} (C : z_C X cL_law RL 7 room_1) (h_st : (z_l X).stackTraces = false) {b L : Nat} {xs : Nat → Int32} (hX : va_X b L xs (z_s X) (z_s X).heap) (hbl : b < (z_s X).heap.size) (hbA : ¬ z_F X b) {jx : Nat} {a1 a2 a3 a4 : Int32} (hs1 : vp_in (nI (5 * jx) + 1) L ∧ xs (nI (5 * jx) + 1).toNatClampNeg = a1) (hs2 : vp_in (nI (5 * jx) + 2) L ∧ xs (nI (5 * jx) + 2).toNatClampNeg = a2) (hs3 : vp_in (nI (5 * jx) + 3) L ∧ xs (nI (5 * jx) + 3).toNatClampNeg = a3) (hs4 : vp_in (nI (5 * jx) + 4) L ∧ xs (nI (5 * jx) + 4).toNatClampNeg = a4) {u : sS} {x pa sp ln rf sb m pn td ou : Nat} {th : Int32} {on : Int64} {Mw : zM} (hI : s_LX (z_G X) x pa sp ln rf sb m pn td ou u u th on Mw) (hok : s_ok jx u) (hj : jx < 64) {kq nq : Nat} (hkq : kq + 4000 ≤ 600128) (hnq : nq + 60000 ≤ 7301098) (kk : ∀ v th on Mz, s_LX (z_G X) x pa sp ln rf sb m pn td ou v v th on Mz → s_ok (jx + 1) v → z_W X Mz (kq + 4000) (nq + 60000) 27 [(4, .int (nI (5 * (jx + 1)))), (0, .ref b), (1, .ref x), (2, .ref m), (3, .ref ou)] []) : z_W X Mw kq nq 1325 [(4, .int (nI (5 * jx))), (0, .ref b), (1, .ref x), (2, .ref m), (3, .ref ou)] [] := by
  refine z_aload_n C dL_law_1325 rfl 2 rfl ?_
  refine z_aload_n C dL_law_1326 rfl 1 rfl ?_
  refine z_iload C dL_law_1327 0 rfl ?_
  refine z_iconst C (v := 1) dL_law_1329 (by decide) ?_
  refine z_iadd C dL_law_1330 ?_
  refine z_sld C hX hbl hbA hs1.1 hs1.2 dL_law_1331 ?_
  refine z_aload_n C dL_law_1332 rfl 4 rfl ?_
  refine z_callHi (rest := []) (k' := kq + 8) (n' := nq + 48) C (s_LX_P hI (fun hC9 hd9 ho9 => w_pop (z_l X) h_st hC9 hd9 ho9 hok a1)) (ch_pop C ⟨Nat.le_of_ble_eq_true rfl, Nat.le_of_ble_eq_true rfl⟩) rfl rfl (Nat.le_of_ble_eq_true rfl) rfl rfl (by show _ ≤ 600128; omega) (by show _ ≤ 7301098; omega) dL_law_1333 (fun xk M1 hq => ?_)
  obtain ⟨hk1, on1, hI1, ho1⟩ := hq
  refine z_istore (lv' := [(5, .int xk), (4, .int (nI (5 * jx))), (0, .ref b), (1, .ref x), (2, .ref m), (3, .ref ou)]) C dL_law_1336 (by decide) rfl ?_
  refine z_aload_n C dL_law_1338 rfl 4 rfl ?_
  refine z_aload_n C dL_law_1339 rfl 2 rfl ?_
  refine z_iload C dL_law_1340 1 rfl ?_
  refine z_iconst C (v := 1) dL_law_1342 (by decide) ?_
  refine z_iadd C dL_law_1343 ?_
  refine z_sld C hX hbl hbA hs1.1 hs1.2 dL_law_1344 ?_
  obtain ⟨tp9, hm9⟩ := s_LX_m hI1
  refine z_callVi (rest := []) (k' := kq + 8) (n' := nq + 48) C (s_LX_R hI1 (fun hR9 => a_X5_pop (z_l X) hR9 hok (by omega) a1)) (cs_L_234 C ⟨Nat.le_of_ble_eq_true rfl, Nat.le_of_ble_eq_true rfl⟩) hm9 rfl rfl rfl rfl (Nat.le_of_ble_eq_true rfl) rfl rfl (by show _ ≤ 600128; omega) (by show _ ≤ 7301098; omega) dL_law_1345 (fun xr M2 hq => ?_)
  obtain ⟨hI2, hr2⟩ := hq
  refine z_istore (lv' := [(6, .int xr), (5, .int xk), (4, .int (nI (5 * jx))), (0, .ref b), (1, .ref x), (2, .ref m), (3, .ref ou)]) C dL_law_1348 (by decide) rfl ?_
  refine z_goto C (tgt := 1757) dL_law_1350 (by decide) ?_
  refine z_iinc (v := nI (5 * (jx + 1))) (lv' := [(4, .int (nI (5 * (jx + 1)))), (6, .int xr), (5, .int xk), (0, .ref b), (1, .ref x), (2, .ref m), (3, .ref ou)]) C dL_law_1757 2 rfl (j_inc5 jx) (by decide) rfl ?_
  refine z_goto C (tgt := 27) dL_law_1760 (by decide) ?_
  refine z_fewer [0, 3, 4, 5, 6] rfl ?_
  refine z_widen (k' := kq + 4000) (n' := nq + 60000) (by omega) (by omega) ?_
  exact kk _ _ _ _ hI2 (so_pop hok)
set_option maxRecDepth 20000 in
theorem lc_ofPane {X : zX} (C : z_C X cL_law RL 7 room_1) (h_st : (z_l X).stackTraces = false) {b L : Nat} {xs : Nat → Int32} (hX : va_X b L xs (z_s X) (z_s X).heap) (hbl : b < (z_s X).heap.size) (hbA : ¬ z_F X b) {jx : Nat} {a1 a2 a3 a4 : Int32} (hs1 : vp_in (nI (5 * jx) + 1) L ∧ xs (nI (5 * jx) + 1).toNatClampNeg = a1) (hs2 : vp_in (nI (5 * jx) + 2) L ∧ xs (nI (5 * jx) + 2).toNatClampNeg = a2) (hs3 : vp_in (nI (5 * jx) + 3) L ∧ xs (nI (5 * jx) + 3).toNatClampNeg = a3) (hs4 : vp_in (nI (5 * jx) + 4) L ∧ xs (nI (5 * jx) + 4).toNatClampNeg = a4) {u : sS} {x pa sp ln rf sb m pn td ou : Nat} {th : Int32} {on : Int64} {Mw : zM} (hI : s_LX (z_G X) x pa sp ln rf sb m pn td ou u u th on Mw) (hok : s_ok jx u) (hj : jx < 64) {kq nq : Nat} (hkq : kq + 4000 ≤ 600128) (hnq : nq + 60000 ≤ 7301098) (kk : ∀ v th on Mz, s_LX (z_G X) x pa sp ln rf sb m pn td ou v v th on Mz → s_ok (jx + 1) v → z_W X Mz (kq + 4000) (nq + 60000) 27 [(4, .int (nI (5 * (jx + 1)))), (0, .ref b), (1, .ref x), (2, .ref m), (3, .ref ou)] []) : z_W X Mw kq nq 1353 [(4, .int (nI (5 * jx))), (0, .ref b), (1, .ref x), (2, .ref m), (3, .ref ou)] [] := by
  refine z_aload_n C dL_law_1353 rfl 2 rfl ?_
  refine z_aload_n C dL_law_1354 rfl 1 rfl ?_
  refine z_iload C dL_law_1355 0 rfl ?_
  refine z_iconst C (v := 1) dL_law_1357 (by decide) ?_
  refine z_iadd C dL_law_1358 ?_
  refine z_sld C hX hbl hbA hs1.1 hs1.2 dL_law_1359 ?_
  refine z_aload_n C dL_law_1360 rfl 1 rfl ?_
  refine z_iload C dL_law_1361 0 rfl ?_
  refine z_iconst C (v := 2) dL_law_1363 (by decide) ?_
  refine z_iadd C dL_law_1364 ?_
  refine z_sld C hX hbl hbA hs2.1 hs2.2 dL_law_1365 ?_
  refine z_aload_n C dL_law_1366 rfl 4 rfl ?_
  refine z_callHi (rest := []) (k' := kq + 8) (n' := nq + 48) C (s_LX_P hI (fun hC9 hd9 ho9 => w_ofPane (z_l X) h_st hC9 hd9 ho9 hok a1 a2)) (ch_ofPane C ⟨Nat.le_of_ble_eq_true rfl, Nat.le_of_ble_eq_true rfl⟩) rfl rfl (Nat.le_of_ble_eq_true rfl) rfl rfl (by show _ ≤ 600128; omega) (by show _ ≤ 7301098; omega) dL_law_1367 (fun xk M1 hq => ?_)
  obtain ⟨hk1, on1, hI1, ho1⟩ := hq
  refine z_istore (lv' := [(5, .int xk), (4, .int (nI (5 * jx))), (0, .ref b), (1, .ref x), (2, .ref m), (3, .ref ou)]) C dL_law_1370 (by decide) rfl ?_
  refine z_aload_n C dL_law_1372 rfl 4 rfl ?_
  refine z_aload_n C dL_law_1373 rfl 2 rfl ?_
  refine z_iload C dL_law_1374 1 rfl ?_
  refine z_iconst C (v := 1) dL_law_1376 (by decide) ?_
  refine z_iadd C dL_law_1377 ?_
  refine z_sld C hX hbl hbA hs1.1 hs1.2 dL_law_1378 ?_
  refine z_aload_n C dL_law_1379 rfl 2 rfl ?_
  refine z_iload C dL_law_1380 1 rfl ?_
  refine z_iconst C (v := 2) dL_law_1382 (by decide) ?_
  refine z_iadd C dL_law_1383 ?_
  refine z_sld C hX hbl hbA hs2.1 hs2.2 dL_law_1384 ?_
  obtain ⟨tp9, hm9⟩ := s_LX_m hI1
  refine z_callVi (rest := []) (k' := kq + 8 + 1) (n' := nq + 48 + 10) C (s_LX_R hI1 (fun hR9 => a_X5_ofPane (z_l X) hR9 hok (by omega) a1 a2)) (cs_L_237 C ⟨Nat.le_of_ble_eq_true rfl, Nat.le_of_ble_eq_true rfl⟩) hm9 rfl rfl rfl rfl (Nat.le_of_ble_eq_true rfl) rfl rfl (by show _ ≤ 600128; omega) (by show _ ≤ 7301098; omega) dL_law_1385 (fun xr M2 hq => ?_)
  obtain ⟨hI2, hr2⟩ := hq
  refine z_istore (lv' := [(6, .int xr), (5, .int xk), (4, .int (nI (5 * jx))), (0, .ref b), (1, .ref x), (2, .ref m), (3, .ref ou)]) C dL_law_1388 (by decide) rfl ?_
  refine z_goto C (tgt := 1757) dL_law_1390 (by decide) ?_
  refine z_iinc (v := nI (5 * (jx + 1))) (lv' := [(4, .int (nI (5 * (jx + 1)))), (6, .int xr), (5, .int xk), (0, .ref b), (1, .ref x), (2, .ref m), (3, .ref ou)]) C dL_law_1757 2 rfl (j_inc5 jx) (by decide) rfl ?_
  refine z_goto C (tgt := 27) dL_law_1760 (by decide) ?_
  refine z_fewer [0, 3, 4, 5, 6] rfl ?_
  refine z_widen (k' := kq + 4000) (n' := nq + 60000) (by omega) (by omega) ?_
  exact kk _ _ _ _ hI2 (so_ofPane hok)
set_option maxRecDepth 20000 in
theorem lc_at {X : zX} (C : z_C X cL_law RL 7 room_1) (h_st : (z_l X).stackTraces = false) {b L : Nat} {xs : Nat → Int32} (hX : va_X b L xs (z_s X) (z_s X).heap) (hbl : b < (z_s X).heap.size) (hbA : ¬ z_F X b) {jx : Nat} {a1 a2 a3 a4 : Int32} (hs1 : vp_in (nI (5 * jx) + 1) L ∧ xs (nI (5 * jx) + 1).toNatClampNeg = a1) (hs2 : vp_in (nI (5 * jx) + 2) L ∧ xs (nI (5 * jx) + 2).toNatClampNeg = a2) (hs3 : vp_in (nI (5 * jx) + 3) L ∧ xs (nI (5 * jx) + 3).toNatClampNeg = a3) (hs4 : vp_in (nI (5 * jx) + 4) L ∧ xs (nI (5 * jx) + 4).toNatClampNeg = a4) {u : sS} {x pa sp ln rf sb m pn td ou : Nat} {th : Int32} {on : Int64} {Mw : zM} (hI : s_LX (z_G X) x pa sp ln rf sb m pn td ou u u th on Mw) (hok : s_ok jx u) (hj : jx < 64) {kq nq : Nat} (hkq : kq + 4000 ≤ 600128) (hnq : nq + 60000 ≤ 7301098) (kk : ∀ v th on Mz, s_LX (z_G X) x pa sp ln rf sb m pn td ou v v th on Mz → s_ok (jx + 1) v → z_W X Mz (kq + 4000) (nq + 60000) 27 [(4, .int (nI (5 * (jx + 1)))), (0, .ref b), (1, .ref x), (2, .ref m), (3, .ref ou)] []) : z_W X Mw kq nq 1393 [(4, .int (nI (5 * jx))), (0, .ref b), (1, .ref x), (2, .ref m), (3, .ref ou)] [] := by
  refine z_aload_n C dL_law_1393 rfl 2 rfl ?_
  refine z_aload_n C dL_law_1394 rfl 1 rfl ?_
  refine z_iload C dL_law_1395 0 rfl ?_
  refine z_iconst C (v := 1) dL_law_1397 (by decide) ?_
  refine z_iadd C dL_law_1398 ?_
  refine z_sld C hX hbl hbA hs1.1 hs1.2 dL_law_1399 ?_
  refine z_aload_n C dL_law_1400 rfl 1 rfl ?_
  refine z_iload C dL_law_1401 0 rfl ?_
  refine z_iconst C (v := 2) dL_law_1403 (by decide) ?_
  refine z_iadd C dL_law_1404 ?_
  refine z_sld C hX hbl hbA hs2.1 hs2.2 dL_law_1405 ?_
  refine z_aload_n C dL_law_1406 rfl 4 rfl ?_
  refine z_callHi (rest := []) (k' := kq + 8) (n' := nq + 48) C (s_LX_P hI (fun hC9 hd9 ho9 => w_at (z_l X) h_st hC9 hd9 ho9 hok a1 a2)) (ch_at C ⟨Nat.le_of_ble_eq_true rfl, Nat.le_of_ble_eq_true rfl⟩) rfl rfl (Nat.le_of_ble_eq_true rfl) rfl rfl (by show _ ≤ 600128; omega) (by show _ ≤ 7301098; omega) dL_law_1407 (fun xk M1 hq => ?_)
  obtain ⟨hk1, on1, hI1, ho1⟩ := hq
  refine z_istore (lv' := [(5, .int xk), (4, .int (nI (5 * jx))), (0, .ref b), (1, .ref x), (2, .ref m), (3, .ref ou)]) C dL_law_1410 (by decide) rfl ?_
  refine z_aload_n C dL_law_1412 rfl 4 rfl ?_
  refine z_aload_n C dL_law_1413 rfl 2 rfl ?_
  refine z_iload C dL_law_1414 1 rfl ?_
  refine z_iconst C (v := 1) dL_law_1416 (by decide) ?_
  refine z_iadd C dL_law_1417 ?_
  refine z_sld C hX hbl hbA hs1.1 hs1.2 dL_law_1418 ?_
  refine z_aload_n C dL_law_1419 rfl 2 rfl ?_
  refine z_iload C dL_law_1420 1 rfl ?_
  refine z_iconst C (v := 2) dL_law_1422 (by decide) ?_
  refine z_iadd C dL_law_1423 ?_
  refine z_sld C hX hbl hbA hs2.1 hs2.2 dL_law_1424 ?_
  obtain ⟨tp9, hm9⟩ := s_LX_m hI1
  refine z_callVi (rest := []) (k' := kq + 8) (n' := nq + 48) C (s_LX_R hI1 (fun hR9 => a_X5_at (z_l X) hR9 hok (by omega) a1 a2)) (cs_L_240 C ⟨Nat.le_of_ble_eq_true rfl, Nat.le_of_ble_eq_true rfl⟩) hm9 rfl rfl rfl rfl (Nat.le_of_ble_eq_true rfl) rfl rfl (by show _ ≤ 600128; omega) (by show _ ≤ 7301098; omega) dL_law_1425 (fun xr M2 hq => ?_)
  obtain ⟨hI2, hr2⟩ := hq
  refine z_istore (lv' := [(6, .int xr), (5, .int xk), (4, .int (nI (5 * jx))), (0, .ref b), (1, .ref x), (2, .ref m), (3, .ref ou)]) C dL_law_1428 (by decide) rfl ?_
  refine z_goto C (tgt := 1757) dL_law_1430 (by decide) ?_
  refine z_iinc (v := nI (5 * (jx + 1))) (lv' := [(4, .int (nI (5 * (jx + 1)))), (6, .int xr), (5, .int xk), (0, .ref b), (1, .ref x), (2, .ref m), (3, .ref ou)]) C dL_law_1757 2 rfl (j_inc5 jx) (by decide) rfl ?_
  refine z_goto C (tgt := 27) dL_law_1760 (by decide) ?_
  refine z_fewer [0, 3, 4, 5, 6] rfl ?_
  refine z_widen (k' := kq + 4000) (n' := nq + 60000) (by omega) (by omega) ?_
  exact kk _ _ _ _ hI2 (so_at hok)
set_option maxRecDepth 20000 in
theorem lc_peek {X : zX} (C : z_C X cL_law RL 7 room_1) (h_st : (z_l X).stackTraces = false) {b L : Nat} {xs : Nat → Int32} (hX : va_X b L xs (z_s X) (z_s X).heap) (hbl : b < (z_s X).heap.size) (hbA : ¬ z_F X b) {jx : Nat} {a1 a2 a3 a4 : Int32} (hs1 : vp_in (nI (5 * jx) + 1) L ∧ xs (nI (5 * jx) + 1).toNatClampNeg = a1) (hs2 : vp_in (nI (5 * jx) + 2) L ∧ xs (nI (5 * jx) + 2).toNatClampNeg = a2) (hs3 : vp_in (nI (5 * jx) + 3) L ∧ xs (nI (5 * jx) + 3).toNatClampNeg = a3) (hs4 : vp_in (nI (5 * jx) + 4) L ∧ xs (nI (5 * jx) + 4).toNatClampNeg = a4) {u : sS} {x pa sp ln rf sb m pn td ou : Nat} {th : Int32} {on : Int64} {Mw : zM} (hI : s_LX (z_G X) x pa sp ln rf sb m pn td ou u u th on Mw) (hok : s_ok jx u) (hj : jx < 64) {kq nq : Nat} (hkq : kq + 4000 ≤ 600128) (hnq : nq + 60000 ≤ 7301098) (kk : ∀ v th on Mz, s_LX (z_G X) x pa sp ln rf sb m pn td ou v v th on Mz → s_ok (jx + 1) v → z_W X Mz (kq + 4000) (nq + 60000) 27 [(4, .int (nI (5 * (jx + 1)))), (0, .ref b), (1, .ref x), (2, .ref m), (3, .ref ou)] []) : z_W X Mw kq nq 1433 [(4, .int (nI (5 * jx))), (0, .ref b), (1, .ref x), (2, .ref m), (3, .ref ou)] [] := by
  refine z_aload_n C dL_law_1433 rfl 2 rfl ?_
  refine z_aload_n C dL_law_1434 rfl 1 rfl ?_
  refine z_iload C dL_law_1435 0 rfl ?_
  refine z_iconst C (v := 1) dL_law_1437 (by decide) ?_
  refine z_iadd C dL_law_1438 ?_
  refine z_sld C hX hbl hbA hs1.1 hs1.2 dL_law_1439 ?_
  refine z_aload_n C dL_law_1440 rfl 4 rfl ?_
  refine z_callHi (rest := []) (k' := kq + 8) (n' := nq + 48) C (s_LX_P hI (fun hC9 hd9 ho9 => w_peek (z_l X) h_st hC9 hd9 ho9 hok a1)) (ch_peek C ⟨Nat.le_of_ble_eq_true rfl, Nat.le_of_ble_eq_true rfl⟩) rfl rfl (Nat.le_of_ble_eq_true rfl) rfl rfl (by show _ ≤ 600128; omega) (by show _ ≤ 7301098; omega) dL_law_1441 (fun xk M1 hq => ?_)
  obtain ⟨hk1, on1, hI1, ho1⟩ := hq
  refine z_istore (lv' := [(5, .int xk), (4, .int (nI (5 * jx))), (0, .ref b), (1, .ref x), (2, .ref m), (3, .ref ou)]) C dL_law_1444 (by decide) rfl ?_
  refine z_aload_n C dL_law_1446 rfl 4 rfl ?_
  refine z_aload_n C dL_law_1447 rfl 2 rfl ?_
  refine z_iload C dL_law_1448 1 rfl ?_
  refine z_iconst C (v := 1) dL_law_1450 (by decide) ?_
  refine z_iadd C dL_law_1451 ?_
  refine z_sld C hX hbl hbA hs1.1 hs1.2 dL_law_1452 ?_
  obtain ⟨tp9, hm9⟩ := s_LX_m hI1
  refine z_callVi (rest := []) (k' := kq + 8) (n' := nq + 48) C (s_LX_R hI1 (fun hR9 => a_X5_peek (z_l X) hR9 hok (by omega) a1)) (cs_L_243 C ⟨Nat.le_of_ble_eq_true rfl, Nat.le_of_ble_eq_true rfl⟩) hm9 rfl rfl rfl rfl (Nat.le_of_ble_eq_true rfl) rfl rfl (by show _ ≤ 600128; omega) (by show _ ≤ 7301098; omega) dL_law_1453 (fun xr M2 hq => ?_)
  obtain ⟨hI2, hr2⟩ := hq
  refine z_istore (lv' := [(6, .int xr), (5, .int xk), (4, .int (nI (5 * jx))), (0, .ref b), (1, .ref x), (2, .ref m), (3, .ref ou)]) C dL_law_1456 (by decide) rfl ?_
  refine z_goto C (tgt := 1757) dL_law_1458 (by decide) ?_
  refine z_iinc (v := nI (5 * (jx + 1))) (lv' := [(4, .int (nI (5 * (jx + 1)))), (6, .int xr), (5, .int xk), (0, .ref b), (1, .ref x), (2, .ref m), (3, .ref ou)]) C dL_law_1757 2 rfl (j_inc5 jx) (by decide) rfl ?_
  refine z_goto C (tgt := 27) dL_law_1760 (by decide) ?_
  refine z_fewer [0, 3, 4, 5, 6] rfl ?_
  refine z_widen (k' := kq + 4000) (n' := nq + 60000) (by omega) (by omega) ?_
  exact kk _ _ _ _ hI2 (so_peek hok)
set_option maxRecDepth 20000 in
theorem lc_total {X : zX} (C : z_C X cL_law RL 7 room_1) (h_st : (z_l X).stackTraces = false) {b L : Nat} {xs : Nat → Int32} (hX : va_X b L xs (z_s X) (z_s X).heap) (hbl : b < (z_s X).heap.size) (hbA : ¬ z_F X b) {jx : Nat} {a1 a2 a3 a4 : Int32} (hs1 : vp_in (nI (5 * jx) + 1) L ∧ xs (nI (5 * jx) + 1).toNatClampNeg = a1) (hs2 : vp_in (nI (5 * jx) + 2) L ∧ xs (nI (5 * jx) + 2).toNatClampNeg = a2) (hs3 : vp_in (nI (5 * jx) + 3) L ∧ xs (nI (5 * jx) + 3).toNatClampNeg = a3) (hs4 : vp_in (nI (5 * jx) + 4) L ∧ xs (nI (5 * jx) + 4).toNatClampNeg = a4) {u : sS} {x pa sp ln rf sb m pn td ou : Nat} {th : Int32} {on : Int64} {Mw : zM} (hI : s_LX (z_G X) x pa sp ln rf sb m pn td ou u u th on Mw) (hok : s_ok jx u) (hj : jx < 64) {kq nq : Nat} (hkq : kq + 4000 ≤ 600128) (hnq : nq + 60000 ≤ 7301098) (kk : ∀ v th on Mz, s_LX (z_G X) x pa sp ln rf sb m pn td ou v v th on Mz → s_ok (jx + 1) v → z_W X Mz (kq + 4000) (nq + 60000) 27 [(4, .int (nI (5 * (jx + 1)))), (0, .ref b), (1, .ref x), (2, .ref m), (3, .ref ou)] []) : z_W X Mw kq nq 1461 [(4, .int (nI (5 * jx))), (0, .ref b), (1, .ref x), (2, .ref m), (3, .ref ou)] [] := by
  refine z_aload_n C dL_law_1461 rfl 2 rfl ?_
  refine z_aload_n C dL_law_1462 rfl 1 rfl ?_
  refine z_iload C dL_law_1463 0 rfl ?_
  refine z_iconst C (v := 1) dL_law_1465 (by decide) ?_
  refine z_iadd C dL_law_1466 ?_
  refine z_sld C hX hbl hbA hs1.1 hs1.2 dL_law_1467 ?_
  refine z_aload_n C dL_law_1468 rfl 4 rfl ?_
  refine z_callHi (rest := []) (k' := kq + 40) (n' := nq + 1500) C (s_LX_T hI (fun hC9 hd9 ho9 => w_total (z_l X) h_st hC9 hd9 ho9 hok a1)) (ch_total C ⟨Nat.le_of_ble_eq_true rfl, Nat.le_of_ble_eq_true rfl⟩) rfl rfl (Nat.le_of_ble_eq_true rfl) rfl rfl (by show _ ≤ 600128; omega) (by show _ ≤ 7301098; omega) dL_law_1469 (fun xk M1 hq => ?_)
  obtain ⟨hk1, on1, hI1⟩ := hq
  refine z_istore (lv' := [(5, .int xk), (4, .int (nI (5 * jx))), (0, .ref b), (1, .ref x), (2, .ref m), (3, .ref ou)]) C dL_law_1472 (by decide) rfl ?_
  refine z_aload_n C dL_law_1474 rfl 4 rfl ?_
  refine z_aload_n C dL_law_1475 rfl 2 rfl ?_
  refine z_iload C dL_law_1476 1 rfl ?_
  refine z_iconst C (v := 1) dL_law_1478 (by decide) ?_
  refine z_iadd C dL_law_1479 ?_
  refine z_sld C hX hbl hbA hs1.1 hs1.2 dL_law_1480 ?_
  obtain ⟨tp9, hm9⟩ := s_LX_m hI1
  refine z_callVr (rest := []) (k' := kq + 40 + 40) (n' := nq + 1500 + 1500) C (s_LX_RT hI1 (fun hR9 => a_X5_total (z_l X) hR9 hok (by omega) a1)) (cs_L_246 C ⟨Nat.le_of_ble_eq_true rfl, Nat.le_of_ble_eq_true rfl⟩) hm9 rfl rfl rfl rfl (Nat.le_of_ble_eq_true rfl) rfl rfl (by show _ ≤ 600128; omega) (by show _ ≤ 7301098; omega) dL_law_1481 (fun xr M2 hq => ?_)
  have hI2 := hq
  refine z_astore (lv' := [(6, .ref xr), (5, .int xk), (4, .int (nI (5 * jx))), (0, .ref b), (1, .ref x), (2, .ref m), (3, .ref ou)]) C dL_law_1484 (by decide) rfl ?_
  refine z_goto C (tgt := 1757) dL_law_1486 (by decide) ?_
  refine z_iinc (v := nI (5 * (jx + 1))) (lv' := [(4, .int (nI (5 * (jx + 1)))), (6, .ref xr), (5, .int xk), (0, .ref b), (1, .ref x), (2, .ref m), (3, .ref ou)]) C dL_law_1757 2 rfl (j_inc5 jx) (by decide) rfl ?_
  refine z_goto C (tgt := 27) dL_law_1760 (by decide) ?_
  refine z_fewer [0, 3, 4, 5, 6] rfl ?_
  refine z_widen (k' := kq + 4000) (n' := nq + 60000) (by omega) (by omega) ?_
  exact kk _ _ _ _ hI2 (s_ok_mono hok (Nat.le_succ _))
set_option maxRecDepth 20000 in
theorem lc_text {X : zX} (C : z_C X cL_law RL 7 room_1) (h_st : (z_l X).stackTraces = false) {b L : Nat} {xs : Nat → Int32} (hX : va_X b L xs (z_s X) (z_s X).heap) (hbl : b < (z_s X).heap.size) (hbA : ¬ z_F X b) {jx : Nat} {a1 a2 a3 a4 : Int32} (hs1 : vp_in (nI (5 * jx) + 1) L ∧ xs (nI (5 * jx) + 1).toNatClampNeg = a1) (hs2 : vp_in (nI (5 * jx) + 2) L ∧ xs (nI (5 * jx) + 2).toNatClampNeg = a2) (hs3 : vp_in (nI (5 * jx) + 3) L ∧ xs (nI (5 * jx) + 3).toNatClampNeg = a3) (hs4 : vp_in (nI (5 * jx) + 4) L ∧ xs (nI (5 * jx) + 4).toNatClampNeg = a4) {u : sS} {x pa sp ln rf sb m pn td ou : Nat} {th : Int32} {on : Int64} {Mw : zM} (hI : s_LX (z_G X) x pa sp ln rf sb m pn td ou u u th on Mw) (hok : s_ok jx u) (hj : jx < 64) {kq nq : Nat} (hkq : kq + 4000 ≤ 600128) (hnq : nq + 60000 ≤ 7301098) (kk : ∀ v th on Mz, s_LX (z_G X) x pa sp ln rf sb m pn td ou v v th on Mz → s_ok (jx + 1) v → z_W X Mz (kq + 4000) (nq + 60000) 27 [(4, .int (nI (5 * (jx + 1)))), (0, .ref b), (1, .ref x), (2, .ref m), (3, .ref ou)] []) : z_W X Mw kq nq 1489 [(4, .int (nI (5 * jx))), (0, .ref b), (1, .ref x), (2, .ref m), (3, .ref ou)] [] := by
  refine z_aload_n C dL_law_1489 rfl 2 rfl ?_
  refine z_aload_n C dL_law_1490 rfl 1 rfl ?_
  refine z_iload C dL_law_1491 0 rfl ?_
  refine z_iconst C (v := 1) dL_law_1493 (by decide) ?_
  refine z_iadd C dL_law_1494 ?_
  refine z_sld C hX hbl hbA hs1.1 hs1.2 dL_law_1495 ?_
  refine z_aload_n C dL_law_1496 rfl 4 rfl ?_
  refine z_callHi (rest := []) (k' := kq + 40) (n' := nq + 1500) C (s_LX_T hI (fun hC9 hd9 ho9 => w_text (z_l X) h_st hC9 hd9 ho9 hok a1)) (ch_text C ⟨Nat.le_of_ble_eq_true rfl, Nat.le_of_ble_eq_true rfl⟩) rfl rfl (Nat.le_of_ble_eq_true rfl) rfl rfl (by show _ ≤ 600128; omega) (by show _ ≤ 7301098; omega) dL_law_1497 (fun xk M1 hq => ?_)
  obtain ⟨hk1, on1, hI1⟩ := hq
  refine z_istore (lv' := [(5, .int xk), (4, .int (nI (5 * jx))), (0, .ref b), (1, .ref x), (2, .ref m), (3, .ref ou)]) C dL_law_1500 (by decide) rfl ?_
  refine z_aload_n C dL_law_1502 rfl 4 rfl ?_
  refine z_aload_n C dL_law_1503 rfl 2 rfl ?_
  refine z_iload C dL_law_1504 1 rfl ?_
  refine z_iconst C (v := 1) dL_law_1506 (by decide) ?_
  refine z_iadd C dL_law_1507 ?_
  refine z_sld C hX hbl hbA hs1.1 hs1.2 dL_law_1508 ?_
  obtain ⟨tp9, hm9⟩ := s_LX_m hI1
  refine z_callVr (rest := []) (k' := kq + 40 + 40) (n' := nq + 1500 + 1500) C (s_LX_RT hI1 (fun hR9 => a_X5_text (z_l X) hR9 hok (by omega) a1)) (cs_L_249 C ⟨Nat.le_of_ble_eq_true rfl, Nat.le_of_ble_eq_true rfl⟩) hm9 rfl rfl rfl rfl (Nat.le_of_ble_eq_true rfl) rfl rfl (by show _ ≤ 600128; omega) (by show _ ≤ 7301098; omega) dL_law_1509 (fun xr M2 hq => ?_)
  have hI2 := hq
  refine z_astore (lv' := [(6, .ref xr), (5, .int xk), (4, .int (nI (5 * jx))), (0, .ref b), (1, .ref x), (2, .ref m), (3, .ref ou)]) C dL_law_1512 (by decide) rfl ?_
  refine z_goto C (tgt := 1757) dL_law_1514 (by decide) ?_
  refine z_iinc (v := nI (5 * (jx + 1))) (lv' := [(4, .int (nI (5 * (jx + 1)))), (6, .ref xr), (5, .int xk), (0, .ref b), (1, .ref x), (2, .ref m), (3, .ref ou)]) C dL_law_1757 2 rfl (j_inc5 jx) (by decide) rfl ?_
  refine z_goto C (tgt := 27) dL_law_1760 (by decide) ?_
  refine z_fewer [0, 3, 4, 5, 6] rfl ?_
  refine z_widen (k' := kq + 4000) (n' := nq + 60000) (by omega) (by omega) ?_
  exact kk _ _ _ _ hI2 (s_ok_mono hok (Nat.le_succ _))
set_option maxRecDepth 20000 in
theorem lc_whole {X : zX} (C : z_C X cL_law RL 7 room_1) (h_st : (z_l X).stackTraces = false) {b L : Nat} {xs : Nat → Int32} (hX : va_X b L xs (z_s X) (z_s X).heap) (hbl : b < (z_s X).heap.size) (hbA : ¬ z_F X b) {jx : Nat} {a1 a2 a3 a4 : Int32} (hs1 : vp_in (nI (5 * jx) + 1) L ∧ xs (nI (5 * jx) + 1).toNatClampNeg = a1) (hs2 : vp_in (nI (5 * jx) + 2) L ∧ xs (nI (5 * jx) + 2).toNatClampNeg = a2) (hs3 : vp_in (nI (5 * jx) + 3) L ∧ xs (nI (5 * jx) + 3).toNatClampNeg = a3) (hs4 : vp_in (nI (5 * jx) + 4) L ∧ xs (nI (5 * jx) + 4).toNatClampNeg = a4) {u : sS} {x pa sp ln rf sb m pn td ou : Nat} {th : Int32} {on : Int64} {Mw : zM} (hI : s_LX (z_G X) x pa sp ln rf sb m pn td ou u u th on Mw) (hok : s_ok jx u) (hj : jx < 64) {kq nq : Nat} (hkq : kq + 4000 ≤ 600128) (hnq : nq + 60000 ≤ 7301098) (kk : ∀ v th on Mz, s_LX (z_G X) x pa sp ln rf sb m pn td ou v v th on Mz → s_ok (jx + 1) v → z_W X Mz (kq + 4000) (nq + 60000) 27 [(4, .int (nI (5 * (jx + 1)))), (0, .ref b), (1, .ref x), (2, .ref m), (3, .ref ou)] []) : z_W X Mw kq nq 1517 [(4, .int (nI (5 * jx))), (0, .ref b), (1, .ref x), (2, .ref m), (3, .ref ou)] [] := by
  refine z_aload_n C dL_law_1517 rfl 2 rfl ?_
  refine z_aload_n C dL_law_1518 rfl 1 rfl ?_
  refine z_iload C dL_law_1519 0 rfl ?_
  refine z_iconst C (v := 1) dL_law_1521 (by decide) ?_
  refine z_iadd C dL_law_1522 ?_
  refine z_sld C hX hbl hbA hs1.1 hs1.2 dL_law_1523 ?_
  refine z_aload_n C dL_law_1524 rfl 4 rfl ?_
  refine z_callHi (rest := []) (k' := kq + 40) (n' := nq + 1500) C (s_LX_T hI (fun hC9 hd9 ho9 => w_whole (z_l X) h_st hC9 hd9 ho9 hok a1)) (ch_whole C ⟨Nat.le_of_ble_eq_true rfl, Nat.le_of_ble_eq_true rfl⟩) rfl rfl (Nat.le_of_ble_eq_true rfl) rfl rfl (by show _ ≤ 600128; omega) (by show _ ≤ 7301098; omega) dL_law_1525 (fun xk M1 hq => ?_)
  obtain ⟨hk1, on1, hI1⟩ := hq
  refine z_istore (lv' := [(5, .int xk), (4, .int (nI (5 * jx))), (0, .ref b), (1, .ref x), (2, .ref m), (3, .ref ou)]) C dL_law_1528 (by decide) rfl ?_
  refine z_aload_n C dL_law_1530 rfl 4 rfl ?_
  refine z_aload_n C dL_law_1531 rfl 2 rfl ?_
  refine z_iload C dL_law_1532 1 rfl ?_
  refine z_iconst C (v := 1) dL_law_1534 (by decide) ?_
  refine z_iadd C dL_law_1535 ?_
  refine z_sld C hX hbl hbA hs1.1 hs1.2 dL_law_1536 ?_
  obtain ⟨tp9, hm9⟩ := s_LX_m hI1
  refine z_callVr (rest := []) (k' := kq + 40 + 40) (n' := nq + 1500 + 1500) C (s_LX_RT hI1 (fun hR9 => a_X5_whole (z_l X) hR9 hok (by omega) a1)) (cs_L_252 C ⟨Nat.le_of_ble_eq_true rfl, Nat.le_of_ble_eq_true rfl⟩) hm9 rfl rfl rfl rfl (Nat.le_of_ble_eq_true rfl) rfl rfl (by show _ ≤ 600128; omega) (by show _ ≤ 7301098; omega) dL_law_1537 (fun xr M2 hq => ?_)
  have hI2 := hq
  refine z_astore (lv' := [(6, .ref xr), (5, .int xk), (4, .int (nI (5 * jx))), (0, .ref b), (1, .ref x), (2, .ref m), (3, .ref ou)]) C dL_law_1540 (by decide) rfl ?_
  refine z_goto C (tgt := 1757) dL_law_1542 (by decide) ?_
  refine z_iinc (v := nI (5 * (jx + 1))) (lv' := [(4, .int (nI (5 * (jx + 1)))), (6, .ref xr), (5, .int xk), (0, .ref b), (1, .ref x), (2, .ref m), (3, .ref ou)]) C dL_law_1757 2 rfl (j_inc5 jx) (by decide) rfl ?_
  refine z_goto C (tgt := 27) dL_law_1760 (by decide) ?_
  refine z_fewer [0, 3, 4, 5, 6] rfl ?_
  refine z_widen (k' := kq + 4000) (n' := nq + 60000) (by omega) (by omega) ?_
  exact kk _ _ _ _ hI2 (s_ok_mono hok (Nat.le_succ _))
end
section
/-! PART 70: the law's cases -/
theorem dbL_law_1545 : (decode cL_law 1545 = .ok (.aload_n 1, 1)) ∧ (decode cL_law 1546 = .ok (.invokevirtual 253, 3)) ∧ (decode cL_law 1549 = .ok (.pop, 1)) ∧ (decode cL_law 1550 = .ok (.aload_n 2, 1)) ∧ (decode cL_law 1551 = .ok (.invokevirtual 257, 3)) ∧ (decode cL_law 1554 = .ok (.pop, 1)) ∧ (decode cL_law 1555 = .ok (.goto 202, 3)) ∧ (decode cL_law 1558 = .ok (.aload_n 1, 1)) ∧ (decode cL_law 1559 = .ok (.aload_n 0, 1)) ∧ (decode cL_law 1560 = .ok (.iload 4, 2)) := by decide +kernel
theorem dL_law_1545 : decode cL_law 1545 = .ok (.aload_n 1, 1) := dbL_law_1545.1
theorem dL_law_1546 : decode cL_law 1546 = .ok (.invokevirtual 253, 3) := dbL_law_1545.2.1
theorem dL_law_1549 : decode cL_law 1549 = .ok (.pop, 1) := dbL_law_1545.2.2.1
theorem dL_law_1550 : decode cL_law 1550 = .ok (.aload_n 2, 1) := dbL_law_1545.2.2.2.1
theorem dL_law_1551 : decode cL_law 1551 = .ok (.invokevirtual 257, 3) := dbL_law_1545.2.2.2.2.1
theorem dL_law_1554 : decode cL_law 1554 = .ok (.pop, 1) := dbL_law_1545.2.2.2.2.2.1
theorem dL_law_1555 : decode cL_law 1555 = .ok (.goto 202, 3) := dbL_law_1545.2.2.2.2.2.2.1
theorem dL_law_1558 : decode cL_law 1558 = .ok (.aload_n 1, 1) := dbL_law_1545.2.2.2.2.2.2.2.1
theorem dL_law_1559 : decode cL_law 1559 = .ok (.aload_n 0, 1) := dbL_law_1545.2.2.2.2.2.2.2.2.1
theorem dL_law_1560 : decode cL_law 1560 = .ok (.iload 4, 2) := dbL_law_1545.2.2.2.2.2.2.2.2.2
theorem dbL_law_1562 : (decode cL_law 1562 = .ok (.iconst 1, 1)) ∧ (decode cL_law 1563 = .ok (.iadd, 1)) ∧ (decode cL_law 1564 = .ok (.iaload, 1)) ∧ (decode cL_law 1565 = .ok (.aload_n 0, 1)) ∧ (decode cL_law 1566 = .ok (.iload 4, 2)) ∧ (decode cL_law 1568 = .ok (.iconst 2, 1)) ∧ (decode cL_law 1569 = .ok (.iadd, 1)) ∧ (decode cL_law 1570 = .ok (.iaload, 1)) ∧ (decode cL_law 1571 = .ok (.aload_n 3, 1)) ∧ (decode cL_law 1572 = .ok (.invokestatic 258, 3)) := by decide +kernel
theorem dL_law_1562 : decode cL_law 1562 = .ok (.iconst 1, 1) := dbL_law_1562.1
theorem dL_law_1563 : decode cL_law 1563 = .ok (.iadd, 1) := dbL_law_1562.2.1
theorem dL_law_1564 : decode cL_law 1564 = .ok (.iaload, 1) := dbL_law_1562.2.2.1
theorem dL_law_1565 : decode cL_law 1565 = .ok (.aload_n 0, 1) := dbL_law_1562.2.2.2.1
theorem dL_law_1566 : decode cL_law 1566 = .ok (.iload 4, 2) := dbL_law_1562.2.2.2.2.1
theorem dL_law_1568 : decode cL_law 1568 = .ok (.iconst 2, 1) := dbL_law_1562.2.2.2.2.2.1
theorem dL_law_1569 : decode cL_law 1569 = .ok (.iadd, 1) := dbL_law_1562.2.2.2.2.2.2.1
theorem dL_law_1570 : decode cL_law 1570 = .ok (.iaload, 1) := dbL_law_1562.2.2.2.2.2.2.2.1
theorem dL_law_1571 : decode cL_law 1571 = .ok (.aload_n 3, 1) := dbL_law_1562.2.2.2.2.2.2.2.2.1
theorem dL_law_1572 : decode cL_law 1572 = .ok (.invokestatic 258, 3) := dbL_law_1562.2.2.2.2.2.2.2.2.2
theorem dbL_law_1575 : (decode cL_law 1575 = .ok (.istore 5, 2)) ∧ (decode cL_law 1577 = .ok (.aload_n 2, 1)) ∧ (decode cL_law 1578 = .ok (.aload_n 0, 1)) ∧ (decode cL_law 1579 = .ok (.iload 4, 2)) ∧ (decode cL_law 1581 = .ok (.iconst 1, 1)) ∧ (decode cL_law 1582 = .ok (.iadd, 1)) ∧ (decode cL_law 1583 = .ok (.iaload, 1)) ∧ (decode cL_law 1584 = .ok (.aload_n 0, 1)) ∧ (decode cL_law 1585 = .ok (.iload 4, 2)) ∧ (decode cL_law 1587 = .ok (.iconst 2, 1)) := by decide +kernel
theorem dL_law_1575 : decode cL_law 1575 = .ok (.istore 5, 2) := dbL_law_1575.1
theorem dL_law_1577 : decode cL_law 1577 = .ok (.aload_n 2, 1) := dbL_law_1575.2.1
theorem dL_law_1578 : decode cL_law 1578 = .ok (.aload_n 0, 1) := dbL_law_1575.2.2.1
theorem dL_law_1579 : decode cL_law 1579 = .ok (.iload 4, 2) := dbL_law_1575.2.2.2.1
theorem dL_law_1581 : decode cL_law 1581 = .ok (.iconst 1, 1) := dbL_law_1575.2.2.2.2.1
theorem dL_law_1582 : decode cL_law 1582 = .ok (.iadd, 1) := dbL_law_1575.2.2.2.2.2.1
theorem dL_law_1583 : decode cL_law 1583 = .ok (.iaload, 1) := dbL_law_1575.2.2.2.2.2.2.1
theorem dL_law_1584 : decode cL_law 1584 = .ok (.aload_n 0, 1) := dbL_law_1575.2.2.2.2.2.2.2.1
theorem dL_law_1585 : decode cL_law 1585 = .ok (.iload 4, 2) := dbL_law_1575.2.2.2.2.2.2.2.2.1
theorem dL_law_1587 : decode cL_law 1587 = .ok (.iconst 2, 1) := dbL_law_1575.2.2.2.2.2.2.2.2.2
theorem dbL_law_1588 : (decode cL_law 1588 = .ok (.iadd, 1)) ∧ (decode cL_law 1589 = .ok (.iaload, 1)) ∧ (decode cL_law 1590 = .ok (.invokevirtual 260, 3)) ∧ (decode cL_law 1593 = .ok (.istore 6, 2)) ∧ (decode cL_law 1595 = .ok (.goto 162, 3)) ∧ (decode cL_law 1598 = .ok (.aload_n 1, 1)) ∧ (decode cL_law 1599 = .ok (.aload_n 0, 1)) ∧ (decode cL_law 1600 = .ok (.iload 4, 2)) ∧ (decode cL_law 1602 = .ok (.iconst 1, 1)) ∧ (decode cL_law 1603 = .ok (.iadd, 1)) := by decide +kernel
theorem dL_law_1588 : decode cL_law 1588 = .ok (.iadd, 1) := dbL_law_1588.1
theorem dL_law_1589 : decode cL_law 1589 = .ok (.iaload, 1) := dbL_law_1588.2.1
theorem dL_law_1590 : decode cL_law 1590 = .ok (.invokevirtual 260, 3) := dbL_law_1588.2.2.1
theorem dL_law_1593 : decode cL_law 1593 = .ok (.istore 6, 2) := dbL_law_1588.2.2.2.1
theorem dL_law_1595 : decode cL_law 1595 = .ok (.goto 162, 3) := dbL_law_1588.2.2.2.2.1
theorem dL_law_1598 : decode cL_law 1598 = .ok (.aload_n 1, 1) := dbL_law_1588.2.2.2.2.2.1
theorem dL_law_1599 : decode cL_law 1599 = .ok (.aload_n 0, 1) := dbL_law_1588.2.2.2.2.2.2.1
theorem dL_law_1600 : decode cL_law 1600 = .ok (.iload 4, 2) := dbL_law_1588.2.2.2.2.2.2.2.1
theorem dL_law_1602 : decode cL_law 1602 = .ok (.iconst 1, 1) := dbL_law_1588.2.2.2.2.2.2.2.2.1
theorem dL_law_1603 : decode cL_law 1603 = .ok (.iadd, 1) := dbL_law_1588.2.2.2.2.2.2.2.2.2
theorem dbL_law_1604 : (decode cL_law 1604 = .ok (.iaload, 1)) ∧ (decode cL_law 1605 = .ok (.aload_n 0, 1)) ∧ (decode cL_law 1606 = .ok (.iload 4, 2)) ∧ (decode cL_law 1608 = .ok (.iconst 2, 1)) ∧ (decode cL_law 1609 = .ok (.iadd, 1)) ∧ (decode cL_law 1610 = .ok (.iaload, 1)) ∧ (decode cL_law 1611 = .ok (.aload_n 0, 1)) ∧ (decode cL_law 1612 = .ok (.iload 4, 2)) ∧ (decode cL_law 1614 = .ok (.iconst 3, 1)) ∧ (decode cL_law 1615 = .ok (.iadd, 1)) := by decide +kernel
theorem dL_law_1604 : decode cL_law 1604 = .ok (.iaload, 1) := dbL_law_1604.1
theorem dL_law_1605 : decode cL_law 1605 = .ok (.aload_n 0, 1) := dbL_law_1604.2.1
theorem dL_law_1606 : decode cL_law 1606 = .ok (.iload 4, 2) := dbL_law_1604.2.2.1
theorem dL_law_1608 : decode cL_law 1608 = .ok (.iconst 2, 1) := dbL_law_1604.2.2.2.1
theorem dL_law_1609 : decode cL_law 1609 = .ok (.iadd, 1) := dbL_law_1604.2.2.2.2.1
theorem dL_law_1610 : decode cL_law 1610 = .ok (.iaload, 1) := dbL_law_1604.2.2.2.2.2.1
theorem dL_law_1611 : decode cL_law 1611 = .ok (.aload_n 0, 1) := dbL_law_1604.2.2.2.2.2.2.1
theorem dL_law_1612 : decode cL_law 1612 = .ok (.iload 4, 2) := dbL_law_1604.2.2.2.2.2.2.2.1
theorem dL_law_1614 : decode cL_law 1614 = .ok (.iconst 3, 1) := dbL_law_1604.2.2.2.2.2.2.2.2.1
theorem dL_law_1615 : decode cL_law 1615 = .ok (.iadd, 1) := dbL_law_1604.2.2.2.2.2.2.2.2.2
theorem dbL_law_1616 : (decode cL_law 1616 = .ok (.iaload, 1)) ∧ (decode cL_law 1617 = .ok (.aload_n 3, 1)) ∧ (decode cL_law 1618 = .ok (.invokestatic 261, 3)) ∧ (decode cL_law 1621 = .ok (.istore 5, 2)) ∧ (decode cL_law 1623 = .ok (.aload_n 2, 1)) ∧ (decode cL_law 1624 = .ok (.aload_n 0, 1)) ∧ (decode cL_law 1625 = .ok (.iload 4, 2)) ∧ (decode cL_law 1627 = .ok (.iconst 1, 1)) ∧ (decode cL_law 1628 = .ok (.iadd, 1)) ∧ (decode cL_law 1629 = .ok (.iaload, 1)) := by decide +kernel
theorem dL_law_1616 : decode cL_law 1616 = .ok (.iaload, 1) := dbL_law_1616.1
theorem dL_law_1617 : decode cL_law 1617 = .ok (.aload_n 3, 1) := dbL_law_1616.2.1
theorem dL_law_1618 : decode cL_law 1618 = .ok (.invokestatic 261, 3) := dbL_law_1616.2.2.1
theorem dL_law_1621 : decode cL_law 1621 = .ok (.istore 5, 2) := dbL_law_1616.2.2.2.1
theorem dL_law_1623 : decode cL_law 1623 = .ok (.aload_n 2, 1) := dbL_law_1616.2.2.2.2.1
theorem dL_law_1624 : decode cL_law 1624 = .ok (.aload_n 0, 1) := dbL_law_1616.2.2.2.2.2.1
theorem dL_law_1625 : decode cL_law 1625 = .ok (.iload 4, 2) := dbL_law_1616.2.2.2.2.2.2.1
theorem dL_law_1627 : decode cL_law 1627 = .ok (.iconst 1, 1) := dbL_law_1616.2.2.2.2.2.2.2.1
theorem dL_law_1628 : decode cL_law 1628 = .ok (.iadd, 1) := dbL_law_1616.2.2.2.2.2.2.2.2.1
theorem dL_law_1629 : decode cL_law 1629 = .ok (.iaload, 1) := dbL_law_1616.2.2.2.2.2.2.2.2.2
theorem dbL_law_1630 : (decode cL_law 1630 = .ok (.aload_n 0, 1)) ∧ (decode cL_law 1631 = .ok (.iload 4, 2)) ∧ (decode cL_law 1633 = .ok (.iconst 2, 1)) ∧ (decode cL_law 1634 = .ok (.iadd, 1)) ∧ (decode cL_law 1635 = .ok (.iaload, 1)) ∧ (decode cL_law 1636 = .ok (.aload_n 0, 1)) ∧ (decode cL_law 1637 = .ok (.iload 4, 2)) ∧ (decode cL_law 1639 = .ok (.iconst 3, 1)) ∧ (decode cL_law 1640 = .ok (.iadd, 1)) ∧ (decode cL_law 1641 = .ok (.iaload, 1)) := by decide +kernel
theorem dL_law_1630 : decode cL_law 1630 = .ok (.aload_n 0, 1) := dbL_law_1630.1
theorem dL_law_1631 : decode cL_law 1631 = .ok (.iload 4, 2) := dbL_law_1630.2.1
theorem dL_law_1633 : decode cL_law 1633 = .ok (.iconst 2, 1) := dbL_law_1630.2.2.1
theorem dL_law_1634 : decode cL_law 1634 = .ok (.iadd, 1) := dbL_law_1630.2.2.2.1
theorem dL_law_1635 : decode cL_law 1635 = .ok (.iaload, 1) := dbL_law_1630.2.2.2.2.1
theorem dL_law_1636 : decode cL_law 1636 = .ok (.aload_n 0, 1) := dbL_law_1630.2.2.2.2.2.1
theorem dL_law_1637 : decode cL_law 1637 = .ok (.iload 4, 2) := dbL_law_1630.2.2.2.2.2.2.1
theorem dL_law_1639 : decode cL_law 1639 = .ok (.iconst 3, 1) := dbL_law_1630.2.2.2.2.2.2.2.1
theorem dL_law_1640 : decode cL_law 1640 = .ok (.iadd, 1) := dbL_law_1630.2.2.2.2.2.2.2.2.1
theorem dL_law_1641 : decode cL_law 1641 = .ok (.iaload, 1) := dbL_law_1630.2.2.2.2.2.2.2.2.2
theorem dbL_law_1642 : (decode cL_law 1642 = .ok (.invokevirtual 263, 3)) ∧ (decode cL_law 1645 = .ok (.istore 6, 2)) ∧ (decode cL_law 1647 = .ok (.goto 110, 3)) ∧ (decode cL_law 1650 = .ok (.aload_n 1, 1)) ∧ (decode cL_law 1651 = .ok (.aload_n 0, 1)) ∧ (decode cL_law 1652 = .ok (.iload 4, 2)) ∧ (decode cL_law 1654 = .ok (.iconst 1, 1)) ∧ (decode cL_law 1655 = .ok (.iadd, 1)) ∧ (decode cL_law 1656 = .ok (.iaload, 1)) ∧ (decode cL_law 1657 = .ok (.aload_n 0, 1)) := by decide +kernel
theorem dL_law_1642 : decode cL_law 1642 = .ok (.invokevirtual 263, 3) := dbL_law_1642.1
theorem dL_law_1645 : decode cL_law 1645 = .ok (.istore 6, 2) := dbL_law_1642.2.1
theorem dL_law_1647 : decode cL_law 1647 = .ok (.goto 110, 3) := dbL_law_1642.2.2.1
theorem dL_law_1650 : decode cL_law 1650 = .ok (.aload_n 1, 1) := dbL_law_1642.2.2.2.1
theorem dL_law_1651 : decode cL_law 1651 = .ok (.aload_n 0, 1) := dbL_law_1642.2.2.2.2.1
theorem dL_law_1652 : decode cL_law 1652 = .ok (.iload 4, 2) := dbL_law_1642.2.2.2.2.2.1
theorem dL_law_1654 : decode cL_law 1654 = .ok (.iconst 1, 1) := dbL_law_1642.2.2.2.2.2.2.1
theorem dL_law_1655 : decode cL_law 1655 = .ok (.iadd, 1) := dbL_law_1642.2.2.2.2.2.2.2.1
theorem dL_law_1656 : decode cL_law 1656 = .ok (.iaload, 1) := dbL_law_1642.2.2.2.2.2.2.2.2.1
theorem dL_law_1657 : decode cL_law 1657 = .ok (.aload_n 0, 1) := dbL_law_1642.2.2.2.2.2.2.2.2.2
theorem dbL_law_1658 : (decode cL_law 1658 = .ok (.iload 4, 2)) ∧ (decode cL_law 1660 = .ok (.iconst 2, 1)) ∧ (decode cL_law 1661 = .ok (.iadd, 1)) ∧ (decode cL_law 1662 = .ok (.iaload, 1)) ∧ (decode cL_law 1663 = .ok (.aload_n 3, 1)) ∧ (decode cL_law 1664 = .ok (.invokestatic 264, 3)) ∧ (decode cL_law 1667 = .ok (.istore 5, 2)) ∧ (decode cL_law 1669 = .ok (.aload_n 2, 1)) ∧ (decode cL_law 1670 = .ok (.aload_n 0, 1)) ∧ (decode cL_law 1671 = .ok (.iload 4, 2)) := by decide +kernel
theorem dL_law_1658 : decode cL_law 1658 = .ok (.iload 4, 2) := dbL_law_1658.1
theorem dL_law_1660 : decode cL_law 1660 = .ok (.iconst 2, 1) := dbL_law_1658.2.1
theorem dL_law_1661 : decode cL_law 1661 = .ok (.iadd, 1) := dbL_law_1658.2.2.1
theorem dL_law_1662 : decode cL_law 1662 = .ok (.iaload, 1) := dbL_law_1658.2.2.2.1
theorem dL_law_1663 : decode cL_law 1663 = .ok (.aload_n 3, 1) := dbL_law_1658.2.2.2.2.1
theorem dL_law_1664 : decode cL_law 1664 = .ok (.invokestatic 264, 3) := dbL_law_1658.2.2.2.2.2.1
theorem dL_law_1667 : decode cL_law 1667 = .ok (.istore 5, 2) := dbL_law_1658.2.2.2.2.2.2.1
theorem dL_law_1669 : decode cL_law 1669 = .ok (.aload_n 2, 1) := dbL_law_1658.2.2.2.2.2.2.2.1
theorem dL_law_1670 : decode cL_law 1670 = .ok (.aload_n 0, 1) := dbL_law_1658.2.2.2.2.2.2.2.2.1
theorem dL_law_1671 : decode cL_law 1671 = .ok (.iload 4, 2) := dbL_law_1658.2.2.2.2.2.2.2.2.2
theorem dbL_law_1673 : (decode cL_law 1673 = .ok (.iconst 1, 1)) ∧ (decode cL_law 1674 = .ok (.iadd, 1)) ∧ (decode cL_law 1675 = .ok (.iaload, 1)) ∧ (decode cL_law 1676 = .ok (.aload_n 0, 1)) ∧ (decode cL_law 1677 = .ok (.iload 4, 2)) ∧ (decode cL_law 1679 = .ok (.iconst 2, 1)) ∧ (decode cL_law 1680 = .ok (.iadd, 1)) ∧ (decode cL_law 1681 = .ok (.iaload, 1)) ∧ (decode cL_law 1682 = .ok (.invokevirtual 266, 3)) ∧ (decode cL_law 1685 = .ok (.istore 6, 2)) := by decide +kernel
theorem dL_law_1673 : decode cL_law 1673 = .ok (.iconst 1, 1) := dbL_law_1673.1
theorem dL_law_1674 : decode cL_law 1674 = .ok (.iadd, 1) := dbL_law_1673.2.1
theorem dL_law_1675 : decode cL_law 1675 = .ok (.iaload, 1) := dbL_law_1673.2.2.1
theorem dL_law_1676 : decode cL_law 1676 = .ok (.aload_n 0, 1) := dbL_law_1673.2.2.2.1
theorem dL_law_1677 : decode cL_law 1677 = .ok (.iload 4, 2) := dbL_law_1673.2.2.2.2.1
theorem dL_law_1679 : decode cL_law 1679 = .ok (.iconst 2, 1) := dbL_law_1673.2.2.2.2.2.1
theorem dL_law_1680 : decode cL_law 1680 = .ok (.iadd, 1) := dbL_law_1673.2.2.2.2.2.2.1
theorem dL_law_1681 : decode cL_law 1681 = .ok (.iaload, 1) := dbL_law_1673.2.2.2.2.2.2.2.1
theorem dL_law_1682 : decode cL_law 1682 = .ok (.invokevirtual 266, 3) := dbL_law_1673.2.2.2.2.2.2.2.2.1
theorem dL_law_1685 : decode cL_law 1685 = .ok (.istore 6, 2) := dbL_law_1673.2.2.2.2.2.2.2.2.2
theorem dbL_law_1687 : (decode cL_law 1687 = .ok (.goto 70, 3)) ∧ (decode cL_law 1690 = .ok (.aload_n 1, 1)) ∧ (decode cL_law 1691 = .ok (.aload_n 0, 1)) ∧ (decode cL_law 1692 = .ok (.iload 4, 2)) ∧ (decode cL_law 1694 = .ok (.iconst 1, 1)) ∧ (decode cL_law 1695 = .ok (.iadd, 1)) ∧ (decode cL_law 1696 = .ok (.iaload, 1)) ∧ (decode cL_law 1697 = .ok (.aload_n 3, 1)) ∧ (decode cL_law 1698 = .ok (.invokestatic 267, 3)) ∧ (decode cL_law 1701 = .ok (.istore 5, 2)) := by decide +kernel
theorem dL_law_1687 : decode cL_law 1687 = .ok (.goto 70, 3) := dbL_law_1687.1
theorem dL_law_1690 : decode cL_law 1690 = .ok (.aload_n 1, 1) := dbL_law_1687.2.1
theorem dL_law_1691 : decode cL_law 1691 = .ok (.aload_n 0, 1) := dbL_law_1687.2.2.1
theorem dL_law_1692 : decode cL_law 1692 = .ok (.iload 4, 2) := dbL_law_1687.2.2.2.1
theorem dL_law_1694 : decode cL_law 1694 = .ok (.iconst 1, 1) := dbL_law_1687.2.2.2.2.1
theorem dL_law_1695 : decode cL_law 1695 = .ok (.iadd, 1) := dbL_law_1687.2.2.2.2.2.1
theorem dL_law_1696 : decode cL_law 1696 = .ok (.iaload, 1) := dbL_law_1687.2.2.2.2.2.2.1
theorem dL_law_1697 : decode cL_law 1697 = .ok (.aload_n 3, 1) := dbL_law_1687.2.2.2.2.2.2.2.1
theorem dL_law_1698 : decode cL_law 1698 = .ok (.invokestatic 267, 3) := dbL_law_1687.2.2.2.2.2.2.2.2.1
theorem dL_law_1701 : decode cL_law 1701 = .ok (.istore 5, 2) := dbL_law_1687.2.2.2.2.2.2.2.2.2
theorem dbL_law_1703 : (decode cL_law 1703 = .ok (.aload_n 2, 1)) ∧ (decode cL_law 1704 = .ok (.aload_n 0, 1)) ∧ (decode cL_law 1705 = .ok (.iload 4, 2)) ∧ (decode cL_law 1707 = .ok (.iconst 1, 1)) ∧ (decode cL_law 1708 = .ok (.iadd, 1)) ∧ (decode cL_law 1709 = .ok (.iaload, 1)) ∧ (decode cL_law 1710 = .ok (.invokevirtual 269, 3)) ∧ (decode cL_law 1713 = .ok (.istore 6, 2)) ∧ (decode cL_law 1715 = .ok (.goto 42, 3)) ∧ (decode cL_law 1718 = .ok (.aload_n 1, 1)) := by decide +kernel
theorem dL_law_1703 : decode cL_law 1703 = .ok (.aload_n 2, 1) := dbL_law_1703.1
theorem dL_law_1704 : decode cL_law 1704 = .ok (.aload_n 0, 1) := dbL_law_1703.2.1
theorem dL_law_1705 : decode cL_law 1705 = .ok (.iload 4, 2) := dbL_law_1703.2.2.1
theorem dL_law_1707 : decode cL_law 1707 = .ok (.iconst 1, 1) := dbL_law_1703.2.2.2.1
theorem dL_law_1708 : decode cL_law 1708 = .ok (.iadd, 1) := dbL_law_1703.2.2.2.2.1
theorem dL_law_1709 : decode cL_law 1709 = .ok (.iaload, 1) := dbL_law_1703.2.2.2.2.2.1
theorem dL_law_1710 : decode cL_law 1710 = .ok (.invokevirtual 269, 3) := dbL_law_1703.2.2.2.2.2.2.1
theorem dL_law_1713 : decode cL_law 1713 = .ok (.istore 6, 2) := dbL_law_1703.2.2.2.2.2.2.2.1
theorem dL_law_1715 : decode cL_law 1715 = .ok (.goto 42, 3) := dbL_law_1703.2.2.2.2.2.2.2.2.1
theorem dL_law_1718 : decode cL_law 1718 = .ok (.aload_n 1, 1) := dbL_law_1703.2.2.2.2.2.2.2.2.2
theorem dbL_law_1719 : (decode cL_law 1719 = .ok (.invokevirtual 270, 3)) ∧ (decode cL_law 1722 = .ok (.pop, 1)) ∧ (decode cL_law 1723 = .ok (.aload_n 2, 1)) ∧ (decode cL_law 1724 = .ok (.invokevirtual 273, 3)) ∧ (decode cL_law 1727 = .ok (.pop, 1)) ∧ (decode cL_law 1728 = .ok (.goto 29, 3)) ∧ (decode cL_law 1731 = .ok (.aload_n 1, 1)) ∧ (decode cL_law 1732 = .ok (.invokevirtual 274, 3)) ∧ (decode cL_law 1735 = .ok (.pop, 1)) ∧ (decode cL_law 1736 = .ok (.aload_n 2, 1)) := by decide +kernel
theorem dL_law_1719 : decode cL_law 1719 = .ok (.invokevirtual 270, 3) := dbL_law_1719.1
theorem dL_law_1722 : decode cL_law 1722 = .ok (.pop, 1) := dbL_law_1719.2.1
theorem dL_law_1723 : decode cL_law 1723 = .ok (.aload_n 2, 1) := dbL_law_1719.2.2.1
theorem dL_law_1724 : decode cL_law 1724 = .ok (.invokevirtual 273, 3) := dbL_law_1719.2.2.2.1
theorem dL_law_1727 : decode cL_law 1727 = .ok (.pop, 1) := dbL_law_1719.2.2.2.2.1
theorem dL_law_1728 : decode cL_law 1728 = .ok (.goto 29, 3) := dbL_law_1719.2.2.2.2.2.1
theorem dL_law_1731 : decode cL_law 1731 = .ok (.aload_n 1, 1) := dbL_law_1719.2.2.2.2.2.2.1
theorem dL_law_1732 : decode cL_law 1732 = .ok (.invokevirtual 274, 3) := dbL_law_1719.2.2.2.2.2.2.2.1
theorem dL_law_1735 : decode cL_law 1735 = .ok (.pop, 1) := dbL_law_1719.2.2.2.2.2.2.2.2.1
theorem dL_law_1736 : decode cL_law 1736 = .ok (.aload_n 2, 1) := dbL_law_1719.2.2.2.2.2.2.2.2.2
theorem dbL_law_1737 : (decode cL_law 1737 = .ok (.invokevirtual 278, 3)) ∧ (decode cL_law 1740 = .ok (.pop, 1)) ∧ (decode cL_law 1741 = .ok (.goto 16, 3)) ∧ (decode cL_law 1744 = .ok (.aload_n 1, 1)) ∧ (decode cL_law 1745 = .ok (.invokevirtual 279, 3)) ∧ (decode cL_law 1748 = .ok (.pop2, 1)) ∧ (decode cL_law 1749 = .ok (.aload_n 2, 1)) ∧ (decode cL_law 1750 = .ok (.invokevirtual 283, 3)) ∧ (decode cL_law 1753 = .ok (.pop2, 1)) ∧ (decode cL_law 1754 = .ok (.goto 3, 3)) := by decide +kernel
theorem dL_law_1737 : decode cL_law 1737 = .ok (.invokevirtual 278, 3) := dbL_law_1737.1
theorem dL_law_1740 : decode cL_law 1740 = .ok (.pop, 1) := dbL_law_1737.2.1
theorem dL_law_1741 : decode cL_law 1741 = .ok (.goto 16, 3) := dbL_law_1737.2.2.1
theorem dL_law_1744 : decode cL_law 1744 = .ok (.aload_n 1, 1) := dbL_law_1737.2.2.2.1
theorem dL_law_1745 : decode cL_law 1745 = .ok (.invokevirtual 279, 3) := dbL_law_1737.2.2.2.2.1
theorem dL_law_1748 : decode cL_law 1748 = .ok (.pop2, 1) := dbL_law_1737.2.2.2.2.2.1
theorem dL_law_1749 : decode cL_law 1749 = .ok (.aload_n 2, 1) := dbL_law_1737.2.2.2.2.2.2.1
theorem dL_law_1750 : decode cL_law 1750 = .ok (.invokevirtual 283, 3) := dbL_law_1737.2.2.2.2.2.2.2.1
theorem dL_law_1753 : decode cL_law 1753 = .ok (.pop2, 1) := dbL_law_1737.2.2.2.2.2.2.2.2.1
theorem dL_law_1754 : decode cL_law 1754 = .ok (.goto 3, 3) := dbL_law_1737.2.2.2.2.2.2.2.2.2
set_option maxRecDepth 20000 in
theorem lc_row {X : zX} (C : z_C X cL_law RL 7 room_1) (h_st : (z_l X).stackTraces = false) {b L : Nat} {xs : Nat → Int32} (hX : va_X b L xs (z_s X) (z_s X).heap) (hbl : b < (z_s X).heap.size) (hbA : ¬ z_F X b) {jx : Nat} {a1 a2 a3 a4 : Int32} (hs1 : vp_in (nI (5 * jx) + 1) L ∧ xs (nI (5 * jx) + 1).toNatClampNeg = a1) (hs2 : vp_in (nI (5 * jx) + 2) L ∧ xs (nI (5 * jx) + 2).toNatClampNeg = a2) (hs3 : vp_in (nI (5 * jx) + 3) L ∧ xs (nI (5 * jx) + 3).toNatClampNeg = a3) (hs4 : vp_in (nI (5 * jx) + 4) L ∧ xs (nI (5 * jx) + 4).toNatClampNeg = a4) {u : sS} {x pa sp ln rf sb m pn td ou : Nat} {th : Int32} {on : Int64} {Mw : zM} (hI : s_LX (z_G X) x pa sp ln rf sb m pn td ou u u th on Mw) (hok : s_ok jx u) (hj : jx < 64) {kq nq : Nat} (hkq : kq + 4000 ≤ 600128) (hnq : nq + 60000 ≤ 7301098) (kk : ∀ v th on Mz, s_LX (z_G X) x pa sp ln rf sb m pn td ou v v th on Mz → s_ok (jx + 1) v → z_W X Mz (kq + 4000) (nq + 60000) 27 [(4, .int (nI (5 * (jx + 1)))), (0, .ref b), (1, .ref x), (2, .ref m), (3, .ref ou)] []) : z_W X Mw kq nq 1545 [(4, .int (nI (5 * jx))), (0, .ref b), (1, .ref x), (2, .ref m), (3, .ref ou)] [] := by
  refine z_aload_n C dL_law_1545 rfl 2 rfl ?_
  obtain ⟨lr9, hx9⟩ := s_LX_x hI
  refine z_callVr (rest := []) (k' := kq + 40) (n' := nq + 1500) C (s_LX_Cr hI (v := u) (fun hC9 => by obtain ⟨P, RA, VA, hC⟩ := hC9; exact z_Mr_mono (a_X3_row (z_l X) hC hok) (fun r Mz h => ⟨_, _, _, h⟩))) (cs_L_253 C ⟨Nat.le_of_ble_eq_true rfl, Nat.le_of_ble_eq_true rfl⟩) hx9 rfl rfl rfl rfl (Nat.le_of_ble_eq_true rfl) rfl rfl (by show _ ≤ 600128; omega) (by show _ ≤ 7301098; omega) dL_law_1546 (fun xv0 M1 hq => ?_)
  have hI1 := hq
  refine z_pop C dL_law_1549 rfl ?_
  refine z_aload_n C dL_law_1550 rfl 3 rfl ?_
  obtain ⟨tp9, hm9⟩ := s_LX_m hI1
  refine z_callVr (rest := []) (k' := kq + 40 + 40) (n' := nq + 1500 + 1500) C (s_LX_RT hI1 (k := 0) (fun hR9 => a_X5_row (z_l X) hR9 hok (by omega))) (cs_L_257 C ⟨Nat.le_of_ble_eq_true rfl, Nat.le_of_ble_eq_true rfl⟩) hm9 rfl rfl rfl rfl (Nat.le_of_ble_eq_true rfl) rfl rfl (by show _ ≤ 600128; omega) (by show _ ≤ 7301098; omega) dL_law_1551 (fun xv1 M2 hq => ?_)
  have hI2 := hq
  refine z_pop C dL_law_1554 rfl ?_
  refine z_goto C (tgt := 1757) dL_law_1555 (by decide) ?_
  refine z_iinc (v := nI (5 * (jx + 1))) (lv' := [(4, .int (nI (5 * (jx + 1)))), (0, .ref b), (1, .ref x), (2, .ref m), (3, .ref ou)]) C dL_law_1757 0 rfl (j_inc5 jx) (by decide) rfl ?_
  refine z_goto C (tgt := 27) dL_law_1760 (by decide) ?_
  refine z_fewer [0, 1, 2, 3, 4] rfl ?_
  refine z_widen (k' := kq + 4000) (n' := nq + 60000) (by omega) (by omega) ?_
  exact kk _ _ _ _ hI2 (s_ok_mono hok (Nat.le_succ _))
set_option maxRecDepth 20000 in
theorem lc_isKin {X : zX} (C : z_C X cL_law RL 7 room_1) (h_st : (z_l X).stackTraces = false) {b L : Nat} {xs : Nat → Int32} (hX : va_X b L xs (z_s X) (z_s X).heap) (hbl : b < (z_s X).heap.size) (hbA : ¬ z_F X b) {jx : Nat} {a1 a2 a3 a4 : Int32} (hs1 : vp_in (nI (5 * jx) + 1) L ∧ xs (nI (5 * jx) + 1).toNatClampNeg = a1) (hs2 : vp_in (nI (5 * jx) + 2) L ∧ xs (nI (5 * jx) + 2).toNatClampNeg = a2) (hs3 : vp_in (nI (5 * jx) + 3) L ∧ xs (nI (5 * jx) + 3).toNatClampNeg = a3) (hs4 : vp_in (nI (5 * jx) + 4) L ∧ xs (nI (5 * jx) + 4).toNatClampNeg = a4) {u : sS} {x pa sp ln rf sb m pn td ou : Nat} {th : Int32} {on : Int64} {Mw : zM} (hI : s_LX (z_G X) x pa sp ln rf sb m pn td ou u u th on Mw) (hok : s_ok jx u) (hj : jx < 64) {kq nq : Nat} (hkq : kq + 4000 ≤ 600128) (hnq : nq + 60000 ≤ 7301098) (kk : ∀ v th on Mz, s_LX (z_G X) x pa sp ln rf sb m pn td ou v v th on Mz → s_ok (jx + 1) v → z_W X Mz (kq + 4000) (nq + 60000) 27 [(4, .int (nI (5 * (jx + 1)))), (0, .ref b), (1, .ref x), (2, .ref m), (3, .ref ou)] []) : z_W X Mw kq nq 1558 [(4, .int (nI (5 * jx))), (0, .ref b), (1, .ref x), (2, .ref m), (3, .ref ou)] [] := by
  refine z_aload_n C dL_law_1558 rfl 2 rfl ?_
  refine z_aload_n C dL_law_1559 rfl 1 rfl ?_
  refine z_iload C dL_law_1560 0 rfl ?_
  refine z_iconst C (v := 1) dL_law_1562 (by decide) ?_
  refine z_iadd C dL_law_1563 ?_
  refine z_sld C hX hbl hbA hs1.1 hs1.2 dL_law_1564 ?_
  refine z_aload_n C dL_law_1565 rfl 1 rfl ?_
  refine z_iload C dL_law_1566 0 rfl ?_
  refine z_iconst C (v := 2) dL_law_1568 (by decide) ?_
  refine z_iadd C dL_law_1569 ?_
  refine z_sld C hX hbl hbA hs2.1 hs2.2 dL_law_1570 ?_
  refine z_aload_n C dL_law_1571 rfl 4 rfl ?_
  refine z_callHi (rest := []) (k' := kq + 8) (n' := nq + 48) C (s_LX_P hI (fun hC9 hd9 ho9 => w_isKin (z_l X) h_st hC9 hd9 ho9 hok a1 a2)) (ch_isKin C ⟨Nat.le_of_ble_eq_true rfl, Nat.le_of_ble_eq_true rfl⟩) rfl rfl (Nat.le_of_ble_eq_true rfl) rfl rfl (by show _ ≤ 600128; omega) (by show _ ≤ 7301098; omega) dL_law_1572 (fun xk M1 hq => ?_)
  obtain ⟨hk1, on1, hI1, ho1⟩ := hq
  refine z_istore (lv' := [(5, .int xk), (4, .int (nI (5 * jx))), (0, .ref b), (1, .ref x), (2, .ref m), (3, .ref ou)]) C dL_law_1575 (by decide) rfl ?_
  refine z_aload_n C dL_law_1577 rfl 4 rfl ?_
  refine z_aload_n C dL_law_1578 rfl 2 rfl ?_
  refine z_iload C dL_law_1579 1 rfl ?_
  refine z_iconst C (v := 1) dL_law_1581 (by decide) ?_
  refine z_iadd C dL_law_1582 ?_
  refine z_sld C hX hbl hbA hs1.1 hs1.2 dL_law_1583 ?_
  refine z_aload_n C dL_law_1584 rfl 2 rfl ?_
  refine z_iload C dL_law_1585 1 rfl ?_
  refine z_iconst C (v := 2) dL_law_1587 (by decide) ?_
  refine z_iadd C dL_law_1588 ?_
  refine z_sld C hX hbl hbA hs2.1 hs2.2 dL_law_1589 ?_
  obtain ⟨tp9, hm9⟩ := s_LX_m hI1
  refine z_callVi (rest := []) (k' := kq + 8) (n' := nq + 48) C (s_LX_R hI1 (fun hR9 => a_X5_isKin (z_l X) hR9 hok (by omega) a1 a2)) (cs_L_260 C ⟨Nat.le_of_ble_eq_true rfl, Nat.le_of_ble_eq_true rfl⟩) hm9 rfl rfl rfl rfl (Nat.le_of_ble_eq_true rfl) rfl rfl (by show _ ≤ 600128; omega) (by show _ ≤ 7301098; omega) dL_law_1590 (fun xr M2 hq => ?_)
  obtain ⟨hI2, hr2⟩ := hq
  refine z_istore (lv' := [(6, .int xr), (5, .int xk), (4, .int (nI (5 * jx))), (0, .ref b), (1, .ref x), (2, .ref m), (3, .ref ou)]) C dL_law_1593 (by decide) rfl ?_
  refine z_goto C (tgt := 1757) dL_law_1595 (by decide) ?_
  refine z_iinc (v := nI (5 * (jx + 1))) (lv' := [(4, .int (nI (5 * (jx + 1)))), (6, .int xr), (5, .int xk), (0, .ref b), (1, .ref x), (2, .ref m), (3, .ref ou)]) C dL_law_1757 2 rfl (j_inc5 jx) (by decide) rfl ?_
  refine z_goto C (tgt := 27) dL_law_1760 (by decide) ?_
  refine z_fewer [0, 3, 4, 5, 6] rfl ?_
  refine z_widen (k' := kq + 4000) (n' := nq + 60000) (by omega) (by omega) ?_
  exact kk _ _ _ _ hI2 (so_isKin hok)
set_option maxRecDepth 20000 in
theorem lc_sees {X : zX} (C : z_C X cL_law RL 7 room_1) (h_st : (z_l X).stackTraces = false) {b L : Nat} {xs : Nat → Int32} (hX : va_X b L xs (z_s X) (z_s X).heap) (hbl : b < (z_s X).heap.size) (hbA : ¬ z_F X b) {jx : Nat} {a1 a2 a3 a4 : Int32} (hs1 : vp_in (nI (5 * jx) + 1) L ∧ xs (nI (5 * jx) + 1).toNatClampNeg = a1) (hs2 : vp_in (nI (5 * jx) + 2) L ∧ xs (nI (5 * jx) + 2).toNatClampNeg = a2) (hs3 : vp_in (nI (5 * jx) + 3) L ∧ xs (nI (5 * jx) + 3).toNatClampNeg = a3) (hs4 : vp_in (nI (5 * jx) + 4) L ∧ xs (nI (5 * jx) + 4).toNatClampNeg = a4) {u : sS} {x pa sp ln rf sb m pn td ou : Nat} {th : Int32} {on : Int64} {Mw : zM} (hI : s_LX (z_G X) x pa sp ln rf sb m pn td ou u u th on Mw) (hok : s_ok jx u) (hj : jx < 64) {kq nq : Nat} (hkq : kq + 4000 ≤ 600128) (hnq : nq + 60000 ≤ 7301098) (kk : ∀ v th on Mz, s_LX (z_G X) x pa sp ln rf sb m pn td ou v v th on Mz → s_ok (jx + 1) v → z_W X Mz (kq + 4000) (nq + 60000) 27 [(4, .int (nI (5 * (jx + 1)))), (0, .ref b), (1, .ref x), (2, .ref m), (3, .ref ou)] []) : z_W X Mw kq nq 1598 [(4, .int (nI (5 * jx))), (0, .ref b), (1, .ref x), (2, .ref m), (3, .ref ou)] [] := by
  refine z_aload_n C dL_law_1598 rfl 2 rfl ?_
  refine z_aload_n C dL_law_1599 rfl 1 rfl ?_
  refine z_iload C dL_law_1600 0 rfl ?_
  refine z_iconst C (v := 1) dL_law_1602 (by decide) ?_
  refine z_iadd C dL_law_1603 ?_
  refine z_sld C hX hbl hbA hs1.1 hs1.2 dL_law_1604 ?_
  refine z_aload_n C dL_law_1605 rfl 1 rfl ?_
  refine z_iload C dL_law_1606 0 rfl ?_
  refine z_iconst C (v := 2) dL_law_1608 (by decide) ?_
  refine z_iadd C dL_law_1609 ?_
  refine z_sld C hX hbl hbA hs2.1 hs2.2 dL_law_1610 ?_
  refine z_aload_n C dL_law_1611 rfl 1 rfl ?_
  refine z_iload C dL_law_1612 0 rfl ?_
  refine z_iconst C (v := 3) dL_law_1614 (by decide) ?_
  refine z_iadd C dL_law_1615 ?_
  refine z_sld C hX hbl hbA hs3.1 hs3.2 dL_law_1616 ?_
  refine z_aload_n C dL_law_1617 rfl 4 rfl ?_
  refine z_callHi (rest := []) (k' := kq + 8) (n' := nq + 48) C (s_LX_P hI (fun hC9 hd9 ho9 => w_sees (z_l X) h_st hC9 hd9 ho9 hok a1 a2 a3)) (ch_sees C ⟨Nat.le_of_ble_eq_true rfl, Nat.le_of_ble_eq_true rfl⟩) rfl rfl (Nat.le_of_ble_eq_true rfl) rfl rfl (by show _ ≤ 600128; omega) (by show _ ≤ 7301098; omega) dL_law_1618 (fun xk M1 hq => ?_)
  obtain ⟨hk1, on1, hI1, ho1⟩ := hq
  refine z_istore (lv' := [(5, .int xk), (4, .int (nI (5 * jx))), (0, .ref b), (1, .ref x), (2, .ref m), (3, .ref ou)]) C dL_law_1621 (by decide) rfl ?_
  refine z_aload_n C dL_law_1623 rfl 4 rfl ?_
  refine z_aload_n C dL_law_1624 rfl 2 rfl ?_
  refine z_iload C dL_law_1625 1 rfl ?_
  refine z_iconst C (v := 1) dL_law_1627 (by decide) ?_
  refine z_iadd C dL_law_1628 ?_
  refine z_sld C hX hbl hbA hs1.1 hs1.2 dL_law_1629 ?_
  refine z_aload_n C dL_law_1630 rfl 2 rfl ?_
  refine z_iload C dL_law_1631 1 rfl ?_
  refine z_iconst C (v := 2) dL_law_1633 (by decide) ?_
  refine z_iadd C dL_law_1634 ?_
  refine z_sld C hX hbl hbA hs2.1 hs2.2 dL_law_1635 ?_
  refine z_aload_n C dL_law_1636 rfl 2 rfl ?_
  refine z_iload C dL_law_1637 1 rfl ?_
  refine z_iconst C (v := 3) dL_law_1639 (by decide) ?_
  refine z_iadd C dL_law_1640 ?_
  refine z_sld C hX hbl hbA hs3.1 hs3.2 dL_law_1641 ?_
  obtain ⟨tp9, hm9⟩ := s_LX_m hI1
  refine z_callVi (rest := []) (k' := kq + 8) (n' := nq + 48) C (s_LX_R hI1 (fun hR9 => a_X5_sees (z_l X) hR9 hok (by omega) a1 a2 a3)) (cs_L_263 C ⟨Nat.le_of_ble_eq_true rfl, Nat.le_of_ble_eq_true rfl⟩) hm9 rfl rfl rfl rfl (Nat.le_of_ble_eq_true rfl) rfl rfl (by show _ ≤ 600128; omega) (by show _ ≤ 7301098; omega) dL_law_1642 (fun xr M2 hq => ?_)
  obtain ⟨hI2, hr2⟩ := hq
  refine z_istore (lv' := [(6, .int xr), (5, .int xk), (4, .int (nI (5 * jx))), (0, .ref b), (1, .ref x), (2, .ref m), (3, .ref ou)]) C dL_law_1645 (by decide) rfl ?_
  refine z_goto C (tgt := 1757) dL_law_1647 (by decide) ?_
  refine z_iinc (v := nI (5 * (jx + 1))) (lv' := [(4, .int (nI (5 * (jx + 1)))), (6, .int xr), (5, .int xk), (0, .ref b), (1, .ref x), (2, .ref m), (3, .ref ou)]) C dL_law_1757 2 rfl (j_inc5 jx) (by decide) rfl ?_
  refine z_goto C (tgt := 27) dL_law_1760 (by decide) ?_
  refine z_fewer [0, 3, 4, 5, 6] rfl ?_
  refine z_widen (k' := kq + 4000) (n' := nq + 60000) (by omega) (by omega) ?_
  exact kk _ _ _ _ hI2 (so_sees hok)
set_option maxRecDepth 20000 in
theorem lc_would {X : zX} (C : z_C X cL_law RL 7 room_1) (h_st : (z_l X).stackTraces = false) {b L : Nat} {xs : Nat → Int32} (hX : va_X b L xs (z_s X) (z_s X).heap) (hbl : b < (z_s X).heap.size) (hbA : ¬ z_F X b) {jx : Nat} {a1 a2 a3 a4 : Int32} (hs1 : vp_in (nI (5 * jx) + 1) L ∧ xs (nI (5 * jx) + 1).toNatClampNeg = a1) (hs2 : vp_in (nI (5 * jx) + 2) L ∧ xs (nI (5 * jx) + 2).toNatClampNeg = a2) (hs3 : vp_in (nI (5 * jx) + 3) L ∧ xs (nI (5 * jx) + 3).toNatClampNeg = a3) (hs4 : vp_in (nI (5 * jx) + 4) L ∧ xs (nI (5 * jx) + 4).toNatClampNeg = a4) {u : sS} {x pa sp ln rf sb m pn td ou : Nat} {th : Int32} {on : Int64} {Mw : zM} (hI : s_LX (z_G X) x pa sp ln rf sb m pn td ou u u th on Mw) (hok : s_ok jx u) (hj : jx < 64) {kq nq : Nat} (hkq : kq + 4000 ≤ 600128) (hnq : nq + 60000 ≤ 7301098) (kk : ∀ v th on Mz, s_LX (z_G X) x pa sp ln rf sb m pn td ou v v th on Mz → s_ok (jx + 1) v → z_W X Mz (kq + 4000) (nq + 60000) 27 [(4, .int (nI (5 * (jx + 1)))), (0, .ref b), (1, .ref x), (2, .ref m), (3, .ref ou)] []) : z_W X Mw kq nq 1650 [(4, .int (nI (5 * jx))), (0, .ref b), (1, .ref x), (2, .ref m), (3, .ref ou)] [] := by
  refine z_aload_n C dL_law_1650 rfl 2 rfl ?_
  refine z_aload_n C dL_law_1651 rfl 1 rfl ?_
  refine z_iload C dL_law_1652 0 rfl ?_
  refine z_iconst C (v := 1) dL_law_1654 (by decide) ?_
  refine z_iadd C dL_law_1655 ?_
  refine z_sld C hX hbl hbA hs1.1 hs1.2 dL_law_1656 ?_
  refine z_aload_n C dL_law_1657 rfl 1 rfl ?_
  refine z_iload C dL_law_1658 0 rfl ?_
  refine z_iconst C (v := 2) dL_law_1660 (by decide) ?_
  refine z_iadd C dL_law_1661 ?_
  refine z_sld C hX hbl hbA hs2.1 hs2.2 dL_law_1662 ?_
  refine z_aload_n C dL_law_1663 rfl 4 rfl ?_
  refine z_callHi (rest := []) (k' := kq + 8) (n' := nq + 48) C (s_LX_P hI (fun hC9 hd9 ho9 => w_would (z_l X) h_st hC9 hd9 ho9 hok a1 a2)) (ch_would C ⟨Nat.le_of_ble_eq_true rfl, Nat.le_of_ble_eq_true rfl⟩) rfl rfl (Nat.le_of_ble_eq_true rfl) rfl rfl (by show _ ≤ 600128; omega) (by show _ ≤ 7301098; omega) dL_law_1664 (fun xk M1 hq => ?_)
  obtain ⟨hk1, on1, hI1, ho1⟩ := hq
  refine z_istore (lv' := [(5, .int xk), (4, .int (nI (5 * jx))), (0, .ref b), (1, .ref x), (2, .ref m), (3, .ref ou)]) C dL_law_1667 (by decide) rfl ?_
  refine z_aload_n C dL_law_1669 rfl 4 rfl ?_
  refine z_aload_n C dL_law_1670 rfl 2 rfl ?_
  refine z_iload C dL_law_1671 1 rfl ?_
  refine z_iconst C (v := 1) dL_law_1673 (by decide) ?_
  refine z_iadd C dL_law_1674 ?_
  refine z_sld C hX hbl hbA hs1.1 hs1.2 dL_law_1675 ?_
  refine z_aload_n C dL_law_1676 rfl 2 rfl ?_
  refine z_iload C dL_law_1677 1 rfl ?_
  refine z_iconst C (v := 2) dL_law_1679 (by decide) ?_
  refine z_iadd C dL_law_1680 ?_
  refine z_sld C hX hbl hbA hs2.1 hs2.2 dL_law_1681 ?_
  obtain ⟨tp9, hm9⟩ := s_LX_m hI1
  refine z_callVi (rest := []) (k' := kq + 8) (n' := nq + 48) C (s_LX_R hI1 (fun hR9 => a_X5_would (z_l X) hR9 hok (by omega) a1 a2)) (cs_L_266 C ⟨Nat.le_of_ble_eq_true rfl, Nat.le_of_ble_eq_true rfl⟩) hm9 rfl rfl rfl rfl (Nat.le_of_ble_eq_true rfl) rfl rfl (by show _ ≤ 600128; omega) (by show _ ≤ 7301098; omega) dL_law_1682 (fun xr M2 hq => ?_)
  obtain ⟨hI2, hr2⟩ := hq
  refine z_istore (lv' := [(6, .int xr), (5, .int xk), (4, .int (nI (5 * jx))), (0, .ref b), (1, .ref x), (2, .ref m), (3, .ref ou)]) C dL_law_1685 (by decide) rfl ?_
  refine z_goto C (tgt := 1757) dL_law_1687 (by decide) ?_
  refine z_iinc (v := nI (5 * (jx + 1))) (lv' := [(4, .int (nI (5 * (jx + 1)))), (6, .int xr), (5, .int xk), (0, .ref b), (1, .ref x), (2, .ref m), (3, .ref ou)]) C dL_law_1757 2 rfl (j_inc5 jx) (by decide) rfl ?_
  refine z_goto C (tgt := 27) dL_law_1760 (by decide) ?_
  refine z_fewer [0, 3, 4, 5, 6] rfl ?_
  refine z_widen (k' := kq + 4000) (n' := nq + 60000) (by omega) (by omega) ?_
  exact kk _ _ _ _ hI2 (so_would hok)
set_option maxRecDepth 20000 in
theorem lc_house {X : zX} (C : z_C X cL_law RL 7 room_1) (h_st : (z_l X).stackTraces = false) {b L : Nat} {xs : Nat → Int32} (hX : va_X b L xs (z_s X) (z_s X).heap) (hbl : b < (z_s X).heap.size) (hbA : ¬ z_F X b) {jx : Nat} {a1 a2 a3 a4 : Int32} (hs1 : vp_in (nI (5 * jx) + 1) L ∧ xs (nI (5 * jx) + 1).toNatClampNeg = a1) (hs2 : vp_in (nI (5 * jx) + 2) L ∧ xs (nI (5 * jx) + 2).toNatClampNeg = a2) (hs3 : vp_in (nI (5 * jx) + 3) L ∧ xs (nI (5 * jx) + 3).toNatClampNeg = a3) (hs4 : vp_in (nI (5 * jx) + 4) L ∧ xs (nI (5 * jx) + 4).toNatClampNeg = a4) {u : sS} {x pa sp ln rf sb m pn td ou : Nat} {th : Int32} {on : Int64} {Mw : zM} (hI : s_LX (z_G X) x pa sp ln rf sb m pn td ou u u th on Mw) (hok : s_ok jx u) (hj : jx < 64) {kq nq : Nat} (hkq : kq + 4000 ≤ 600128) (hnq : nq + 60000 ≤ 7301098) (kk : ∀ v th on Mz, s_LX (z_G X) x pa sp ln rf sb m pn td ou v v th on Mz → s_ok (jx + 1) v → z_W X Mz (kq + 4000) (nq + 60000) 27 [(4, .int (nI (5 * (jx + 1)))), (0, .ref b), (1, .ref x), (2, .ref m), (3, .ref ou)] []) : z_W X Mw kq nq 1690 [(4, .int (nI (5 * jx))), (0, .ref b), (1, .ref x), (2, .ref m), (3, .ref ou)] [] := by
  refine z_aload_n C dL_law_1690 rfl 2 rfl ?_
  refine z_aload_n C dL_law_1691 rfl 1 rfl ?_
  refine z_iload C dL_law_1692 0 rfl ?_
  refine z_iconst C (v := 1) dL_law_1694 (by decide) ?_
  refine z_iadd C dL_law_1695 ?_
  refine z_sld C hX hbl hbA hs1.1 hs1.2 dL_law_1696 ?_
  refine z_aload_n C dL_law_1697 rfl 4 rfl ?_
  refine z_callHi (rest := []) (k' := kq + 8) (n' := nq + 48) C (s_LX_P hI (fun hC9 hd9 ho9 => w_house (z_l X) h_st hC9 hd9 ho9 hok a1)) (ch_house C ⟨Nat.le_of_ble_eq_true rfl, Nat.le_of_ble_eq_true rfl⟩) rfl rfl (Nat.le_of_ble_eq_true rfl) rfl rfl (by show _ ≤ 600128; omega) (by show _ ≤ 7301098; omega) dL_law_1698 (fun xk M1 hq => ?_)
  obtain ⟨hk1, on1, hI1, ho1⟩ := hq
  refine z_istore (lv' := [(5, .int xk), (4, .int (nI (5 * jx))), (0, .ref b), (1, .ref x), (2, .ref m), (3, .ref ou)]) C dL_law_1701 (by decide) rfl ?_
  refine z_aload_n C dL_law_1703 rfl 4 rfl ?_
  refine z_aload_n C dL_law_1704 rfl 2 rfl ?_
  refine z_iload C dL_law_1705 1 rfl ?_
  refine z_iconst C (v := 1) dL_law_1707 (by decide) ?_
  refine z_iadd C dL_law_1708 ?_
  refine z_sld C hX hbl hbA hs1.1 hs1.2 dL_law_1709 ?_
  obtain ⟨tp9, hm9⟩ := s_LX_m hI1
  refine z_callVi (rest := []) (k' := kq + 8) (n' := nq + 48) C (s_LX_R hI1 (fun hR9 => a_X5_house (z_l X) hR9 hok (by omega) a1)) (cs_L_269 C ⟨Nat.le_of_ble_eq_true rfl, Nat.le_of_ble_eq_true rfl⟩) hm9 rfl rfl rfl rfl (Nat.le_of_ble_eq_true rfl) rfl rfl (by show _ ≤ 600128; omega) (by show _ ≤ 7301098; omega) dL_law_1710 (fun xr M2 hq => ?_)
  obtain ⟨hI2, hr2⟩ := hq
  refine z_istore (lv' := [(6, .int xr), (5, .int xk), (4, .int (nI (5 * jx))), (0, .ref b), (1, .ref x), (2, .ref m), (3, .ref ou)]) C dL_law_1713 (by decide) rfl ?_
  refine z_goto C (tgt := 1757) dL_law_1715 (by decide) ?_
  refine z_iinc (v := nI (5 * (jx + 1))) (lv' := [(4, .int (nI (5 * (jx + 1)))), (6, .int xr), (5, .int xk), (0, .ref b), (1, .ref x), (2, .ref m), (3, .ref ou)]) C dL_law_1757 2 rfl (j_inc5 jx) (by decide) rfl ?_
  refine z_goto C (tgt := 27) dL_law_1760 (by decide) ?_
  refine z_fewer [0, 3, 4, 5, 6] rfl ?_
  refine z_widen (k' := kq + 4000) (n' := nq + 60000) (by omega) (by omega) ?_
  exact kk _ _ _ _ hI2 (so_house hok)
set_option maxRecDepth 20000 in
theorem lc_knock {X : zX} (C : z_C X cL_law RL 7 room_1) (h_st : (z_l X).stackTraces = false) {b L : Nat} {xs : Nat → Int32} (hX : va_X b L xs (z_s X) (z_s X).heap) (hbl : b < (z_s X).heap.size) (hbA : ¬ z_F X b) {jx : Nat} {a1 a2 a3 a4 : Int32} (hs1 : vp_in (nI (5 * jx) + 1) L ∧ xs (nI (5 * jx) + 1).toNatClampNeg = a1) (hs2 : vp_in (nI (5 * jx) + 2) L ∧ xs (nI (5 * jx) + 2).toNatClampNeg = a2) (hs3 : vp_in (nI (5 * jx) + 3) L ∧ xs (nI (5 * jx) + 3).toNatClampNeg = a3) (hs4 : vp_in (nI (5 * jx) + 4) L ∧ xs (nI (5 * jx) + 4).toNatClampNeg = a4) {u : sS} {x pa sp ln rf sb m pn td ou : Nat} {th : Int32} {on : Int64} {Mw : zM} (hI : s_LX (z_G X) x pa sp ln rf sb m pn td ou u u th on Mw) (hok : s_ok jx u) (hj : jx < 64) {kq nq : Nat} (hkq : kq + 4000 ≤ 600128) (hnq : nq + 60000 ≤ 7301098) (kk : ∀ v th on Mz, s_LX (z_G X) x pa sp ln rf sb m pn td ou v v th on Mz → s_ok (jx + 1) v → z_W X Mz (kq + 4000) (nq + 60000) 27 [(4, .int (nI (5 * (jx + 1)))), (0, .ref b), (1, .ref x), (2, .ref m), (3, .ref ou)] []) : z_W X Mw kq nq 1718 [(4, .int (nI (5 * jx))), (0, .ref b), (1, .ref x), (2, .ref m), (3, .ref ou)] [] := by
  refine z_aload_n C dL_law_1718 rfl 2 rfl ?_
  obtain ⟨lr9, hx9⟩ := s_LX_x hI
  refine z_callVi (rest := []) (k' := kq) (n' := nq) C (s_LX_Ci hI (v := s_ak u (s_ac u) (s_kn u + 1)) (Q := fun r => r = s_kn u + 1) (fun hC9 => by obtain ⟨P, RA, VA, hC⟩ := hC9; exact z_Mi_mono (a_X3_knock (z_l X) hC) (fun r Mz h => h.2))) (cs_L_270 C ⟨Nat.le_of_ble_eq_true rfl, Nat.le_of_ble_eq_true rfl⟩) hx9 rfl rfl rfl rfl (Nat.le_of_ble_eq_true rfl) rfl rfl (by show _ ≤ 600128; omega) (by show _ ≤ 7301098; omega) dL_law_1719 (fun xv0 M1 hq => ?_)
  obtain ⟨hk1, hI1⟩ := hq
  refine z_pop C dL_law_1722 rfl ?_
  refine z_aload_n C dL_law_1723 rfl 3 rfl ?_
  obtain ⟨tp9, hm9⟩ := s_LX_m hI1
  refine z_callVi (rest := []) (k' := kq) (n' := nq) C (s_LX_R hI1 (k := 0) (b := (s_kn u + 1, s_ak u (s_ac u) (s_kn u + 1))) (fun hR9 => a_X5_knock (z_l X) hR9)) (cs_L_273 C ⟨Nat.le_of_ble_eq_true rfl, Nat.le_of_ble_eq_true rfl⟩) hm9 rfl rfl rfl rfl (Nat.le_of_ble_eq_true rfl) rfl rfl (by show _ ≤ 600128; omega) (by show _ ≤ 7301098; omega) dL_law_1724 (fun xv1 M2 hq => ?_)
  obtain ⟨hI2, hr2⟩ := hq
  rw [if_pos rfl] at hI2
  refine z_pop C dL_law_1727 rfl ?_
  refine z_goto C (tgt := 1757) dL_law_1728 (by decide) ?_
  refine z_iinc (v := nI (5 * (jx + 1))) (lv' := [(4, .int (nI (5 * (jx + 1)))), (0, .ref b), (1, .ref x), (2, .ref m), (3, .ref ou)]) C dL_law_1757 0 rfl (j_inc5 jx) (by decide) rfl ?_
  refine z_goto C (tgt := 27) dL_law_1760 (by decide) ?_
  refine z_fewer [0, 1, 2, 3, 4] rfl ?_
  refine z_widen (k' := kq + 4000) (n' := nq + 60000) (by omega) (by omega) ?_
  exact kk _ _ _ _ hI2 (s_ok_mono (s_ok_ak hok _ _) (Nat.le_succ _))
set_option maxRecDepth 20000 in
theorem lc_isSound {X : zX} (C : z_C X cL_law RL 7 room_1) (h_st : (z_l X).stackTraces = false) {b L : Nat} {xs : Nat → Int32} (hX : va_X b L xs (z_s X) (z_s X).heap) (hbl : b < (z_s X).heap.size) (hbA : ¬ z_F X b) {jx : Nat} {a1 a2 a3 a4 : Int32} (hs1 : vp_in (nI (5 * jx) + 1) L ∧ xs (nI (5 * jx) + 1).toNatClampNeg = a1) (hs2 : vp_in (nI (5 * jx) + 2) L ∧ xs (nI (5 * jx) + 2).toNatClampNeg = a2) (hs3 : vp_in (nI (5 * jx) + 3) L ∧ xs (nI (5 * jx) + 3).toNatClampNeg = a3) (hs4 : vp_in (nI (5 * jx) + 4) L ∧ xs (nI (5 * jx) + 4).toNatClampNeg = a4) {u : sS} {x pa sp ln rf sb m pn td ou : Nat} {th : Int32} {on : Int64} {Mw : zM} (hI : s_LX (z_G X) x pa sp ln rf sb m pn td ou u u th on Mw) (hok : s_ok jx u) (hj : jx < 64) {kq nq : Nat} (hkq : kq + 4000 ≤ 600128) (hnq : nq + 60000 ≤ 7301098) (kk : ∀ v th on Mz, s_LX (z_G X) x pa sp ln rf sb m pn td ou v v th on Mz → s_ok (jx + 1) v → z_W X Mz (kq + 4000) (nq + 60000) 27 [(4, .int (nI (5 * (jx + 1)))), (0, .ref b), (1, .ref x), (2, .ref m), (3, .ref ou)] []) : z_W X Mw kq nq 1731 [(4, .int (nI (5 * jx))), (0, .ref b), (1, .ref x), (2, .ref m), (3, .ref ou)] [] := by
  refine z_aload_n C dL_law_1731 rfl 2 rfl ?_
  obtain ⟨lr9, hx9⟩ := s_LX_x hI
  refine z_callVi (rest := []) (k' := kq) (n' := nq) C (s_LX_Ci hI (v := u) (Q := fun r => r = 1) (fun hC9 => by obtain ⟨P, RA, VA, hC⟩ := hC9; exact z_Mi_mono (a_X3_isSound (z_l X) hC hok) (fun r Mz h => ⟨h.1, _, _, _, h.2⟩))) (cs_L_274 C ⟨Nat.le_of_ble_eq_true rfl, Nat.le_of_ble_eq_true rfl⟩) hx9 rfl rfl rfl rfl (Nat.le_of_ble_eq_true rfl) rfl rfl (by show _ ≤ 600128; omega) (by show _ ≤ 7301098; omega) dL_law_1732 (fun xv0 M1 hq => ?_)
  obtain ⟨hk1, hI1⟩ := hq
  refine z_pop C dL_law_1735 rfl ?_
  refine z_aload_n C dL_law_1736 rfl 3 rfl ?_
  obtain ⟨tp9, hm9⟩ := s_LX_m hI1
  refine z_callVi (rest := []) (k' := kq) (n' := nq) C (s_LX_R hI1 (k := 0) (b := (1, u)) (fun hR9 => a_X5_isSound (z_l X) hR9)) (cs_L_278 C ⟨Nat.le_of_ble_eq_true rfl, Nat.le_of_ble_eq_true rfl⟩) hm9 rfl rfl rfl rfl (Nat.le_of_ble_eq_true rfl) rfl rfl (by show _ ≤ 600128; omega) (by show _ ≤ 7301098; omega) dL_law_1737 (fun xv1 M2 hq => ?_)
  obtain ⟨hI2, hr2⟩ := hq
  rw [if_pos rfl] at hI2
  refine z_pop C dL_law_1740 rfl ?_
  refine z_goto C (tgt := 1757) dL_law_1741 (by decide) ?_
  refine z_iinc (v := nI (5 * (jx + 1))) (lv' := [(4, .int (nI (5 * (jx + 1)))), (0, .ref b), (1, .ref x), (2, .ref m), (3, .ref ou)]) C dL_law_1757 0 rfl (j_inc5 jx) (by decide) rfl ?_
  refine z_goto C (tgt := 27) dL_law_1760 (by decide) ?_
  refine z_fewer [0, 1, 2, 3, 4] rfl ?_
  refine z_widen (k' := kq + 4000) (n' := nq + 60000) (by omega) (by omega) ?_
  exact kk _ _ _ _ hI2 (s_ok_mono hok (Nat.le_succ _))
set_option maxRecDepth 20000 in
theorem lc_digest {X : zX} (C : z_C X cL_law RL 7 room_1) (h_st : (z_l X).stackTraces = false) {b L : Nat} {xs : Nat → Int32} (hX : va_X b L xs (z_s X) (z_s X).heap) (hbl : b < (z_s X).heap.size) (hbA : ¬ z_F X b) {jx : Nat} {a1 a2 a3 a4 : Int32} (hs1 : vp_in (nI (5 * jx) + 1) L ∧ xs (nI (5 * jx) + 1).toNatClampNeg = a1) (hs2 : vp_in (nI (5 * jx) + 2) L ∧ xs (nI (5 * jx) + 2).toNatClampNeg = a2) (hs3 : vp_in (nI (5 * jx) + 3) L ∧ xs (nI (5 * jx) + 3).toNatClampNeg = a3) (hs4 : vp_in (nI (5 * jx) + 4) L ∧ xs (nI (5 * jx) + 4).toNatClampNeg = a4) {u : sS} {x pa sp ln rf sb m pn td ou : Nat} {th : Int32} {on : Int64} {Mw : zM} (hI : s_LX (z_G X) x pa sp ln rf sb m pn td ou u u th on Mw) (hok : s_ok jx u) (hj : jx < 64) {kq nq : Nat} (hkq : kq + 4000 ≤ 600128) (hnq : nq + 60000 ≤ 7301098) (kk : ∀ v th on Mz, s_LX (z_G X) x pa sp ln rf sb m pn td ou v v th on Mz → s_ok (jx + 1) v → z_W X Mz (kq + 4000) (nq + 60000) 27 [(4, .int (nI (5 * (jx + 1)))), (0, .ref b), (1, .ref x), (2, .ref m), (3, .ref ou)] []) : z_W X Mw kq nq 1744 [(4, .int (nI (5 * jx))), (0, .ref b), (1, .ref x), (2, .ref m), (3, .ref ou)] [] := by
  refine z_aload_n C dL_law_1744 rfl 2 rfl ?_
  obtain ⟨lr9, hx9⟩ := s_LX_x hI
  refine z_callVl (rest := []) (k' := kq + 468) (n' := nq + 15184) C (s_LX_Cl hI (v := u) (Q := fun _ => True) (fun hC9 => by obtain ⟨P, RA, VA, hC⟩ := hC9; exact z_Ml_mono (a_X3_digest (z_l X) hC hok) (fun r Mz h => ⟨trivial, _, _, _, h⟩))) (cs_L_279 C ⟨Nat.le_of_ble_eq_true rfl, Nat.le_of_ble_eq_true rfl⟩) hx9 rfl rfl rfl rfl (Nat.le_of_ble_eq_true rfl) rfl rfl (by show _ ≤ 600128; omega) (by show _ ≤ 7301098; omega) dL_law_1745 (fun xv0 M1 hq => ?_)
  obtain ⟨-, hI1⟩ := hq
  refine z_pop2 C dL_law_1748 ?_
  refine z_aload_n C dL_law_1749 rfl 3 rfl ?_
  obtain ⟨tp9, hm9⟩ := s_LX_m hI1
  refine z_callVl (rest := []) (k' := kq + 468 + 700) (n' := nq + 15184 + 22000) C (s_LX_Rl hI1 (k := 0) (Q := fun _ => True) (fun hR9 => z_Ml_mono (a_X5_digest (z_l X) hR9 hok (by omega)) (fun r Mz h => ⟨trivial, h⟩))) (cs_L_283 C ⟨Nat.le_of_ble_eq_true rfl, Nat.le_of_ble_eq_true rfl⟩) hm9 rfl rfl rfl rfl (Nat.le_of_ble_eq_true rfl) rfl rfl (by show _ ≤ 600128; omega) (by show _ ≤ 7301098; omega) dL_law_1750 (fun xv1 M2 hq => ?_)
  obtain ⟨-, hI2⟩ := hq
  refine z_pop2 C dL_law_1753 ?_
  refine z_goto C (tgt := 1757) dL_law_1754 (by decide) ?_
  refine z_iinc (v := nI (5 * (jx + 1))) (lv' := [(4, .int (nI (5 * (jx + 1)))), (0, .ref b), (1, .ref x), (2, .ref m), (3, .ref ou)]) C dL_law_1757 0 rfl (j_inc5 jx) (by decide) rfl ?_
  refine z_goto C (tgt := 27) dL_law_1760 (by decide) ?_
  refine z_fewer [0, 1, 2, 3, 4] rfl ?_
  refine z_widen (k' := kq + 4000) (n' := nq + 60000) (by omega) (by omega) ?_
  exact kk _ _ _ _ hI2 (s_ok_mono hok (Nat.le_succ _))
end
section
/-! PART 71: the law's loop -/
theorem j_ofN (n : Nat) : Int32.ofNat n = nI n := rfl
theorem j_out {L jx : Nat} (h : L < 5 * jx + 5) (hL : L ≤ 320) (hj : jx ≤ 65) : Int32.ofNat L - 5 < nI (5 * jx) := by
  have h5 : (5 : Int32).toInt = 5 := by decide
  have h1 : (Int32.ofNat L - 5).toInt = (L : Int) - 5 := by rw [j_ofN, fb_subI (by rw [nI_T (by omega), h5]; omega) (by rw [nI_T (by omega), h5]; omega), nI_T (by omega), h5]
  rw [z_ltI, h1, nI_T (by omega)]
  omega
theorem j_inL {L jx : Nat} (h : 5 * jx + 5 ≤ L) (hL : L ≤ 320) : ¬ Int32.ofNat L - 5 < nI (5 * jx) := by
  have h5 : (5 : Int32).toInt = 5 := by decide
  have h1 : (Int32.ofNat L - 5).toInt = (L : Int) - 5 := by rw [j_ofN, fb_subI (by rw [nI_T (by omega), h5]; omega) (by rw [nI_T (by omega), h5]; omega), nI_T (by omega), h5]
  rw [z_ltI, h1, nI_T (by omega)]
  omega
theorem j_arg {L jx k : Nat} {xs : Nat → Int32} {y : Int32} (hk : k < 5) (h : 5 * jx + 5 ≤ L) (hL : L ≤ 320) (hy : xs (nI (5 * jx) + nI k).toNatClampNeg = y) : vp_in (nI (5 * jx) + nI k) L ∧ xs (nI (5 * jx) + nI k).toNatClampNeg = y := by
  refine ⟨?_, hy⟩
  rw [nI_add]
  exact vp_in_nI (by omega) (by omega)
theorem dbL_law_27 : (decode cL_law 27 = .ok (.iload 4, 2)) ∧ (decode cL_law 29 = .ok (.aload_n 0, 1)) ∧ (decode cL_law 30 = .ok (.arraylength, 1)) ∧ (decode cL_law 31 = .ok (.iconst 5, 1)) ∧ (decode cL_law 32 = .ok (.isub, 1)) ∧ (decode cL_law 33 = .ok (.if_icmp .gt 1730, 3)) ∧ (decode cL_law 36 = .ok (.aload_n 0, 1)) ∧ (decode cL_law 37 = .ok (.iload 4, 2)) ∧ (decode cL_law 39 = .ok (.iaload, 1)) ∧ (decode cL_law 40 = .ok (.bipush 63, 2)) := by decide +kernel
theorem dL_law_27 : decode cL_law 27 = .ok (.iload 4, 2) := dbL_law_27.1
theorem dL_law_29 : decode cL_law 29 = .ok (.aload_n 0, 1) := dbL_law_27.2.1
theorem dL_law_30 : decode cL_law 30 = .ok (.arraylength, 1) := dbL_law_27.2.2.1
theorem dL_law_31 : decode cL_law 31 = .ok (.iconst 5, 1) := dbL_law_27.2.2.2.1
theorem dL_law_32 : decode cL_law 32 = .ok (.isub, 1) := dbL_law_27.2.2.2.2.1
theorem dL_law_33 : decode cL_law 33 = .ok (.if_icmp .gt 1730, 3) := dbL_law_27.2.2.2.2.2.1
theorem dL_law_36 : decode cL_law 36 = .ok (.aload_n 0, 1) := dbL_law_27.2.2.2.2.2.2.1
theorem dL_law_37 : decode cL_law 37 = .ok (.iload 4, 2) := dbL_law_27.2.2.2.2.2.2.2.1
theorem dL_law_39 : decode cL_law 39 = .ok (.iaload, 1) := dbL_law_27.2.2.2.2.2.2.2.2.1
theorem dL_law_40 : decode cL_law 40 = .ok (.bipush 63, 2) := dbL_law_27.2.2.2.2.2.2.2.2.2
theorem dbL_law_42 : (decode cL_law 42 = .ok (.iand, 1)) ∧ (decode cL_law 43 = .ok (.tableswitch 1714 0 40 #[177, 229, 269, 309, 349, 413, 453, 493, 533, 573, 613, 653, 681, 709, 737, 765, 793, 833, 885, 949, 1013, 1041, 1093, 1133, 1185, 1213, 1282, 1310, 1350, 1390, 1418, 1446, 1474, 1502, 1515, 1555, 1607, 1647, 1675, 1688, 1701], 177)) ∧ (decode cL_law 1763 = .ok (.iconst 1, 1)) := by decide +kernel
theorem dL_law_42 : decode cL_law 42 = .ok (.iand, 1) := dbL_law_42.1
theorem dL_law_43 : decode cL_law 43 = .ok (.tableswitch 1714 0 40 #[177, 229, 269, 309, 349, 413, 453, 493, 533, 573, 613, 653, 681, 709, 737, 765, 793, 833, 885, 949, 1013, 1041, 1093, 1133, 1185, 1213, 1282, 1310, 1350, 1390, 1418, 1446, 1474, 1502, 1515, 1555, 1607, 1647, 1675, 1688, 1701], 177) := dbL_law_42.2.1
theorem dL_law_1763 : decode cL_law 1763 = .ok (.iconst 1, 1) := dbL_law_42.2.2
set_option maxRecDepth 20000 in
theorem lp_law {X : zX} (C : z_C X cL_law RL 7 room_1) (h_st : (z_l X).stackTraces = false) {b L : Nat} {xs : Nat → Int32} (hX : va_X b L xs (z_s X) (z_s X).heap) (hbl : b < (z_s X).heap.size) (hbA : ¬ z_F X b) (hL : L ≤ 320) {x pa sp ln rf sb m pn td ou k0 n0 : Nat} (hk0 : k0 + 260000 ≤ 600128) (hn0 : n0 + 3900000 ≤ 7301098) (kex : ∀ Mz k n lv, k ≤ 600128 → n ≤ 7301098 → z_W X Mz k n 1764 lv [.int 1]) : ∀ (d jx : Nat) (u : sS) (th : Int32) (on : Int64) (Mw : zM), jx + d = 65 → s_LX (z_G X) x pa sp ln rf sb m pn td ou u u th on Mw → s_ok jx u → z_W X Mw (k0 + jx * 4000) (n0 + jx * 60000) 27 [(4, .int (nI (5 * jx))), (0, .ref b), (1, .ref x), (2, .ref m), (3, .ref ou)] [] := by
  intro d
  induction d with
  | zero =>
    intro jx u th on Mw hd hI hok
    have hlt : L < 5 * jx + 5 := by omega
    refine z_iload C dL_law_27 0 rfl ?_
    refine z_aload_n C dL_law_29 rfl 1 rfl ?_
    refine z_slen C hX hbl hbA dL_law_30 ?_
    refine z_iconst C (v := 5) dL_law_31 (by decide) ?_
    refine z_isub C dL_law_32 ?_
    refine z_icmp_gt C (tgt := 1763) dL_law_33 (by decide) (fun _ => ?_) (fun c33 => absurd (j_out hlt hL (by omega)) c33)
    refine z_iconst C (v := 1) dL_law_1763 (by decide) ?_
    exact kex _ _ _ _ (by omega) (by omega)
  | succ d ih =>
    intro jx u th on Mw hd hI hok
    rcases Nat.lt_or_ge L (5 * jx + 5) with hlt | hge
    · skip
      refine z_iload C dL_law_27 0 rfl ?_
      refine z_aload_n C dL_law_29 rfl 1 rfl ?_
      refine z_slen C hX hbl hbA dL_law_30 ?_
      refine z_iconst C (v := 5) dL_law_31 (by decide) ?_
      refine z_isub C dL_law_32 ?_
      refine z_icmp_gt C (tgt := 1763) dL_law_33 (by decide) (fun _ => ?_) (fun c33 => absurd (j_out hlt hL (by omega)) c33)
      refine z_iconst C (v := 1) dL_law_1763 (by decide) ?_
      exact kex _ _ _ _ (by omega) (by omega)
    · skip
      obtain ⟨a0, h0⟩ : ∃ y : Int32, xs (nI (5 * jx)).toNatClampNeg = y := ⟨_, rfl⟩
      obtain ⟨a1, h1⟩ : ∃ y : Int32, xs (nI (5 * jx) + 1).toNatClampNeg = y := ⟨_, rfl⟩
      obtain ⟨a2, h2⟩ : ∃ y : Int32, xs (nI (5 * jx) + 2).toNatClampNeg = y := ⟨_, rfl⟩
      obtain ⟨a3, h3⟩ : ∃ y : Int32, xs (nI (5 * jx) + 3).toNatClampNeg = y := ⟨_, rfl⟩
      obtain ⟨a4, h4⟩ : ∃ y : Int32, xs (nI (5 * jx) + 4).toNatClampNeg = y := ⟨_, rfl⟩
      have hs0 : vp_in (nI (5 * jx)) L ∧ xs (nI (5 * jx)).toNatClampNeg = a0 := ⟨vp_in_nI (by omega) (by omega), h0⟩
      have hs1 : vp_in (nI (5 * jx) + 1) L ∧ xs (nI (5 * jx) + 1).toNatClampNeg = a1 := j_arg (k := 1) (by decide) hge hL h1
      have hs2 : vp_in (nI (5 * jx) + 2) L ∧ xs (nI (5 * jx) + 2).toNatClampNeg = a2 := j_arg (k := 2) (by decide) hge hL h2
      have hs3 : vp_in (nI (5 * jx) + 3) L ∧ xs (nI (5 * jx) + 3).toNatClampNeg = a3 := j_arg (k := 3) (by decide) hge hL h3
      have hs4 : vp_in (nI (5 * jx) + 4) L ∧ xs (nI (5 * jx) + 4).toNatClampNeg = a4 := j_arg (k := 4) (by decide) hge hL h4
      have kk9 : ∀ v th on Mz, s_LX (z_G X) x pa sp ln rf sb m pn td ou v v th on Mz → s_ok (jx + 1) v → z_W X Mz (k0 + jx * 4000 + 4000) (n0 + jx * 60000 + 60000) 27 [(4, .int (nI (5 * (jx + 1)))), (0, .ref b), (1, .ref x), (2, .ref m), (3, .ref ou)] [] := fun v th on Mz hI9 ho9 => z_kn (by omega) (by omega) (ih (jx + 1) v th on Mz (by omega) hI9 ho9)
      refine z_iload C dL_law_27 0 rfl ?_
      refine z_aload_n C dL_law_29 rfl 1 rfl ?_
      refine z_slen C hX hbl hbA dL_law_30 ?_
      refine z_iconst C (v := 5) dL_law_31 (by decide) ?_
      refine z_isub C dL_law_32 ?_
      refine z_icmp_gt C (tgt := 1763) dL_law_33 (by decide) (fun c33 => absurd c33 (j_inL hge hL)) (fun _ => ?_)
      refine z_aload_n C dL_law_36 rfl 1 rfl ?_
      refine z_iload C dL_law_37 0 rfl ?_
      refine z_sld C hX hbl hbA hs0.1 hs0.2 dL_law_39 ?_
      refine z_bipush C (v := 63) dL_law_40 (by decide) ?_
      refine z_iand C dL_law_42 ?_
      refine z_swi (fun x43 e43 => ?_)
      by_cases c43_0 : x43 = 0
      · refine z_tin C (v := 0) (tgt := 220) dL_law_43 c43_0 (by decide) (by decide) (by decide) (by decide) ?_
        exact lc_wrap C h_st hX hbl hbA hs1 hs2 hs3 hs4 hI hok (by omega) (by omega) (by omega) kk9
      by_cases c43_1 : x43 = 1
      · refine z_tin C (v := 1) (tgt := 272) dL_law_43 c43_1 (by decide) (by decide) (by decide) (by decide) ?_
        exact lc_fresh C h_st hX hbl hbA hs1 hs2 hs3 hs4 hI hok (by omega) (by omega) (by omega) kk9
      by_cases c43_2 : x43 = 2
      · refine z_tin C (v := 2) (tgt := 312) dL_law_43 c43_2 (by decide) (by decide) (by decide) (by decide) ?_
        exact lc_twin C h_st hX hbl hbA hs1 hs2 hs3 hs4 hI hok (by omega) (by omega) (by omega) kk9
      by_cases c43_3 : x43 = 3
      · refine z_tin C (v := 3) (tgt := 352) dL_law_43 c43_3 (by decide) (by decide) (by decide) (by decide) ?_
        exact lc_rest C h_st hX hbl hbA hs1 hs2 hs3 hs4 hI hok (by omega) (by omega) (by omega) kk9
      by_cases c43_4 : x43 = 4
      · refine z_tin C (v := 4) (tgt := 392) dL_law_43 c43_4 (by decide) (by decide) (by decide) (by decide) ?_
        exact lc_part C h_st hX hbl hbA hs1 hs2 hs3 hs4 hI hok (by omega) (by omega) (by omega) kk9
      by_cases c43_5 : x43 = 5
      · refine z_tin C (v := 5) (tgt := 456) dL_law_43 c43_5 (by decide) (by decide) (by decide) (by decide) ?_
        exact lc_reader C h_st hX hbl hbA hs1 hs2 hs3 hs4 hI hok (by omega) (by omega) (by omega) kk9
      by_cases c43_6 : x43 = 6
      · refine z_tin C (v := 6) (tgt := 496) dL_law_43 c43_6 (by decide) (by decide) (by decide) (by decide) ?_
        exact lc_exchange C h_st hX hbl hbA hs1 hs2 hs3 hs4 hI hok (by omega) (by omega) (by omega) kk9
      by_cases c43_7 : x43 = 7
      · refine z_tin C (v := 7) (tgt := 536) dL_law_43 c43_7 (by decide) (by decide) (by decide) (by decide) ?_
        exact lc_go C h_st hX hbl hbA hs1 hs2 hs3 hs4 hI hok (by omega) (by omega) (by omega) kk9
      by_cases c43_8 : x43 = 8
      · refine z_tin C (v := 8) (tgt := 576) dL_law_43 c43_8 (by decide) (by decide) (by decide) (by decide) ?_
        exact lc_move C h_st hX hbl hbA hs1 hs2 hs3 hs4 hI hok (by omega) (by omega) (by omega) kk9
      by_cases c43_9 : x43 = 9
      · refine z_tin C (v := 9) (tgt := 616) dL_law_43 c43_9 (by decide) (by decide) (by decide) (by decide) ?_
        exact lc_end C h_st hX hbl hbA hs1 hs2 hs3 hs4 hI hok (by omega) (by omega) (by omega) kk9
      by_cases c43_10 : x43 = 10
      · refine z_tin C (v := 10) (tgt := 656) dL_law_43 c43_10 (by decide) (by decide) (by decide) (by decide) ?_
        exact lc_stretch C h_st hX hbl hbA hs1 hs2 hs3 hs4 hI hok (by omega) (by omega) (by omega) kk9
      by_cases c43_11 : x43 = 11
      · refine z_tin C (v := 11) (tgt := 696) dL_law_43 c43_11 (by decide) (by decide) (by decide) (by decide) ?_
        exact lc_mark C h_st hX hbl hbA hs1 hs2 hs3 hs4 hI hok (by omega) (by omega) (by omega) kk9
      by_cases c43_12 : x43 = 12
      · refine z_tin C (v := 12) (tgt := 724) dL_law_43 c43_12 (by decide) (by decide) (by decide) (by decide) ?_
        exact lc_back C h_st hX hbl hbA hs1 hs2 hs3 hs4 hI hok (by omega) (by omega) (by omega) kk9
      by_cases c43_13 : x43 = 13
      · refine z_tin C (v := 13) (tgt := 752) dL_law_43 c43_13 (by decide) (by decide) (by decide) (by decide) ?_
        exact lc_clear C h_st hX hbl hbA hs1 hs2 hs3 hs4 hI hok (by omega) (by omega) (by omega) kk9
      by_cases c43_14 : x43 = 14
      · refine z_tin C (v := 14) (tgt := 780) dL_law_43 c43_14 (by decide) (by decide) (by decide) (by decide) ?_
        exact lc_flip C h_st hX hbl hbA hs1 hs2 hs3 hs4 hI hok (by omega) (by omega) (by omega) kk9
      by_cases c43_15 : x43 = 15
      · refine z_tin C (v := 15) (tgt := 808) dL_law_43 c43_15 (by decide) (by decide) (by decide) (by decide) ?_
        exact lc_rewind C h_st hX hbl hbA hs1 hs2 hs3 hs4 hI hok (by omega) (by omega) (by omega) kk9
      by_cases c43_16 : x43 = 16
      · refine z_tin C (v := 16) (tgt := 836) dL_law_43 c43_16 (by decide) (by decide) (by decide) (by decide) ?_
        exact lc_put C h_st hX hbl hbA hs1 hs2 hs3 hs4 hI hok (by omega) (by omega) (by omega) kk9
      by_cases c43_17 : x43 = 17
      · refine z_tin C (v := 17) (tgt := 876) dL_law_43 c43_17 (by decide) (by decide) (by decide) (by decide) ?_
        exact lc_putAt C h_st hX hbl hbA hs1 hs2 hs3 hs4 hI hok (by omega) (by omega) (by omega) kk9
      by_cases c43_18 : x43 = 18
      · refine z_tin C (v := 18) (tgt := 928) dL_law_43 c43_18 (by decide) (by decide) (by decide) (by decide) ?_
        exact lc_bring C h_st hX hbl hbA hs1 hs2 hs3 hs4 hI hok (by omega) (by omega) (by omega) kk9
      by_cases c43_19 : x43 = 19
      · refine z_tin C (v := 19) (tgt := 992) dL_law_43 c43_19 (by decide) (by decide) (by decide) (by decide) ?_
        exact lc_fill C h_st hX hbl hbA hs1 hs2 hs3 hs4 hI hok (by omega) (by omega) (by omega) kk9
      by_cases c43_20 : x43 = 20
      · refine z_tin C (v := 20) (tgt := 1056) dL_law_43 c43_20 (by decide) (by decide) (by decide) (by decide) ?_
        exact lc_pack C h_st hX hbl hbA hs1 hs2 hs3 hs4 hI hok (by omega) (by omega) (by omega) kk9
      by_cases c43_21 : x43 = 21
      · refine z_tin C (v := 21) (tgt := 1084) dL_law_43 c43_21 (by decide) (by decide) (by decide) (by decide) ?_
        exact lc_pour C h_st hX hbl hbA hs1 hs2 hs3 hs4 hI hok (by omega) (by omega) (by omega) kk9
      by_cases c43_22 : x43 = 22
      · refine z_tin C (v := 22) (tgt := 1136) dL_law_43 c43_22 (by decide) (by decide) (by decide) (by decide) ?_
        exact lc_lay C h_st hX hbl hbA hs1 hs2 hs3 hs4 hI hok (by omega) (by omega) (by omega) kk9
      by_cases c43_23 : x43 = 23
      · refine z_tin C (v := 23) (tgt := 1176) dL_law_43 c43_23 (by decide) (by decide) (by decide) (by decide) ?_
        exact lc_reach C h_st hX hbl hbA hs1 hs2 hs3 hs4 hI hok (by omega) (by omega) (by omega) kk9
      by_cases c43_24 : x43 = 24
      · refine z_tin C (v := 24) (tgt := 1228) dL_law_43 c43_24 (by decide) (by decide) (by decide) (by decide) ?_
        exact lc_get C h_st hX hbl hbA hs1 hs2 hs3 hs4 hI hok (by omega) (by omega) (by omega) kk9
      by_cases c43_25 : x43 = 25
      · refine z_tin C (v := 25) (tgt := 1256) dL_law_43 c43_25 (by decide) (by decide) (by decide) (by decide) ?_
        exact lc_drain C h_st hX hbl hbA hs1 hs2 hs3 hs4 hI hok (by omega) (by omega) (by omega) kk9
      by_cases c43_26 : x43 = 26
      · refine z_tin C (v := 26) (tgt := 1325) dL_law_43 c43_26 (by decide) (by decide) (by decide) (by decide) ?_
        exact lc_pop C h_st hX hbl hbA hs1 hs2 hs3 hs4 hI hok (by omega) (by omega) (by omega) kk9
      by_cases c43_27 : x43 = 27
      · refine z_tin C (v := 27) (tgt := 1353) dL_law_43 c43_27 (by decide) (by decide) (by decide) (by decide) ?_
        exact lc_ofPane C h_st hX hbl hbA hs1 hs2 hs3 hs4 hI hok (by omega) (by omega) (by omega) kk9
      by_cases c43_28 : x43 = 28
      · refine z_tin C (v := 28) (tgt := 1393) dL_law_43 c43_28 (by decide) (by decide) (by decide) (by decide) ?_
        exact lc_at C h_st hX hbl hbA hs1 hs2 hs3 hs4 hI hok (by omega) (by omega) (by omega) kk9
      by_cases c43_29 : x43 = 29
      · refine z_tin C (v := 29) (tgt := 1433) dL_law_43 c43_29 (by decide) (by decide) (by decide) (by decide) ?_
        exact lc_peek C h_st hX hbl hbA hs1 hs2 hs3 hs4 hI hok (by omega) (by omega) (by omega) kk9
      by_cases c43_30 : x43 = 30
      · refine z_tin C (v := 30) (tgt := 1461) dL_law_43 c43_30 (by decide) (by decide) (by decide) (by decide) ?_
        exact lc_total C h_st hX hbl hbA hs1 hs2 hs3 hs4 hI hok (by omega) (by omega) (by omega) kk9
      by_cases c43_31 : x43 = 31
      · refine z_tin C (v := 31) (tgt := 1489) dL_law_43 c43_31 (by decide) (by decide) (by decide) (by decide) ?_
        exact lc_text C h_st hX hbl hbA hs1 hs2 hs3 hs4 hI hok (by omega) (by omega) (by omega) kk9
      by_cases c43_32 : x43 = 32
      · refine z_tin C (v := 32) (tgt := 1517) dL_law_43 c43_32 (by decide) (by decide) (by decide) (by decide) ?_
        exact lc_whole C h_st hX hbl hbA hs1 hs2 hs3 hs4 hI hok (by omega) (by omega) (by omega) kk9
      by_cases c43_33 : x43 = 33
      · refine z_tin C (v := 33) (tgt := 1545) dL_law_43 c43_33 (by decide) (by decide) (by decide) (by decide) ?_
        exact lc_row C h_st hX hbl hbA hs1 hs2 hs3 hs4 hI hok (by omega) (by omega) (by omega) kk9
      by_cases c43_34 : x43 = 34
      · refine z_tin C (v := 34) (tgt := 1558) dL_law_43 c43_34 (by decide) (by decide) (by decide) (by decide) ?_
        exact lc_isKin C h_st hX hbl hbA hs1 hs2 hs3 hs4 hI hok (by omega) (by omega) (by omega) kk9
      by_cases c43_35 : x43 = 35
      · refine z_tin C (v := 35) (tgt := 1598) dL_law_43 c43_35 (by decide) (by decide) (by decide) (by decide) ?_
        exact lc_sees C h_st hX hbl hbA hs1 hs2 hs3 hs4 hI hok (by omega) (by omega) (by omega) kk9
      by_cases c43_36 : x43 = 36
      · refine z_tin C (v := 36) (tgt := 1650) dL_law_43 c43_36 (by decide) (by decide) (by decide) (by decide) ?_
        exact lc_would C h_st hX hbl hbA hs1 hs2 hs3 hs4 hI hok (by omega) (by omega) (by omega) kk9
      by_cases c43_37 : x43 = 37
      · refine z_tin C (v := 37) (tgt := 1690) dL_law_43 c43_37 (by decide) (by decide) (by decide) (by decide) ?_
        exact lc_house C h_st hX hbl hbA hs1 hs2 hs3 hs4 hI hok (by omega) (by omega) (by omega) kk9
      by_cases c43_38 : x43 = 38
      · refine z_tin C (v := 38) (tgt := 1718) dL_law_43 c43_38 (by decide) (by decide) (by decide) (by decide) ?_
        exact lc_knock C h_st hX hbl hbA hs1 hs2 hs3 hs4 hI hok (by omega) (by omega) (by omega) kk9
      by_cases c43_39 : x43 = 39
      · refine z_tin C (v := 39) (tgt := 1731) dL_law_43 c43_39 (by decide) (by decide) (by decide) (by decide) ?_
        exact lc_isSound C h_st hX hbl hbA hs1 hs2 hs3 hs4 hI hok (by omega) (by omega) (by omega) kk9
      by_cases c43_40 : x43 = 40
      · refine z_tin C (v := 40) (tgt := 1744) dL_law_43 c43_40 (by decide) (by decide) (by decide) (by decide) ?_
        exact lc_digest C h_st hX hbl hbA hs1 hs2 hs3 hs4 hI hok (by omega) (by omega) (by omega) kk9
      refine z_tout C (tgt := 1757) dL_law_43 (z_ou41 c43_0 c43_1 c43_2 c43_3 c43_4 c43_5 c43_6 c43_7 c43_8 c43_9 c43_10 c43_11 c43_12 c43_13 c43_14 c43_15 c43_16 c43_17 c43_18 c43_19 c43_20 c43_21 c43_22 c43_23 c43_24 c43_25 c43_26 c43_27 c43_28 c43_29 c43_30 c43_31 c43_32 c43_33 c43_34 c43_35 c43_36 c43_37 c43_38 c43_39 c43_40) (by decide) ?_
      have g43_0 : ¬ (a0 &&& 63) = 0 := fun q => c43_0 (e43.trans q)
      have g43_1 : ¬ (a0 &&& 63) = 1 := fun q => c43_1 (e43.trans q)
      have g43_2 : ¬ (a0 &&& 63) = 2 := fun q => c43_2 (e43.trans q)
      have g43_3 : ¬ (a0 &&& 63) = 3 := fun q => c43_3 (e43.trans q)
      have g43_4 : ¬ (a0 &&& 63) = 4 := fun q => c43_4 (e43.trans q)
      have g43_5 : ¬ (a0 &&& 63) = 5 := fun q => c43_5 (e43.trans q)
      have g43_6 : ¬ (a0 &&& 63) = 6 := fun q => c43_6 (e43.trans q)
      have g43_7 : ¬ (a0 &&& 63) = 7 := fun q => c43_7 (e43.trans q)
      have g43_8 : ¬ (a0 &&& 63) = 8 := fun q => c43_8 (e43.trans q)
      have g43_9 : ¬ (a0 &&& 63) = 9 := fun q => c43_9 (e43.trans q)
      have g43_10 : ¬ (a0 &&& 63) = 10 := fun q => c43_10 (e43.trans q)
      have g43_11 : ¬ (a0 &&& 63) = 11 := fun q => c43_11 (e43.trans q)
      have g43_12 : ¬ (a0 &&& 63) = 12 := fun q => c43_12 (e43.trans q)
      have g43_13 : ¬ (a0 &&& 63) = 13 := fun q => c43_13 (e43.trans q)
      have g43_14 : ¬ (a0 &&& 63) = 14 := fun q => c43_14 (e43.trans q)
      have g43_15 : ¬ (a0 &&& 63) = 15 := fun q => c43_15 (e43.trans q)
      have g43_16 : ¬ (a0 &&& 63) = 16 := fun q => c43_16 (e43.trans q)
      have g43_17 : ¬ (a0 &&& 63) = 17 := fun q => c43_17 (e43.trans q)
      have g43_18 : ¬ (a0 &&& 63) = 18 := fun q => c43_18 (e43.trans q)
      have g43_19 : ¬ (a0 &&& 63) = 19 := fun q => c43_19 (e43.trans q)
      have g43_20 : ¬ (a0 &&& 63) = 20 := fun q => c43_20 (e43.trans q)
      have g43_21 : ¬ (a0 &&& 63) = 21 := fun q => c43_21 (e43.trans q)
      have g43_22 : ¬ (a0 &&& 63) = 22 := fun q => c43_22 (e43.trans q)
      have g43_23 : ¬ (a0 &&& 63) = 23 := fun q => c43_23 (e43.trans q)
      have g43_24 : ¬ (a0 &&& 63) = 24 := fun q => c43_24 (e43.trans q)
      have g43_25 : ¬ (a0 &&& 63) = 25 := fun q => c43_25 (e43.trans q)
      have g43_26 : ¬ (a0 &&& 63) = 26 := fun q => c43_26 (e43.trans q)
      have g43_27 : ¬ (a0 &&& 63) = 27 := fun q => c43_27 (e43.trans q)
      have g43_28 : ¬ (a0 &&& 63) = 28 := fun q => c43_28 (e43.trans q)
      have g43_29 : ¬ (a0 &&& 63) = 29 := fun q => c43_29 (e43.trans q)
      have g43_30 : ¬ (a0 &&& 63) = 30 := fun q => c43_30 (e43.trans q)
      have g43_31 : ¬ (a0 &&& 63) = 31 := fun q => c43_31 (e43.trans q)
      have g43_32 : ¬ (a0 &&& 63) = 32 := fun q => c43_32 (e43.trans q)
      have g43_33 : ¬ (a0 &&& 63) = 33 := fun q => c43_33 (e43.trans q)
      have g43_34 : ¬ (a0 &&& 63) = 34 := fun q => c43_34 (e43.trans q)
      have g43_35 : ¬ (a0 &&& 63) = 35 := fun q => c43_35 (e43.trans q)
      have g43_36 : ¬ (a0 &&& 63) = 36 := fun q => c43_36 (e43.trans q)
      have g43_37 : ¬ (a0 &&& 63) = 37 := fun q => c43_37 (e43.trans q)
      have g43_38 : ¬ (a0 &&& 63) = 38 := fun q => c43_38 (e43.trans q)
      have g43_39 : ¬ (a0 &&& 63) = 39 := fun q => c43_39 (e43.trans q)
      have g43_40 : ¬ (a0 &&& 63) = 40 := fun q => c43_40 (e43.trans q)
      refine z_iinc (v := nI (5 * (jx + 1))) (lv' := [(4, .int (nI (5 * (jx + 1)))), (0, .ref b), (1, .ref x), (2, .ref m), (3, .ref ou)]) C dL_law_1757 0 rfl (j_inc5 jx) (by decide) rfl ?_
      refine z_goto C (tgt := 27) dL_law_1760 (by decide) ?_
      refine z_fewer [0, 1, 2, 3, 4] rfl ?_
      refine z_widen (k' := k0 + jx * 4000 + 4000) (n' := n0 + jx * 60000 + 60000) (by omega) (by omega) ?_
      exact kk9 u th on _ hI (s_ok_mono hok (Nat.le_succ _))
end
section
/-! PART 72: what is known at the law's start -/
theorem lt_1 {i : Nat} {w : Cond} (h : tables_1_1[i]? = some w) : w ∈ lw_tbl := List.mem_append_right _ (List.mem_append_left _ (List.mem_of_getElem? h))
theorem lt_2 {i : Nat} {w : Cond} (h : tables_1_2[i]? = some w) : w ∈ lw_tbl := List.mem_append_right _ (List.mem_append_right _ (List.mem_append_left _ (List.mem_of_getElem? h)))
theorem lt_3 {i : Nat} {w : Cond} (h : tables_1_3[i]? = some w) : w ∈ lw_tbl := List.mem_append_right _ (List.mem_append_right _ (List.mem_append_right _ (List.mem_append_left _ (List.mem_of_getElem? h))))
theorem lt_4 {i : Nat} {w : Cond} (h : tables_1_4[i]? = some w) : w ∈ lw_tbl := List.mem_append_right _ (List.mem_append_right _ (List.mem_append_right _ (List.mem_append_right _ (List.mem_append_left _ (List.mem_of_getElem? h)))))
theorem lt_5 {i : Nat} {w : Cond} (h : tables_1_5[i]? = some w) : w ∈ lw_tbl := List.mem_append_right _ (List.mem_append_right _ (List.mem_append_right _ (List.mem_append_right _ (List.mem_append_right _ (List.mem_append_left _ (List.mem_of_getElem? h))))))
theorem lt_6 {i : Nat} {w : Cond} (h : tables_1_6[i]? = some w) : w ∈ lw_tbl := List.mem_append_right _ (List.mem_append_right _ (List.mem_append_right _ (List.mem_append_right _ (List.mem_append_right _ (List.mem_append_right _ (List.mem_of_getElem? h))))))
theorem fl_ones : ∀ j : Nat, j < 100 → (flatC (.and given_1 narrow_1))[12 + j]? = some (Cond.eq (.elem (.static "java/lang/Integer" "DigitOnes" "[B") (.int (Int32.ofNat j))) (.int (nI (48 + j % 10)))) := by decide +kernel
theorem fl_tens : ∀ j : Nat, j < 100 → (flatC (.and given_1 narrow_1))[115 + j]? = some (Cond.eq (.elem (.static "java/lang/Integer" "DigitTens" "[B") (.int (Int32.ofNat j))) (.int (nI (48 + j / 10)))) := by decide +kernel
abbrev st_tm (i : Nat) : Term := .string RX5 (z_sK i).1
theorem fl_ex : ∀ i : Nat, i < 5 → Cond.exactly (st_tm i) "java/lang/String" ∈ (flatC (.and given_1 narrow_1)) := by decide +kernel
theorem fl_co : ∀ i : Nat, i < 5 → Cond.eq (.field (st_tm i) "java/lang/String" "coder" "B") (.int 0) ∈ (flatC (.and given_1 narrow_1)) := by decide +kernel
theorem fl_ar : ∀ i : Nat, i < 5 → Cond.arrayOf (.field (st_tm i) "java/lang/String" "value" "[B") .byte ∈ (flatC (.and given_1 narrow_1)) := by decide +kernel
theorem fl_le : ∀ i : Nat, i < 5 → Cond.eq (.length (.field (st_tm i) "java/lang/String" "value" "[B")) (.int (Int32.ofNat ([0, 1, 1, 1, 1].getD i 0))) ∈ (flatC (.and given_1 narrow_1)) := by decide +kernel
theorem fl_el : ∀ i : Nat, i < 5 → ∀ j : Nat, j < [0, 1, 1, 1, 1].getD i 0 → Cond.eq (.elem (.field (st_tm i) "java/lang/String" "value" "[B") (.int (Int32.ofNat j))) (.int (([([] : List Int32), [32], [124], [62], [60]].getD i []).getD j 0)) ∈ (flatC (.and given_1 narrow_1)) := by decide +kernel
theorem fl_ne : ∀ i : Nat, i < 5 → ∀ j : Nat, j < 5 → i ≠ j → Cond.not (Cond.eq (st_tm i) (st_tm j)) ∈ (flatC (.and given_1 narrow_1)) ∨ Cond.not (Cond.eq (st_tm j) (st_tm i)) ∈ (flatC (.and given_1 narrow_1)) := by decide +kernel
theorem fl_sC : ∀ p ∈ z_sC, Cond.exactly (.string RX3 p.1) "java/lang/String" ∈ (flatC (.and given_1 narrow_1)) := by decide +kernel
theorem st_sK : ∀ i : Nat, i < 5 → Cond.stringRef RX5 (z_sK i).1 (z_sK i).2 ∈ lw_tbl := by
  intro i hi
  rcases (show i = 0 ∨ i = 1 ∨ i = 2 ∨ i = 3 ∨ i = 4 by omega) with rfl | rfl | rfl | rfl | rfl
  · exact (lt_6 (i := 56) rfl)
  · exact (lt_6 (i := 96) rfl)
  · exact (lt_6 (i := 102) rfl)
  · exact (lt_6 (i := 103) rfl)
  · exact (lt_6 (i := 104) rfl)
theorem st_sC : ∀ p ∈ z_sC, Cond.stringRef RX3 p.1 p.2 ∈ lw_tbl := by
  intro p hp
  simp only [z_sC, List.mem_cons, List.not_mem_nil, or_false] at hp
  rcases hp with rfl | rfl | rfl | rfl
  · exact (lt_3 (i := 232) rfl)
  · exact (lt_4 (i := 3) rfl)
  · exact (lt_4 (i := 141) rfl)
  · exact (lt_4 (i := 215) rfl)
theorem st_selP {s : State} {args : Array Value} {y y0 : MethodName} {C : String} {n : Nat} (hy : y.cls ≠ "java/lang/invoke/MethodHandle" ∧ y.cls ≠ "java/lang/invoke/VarHandle") (hins : (Cond.instantiable C n).before args s = true) (hpriv : (Cond.privateMethod y).before args s = true) (hinst : (Cond.instanceMethod y).before args s = true) (h0 : (Cond.selects C y0 y0).before args s = true) (hc0 : y0.cls = y.cls) : (Cond.selects C y y).before args s = true := by
  obtain ⟨c, k, hc, hk, -, -, -, -⟩ := Cond.instantiable_spec hins
  obtain ⟨mk, methM, hnamed, hmethM, -, -⟩ := Cond.instanceMethod_spec hinst
  have hfound : s.methodFound? y.cls y.name y.desc = some mk := State.methodFound?_of_named hnamed hy
  obtain ⟨c2, r2, m2, q1, q2, q3, q4, k2, q5, q6⟩ := Cond.selects_spec h0
  have hcls : mk.cls = m2.cls := Option.some.inj ((findClass_of_methodNamed hnamed).symm.trans (by rw [← hc0]; exact findClass_of_methodNamed q3))
  have hsel : selectMethod {} s.vm c mk = .method mk := selectMethod_private hmethM (Cond.privateMethod_at hpriv mk methM hnamed hmethM)
  simp only [Cond.before, Cond.holds, Cond.value, hc, hfound, hnamed, hsel, hcls, q5]
  simp
  exact q6
section ST9
variable {s : State} {b : Nat}
theorem st_inJ0 : ∀ w ∈ u_ws RJ0 TJ0 4, w ∈ lw_tbl := by decide +kernel
theorem st_inJ4 : ∀ w ∈ u_ws RJ4 TJ4 4, w ∈ lw_tbl := by decide +kernel
theorem st_inJx00060 : ∀ w ∈ u_ws RJx00060 TJx00060 6, w ∈ lw_tbl := by decide +kernel
theorem st_inJx7c733 : ∀ w ∈ u_ws RJx7c733 TJx7c733 6, w ∈ lw_tbl := by decide +kernel
theorem st_inX0 : ∀ w ∈ u_ws RX0 TX0 1, w ∈ lw_tbl := by decide +kernel
theorem st_inX1 : ∀ w ∈ u_ws RX1 TX1 7, w ∈ lw_tbl := by decide +kernel
theorem st_inX2 : ∀ w ∈ u_ws RX2 TX2 1, w ∈ lw_tbl := by decide +kernel
theorem st_inX3 : ∀ w ∈ u_ws RX3 TX3 7, w ∈ lw_tbl := by decide +kernel
theorem st_inX4 : ∀ w ∈ u_ws RX4 TX4 2, w ∈ lw_tbl := by decide +kernel
theorem st_inX5 : ∀ w ∈ u_ws RX5 TX5 7, w ∈ lw_tbl := by decide +kernel
theorem st_K (hts : ∀ w ∈ lw_tbl, w.before #[Value.ref b] s = true) : ∃ (D : va_G) (cB cI cP cQ : ClassId), va_K D vwCl [(cB, .byte), (cI, .int), (cP, .object RX1), (cQ, .array .int)] s := by
  obtain ⟨c0, i0, h0⟩ := u_known (C := RJ0) (T := TJ0) (N := 4) (n := 4) hts st_inJ0 (hts _ ((List.mem_filter.mp kw340).1))
  obtain ⟨c1, i1, h1⟩ := u_known (C := RJ4) (T := TJ4) (N := 4) (n := 4) hts st_inJ4 (hts _ ((List.mem_filter.mp kw96).1))
  obtain ⟨c2, i2, h2⟩ := u_known (C := RJx00060) (T := TJx00060) (N := 6) (n := 6) hts st_inJx00060 (hts _ ((List.mem_filter.mp kw492).1))
  obtain ⟨c3, i3, h3⟩ := u_known (C := RJx7c733) (T := TJx7c733) (N := 6) (n := 6) hts st_inJx7c733 (hts _ ((List.mem_filter.mp kw183).1))
  obtain ⟨c4, i4, h4⟩ := u_known (C := RX0) (T := TX0) (N := 1) (n := 1) hts st_inX0 (hts _ ((List.mem_filter.mp kw90).1))
  obtain ⟨c5, i5, h5⟩ := u_known (C := RX1) (T := TX1) (N := 7) (n := 7) hts st_inX1 (hts _ ((List.mem_filter.mp kw47).1))
  obtain ⟨c6, i6, h6⟩ := u_known (C := RX2) (T := TX2) (N := 1) (n := 1) hts st_inX2 (hts _ ((List.mem_filter.mp kw35).1))
  obtain ⟨c7, i7, h7⟩ := u_known (C := RX3) (T := TX3) (N := 7) (n := 7) hts st_inX3 (hts _ ((List.mem_filter.mp kw27).1))
  obtain ⟨c8, i8, h8⟩ := u_known (C := RX4) (T := TX4) (N := 2) (n := 2) hts st_inX4 (hts _ ((List.mem_filter.mp kw678).1))
  obtain ⟨c9, i9, h9⟩ := u_known (C := RX5) (T := TX5) (N := 7) (n := 7) hts st_inX5 (hts _ ((List.mem_filter.mp kw1036).1))
  obtain ⟨cB, kB, pB, b1, b2, b3⟩ := Cond.arrayClass_spec (hts _ ((List.mem_filter.mp kw127).1))
  obtain ⟨cI, kI, pI, d1, d2, d3⟩ := Cond.arrayClass_spec (hts _ ((List.mem_filter.mp kw44).1))
  obtain ⟨pP, cP, kP, e1, e2, e3, e4, e5⟩ := Cond.arrayOver_spec (hts _ ((List.mem_filter.mp kn46).1))
  obtain ⟨pQ, cQ, kQ, f1, f2, f3, f4, f5⟩ := arrayOverA_spec (hts _ ((List.mem_filter.mp kn1042).1))
  refine ⟨(fun k => [c0, c1, c2, c3, c4, c5, c6, c7, c8, c9].getD k c0, fun k => [i0, i1, i2, i3, i4, i5, i6, i7, i8, i9].getD k i0), cB, cI, cP, cQ, fun k q hq => ?_, fun k q hq => ?_⟩
  · match k, hq with
    | 0, hq => cases hq; exact h0
    | 1, hq => cases hq; exact h1
    | 2, hq => cases hq; exact h2
    | 3, hq => cases hq; exact h3
    | 4, hq => cases hq; exact h4
    | 5, hq => cases hq; exact h5
    | 6, hq => cases hq; exact h6
    | 7, hq => cases hq; exact h7
    | 8, hq => cases hq; exact h8
    | 9, hq => cases hq; exact h9
    | k + 10, hq => simp [vwCl] at hq
  · match k, hq with
    | 0, hq => cases hq; exact ⟨fun n z => ⟨fun k h => (by cases h), kB, b2, pB, b3⟩, b1⟩
    | 1, hq => cases hq; exact ⟨fun n z => ⟨fun k h => (by cases h), kI, d2, pI, d3⟩, d1⟩
    | 2, hq => cases hq; exact ⟨fun n z => ⟨fun k h => (by cases h), kP, e3, pP, e4⟩, kP, pP, e3, e4, e1, e5⟩
    | 3, hq => cases hq; exact ⟨fun n z => ⟨fun k h => (by cases h), kQ, f3, pQ, f4⟩, f5⟩
    | k + 4, hq => simp at hq
theorem st_N (hts : ∀ w ∈ lw_tbl, w.before #[Value.ref b] s = true) (hfl : ∀ w ∈ (flatC (.and given_1 narrow_1)), w.before #[Value.ref b] s = true) : z_N s := by
  refine ⟨fun a i b9 n d h hw => va_Nw.of rfl (hts _ (List.mem_filter.mp hw).1), fun a i x h hw => va_Nw.of rfl (hts _ (List.mem_filter.mp hw).1), fun x hw => va_Nw.of rfl (hts _ (List.mem_filter.mp hw).1), fun C T hw => va_Nw.of rfl (hts _ (List.mem_filter.mp hw).1), fun C hw => va_AO.of (hts _ (List.mem_filter.mp hw).1), fun t hw => hts _ (List.mem_filter.mp hw).1, fun y hy => ?_, va_Nc.of (hfl _ (List.mem_of_getElem? (i := 224) (by decide +kernel)))⟩
  simp only [z_pSB, List.mem_cons, List.not_mem_nil, or_false] at hy
  rcases hy with rfl | rfl | rfl | rfl
  · exact va_Nw.of rfl (st_selP (y := yJ5_ensureCapacityInternal_d00df) (y0 := ⟨"java/lang/AbstractStringBuilder", "isLatin1", "()Z"⟩) (n := 4) ⟨by decide, by decide⟩ (hts _ ((List.mem_filter.mp kw96).1)) (hts _ (lt_1 (i := 202) rfl)) (hts _ ((List.mem_filter.mp kw203).1)) (hts _ ((List.mem_filter.mp kw239).1)) rfl)
  · exact va_Nw.of rfl (st_selP (y := yJ5_newCapacity_0f7a4) (y0 := ⟨"java/lang/AbstractStringBuilder", "isLatin1", "()Z"⟩) (n := 4) ⟨by decide, by decide⟩ (hts _ ((List.mem_filter.mp kw96).1)) (hts _ (lt_1 (i := 206) rfl)) (hts _ ((List.mem_filter.mp kw207).1)) (hts _ ((List.mem_filter.mp kw239).1)) rfl)
  · exact va_Nw.of rfl (st_selP (y := yJ5_putStringAt_47b60) (y0 := ⟨"java/lang/AbstractStringBuilder", "isLatin1", "()Z"⟩) (n := 4) ⟨by decide, by decide⟩ (hts _ ((List.mem_filter.mp kw96).1)) (hts _ (lt_2 (i := 37) rfl)) (hts _ ((List.mem_filter.mp kw278).1)) (hts _ ((List.mem_filter.mp kw239).1)) rfl)
  · exact va_Nw.of rfl (st_selP (y := yJ5_inflateIfNeededFor_a7421) (y0 := ⟨"java/lang/AbstractStringBuilder", "isLatin1", "()Z"⟩) (n := 4) ⟨by decide, by decide⟩ (hts _ ((List.mem_filter.mp kw96).1)) (hts _ (lt_2 (i := 41) rfl)) (hts _ ((List.mem_filter.mp kw282).1)) (hts _ ((List.mem_filter.mp kw239).1)) rfl)
theorem st_J (hts : ∀ w ∈ lw_tbl, w.before #[Value.ref b] s = true) (hfl : ∀ w ∈ (flatC (.and given_1 narrow_1)), w.before #[Value.ref b] s = true) : ∃ G : zG, z_K G s ∧ z_J G (fun q => s.heap.size ≤ q) s s.heap := by
  have hA : ∀ a : Nat, a < s.heap.size → ¬ s.heap.size ≤ a := fun a h => Nat.not_le.mpr h
  obtain ⟨D, cB, cI, cP, cQ, hK⟩ := st_K hts
  obtain ⟨adK, adV, hS, hadK⟩ := vk_Sof (A := fun q => s.heap.size ≤ q) (N := 5) (tm := st_tm) (len := [0, 1, 1, 1, 1]) (byt := [[], [32], [124], [62], [60]]) (fun i hi => by rcases (show i = 0 ∨ i = 1 ∨ i = 2 ∨ i = 3 ∨ i = 4 by omega) with rfl | rfl | rfl | rfl | rfl <;> decide) (fun i hi => hfl _ (fl_ex i hi)) (fun i hi => hfl _ (fl_co i hi)) (fun i hi => hfl _ (fl_ar i hi)) (fun i hi => hfl _ (fl_le i hi)) (fun i hi j hj => hfl _ (fl_el i hi j hj)) (fun i j hi hj hij => (fl_ne i hi j hj hij).imp (hfl _) (hfl _)) hA
  refine ⟨(D, cB, cI, cP, cQ, adK, adV), hK, st_N hts hfl, ⟨⟨hS, fun i hi => vk_R.of (hts _ (st_sK i hi)) (hadK i hi)⟩, fun p hp => ?_⟩, ?_, ?_, ?_, ?_, ?_, ?_⟩
  · obtain ⟨q, c9, cA, kA, q1, -⟩ := Cond.exactly_spec (args := #[Value.ref b]) (first := s) (o := none) (s := s) (idx := []) (t := .string RX3 p.1) (cls := "java/lang/String") (hfl _ (fl_sC p hp))
    exact ⟨q, vk_R.of (hts _ (st_sC p hp)) q1⟩
  · exact va_Zof (hts _ (lt_1 (i := 105) rfl)) (hts _ ((List.mem_filter.mp kw7).1)) (va_eqi (hfl _ (List.mem_of_getElem? (i := 4) (by decide +kernel)))) hA
  · obtain ⟨t, ht, hT⟩ := va_Tof (tm := .static "java/lang/Integer" "DigitOnes" "[B") (ty := .byte) (N := 100) (f := z_d1) (A := fun q => s.heap.size ≤ q) (by decide) (hfl _ (List.mem_of_getElem? (i := 10) (by decide +kernel))) (va_eqt (hfl _ (List.mem_of_getElem? (i := 11) (by decide +kernel)))) (fun j hj => va_eqt (hfl _ (List.mem_of_getElem? (fl_ones j hj)))) hA
    exact ⟨t, va_Zref (hts _ (lt_2 (i := 84) rfl)) (hts _ ((List.mem_filter.mp kw23).1)) ht hA, hT⟩
  · obtain ⟨t, ht, hT⟩ := va_Tof (tm := .static "java/lang/Integer" "DigitTens" "[B") (ty := .byte) (N := 100) (f := z_d10) (A := fun q => s.heap.size ≤ q) (by decide) (hfl _ (List.mem_of_getElem? (i := 113) (by decide +kernel))) (va_eqt (hfl _ (List.mem_of_getElem? (i := 114) (by decide +kernel)))) (fun j hj => va_eqt (hfl _ (List.mem_of_getElem? (fl_tens j hj)))) hA
    exact ⟨t, va_Zref (hts _ (lt_2 (i := 86) rfl)) (hts _ ((List.mem_filter.mp kw23).1)) ht hA, hT⟩
  · exact va_Zqof (hts _ (lt_2 (i := 14) rfl)) (hts _ ((List.mem_filter.mp kw21).1)) (hfl _ (List.mem_of_getElem? (i := 5) (by decide +kernel))) hA
  · exact vx_Zqof (hts _ (lt_2 (i := 158) rfl)) (hts _ ((List.mem_filter.mp kw11).1)) (hfl _ (List.mem_of_getElem? (i := 215) (by decide +kernel))) hA
  · exact vx_Zqof (hts _ (lt_2 (i := 160) rfl)) (hts _ ((List.mem_filter.mp kw11).1)) (hfl _ (List.mem_of_getElem? (i := 216) (by decide +kernel))) hA
end ST9
/-! the world at the loop's first round -/
def z_00 : zM := fun _ => none
theorem z_un_0 (B : zM) : z_un z_00 B = B := by funext q; rfl
theorem z_un_00 (B : zM) : z_un B z_00 = B := by
  funext q
  cases hb : B q with
  | none => rw [z_un_n hb]; rfl
  | some e => rw [z_un_l hb]
theorem st_one (B : zM) (a : Nat) (e : va_E) : z_up B a e = z_un (z_up z_00 a e) B := by rw [← z_un_up, z_un_0]
theorem st_dj {B : zM} {a : Nat} {e : va_E} (h : B a = none) : z_dj (z_up z_00 a e) B := fun q f hq => by
  by_cases hqa : q = a
  · rw [hqa]; exact h
  · rw [z_up_n _ _ hqa] at hq; cases hq
theorem st_LX {G : zG} {x pa sp ln rf sb m pn td q : Nat} {u : sS} {C R : zM} (hC : s_CI G x pa sp ln rf sb u C) (hR : s_RI G m pn td 0 u R) (d : z_dj R C) (hq : z_un R C q = none) : s_LX G x pa sp ln rf sb m pn td q u u 0 0 (z_up (z_un R C) q (.inr (8, [.long 0, .null]))) := by
  have hr : R q = none := by
    cases h : R q with
    | none => rfl
    | some e => rw [z_un_l h] at hq; cases hq
  have hc : C q = none := by rw [← hq, z_un_n hr]
  refine ⟨C, R, z_up z_00 q (cOu 0 none), none, ?_, z_dj_un2 (z_dj_sym d) (z_dj_sym (st_dj hc)), z_dj_sym (st_dj hr), hC, hR, z_up_s _ _ _⟩
  rw [z_un_comm d, z_un_upr hc]
  congr 1
  rw [← z_un_upr hr, z_un_00]
  rfl
end
