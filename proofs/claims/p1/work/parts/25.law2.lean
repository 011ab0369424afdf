theorem dL_law_657 : decode cL_law 657 = .ok (.aload_n 1, 1) := by decide +kernel
theorem dL_law_658 : decode cL_law 658 = .ok (.aload_n 0, 1) := by decide +kernel
theorem dL_law_659 : decode cL_law 659 = .ok (.iload_n 3, 1) := by decide +kernel
theorem dL_law_660 : decode cL_law 660 = .ok (.iconst 1, 1) := by decide +kernel
theorem dL_law_661 : decode cL_law 661 = .ok (.iadd, 1) := by decide +kernel
theorem dL_law_662 : decode cL_law 662 = .ok (.iaload, 1) := by decide +kernel
theorem dL_law_663 : decode cL_law 663 = .ok (.aload_n 0, 1) := by decide +kernel
theorem dL_law_664 : decode cL_law 664 = .ok (.iload_n 3, 1) := by decide +kernel
theorem dL_law_665 : decode cL_law 665 = .ok (.iconst 2, 1) := by decide +kernel
theorem dL_law_666 : decode cL_law 666 = .ok (.iadd, 1) := by decide +kernel
theorem dL_law_667 : decode cL_law 667 = .ok (.iaload, 1) := by decide +kernel
theorem dL_law_668 : decode cL_law 668 = .ok (.aload_n 0, 1) := by decide +kernel
theorem dL_law_669 : decode cL_law 669 = .ok (.iload_n 3, 1) := by decide +kernel
theorem dL_law_670 : decode cL_law 670 = .ok (.iconst 3, 1) := by decide +kernel
theorem dL_law_671 : decode cL_law 671 = .ok (.iadd, 1) := by decide +kernel
theorem dL_law_672 : decode cL_law 672 = .ok (.iaload, 1) := by decide +kernel
theorem dL_law_673 : decode cL_law 673 = .ok (.invokevirtual 62, 3) := by decide +kernel
theorem dL_law_676 : decode cL_law 676 = .ok (.aload_n 2, 1) := by decide +kernel
theorem dL_law_677 : decode cL_law 677 = .ok (.aload_n 0, 1) := by decide +kernel
theorem dL_law_678 : decode cL_law 678 = .ok (.iload_n 3, 1) := by decide +kernel
theorem dL_law_679 : decode cL_law 679 = .ok (.iconst 1, 1) := by decide +kernel
theorem dL_law_680 : decode cL_law 680 = .ok (.iadd, 1) := by decide +kernel
theorem dL_law_681 : decode cL_law 681 = .ok (.iaload, 1) := by decide +kernel
theorem dL_law_682 : decode cL_law 682 = .ok (.aload_n 0, 1) := by decide +kernel
theorem dL_law_683 : decode cL_law 683 = .ok (.iload_n 3, 1) := by decide +kernel
theorem dL_law_684 : decode cL_law 684 = .ok (.iconst 2, 1) := by decide +kernel
theorem dL_law_685 : decode cL_law 685 = .ok (.iadd, 1) := by decide +kernel
theorem dL_law_686 : decode cL_law 686 = .ok (.iaload, 1) := by decide +kernel
theorem dL_law_687 : decode cL_law 687 = .ok (.aload_n 0, 1) := by decide +kernel
theorem dL_law_688 : decode cL_law 688 = .ok (.iload_n 3, 1) := by decide +kernel
theorem dL_law_689 : decode cL_law 689 = .ok (.iconst 3, 1) := by decide +kernel
theorem dL_law_690 : decode cL_law 690 = .ok (.iadd, 1) := by decide +kernel
theorem dL_law_691 : decode cL_law 691 = .ok (.iaload, 1) := by decide +kernel
theorem dL_law_692 : decode cL_law 692 = .ok (.invokevirtual 65, 3) := by decide +kernel
theorem dL_law_695 : decode cL_law 695 = .ok (.if_icmp .eq 1255, 3) := by decide +kernel
theorem dL_law_700 : decode cL_law 700 = .ok (.aload_n 1, 1) := by decide +kernel
theorem dL_law_701 : decode cL_law 701 = .ok (.aload_n 0, 1) := by decide +kernel
theorem dL_law_702 : decode cL_law 702 = .ok (.iload_n 3, 1) := by decide +kernel
theorem dL_law_703 : decode cL_law 703 = .ok (.iconst 1, 1) := by decide +kernel
theorem dL_law_704 : decode cL_law 704 = .ok (.iadd, 1) := by decide +kernel
theorem dL_law_705 : decode cL_law 705 = .ok (.iaload, 1) := by decide +kernel
theorem dL_law_706 : decode cL_law 706 = .ok (.aload_n 0, 1) := by decide +kernel
theorem dL_law_707 : decode cL_law 707 = .ok (.iload_n 3, 1) := by decide +kernel
theorem dL_law_708 : decode cL_law 708 = .ok (.iconst 2, 1) := by decide +kernel
theorem dL_law_709 : decode cL_law 709 = .ok (.iadd, 1) := by decide +kernel
theorem dL_law_710 : decode cL_law 710 = .ok (.iaload, 1) := by decide +kernel
theorem dL_law_711 : decode cL_law 711 = .ok (.aload_n 0, 1) := by decide +kernel
theorem dL_law_712 : decode cL_law 712 = .ok (.iload_n 3, 1) := by decide +kernel
theorem dL_law_713 : decode cL_law 713 = .ok (.iconst 3, 1) := by decide +kernel
theorem dL_law_714 : decode cL_law 714 = .ok (.iadd, 1) := by decide +kernel
theorem dL_law_715 : decode cL_law 715 = .ok (.iaload, 1) := by decide +kernel
theorem dL_law_716 : decode cL_law 716 = .ok (.invokevirtual 66, 3) := by decide +kernel
theorem dL_law_719 : decode cL_law 719 = .ok (.aload_n 2, 1) := by decide +kernel
theorem dL_law_720 : decode cL_law 720 = .ok (.aload_n 0, 1) := by decide +kernel
theorem dL_law_721 : decode cL_law 721 = .ok (.iload_n 3, 1) := by decide +kernel
theorem dL_law_722 : decode cL_law 722 = .ok (.iconst 1, 1) := by decide +kernel
theorem dL_law_723 : decode cL_law 723 = .ok (.iadd, 1) := by decide +kernel
theorem dL_law_724 : decode cL_law 724 = .ok (.iaload, 1) := by decide +kernel
theorem dL_law_725 : decode cL_law 725 = .ok (.aload_n 0, 1) := by decide +kernel
theorem dL_law_726 : decode cL_law 726 = .ok (.iload_n 3, 1) := by decide +kernel
theorem dL_law_727 : decode cL_law 727 = .ok (.iconst 2, 1) := by decide +kernel
theorem dL_law_728 : decode cL_law 728 = .ok (.iadd, 1) := by decide +kernel
theorem dL_law_729 : decode cL_law 729 = .ok (.iaload, 1) := by decide +kernel
theorem dL_law_730 : decode cL_law 730 = .ok (.aload_n 0, 1) := by decide +kernel
theorem dL_law_731 : decode cL_law 731 = .ok (.iload_n 3, 1) := by decide +kernel
theorem dL_law_732 : decode cL_law 732 = .ok (.iconst 3, 1) := by decide +kernel
theorem dL_law_733 : decode cL_law 733 = .ok (.iadd, 1) := by decide +kernel
theorem dL_law_734 : decode cL_law 734 = .ok (.iaload, 1) := by decide +kernel
theorem dL_law_735 : decode cL_law 735 = .ok (.invokevirtual 69, 3) := by decide +kernel
theorem dL_law_738 : decode cL_law 738 = .ok (.if_icmp .eq 1212, 3) := by decide +kernel
theorem dL_law_743 : decode cL_law 743 = .ok (.aload_n 1, 1) := by decide +kernel
theorem dL_law_744 : decode cL_law 744 = .ok (.invokevirtual 70, 3) := by decide +kernel
theorem dL_law_747 : decode cL_law 747 = .ok (.aload_n 2, 1) := by decide +kernel
theorem dL_law_748 : decode cL_law 748 = .ok (.invokevirtual 73, 3) := by decide +kernel
theorem dL_law_751 : decode cL_law 751 = .ok (.if_icmp .eq 1199, 3) := by decide +kernel
theorem dL_law_756 : decode cL_law 756 = .ok (.aload_n 1, 1) := by decide +kernel
theorem dL_law_757 : decode cL_law 757 = .ok (.aload_n 0, 1) := by decide +kernel
theorem dL_law_758 : decode cL_law 758 = .ok (.iload_n 3, 1) := by decide +kernel
theorem dL_law_759 : decode cL_law 759 = .ok (.iconst 1, 1) := by decide +kernel
theorem dL_law_760 : decode cL_law 760 = .ok (.iadd, 1) := by decide +kernel
theorem dL_law_761 : decode cL_law 761 = .ok (.iaload, 1) := by decide +kernel
theorem dL_law_762 : decode cL_law 762 = .ok (.invokevirtual 74, 3) := by decide +kernel
theorem dL_law_765 : decode cL_law 765 = .ok (.aload_n 2, 1) := by decide +kernel
theorem dL_law_766 : decode cL_law 766 = .ok (.aload_n 0, 1) := by decide +kernel
theorem dL_law_767 : decode cL_law 767 = .ok (.iload_n 3, 1) := by decide +kernel
theorem dL_law_768 : decode cL_law 768 = .ok (.iconst 1, 1) := by decide +kernel
theorem dL_law_769 : decode cL_law 769 = .ok (.iadd, 1) := by decide +kernel
theorem dL_law_770 : decode cL_law 770 = .ok (.iaload, 1) := by decide +kernel
theorem dL_law_771 : decode cL_law 771 = .ok (.invokevirtual 77, 3) := by decide +kernel
theorem dL_law_774 : decode cL_law 774 = .ok (.if_icmp .eq 1176, 3) := by decide +kernel
theorem dL_law_779 : decode cL_law 779 = .ok (.aload_n 1, 1) := by decide +kernel
theorem dL_law_780 : decode cL_law 780 = .ok (.aload_n 0, 1) := by decide +kernel
theorem dL_law_781 : decode cL_law 781 = .ok (.iload_n 3, 1) := by decide +kernel
theorem dL_law_782 : decode cL_law 782 = .ok (.iconst 1, 1) := by decide +kernel
theorem dL_law_783 : decode cL_law 783 = .ok (.iadd, 1) := by decide +kernel
theorem dL_law_784 : decode cL_law 784 = .ok (.iaload, 1) := by decide +kernel
theorem dL_law_785 : decode cL_law 785 = .ok (.invokevirtual 78, 3) := by decide +kernel
theorem dL_law_788 : decode cL_law 788 = .ok (.aload_n 2, 1) := by decide +kernel
theorem dL_law_789 : decode cL_law 789 = .ok (.aload_n 0, 1) := by decide +kernel
theorem dL_law_790 : decode cL_law 790 = .ok (.iload_n 3, 1) := by decide +kernel
theorem dL_law_791 : decode cL_law 791 = .ok (.iconst 1, 1) := by decide +kernel
theorem dL_law_792 : decode cL_law 792 = .ok (.iadd, 1) := by decide +kernel
theorem dL_law_793 : decode cL_law 793 = .ok (.iaload, 1) := by decide +kernel
theorem dL_law_794 : decode cL_law 794 = .ok (.invokevirtual 81, 3) := by decide +kernel
theorem dL_law_797 : decode cL_law 797 = .ok (.if_icmp .eq 1153, 3) := by decide +kernel
theorem dL_law_802 : decode cL_law 802 = .ok (.aload_n 1, 1) := by decide +kernel
theorem dL_law_803 : decode cL_law 803 = .ok (.aload_n 0, 1) := by decide +kernel
theorem dL_law_804 : decode cL_law 804 = .ok (.iload_n 3, 1) := by decide +kernel
theorem dL_law_805 : decode cL_law 805 = .ok (.iconst 1, 1) := by decide +kernel
theorem dL_law_806 : decode cL_law 806 = .ok (.iadd, 1) := by decide +kernel
theorem dL_law_807 : decode cL_law 807 = .ok (.iaload, 1) := by decide +kernel
theorem dL_law_808 : decode cL_law 808 = .ok (.invokevirtual 82, 3) := by decide +kernel
theorem dL_law_811 : decode cL_law 811 = .ok (.aload_n 2, 1) := by decide +kernel
theorem dL_law_812 : decode cL_law 812 = .ok (.aload_n 0, 1) := by decide +kernel
theorem dL_law_813 : decode cL_law 813 = .ok (.iload_n 3, 1) := by decide +kernel
theorem dL_law_814 : decode cL_law 814 = .ok (.iconst 1, 1) := by decide +kernel
theorem dL_law_815 : decode cL_law 815 = .ok (.iadd, 1) := by decide +kernel
theorem dL_law_816 : decode cL_law 816 = .ok (.iaload, 1) := by decide +kernel
theorem dL_law_817 : decode cL_law 817 = .ok (.invokevirtual 85, 3) := by decide +kernel
theorem dL_law_820 : decode cL_law 820 = .ok (.if_icmp .eq 1130, 3) := by decide +kernel
theorem dL_law_825 : decode cL_law 825 = .ok (.aload_n 1, 1) := by decide +kernel
theorem dL_law_826 : decode cL_law 826 = .ok (.invokevirtual 86, 3) := by decide +kernel
theorem dL_law_829 : decode cL_law 829 = .ok (.aload_n 2, 1) := by decide +kernel
theorem dL_law_830 : decode cL_law 830 = .ok (.invokevirtual 89, 3) := by decide +kernel
theorem dL_law_833 : decode cL_law 833 = .ok (.if_icmp .eq 1117, 3) := by decide +kernel
theorem dL_law_838 : decode cL_law 838 = .ok (.aload_n 1, 1) := by decide +kernel
theorem dL_law_839 : decode cL_law 839 = .ok (.aload_n 0, 1) := by decide +kernel
theorem dL_law_840 : decode cL_law 840 = .ok (.iload_n 3, 1) := by decide +kernel
theorem dL_law_841 : decode cL_law 841 = .ok (.iconst 1, 1) := by decide +kernel
theorem dL_law_842 : decode cL_law 842 = .ok (.iadd, 1) := by decide +kernel
theorem dL_law_843 : decode cL_law 843 = .ok (.iaload, 1) := by decide +kernel
theorem dL_law_844 : decode cL_law 844 = .ok (.invokevirtual 90, 3) := by decide +kernel
theorem dL_law_847 : decode cL_law 847 = .ok (.aload_n 2, 1) := by decide +kernel
theorem dL_law_848 : decode cL_law 848 = .ok (.aload_n 0, 1) := by decide +kernel
theorem dL_law_849 : decode cL_law 849 = .ok (.iload_n 3, 1) := by decide +kernel
theorem dL_law_850 : decode cL_law 850 = .ok (.iconst 1, 1) := by decide +kernel
theorem dL_law_851 : decode cL_law 851 = .ok (.iadd, 1) := by decide +kernel
theorem dL_law_852 : decode cL_law 852 = .ok (.iaload, 1) := by decide +kernel
theorem dL_law_853 : decode cL_law 853 = .ok (.invokevirtual 93, 3) := by decide +kernel
theorem dL_law_856 : decode cL_law 856 = .ok (.if_icmp .eq 1094, 3) := by decide +kernel
theorem dL_law_861 : decode cL_law 861 = .ok (.aload_n 1, 1) := by decide +kernel
theorem dL_law_862 : decode cL_law 862 = .ok (.aload_n 0, 1) := by decide +kernel
theorem dL_law_863 : decode cL_law 863 = .ok (.iload_n 3, 1) := by decide +kernel
theorem dL_law_864 : decode cL_law 864 = .ok (.iconst 1, 1) := by decide +kernel
theorem dL_law_865 : decode cL_law 865 = .ok (.iadd, 1) := by decide +kernel
theorem dL_law_866 : decode cL_law 866 = .ok (.iaload, 1) := by decide +kernel
theorem dL_law_867 : decode cL_law 867 = .ok (.invokevirtual 94, 3) := by decide +kernel
theorem dL_law_870 : decode cL_law 870 = .ok (.aload_n 2, 1) := by decide +kernel
theorem dL_law_871 : decode cL_law 871 = .ok (.aload_n 0, 1) := by decide +kernel
theorem dL_law_872 : decode cL_law 872 = .ok (.iload_n 3, 1) := by decide +kernel
theorem dL_law_873 : decode cL_law 873 = .ok (.iconst 1, 1) := by decide +kernel
theorem dL_law_874 : decode cL_law 874 = .ok (.iadd, 1) := by decide +kernel
theorem dL_law_875 : decode cL_law 875 = .ok (.iaload, 1) := by decide +kernel
theorem dL_law_876 : decode cL_law 876 = .ok (.invokevirtual 97, 3) := by decide +kernel
theorem dL_law_879 : decode cL_law 879 = .ok (.if_icmp .eq 1071, 3) := by decide +kernel
theorem dL_law_884 : decode cL_law 884 = .ok (.aload_n 1, 1) := by decide +kernel
theorem dL_law_885 : decode cL_law 885 = .ok (.aload_n 0, 1) := by decide +kernel
theorem dL_law_886 : decode cL_law 886 = .ok (.iload_n 3, 1) := by decide +kernel
theorem dL_law_887 : decode cL_law 887 = .ok (.iconst 1, 1) := by decide +kernel
theorem dL_law_888 : decode cL_law 888 = .ok (.iadd, 1) := by decide +kernel
theorem dL_law_889 : decode cL_law 889 = .ok (.iaload, 1) := by decide +kernel
theorem dL_law_890 : decode cL_law 890 = .ok (.aload_n 0, 1) := by decide +kernel
theorem dL_law_891 : decode cL_law 891 = .ok (.iload_n 3, 1) := by decide +kernel
theorem dL_law_892 : decode cL_law 892 = .ok (.iconst 2, 1) := by decide +kernel
theorem dL_law_893 : decode cL_law 893 = .ok (.iadd, 1) := by decide +kernel
theorem dL_law_894 : decode cL_law 894 = .ok (.iaload, 1) := by decide +kernel
theorem dL_law_895 : decode cL_law 895 = .ok (.invokevirtual 98, 3) := by decide +kernel
theorem dL_law_898 : decode cL_law 898 = .ok (.aload_n 2, 1) := by decide +kernel
theorem dL_law_899 : decode cL_law 899 = .ok (.aload_n 0, 1) := by decide +kernel
theorem dL_law_900 : decode cL_law 900 = .ok (.iload_n 3, 1) := by decide +kernel
theorem dL_law_901 : decode cL_law 901 = .ok (.iconst 1, 1) := by decide +kernel
theorem dL_law_902 : decode cL_law 902 = .ok (.iadd, 1) := by decide +kernel
theorem dL_law_903 : decode cL_law 903 = .ok (.iaload, 1) := by decide +kernel
theorem dL_law_904 : decode cL_law 904 = .ok (.aload_n 0, 1) := by decide +kernel
theorem dL_law_905 : decode cL_law 905 = .ok (.iload_n 3, 1) := by decide +kernel
theorem dL_law_906 : decode cL_law 906 = .ok (.iconst 2, 1) := by decide +kernel
theorem dL_law_907 : decode cL_law 907 = .ok (.iadd, 1) := by decide +kernel
theorem dL_law_908 : decode cL_law 908 = .ok (.iaload, 1) := by decide +kernel
theorem dL_law_909 : decode cL_law 909 = .ok (.invokevirtual 101, 3) := by decide +kernel
theorem dL_law_912 : decode cL_law 912 = .ok (.if_icmp .eq 1038, 3) := by decide +kernel
theorem dL_law_917 : decode cL_law 917 = .ok (.aload_n 1, 1) := by decide +kernel
theorem dL_law_918 : decode cL_law 918 = .ok (.aload_n 0, 1) := by decide +kernel
theorem dL_law_919 : decode cL_law 919 = .ok (.iload_n 3, 1) := by decide +kernel
theorem dL_law_920 : decode cL_law 920 = .ok (.iconst 1, 1) := by decide +kernel
theorem dL_law_921 : decode cL_law 921 = .ok (.iadd, 1) := by decide +kernel
theorem dL_law_922 : decode cL_law 922 = .ok (.iaload, 1) := by decide +kernel
theorem dL_law_923 : decode cL_law 923 = .ok (.aload_n 0, 1) := by decide +kernel
theorem dL_law_924 : decode cL_law 924 = .ok (.iload_n 3, 1) := by decide +kernel
theorem dL_law_925 : decode cL_law 925 = .ok (.iconst 2, 1) := by decide +kernel
theorem dL_law_926 : decode cL_law 926 = .ok (.iadd, 1) := by decide +kernel
theorem dL_law_927 : decode cL_law 927 = .ok (.iaload, 1) := by decide +kernel
theorem dL_law_928 : decode cL_law 928 = .ok (.aload_n 0, 1) := by decide +kernel
theorem dL_law_929 : decode cL_law 929 = .ok (.iload_n 3, 1) := by decide +kernel
theorem dL_law_930 : decode cL_law 930 = .ok (.iconst 3, 1) := by decide +kernel
theorem dL_law_931 : decode cL_law 931 = .ok (.iadd, 1) := by decide +kernel
theorem dL_law_932 : decode cL_law 932 = .ok (.iaload, 1) := by decide +kernel
theorem dL_law_933 : decode cL_law 933 = .ok (.invokevirtual 102, 3) := by decide +kernel
theorem dL_law_936 : decode cL_law 936 = .ok (.aload_n 2, 1) := by decide +kernel
theorem dL_law_937 : decode cL_law 937 = .ok (.aload_n 0, 1) := by decide +kernel
theorem dL_law_938 : decode cL_law 938 = .ok (.iload_n 3, 1) := by decide +kernel
theorem dL_law_939 : decode cL_law 939 = .ok (.iconst 1, 1) := by decide +kernel
theorem dL_law_940 : decode cL_law 940 = .ok (.iadd, 1) := by decide +kernel
theorem dL_law_941 : decode cL_law 941 = .ok (.iaload, 1) := by decide +kernel
theorem dL_law_942 : decode cL_law 942 = .ok (.aload_n 0, 1) := by decide +kernel
theorem dL_law_943 : decode cL_law 943 = .ok (.iload_n 3, 1) := by decide +kernel
theorem dL_law_944 : decode cL_law 944 = .ok (.iconst 2, 1) := by decide +kernel
theorem dL_law_945 : decode cL_law 945 = .ok (.iadd, 1) := by decide +kernel
theorem dL_law_946 : decode cL_law 946 = .ok (.iaload, 1) := by decide +kernel
theorem dL_law_947 : decode cL_law 947 = .ok (.aload_n 0, 1) := by decide +kernel
theorem dL_law_948 : decode cL_law 948 = .ok (.iload_n 3, 1) := by decide +kernel
theorem dL_law_949 : decode cL_law 949 = .ok (.iconst 3, 1) := by decide +kernel
theorem dL_law_950 : decode cL_law 950 = .ok (.iadd, 1) := by decide +kernel
theorem dL_law_951 : decode cL_law 951 = .ok (.iaload, 1) := by decide +kernel
theorem dL_law_952 : decode cL_law 952 = .ok (.invokevirtual 105, 3) := by decide +kernel
theorem dL_law_955 : decode cL_law 955 = .ok (.if_icmp .eq 995, 3) := by decide +kernel
set_option maxRecDepth 100000 in
theorem pq711 : Cond.methodLink RL 74 yX6_crop ∈ pw := pw_mem (i := 711) (by decide +kernel) rfl
set_option maxRecDepth 100000 in
theorem pq712 : Cond.instanceMethod yX6_crop ∈ pw := pw_mem (i := 712) (by decide +kernel) rfl
set_option maxRecDepth 100000 in
theorem pq713 : Cond.selects RX6 yX6_crop yX6_crop ∈ pw := pw_mem (i := 713) (by decide +kernel) rfl
set_option maxRecDepth 100000 in
theorem pq714 : Cond.code yX6_crop cX6_crop 5 (some .int) ∈ pw := pw_mem (i := 714) (by rfl) rfl
set_option maxRecDepth 100000 in
theorem pq725 : Cond.methodLink RL 78 yX6_quarter ∈ pw := pw_mem (i := 725) (by decide +kernel) rfl
set_option maxRecDepth 100000 in
theorem pq726 : Cond.instanceMethod yX6_quarter ∈ pw := pw_mem (i := 726) (by decide +kernel) rfl
set_option maxRecDepth 100000 in
theorem pq727 : Cond.selects RX6 yX6_quarter yX6_quarter ∈ pw := pw_mem (i := 727) (by decide +kernel) rfl
set_option maxRecDepth 100000 in
theorem pq728 : Cond.code yX6_quarter cX6_quarter 2 (some .int) ∈ pw := pw_mem (i := 728) (by rfl) rfl
set_option maxRecDepth 100000 in
theorem pq735 : Cond.methodLink RL 62 yX6_slide ∈ pw := pw_mem (i := 735) (by decide +kernel) rfl
set_option maxRecDepth 100000 in
theorem pq736 : Cond.instanceMethod yX6_slide ∈ pw := pw_mem (i := 736) (by decide +kernel) rfl
set_option maxRecDepth 100000 in
theorem pq737 : Cond.selects RX6 yX6_slide yX6_slide ∈ pw := pw_mem (i := 737) (by decide +kernel) rfl
set_option maxRecDepth 100000 in
theorem pq738 : Cond.code yX6_slide cX6_slide 4 (some .int) ∈ pw := pw_mem (i := 738) (by rfl) rfl
set_option maxRecDepth 100000 in
theorem pq793 : Cond.methodLink RL 66 yX6_push ∈ pw := pw_mem (i := 793) (by decide +kernel) rfl
set_option maxRecDepth 100000 in
theorem pq794 : Cond.instanceMethod yX6_push ∈ pw := pw_mem (i := 794) (by decide +kernel) rfl
set_option maxRecDepth 100000 in
theorem pq795 : Cond.selects RX6 yX6_push yX6_push ∈ pw := pw_mem (i := 795) (by decide +kernel) rfl
set_option maxRecDepth 100000 in
theorem pq796 : Cond.code yX6_push cX6_push 10 (some .int) ∈ pw := pw_mem (i := 796) (by rfl) rfl
set_option maxRecDepth 100000 in
theorem pq821 : Cond.methodLink RL 70 yX6_falls ∈ pw := pw_mem (i := 821) (by decide +kernel) rfl
set_option maxRecDepth 100000 in
theorem pq822 : Cond.instanceMethod yX6_falls ∈ pw := pw_mem (i := 822) (by decide +kernel) rfl
set_option maxRecDepth 100000 in
theorem pq823 : Cond.selects RX6 yX6_falls yX6_falls ∈ pw := pw_mem (i := 823) (by decide +kernel) rfl
set_option maxRecDepth 100000 in
theorem pq824 : Cond.code yX6_falls cX6_falls 6 (some .int) ∈ pw := pw_mem (i := 824) (by rfl) rfl
set_option maxRecDepth 100000 in
theorem pq825 : Cond.methodLink RL 82 yX6_ticks ∈ pw := pw_mem (i := 825) (by decide +kernel) rfl
set_option maxRecDepth 100000 in
theorem pq826 : Cond.instanceMethod yX6_ticks ∈ pw := pw_mem (i := 826) (by decide +kernel) rfl
set_option maxRecDepth 100000 in
theorem pq827 : Cond.selects RX6 yX6_ticks yX6_ticks ∈ pw := pw_mem (i := 827) (by decide +kernel) rfl
set_option maxRecDepth 100000 in
theorem pq828 : Cond.code yX6_ticks cX6_ticks 5 (some .int) ∈ pw := pw_mem (i := 828) (by rfl) rfl
set_option maxRecDepth 100000 in
theorem pq833 : Cond.methodLink RL 86 yX6_undo ∈ pw := pw_mem (i := 833) (by decide +kernel) rfl
set_option maxRecDepth 100000 in
theorem pq834 : Cond.instanceMethod yX6_undo ∈ pw := pw_mem (i := 834) (by decide +kernel) rfl
set_option maxRecDepth 100000 in
theorem pq835 : Cond.selects RX6 yX6_undo yX6_undo ∈ pw := pw_mem (i := 835) (by decide +kernel) rfl
set_option maxRecDepth 100000 in
theorem pq836 : Cond.code yX6_undo cX6_undo 2 (some .int) ∈ pw := pw_mem (i := 836) (by rfl) rfl
set_option maxRecDepth 100000 in
theorem pq837 : Cond.methodLink RL 90 yX6_keep ∈ pw := pw_mem (i := 837) (by decide +kernel) rfl
set_option maxRecDepth 100000 in
theorem pq838 : Cond.instanceMethod yX6_keep ∈ pw := pw_mem (i := 838) (by decide +kernel) rfl
set_option maxRecDepth 100000 in
theorem pq839 : Cond.selects RX6 yX6_keep yX6_keep ∈ pw := pw_mem (i := 839) (by decide +kernel) rfl
set_option maxRecDepth 100000 in
theorem pq840 : Cond.code yX6_keep cX6_keep 3 (some .int) ∈ pw := pw_mem (i := 840) (by rfl) rfl
set_option maxRecDepth 100000 in
theorem pq841 : Cond.methodLink RL 94 yX6_back ∈ pw := pw_mem (i := 841) (by decide +kernel) rfl
set_option maxRecDepth 100000 in
theorem pq842 : Cond.instanceMethod yX6_back ∈ pw := pw_mem (i := 842) (by decide +kernel) rfl
set_option maxRecDepth 100000 in
theorem pq843 : Cond.selects RX6 yX6_back yX6_back ∈ pw := pw_mem (i := 843) (by decide +kernel) rfl
set_option maxRecDepth 100000 in
theorem pq844 : Cond.code yX6_back cX6_back 3 (some .int) ∈ pw := pw_mem (i := 844) (by rfl) rfl
set_option maxRecDepth 100000 in
theorem pq845 : Cond.methodLink RL 98 yX6_mask ∈ pw := pw_mem (i := 845) (by decide +kernel) rfl
set_option maxRecDepth 100000 in
theorem pq846 : Cond.instanceMethod yX6_mask ∈ pw := pw_mem (i := 846) (by decide +kernel) rfl
set_option maxRecDepth 100000 in
theorem pq847 : Cond.selects RX6 yX6_mask yX6_mask ∈ pw := pw_mem (i := 847) (by decide +kernel) rfl
set_option maxRecDepth 100000 in
theorem pq848 : Cond.code yX6_mask cX6_mask 4 (some .int) ∈ pw := pw_mem (i := 848) (by rfl) rfl
set_option maxRecDepth 100000 in
theorem pq878 : Cond.methodLink RL 102 yX6_dot ∈ pw := pw_mem (i := 878) (by decide +kernel) rfl
set_option maxRecDepth 100000 in
theorem pq879 : Cond.instanceMethod yX6_dot ∈ pw := pw_mem (i := 879) (by decide +kernel) rfl
set_option maxRecDepth 100000 in
theorem pq880 : Cond.selects RX6 yX6_dot yX6_dot ∈ pw := pw_mem (i := 880) (by decide +kernel) rfl
set_option maxRecDepth 100000 in
theorem pq881 : Cond.code yX6_dot cX6_dot 4 (some .int) ∈ pw := pw_mem (i := 881) (by rfl) rfl
set_option maxRecDepth 100000 in
theorem pq1294 : Cond.methodLink RL 89 yX7_undo ∈ pw := pw_mem (i := 1294) (by decide +kernel) rfl
set_option maxRecDepth 100000 in
theorem pq1295 : Cond.instanceMethod yX7_undo ∈ pw := pw_mem (i := 1295) (by decide +kernel) rfl
set_option maxRecDepth 100000 in
theorem pq1296 : Cond.selects RX7 yX7_undo yX7_undo ∈ pw := pw_mem (i := 1296) (by decide +kernel) rfl
set_option maxRecDepth 100000 in
theorem pq1297 : Cond.code yX7_undo cX7_undo 1 (some .int) ∈ pw := pw_mem (i := 1297) (by rfl) rfl
set_option maxRecDepth 100000 in
theorem pq1298 : Cond.methodLink RL 93 yX7_keep ∈ pw := pw_mem (i := 1298) (by decide +kernel) rfl
set_option maxRecDepth 100000 in
theorem pq1299 : Cond.instanceMethod yX7_keep ∈ pw := pw_mem (i := 1299) (by decide +kernel) rfl
set_option maxRecDepth 100000 in
theorem pq1300 : Cond.selects RX7 yX7_keep yX7_keep ∈ pw := pw_mem (i := 1300) (by decide +kernel) rfl
set_option maxRecDepth 100000 in
theorem pq1301 : Cond.code yX7_keep cX7_keep 2 (some .int) ∈ pw := pw_mem (i := 1301) (by rfl) rfl
set_option maxRecDepth 100000 in
theorem pq1302 : Cond.methodLink RL 97 yX7_back ∈ pw := pw_mem (i := 1302) (by decide +kernel) rfl
set_option maxRecDepth 100000 in
theorem pq1303 : Cond.instanceMethod yX7_back ∈ pw := pw_mem (i := 1303) (by decide +kernel) rfl
set_option maxRecDepth 100000 in
theorem pq1304 : Cond.selects RX7 yX7_back yX7_back ∈ pw := pw_mem (i := 1304) (by decide +kernel) rfl
set_option maxRecDepth 100000 in
theorem pq1305 : Cond.code yX7_back cX7_back 2 (some .int) ∈ pw := pw_mem (i := 1305) (by rfl) rfl
set_option maxRecDepth 100000 in
theorem pq1418 : Cond.methodLink RL 65 yX7_slide ∈ pw := pw_mem (i := 1418) (by decide +kernel) rfl
set_option maxRecDepth 100000 in
theorem pq1419 : Cond.instanceMethod yX7_slide ∈ pw := pw_mem (i := 1419) (by decide +kernel) rfl
set_option maxRecDepth 100000 in
theorem pq1420 : Cond.selects RX7 yX7_slide yX7_slide ∈ pw := pw_mem (i := 1420) (by decide +kernel) rfl
set_option maxRecDepth 100000 in
theorem pq1421 : Cond.code yX7_slide cX7_slide 6 (some .int) ∈ pw := pw_mem (i := 1421) (by rfl) rfl
set_option maxRecDepth 100000 in
theorem pq1478 : Cond.methodLink RL 69 yX7_push ∈ pw := pw_mem (i := 1478) (by decide +kernel) rfl
set_option maxRecDepth 100000 in
theorem pq1479 : Cond.instanceMethod yX7_push ∈ pw := pw_mem (i := 1479) (by decide +kernel) rfl
set_option maxRecDepth 100000 in
theorem pq1480 : Cond.selects RX7 yX7_push yX7_push ∈ pw := pw_mem (i := 1480) (by decide +kernel) rfl
set_option maxRecDepth 100000 in
theorem pq1481 : Cond.code yX7_push cX7_push 12 (some .int) ∈ pw := pw_mem (i := 1481) (by rfl) rfl
set_option maxRecDepth 100000 in
theorem pq1494 : Cond.methodLink RL 73 yX7_falls ∈ pw := pw_mem (i := 1494) (by decide +kernel) rfl
set_option maxRecDepth 100000 in
theorem pq1495 : Cond.instanceMethod yX7_falls ∈ pw := pw_mem (i := 1495) (by decide +kernel) rfl
set_option maxRecDepth 100000 in
theorem pq1496 : Cond.selects RX7 yX7_falls yX7_falls ∈ pw := pw_mem (i := 1496) (by decide +kernel) rfl
set_option maxRecDepth 100000 in
theorem pq1497 : Cond.code yX7_falls cX7_falls 4 (some .int) ∈ pw := pw_mem (i := 1497) (by rfl) rfl
set_option maxRecDepth 100000 in
theorem pq1502 : Cond.methodLink RL 77 yX7_crop ∈ pw := pw_mem (i := 1502) (by decide +kernel) rfl
set_option maxRecDepth 100000 in
theorem pq1503 : Cond.instanceMethod yX7_crop ∈ pw := pw_mem (i := 1503) (by decide +kernel) rfl
set_option maxRecDepth 100000 in
theorem pq1504 : Cond.selects RX7 yX7_crop yX7_crop ∈ pw := pw_mem (i := 1504) (by decide +kernel) rfl
set_option maxRecDepth 100000 in
theorem pq1505 : Cond.code yX7_crop cX7_crop 4 (some .int) ∈ pw := pw_mem (i := 1505) (by rfl) rfl
set_option maxRecDepth 100000 in
theorem pq1518 : Cond.methodLink RL 81 yX7_quarter ∈ pw := pw_mem (i := 1518) (by decide +kernel) rfl
set_option maxRecDepth 100000 in
theorem pq1519 : Cond.instanceMethod yX7_quarter ∈ pw := pw_mem (i := 1519) (by decide +kernel) rfl
set_option maxRecDepth 100000 in
theorem pq1520 : Cond.selects RX7 yX7_quarter yX7_quarter ∈ pw := pw_mem (i := 1520) (by decide +kernel) rfl
set_option maxRecDepth 100000 in
theorem pq1521 : Cond.code yX7_quarter cX7_quarter 4 (some .int) ∈ pw := pw_mem (i := 1521) (by rfl) rfl
set_option maxRecDepth 100000 in
theorem pq1522 : Cond.methodLink RL 85 yX7_ticks ∈ pw := pw_mem (i := 1522) (by decide +kernel) rfl
set_option maxRecDepth 100000 in
theorem pq1523 : Cond.instanceMethod yX7_ticks ∈ pw := pw_mem (i := 1523) (by decide +kernel) rfl
set_option maxRecDepth 100000 in
theorem pq1524 : Cond.selects RX7 yX7_ticks yX7_ticks ∈ pw := pw_mem (i := 1524) (by decide +kernel) rfl
set_option maxRecDepth 100000 in
theorem pq1525 : Cond.code yX7_ticks cX7_ticks 7 (some .int) ∈ pw := pw_mem (i := 1525) (by rfl) rfl
set_option maxRecDepth 100000 in
theorem pq1526 : Cond.methodLink RL 101 yX7_mask ∈ pw := pw_mem (i := 1526) (by decide +kernel) rfl
set_option maxRecDepth 100000 in
theorem pq1527 : Cond.instanceMethod yX7_mask ∈ pw := pw_mem (i := 1527) (by decide +kernel) rfl
set_option maxRecDepth 100000 in
theorem pq1528 : Cond.selects RX7 yX7_mask yX7_mask ∈ pw := pw_mem (i := 1528) (by decide +kernel) rfl
set_option maxRecDepth 100000 in
theorem pq1529 : Cond.code yX7_mask cX7_mask 3 (some .int) ∈ pw := pw_mem (i := 1529) (by rfl) rfl
set_option maxRecDepth 100000 in
theorem pq1554 : Cond.methodLink RL 105 yX7_dot ∈ pw := pw_mem (i := 1554) (by decide +kernel) rfl
set_option maxRecDepth 100000 in
theorem pq1555 : Cond.instanceMethod yX7_dot ∈ pw := pw_mem (i := 1555) (by decide +kernel) rfl
set_option maxRecDepth 100000 in
theorem pq1556 : Cond.selects RX7 yX7_dot yX7_dot ∈ pw := pw_mem (i := 1556) (by decide +kernel) rfl
set_option maxRecDepth 100000 in
theorem pq1557 : Cond.code yX7_dot cX7_dot 4 (some .int) ∈ pw := pw_mem (i := 1557) (by rfl) rfl
set_option maxHeartbeats 4000000 in
set_option maxRecDepth 100000 in
theorem lw_case11 {p : Program} {e : Env} {s : State} {m : MethodId} {below : List Frame} {meth : Method} {c : Code} (l : Launch) {b : Nat} {xs : Nat → Int32} {dC : Nat → ClassId} {dI : Nat → Nat → Nat} (C0 : lw_At p s m meth c b 6 xs) {x0 tp nw dr rd sc sk fl ps sh nm nb dm db ss m0 mnw mhd mas mps msf mdt mhdd masd mpsd msfd mkp mtp mld mmd men mil mqu mbx : Nat} {kB kF kG kI kI2 kI3 kI4 kI5 kJ kJ2 kJ3 kJ4 kJ5 kZ kY : ClassId} {H : Heap} {locs : List Loc} {ls : Array Slot} (hK : va_K (dC, dI) vwCl [(kB, .byte), (kF, .object RX1), (kG, .object RX1), (kI, .int), (kI2, .int), (kI3, .int), (kI4, .int), (kI5, .int), (kJ, .long), (kJ2, .long), (kJ3, .long), (kJ4, .long), (kJ5, .long), (kZ, .boolean), (kY, .byte)] s) (hP : va_P (dC, dI) vwCl [(x0, .inr (6, [.ref tp, .int 0, .ref nw, .ref dr, .ref rd, .ref sc, .ref sk, .ref fl, .ref ps, .int 0, .int 0, .ref sh])), (tp, .inl (kB, 400, .inl (fun _ => 0))), (nw, .inr (1, [.ref nm, .ref nb, .int 0, .int 0, .int 0])), (dr, .inr (1, [.ref dm, .ref db, .int 0, .int 0, .int 0])), (rd, .inr (4, [.ref tp, .int 0, .int 0, .int 0, .int 0, .int 0])), (sc, .inr (5, [.ref nw, .ref ss, .int 0, .int (-1), .int 0, .int 0, .int 0, .int 0, .int 0])), (ps, .inl (kF, 10, .inr (.inr (.inr (.inr (fun _ => none)))))), (sh, .inl (kG, 2, .inr (.inr (.inr (.inr (fun _ => none)))))), (m0, .inr (7, [.ref mnw, .ref mhd, .ref mas, .ref mps, .ref msf, .ref mdt, .ref mhdd, .ref masd, .ref mpsd, .ref msfd, .ref mkp, .int 0, .ref mtp, .int 0, .int 0, .int 0, .int 0, .ref mld, .int 0, .ref mmd, .ref men, .ref mil, .ref mqu, .int 0, .int 0, .ref mbx])), (mnw, .inl (kI, 99, .inl (fun _ => 0))), (mhd, .inl (kI2, 99, .inl (fun _ => 0))), (mas, .inl (kI3, 99, .inl (fun _ => 0))), (mps, .inl (kI4, 990, .inl (fun _ => 0))), (msf, .inl (kI5, 198, .inl (fun _ => 0))), (mdt, .inl (kJ, 640, .inr (.inl (fun _ => 0)))), (mhdd, .inl (kJ2, 640, .inr (.inl (fun _ => 0)))), (masd, .inl (kJ3, 640, .inr (.inl (fun _ => 0)))), (mpsd, .inl (kJ4, 6400, .inr (.inl (fun _ => 0)))), (msfd, .inl (kJ5, 1280, .inr (.inl (fun _ => 0)))), (mkp, .inl (kZ, 2, .inl (fun _ => 0))), (mtp, .inl (kY, 400, .inl (fun _ => 0)))] H) (hD : va_D (fun q : Nat => s.heap.size ≤ q) [(x0, .inr (6, [.ref tp, .int 0, .ref nw, .ref dr, .ref rd, .ref sc, .ref sk, .ref fl, .ref ps, .int 0, .int 0, .ref sh])), (tp, .inl (kB, 400, .inl (fun _ => 0))), (nw, .inr (1, [.ref nm, .ref nb, .int 0, .int 0, .int 0])), (dr, .inr (1, [.ref dm, .ref db, .int 0, .int 0, .int 0])), (rd, .inr (4, [.ref tp, .int 0, .int 0, .int 0, .int 0, .int 0])), (sc, .inr (5, [.ref nw, .ref ss, .int 0, .int (-1), .int 0, .int 0, .int 0, .int 0, .int 0])), (ps, .inl (kF, 10, .inr (.inr (.inr (.inr (fun _ => none)))))), (sh, .inl (kG, 2, .inr (.inr (.inr (.inr (fun _ => none)))))), (m0, .inr (7, [.ref mnw, .ref mhd, .ref mas, .ref mps, .ref msf, .ref mdt, .ref mhdd, .ref masd, .ref mpsd, .ref msfd, .ref mkp, .int 0, .ref mtp, .int 0, .int 0, .int 0, .int 0, .ref mld, .int 0, .ref mmd, .ref men, .ref mil, .ref mqu, .int 0, .int 0, .ref mbx])), (mnw, .inl (kI, 99, .inl (fun _ => 0))), (mhd, .inl (kI2, 99, .inl (fun _ => 0))), (mas, .inl (kI3, 99, .inl (fun _ => 0))), (mps, .inl (kI4, 990, .inl (fun _ => 0))), (msf, .inl (kI5, 198, .inl (fun _ => 0))), (mdt, .inl (kJ, 640, .inr (.inl (fun _ => 0)))), (mhdd, .inl (kJ2, 640, .inr (.inl (fun _ => 0)))), (masd, .inl (kJ3, 640, .inr (.inl (fun _ => 0)))), (mpsd, .inl (kJ4, 6400, .inr (.inl (fun _ => 0)))), (msfd, .inl (kJ5, 1280, .inr (.inl (fun _ => 0)))), (mkp, .inl (kZ, 2, .inl (fun _ => 0))), (mtp, .inl (kY, 400, .inl (fun _ => 0)))]) (hS : va_S (fun q : Nat => s.heap.size ≤ q) s.heap H locs) (hl : lv_has ls 4 [(3, .int 0), (2, .ref m0), (1, .ref x0), (0, .ref b)]) : W p l e room_1 s m #[Value.ref b] below meth c H locs 110 27528 (lw_Z below #[Value.ref b] s) (F0 m 657 ls []) := by
  obtain ⟨hx, hb, hr, hml, hown, htl, hX, hbl, hlocks, hgv⟩ := id C0
  have hb : c.code = cL_law := hb
  have hown : s.vm.findClass RL = some m.cls := hown
  have hts : ∀ w ∈ pw, w.before #[Value.ref b] s = true := fun w h => htl w (pw_tbl h)
  have hN : xN s := xN_of htl
  have hA : ∀ q : Nat, s.heap.size ≤ q → (fun q : Nat => s.heap.size ≤ q) q := fun _ h => h
  have hbA : ¬ (fun q : Nat => s.heap.size ≤ q) b := Nat.not_le.mpr hbl
  refine lv_aload_n hx hb dL_law_657 rfl (lv_at hl 2 rfl) ?_
  refine lv_aload_n hx hb dL_law_658 rfl (lv_at hl 3 rfl) ?_
  refine lv_iload_n hx hb dL_law_659 rfl (lv_at hl 0 rfl) ?_
  refine lv_iconst (v := 1) hx hb dL_law_660 (by decide +kernel) ?_
  refine lv_iadd hx hb dL_law_661 ?_
  refine lv_topi (fun z1 ez1 => ?_)
  obtain rfl : z1 = 1 := ez1.trans (by decide +kernel)
  refine va_sld hx hb hX hbl hbA hS (in_d (by decide +kernel)) dL_law_662 ?_
  refine lv_aload_n hx hb dL_law_663 rfl (lv_at hl 3 rfl) ?_
  refine lv_iload_n hx hb dL_law_664 rfl (lv_at hl 0 rfl) ?_
  refine lv_iconst (v := 2) hx hb dL_law_665 (by decide +kernel) ?_
  refine lv_iadd hx hb dL_law_666 ?_
  refine lv_topi (fun z2 ez2 => ?_)
  obtain rfl : z2 = 2 := ez2.trans (by decide +kernel)
  refine va_sld hx hb hX hbl hbA hS (in_d (by decide +kernel)) dL_law_667 ?_
  refine lv_aload_n hx hb dL_law_668 rfl (lv_at hl 3 rfl) ?_
  refine lv_iload_n hx hb dL_law_669 rfl (lv_at hl 0 rfl) ?_
  refine lv_iconst (v := 3) hx hb dL_law_670 (by decide +kernel) ?_
  refine lv_iadd hx hb dL_law_671 ?_
  refine lv_topi (fun z3 ez3 => ?_)
  obtain rfl : z3 = 3 := ez3.trans (by decide +kernel)
  refine va_sld hx hb hX hbl hbA hS (in_d (by decide +kernel)) dL_law_672 ?_
  have hPc := hP.sub (ws' := [(x0, .inr (6, [.ref tp, .int 0, .ref nw, .ref dr, .ref rd, .ref sc, .ref sk, .ref fl, .ref ps, .int 0, .int 0, .ref sh])), (nw, .inr (1, [.ref nm, .ref nb, .int 0, .int 0, .int 0]))]) [0, 2] rfl
  have hDc := hD.sub (ws' := [(x0, .inr (6, [.ref tp, .int 0, .ref nw, .ref dr, .ref rd, .ref sc, .ref sk, .ref fl, .ref ps, .int 0, .int 0, .ref sh])), (nw, .inr (1, [.ref nm, .ref nb, .int 0, .int 0, .int 0]))]) [0, 2] (by decide) rfl
  have hKc := hK.sub (tys' := []) [] rfl
  refine ro_i (va_runV (As := [.int (xs (1 : Int32).toNatClampNeg), .int (xs (2 : Int32).toNatClampNeg), .int (xs (3 : Int32).toNatClampNeg)]) (rest := []) ⟨hx, hb, hml, hown, hts⟩ (c_X6_slide l dC dI x0 tp nw dr rd sc sk fl ps sh nm nb H.size (xs (1 : Int32).toNatClampNeg) (xs (2 : Int32).toNatClampNeg) (xs (3 : Int32).toNatClampNeg) ) (cwV 3 hts (gV pq735 pq736 pq737 pq74 pq738) rfl rfl rfl (by decide +kernel) ⟨(Nat.le_of_ble_eq_true rfl), (Nat.le_of_ble_eq_true rfl)⟩) (pc_V hPc hDc hKc hN (va_recv hK hP (ci := 6) (q0 := 0) rfl rfl)) rfl rfl hl.1 rfl (lv_room (Nat.le_of_ble_eq_true rfl)) dL_law_673 ⟨(Nat.le_of_ble_eq_true rfl), (Nat.le_of_ble_eq_true rfl)⟩) hS hP (fun r4 H locs hr4 hP hS => ?_)
  subst hr4
  refine lv_aload_n hx hb dL_law_676 rfl (lv_at hl 1 rfl) ?_
  refine lv_aload_n hx hb dL_law_677 rfl (lv_at hl 3 rfl) ?_
  refine lv_iload_n hx hb dL_law_678 rfl (lv_at hl 0 rfl) ?_
  refine lv_iconst (v := 1) hx hb dL_law_679 (by decide +kernel) ?_
  refine lv_iadd hx hb dL_law_680 ?_
  refine lv_topi (fun z5 ez5 => ?_)
  obtain rfl : z5 = 1 := ez5.trans (by decide +kernel)
  refine va_sld hx hb hX hbl hbA hS (in_d (by decide +kernel)) dL_law_681 ?_
  refine lv_aload_n hx hb dL_law_682 rfl (lv_at hl 3 rfl) ?_
  refine lv_iload_n hx hb dL_law_683 rfl (lv_at hl 0 rfl) ?_
  refine lv_iconst (v := 2) hx hb dL_law_684 (by decide +kernel) ?_
  refine lv_iadd hx hb dL_law_685 ?_
  refine lv_topi (fun z6 ez6 => ?_)
  obtain rfl : z6 = 2 := ez6.trans (by decide +kernel)
  refine va_sld hx hb hX hbl hbA hS (in_d (by decide +kernel)) dL_law_686 ?_
  refine lv_aload_n hx hb dL_law_687 rfl (lv_at hl 3 rfl) ?_
  refine lv_iload_n hx hb dL_law_688 rfl (lv_at hl 0 rfl) ?_
  refine lv_iconst (v := 3) hx hb dL_law_689 (by decide +kernel) ?_
  refine lv_iadd hx hb dL_law_690 ?_
  refine lv_topi (fun z7 ez7 => ?_)
  obtain rfl : z7 = 3 := ez7.trans (by decide +kernel)
  refine va_sld hx hb hX hbl hbA hS (in_d (by decide +kernel)) dL_law_691 ?_
  have hPc := hP.sub (ws' := [(m0, .inr (7, [.ref mnw, .ref mhd, .ref mas, .ref mps, .ref msf, .ref mdt, .ref mhdd, .ref masd, .ref mpsd, .ref msfd, .ref mkp, .int 0, .ref mtp, .int 0, .int 0, .int 0, .int 0, .ref mld, .int 0, .ref mmd, .ref men, .ref mil, .ref mqu, .int 0, .int 0, .ref mbx])), (mnw, .inl (kI, 99, .inl (fun _ => 0)))]) [8, 9] rfl
  have hDc := hD.sub (ws' := [(m0, .inr (7, [.ref mnw, .ref mhd, .ref mas, .ref mps, .ref msf, .ref mdt, .ref mhdd, .ref masd, .ref mpsd, .ref msfd, .ref mkp, .int 0, .ref mtp, .int 0, .int 0, .int 0, .int 0, .ref mld, .int 0, .ref mmd, .ref men, .ref mil, .ref mqu, .int 0, .int 0, .ref mbx])), (mnw, .inl (kI, 99, .inl (fun _ => 0)))]) [8, 9] (by decide) rfl
  have hKc := hK.sub (tys' := [(kI, .int)]) [3] rfl
  refine ro_i (va_runV (As := [.int (xs (1 : Int32).toNatClampNeg), .int (xs (2 : Int32).toNatClampNeg), .int (xs (3 : Int32).toNatClampNeg)]) (rest := [.int (-1)]) ⟨hx, hb, hml, hown, hts⟩ (c_X7_slide l dC dI m0 mnw mhd mas mps msf mdt mhdd masd mpsd msfd mkp mtp mld mmd men mil mqu mbx kI H.size (xs (1 : Int32).toNatClampNeg) (xs (2 : Int32).toNatClampNeg) (xs (3 : Int32).toNatClampNeg) ) (cwV 3 hts (gV pq1418 pq1419 pq1420 pq81 pq1421) rfl rfl rfl (by decide +kernel) ⟨(Nat.le_of_ble_eq_true rfl), (Nat.le_of_ble_eq_true rfl)⟩) (pc_V hPc hDc hKc hN (va_recv hK hP (ci := 7) (q0 := 8) rfl rfl)) rfl rfl hl.1 rfl (lv_room (Nat.le_of_ble_eq_true rfl)) dL_law_692 ⟨(Nat.le_of_ble_eq_true rfl), (Nat.le_of_ble_eq_true rfl)⟩) hS hP (fun r8 H locs hr8 hP hS => ?_)
  subst hr8
  refine lv_icmp_eq (tgt := 1950) hx hb dL_law_695 (by decide) (fun c9 => ?_) (fun c9 => absurd (by decide +kernel) c9)
  refine lv_iinc (v := 6) (lv' := [(3, .int 6), (2, .ref m0), (1, .ref x0), (0, .ref b)]) hx hb dL_law_1950 hl (k := 0) rfl (by decide +kernel) (by decide) rfl (fun ls hl => ?_)
  refine lv_goto (tgt := 18) hx hb dL_law_1953 (by decide) ?_
  refine lv_iload_n hx hb dL_law_18 rfl (lv_at hl 0 rfl) ?_
  refine lv_aload_n hx hb dL_law_19 rfl (lv_at hl 3 rfl) ?_
  refine va_slen hx hb hX hbl hbA hS dL_law_20 ?_
  refine lv_bipush (v := 6) hx hb dL_law_21 (by decide +kernel) ?_
  refine lv_isub hx hb dL_law_23 ?_
  refine lv_topi (fun z10 ez10 => ?_)
  obtain rfl : z10 = 0 := ez10.trans (by decide +kernel)
  refine lv_icmp_gt (tgt := 1956) hx hb dL_law_24 (by decide) (fun c11 => ?_) (fun c11 => absurd (by decide +kernel) c11)
  refine lv_iconst (v := 1) hx hb dL_law_1956 (by decide +kernel) ?_
  refine va_forget (fun q hq => hS.2.2 q hq) ?_
  refine W.widen (k := 600000) (n := 7302249) (Nat.le_of_ble_eq_true rfl) (Nat.le_of_ble_eq_true rfl) ?_
  refine W.base ?_
  exact lw_ret (Drawn.sameBut.refl s.drawn lw_cs) hx hb hr hlocks dL_law_1957

set_option maxHeartbeats 4000000 in
set_option maxRecDepth 100000 in
theorem lw_case12 {p : Program} {e : Env} {s : State} {m : MethodId} {below : List Frame} {meth : Method} {c : Code} (l : Launch) {b : Nat} {xs : Nat → Int32} {dC : Nat → ClassId} {dI : Nat → Nat → Nat} (C0 : lw_At p s m meth c b 6 xs) {x0 tp nw dr rd sc sk fl ps sh nm nb dm db ss m0 mnw mhd mas mps msf mdt mhdd masd mpsd msfd mkp mtp mld mmd men mil mqu mbx : Nat} {kB kF kG kI kI2 kI3 kI4 kI5 kJ kJ2 kJ3 kJ4 kJ5 kZ kY : ClassId} {H : Heap} {locs : List Loc} {ls : Array Slot} (hK : va_K (dC, dI) vwCl [(kB, .byte), (kF, .object RX1), (kG, .object RX1), (kI, .int), (kI2, .int), (kI3, .int), (kI4, .int), (kI5, .int), (kJ, .long), (kJ2, .long), (kJ3, .long), (kJ4, .long), (kJ5, .long), (kZ, .boolean), (kY, .byte)] s) (hP : va_P (dC, dI) vwCl [(x0, .inr (6, [.ref tp, .int 0, .ref nw, .ref dr, .ref rd, .ref sc, .ref sk, .ref fl, .ref ps, .int 0, .int 0, .ref sh])), (tp, .inl (kB, 400, .inl (fun _ => 0))), (nw, .inr (1, [.ref nm, .ref nb, .int 0, .int 0, .int 0])), (dr, .inr (1, [.ref dm, .ref db, .int 0, .int 0, .int 0])), (rd, .inr (4, [.ref tp, .int 0, .int 0, .int 0, .int 0, .int 0])), (sc, .inr (5, [.ref nw, .ref ss, .int 0, .int (-1), .int 0, .int 0, .int 0, .int 0, .int 0])), (ps, .inl (kF, 10, .inr (.inr (.inr (.inr (fun _ => none)))))), (sh, .inl (kG, 2, .inr (.inr (.inr (.inr (fun _ => none)))))), (m0, .inr (7, [.ref mnw, .ref mhd, .ref mas, .ref mps, .ref msf, .ref mdt, .ref mhdd, .ref masd, .ref mpsd, .ref msfd, .ref mkp, .int 0, .ref mtp, .int 0, .int 0, .int 0, .int 0, .ref mld, .int 0, .ref mmd, .ref men, .ref mil, .ref mqu, .int 0, .int 0, .ref mbx])), (mnw, .inl (kI, 99, .inl (fun _ => 0))), (mhd, .inl (kI2, 99, .inl (fun _ => 0))), (mas, .inl (kI3, 99, .inl (fun _ => 0))), (mps, .inl (kI4, 990, .inl (fun _ => 0))), (msf, .inl (kI5, 198, .inl (fun _ => 0))), (mdt, .inl (kJ, 640, .inr (.inl (fun _ => 0)))), (mhdd, .inl (kJ2, 640, .inr (.inl (fun _ => 0)))), (masd, .inl (kJ3, 640, .inr (.inl (fun _ => 0)))), (mpsd, .inl (kJ4, 6400, .inr (.inl (fun _ => 0)))), (msfd, .inl (kJ5, 1280, .inr (.inl (fun _ => 0)))), (mkp, .inl (kZ, 2, .inl (fun _ => 0))), (mtp, .inl (kY, 400, .inl (fun _ => 0)))] H) (hD : va_D (fun q : Nat => s.heap.size ≤ q) [(x0, .inr (6, [.ref tp, .int 0, .ref nw, .ref dr, .ref rd, .ref sc, .ref sk, .ref fl, .ref ps, .int 0, .int 0, .ref sh])), (tp, .inl (kB, 400, .inl (fun _ => 0))), (nw, .inr (1, [.ref nm, .ref nb, .int 0, .int 0, .int 0])), (dr, .inr (1, [.ref dm, .ref db, .int 0, .int 0, .int 0])), (rd, .inr (4, [.ref tp, .int 0, .int 0, .int 0, .int 0, .int 0])), (sc, .inr (5, [.ref nw, .ref ss, .int 0, .int (-1), .int 0, .int 0, .int 0, .int 0, .int 0])), (ps, .inl (kF, 10, .inr (.inr (.inr (.inr (fun _ => none)))))), (sh, .inl (kG, 2, .inr (.inr (.inr (.inr (fun _ => none)))))), (m0, .inr (7, [.ref mnw, .ref mhd, .ref mas, .ref mps, .ref msf, .ref mdt, .ref mhdd, .ref masd, .ref mpsd, .ref msfd, .ref mkp, .int 0, .ref mtp, .int 0, .int 0, .int 0, .int 0, .ref mld, .int 0, .ref mmd, .ref men, .ref mil, .ref mqu, .int 0, .int 0, .ref mbx])), (mnw, .inl (kI, 99, .inl (fun _ => 0))), (mhd, .inl (kI2, 99, .inl (fun _ => 0))), (mas, .inl (kI3, 99, .inl (fun _ => 0))), (mps, .inl (kI4, 990, .inl (fun _ => 0))), (msf, .inl (kI5, 198, .inl (fun _ => 0))), (mdt, .inl (kJ, 640, .inr (.inl (fun _ => 0)))), (mhdd, .inl (kJ2, 640, .inr (.inl (fun _ => 0)))), (masd, .inl (kJ3, 640, .inr (.inl (fun _ => 0)))), (mpsd, .inl (kJ4, 6400, .inr (.inl (fun _ => 0)))), (msfd, .inl (kJ5, 1280, .inr (.inl (fun _ => 0)))), (mkp, .inl (kZ, 2, .inl (fun _ => 0))), (mtp, .inl (kY, 400, .inl (fun _ => 0)))]) (hS : va_S (fun q : Nat => s.heap.size ≤ q) s.heap H locs) (hl : lv_has ls 4 [(3, .int 0), (2, .ref m0), (1, .ref x0), (0, .ref b)]) : W p l e room_1 s m #[Value.ref b] below meth c H locs 110 27528 (lw_Z below #[Value.ref b] s) (F0 m 700 ls []) := by
  obtain ⟨hx, hb, hr, hml, hown, htl, hX, hbl, hlocks, hgv⟩ := id C0
  have hb : c.code = cL_law := hb
  have hown : s.vm.findClass RL = some m.cls := hown
  have hts : ∀ w ∈ pw, w.before #[Value.ref b] s = true := fun w h => htl w (pw_tbl h)
  have hN : xN s := xN_of htl
  have hA : ∀ q : Nat, s.heap.size ≤ q → (fun q : Nat => s.heap.size ≤ q) q := fun _ h => h
  have hbA : ¬ (fun q : Nat => s.heap.size ≤ q) b := Nat.not_le.mpr hbl
  refine lv_aload_n hx hb dL_law_700 rfl (lv_at hl 2 rfl) ?_
  refine lv_aload_n hx hb dL_law_701 rfl (lv_at hl 3 rfl) ?_
  refine lv_iload_n hx hb dL_law_702 rfl (lv_at hl 0 rfl) ?_
  refine lv_iconst (v := 1) hx hb dL_law_703 (by decide +kernel) ?_
  refine lv_iadd hx hb dL_law_704 ?_
  refine lv_topi (fun z1 ez1 => ?_)
  obtain rfl : z1 = 1 := ez1.trans (by decide +kernel)
  refine va_sld hx hb hX hbl hbA hS (in_d (by decide +kernel)) dL_law_705 ?_
  refine lv_aload_n hx hb dL_law_706 rfl (lv_at hl 3 rfl) ?_
  refine lv_iload_n hx hb dL_law_707 rfl (lv_at hl 0 rfl) ?_
  refine lv_iconst (v := 2) hx hb dL_law_708 (by decide +kernel) ?_
  refine lv_iadd hx hb dL_law_709 ?_
  refine lv_topi (fun z2 ez2 => ?_)
  obtain rfl : z2 = 2 := ez2.trans (by decide +kernel)
  refine va_sld hx hb hX hbl hbA hS (in_d (by decide +kernel)) dL_law_710 ?_
  refine lv_aload_n hx hb dL_law_711 rfl (lv_at hl 3 rfl) ?_
  refine lv_iload_n hx hb dL_law_712 rfl (lv_at hl 0 rfl) ?_
  refine lv_iconst (v := 3) hx hb dL_law_713 (by decide +kernel) ?_
  refine lv_iadd hx hb dL_law_714 ?_
  refine lv_topi (fun z3 ez3 => ?_)
  obtain rfl : z3 = 3 := ez3.trans (by decide +kernel)
  refine va_sld hx hb hX hbl hbA hS (in_d (by decide +kernel)) dL_law_715 ?_
  have hPc := hP.sub (ws' := [(x0, .inr (6, [.ref tp, .int 0, .ref nw, .ref dr, .ref rd, .ref sc, .ref sk, .ref fl, .ref ps, .int 0, .int 0, .ref sh])), (nw, .inr (1, [.ref nm, .ref nb, .int 0, .int 0, .int 0]))]) [0, 2] rfl
  have hDc := hD.sub (ws' := [(x0, .inr (6, [.ref tp, .int 0, .ref nw, .ref dr, .ref rd, .ref sc, .ref sk, .ref fl, .ref ps, .int 0, .int 0, .ref sh])), (nw, .inr (1, [.ref nm, .ref nb, .int 0, .int 0, .int 0]))]) [0, 2] (by decide) rfl
  have hKc := hK.sub (tys' := []) [] rfl
  refine ro_i (va_runV (As := [.int (xs (1 : Int32).toNatClampNeg), .int (xs (2 : Int32).toNatClampNeg), .int (xs (3 : Int32).toNatClampNeg)]) (rest := []) ⟨hx, hb, hml, hown, hts⟩ (c_X6_push l dC dI x0 tp nw dr rd sc sk fl ps sh nm nb H.size (xs (1 : Int32).toNatClampNeg) (xs (2 : Int32).toNatClampNeg) (xs (3 : Int32).toNatClampNeg) ) (cwV 3 hts (gV pq793 pq794 pq795 pq74 pq796) rfl rfl rfl (by decide +kernel) ⟨(Nat.le_of_ble_eq_true rfl), (Nat.le_of_ble_eq_true rfl)⟩) (pc_V hPc hDc hKc hN (va_recv hK hP (ci := 6) (q0 := 0) rfl rfl)) rfl rfl hl.1 rfl (lv_room (Nat.le_of_ble_eq_true rfl)) dL_law_716 ⟨(Nat.le_of_ble_eq_true rfl), (Nat.le_of_ble_eq_true rfl)⟩) hS hP (fun r4 H locs hr4 hP hS => ?_)
  subst hr4
  refine lv_aload_n hx hb dL_law_719 rfl (lv_at hl 1 rfl) ?_
  refine lv_aload_n hx hb dL_law_720 rfl (lv_at hl 3 rfl) ?_
  refine lv_iload_n hx hb dL_law_721 rfl (lv_at hl 0 rfl) ?_
  refine lv_iconst (v := 1) hx hb dL_law_722 (by decide +kernel) ?_
  refine lv_iadd hx hb dL_law_723 ?_
  refine lv_topi (fun z5 ez5 => ?_)
  obtain rfl : z5 = 1 := ez5.trans (by decide +kernel)
  refine va_sld hx hb hX hbl hbA hS (in_d (by decide +kernel)) dL_law_724 ?_
  refine lv_aload_n hx hb dL_law_725 rfl (lv_at hl 3 rfl) ?_
  refine lv_iload_n hx hb dL_law_726 rfl (lv_at hl 0 rfl) ?_
  refine lv_iconst (v := 2) hx hb dL_law_727 (by decide +kernel) ?_
  refine lv_iadd hx hb dL_law_728 ?_
  refine lv_topi (fun z6 ez6 => ?_)
  obtain rfl : z6 = 2 := ez6.trans (by decide +kernel)
  refine va_sld hx hb hX hbl hbA hS (in_d (by decide +kernel)) dL_law_729 ?_
  refine lv_aload_n hx hb dL_law_730 rfl (lv_at hl 3 rfl) ?_
  refine lv_iload_n hx hb dL_law_731 rfl (lv_at hl 0 rfl) ?_
  refine lv_iconst (v := 3) hx hb dL_law_732 (by decide +kernel) ?_
  refine lv_iadd hx hb dL_law_733 ?_
  refine lv_topi (fun z7 ez7 => ?_)
  obtain rfl : z7 = 3 := ez7.trans (by decide +kernel)
  refine va_sld hx hb hX hbl hbA hS (in_d (by decide +kernel)) dL_law_734 ?_
  have hPc := hP.sub (ws' := [(m0, .inr (7, [.ref mnw, .ref mhd, .ref mas, .ref mps, .ref msf, .ref mdt, .ref mhdd, .ref masd, .ref mpsd, .ref msfd, .ref mkp, .int 0, .ref mtp, .int 0, .int 0, .int 0, .int 0, .ref mld, .int 0, .ref mmd, .ref men, .ref mil, .ref mqu, .int 0, .int 0, .ref mbx])), (mnw, .inl (kI, 99, .inl (fun _ => 0)))]) [8, 9] rfl
  have hDc := hD.sub (ws' := [(m0, .inr (7, [.ref mnw, .ref mhd, .ref mas, .ref mps, .ref msf, .ref mdt, .ref mhdd, .ref masd, .ref mpsd, .ref msfd, .ref mkp, .int 0, .ref mtp, .int 0, .int 0, .int 0, .int 0, .ref mld, .int 0, .ref mmd, .ref men, .ref mil, .ref mqu, .int 0, .int 0, .ref mbx])), (mnw, .inl (kI, 99, .inl (fun _ => 0)))]) [8, 9] (by decide) rfl
  have hKc := hK.sub (tys' := [(kI, .int)]) [3] rfl
  refine ro_i (va_runV (As := [.int (xs (1 : Int32).toNatClampNeg), .int (xs (2 : Int32).toNatClampNeg), .int (xs (3 : Int32).toNatClampNeg)]) (rest := [.int (-1)]) ⟨hx, hb, hml, hown, hts⟩ (c_X7_push l dC dI m0 mnw mhd mas mps msf mdt mhdd masd mpsd msfd mkp mtp mld mmd men mil mqu mbx kI H.size (xs (1 : Int32).toNatClampNeg) (xs (2 : Int32).toNatClampNeg) (xs (3 : Int32).toNatClampNeg) ) (cwV 3 hts (gV pq1478 pq1479 pq1480 pq81 pq1481) rfl rfl rfl (by decide +kernel) ⟨(Nat.le_of_ble_eq_true rfl), (Nat.le_of_ble_eq_true rfl)⟩) (pc_V hPc hDc hKc hN (va_recv hK hP (ci := 7) (q0 := 8) rfl rfl)) rfl rfl hl.1 rfl (lv_room (Nat.le_of_ble_eq_true rfl)) dL_law_735 ⟨(Nat.le_of_ble_eq_true rfl), (Nat.le_of_ble_eq_true rfl)⟩) hS hP (fun r8 H locs hr8 hP hS => ?_)
  subst hr8
  refine lv_icmp_eq (tgt := 1950) hx hb dL_law_738 (by decide) (fun c9 => ?_) (fun c9 => absurd (by decide +kernel) c9)
  refine lv_iinc (v := 6) (lv' := [(3, .int 6), (2, .ref m0), (1, .ref x0), (0, .ref b)]) hx hb dL_law_1950 hl (k := 0) rfl (by decide +kernel) (by decide) rfl (fun ls hl => ?_)
  refine lv_goto (tgt := 18) hx hb dL_law_1953 (by decide) ?_
  refine lv_iload_n hx hb dL_law_18 rfl (lv_at hl 0 rfl) ?_
  refine lv_aload_n hx hb dL_law_19 rfl (lv_at hl 3 rfl) ?_
  refine va_slen hx hb hX hbl hbA hS dL_law_20 ?_
  refine lv_bipush (v := 6) hx hb dL_law_21 (by decide +kernel) ?_
  refine lv_isub hx hb dL_law_23 ?_
  refine lv_topi (fun z10 ez10 => ?_)
  obtain rfl : z10 = 0 := ez10.trans (by decide +kernel)
  refine lv_icmp_gt (tgt := 1956) hx hb dL_law_24 (by decide) (fun c11 => ?_) (fun c11 => absurd (by decide +kernel) c11)
  refine lv_iconst (v := 1) hx hb dL_law_1956 (by decide +kernel) ?_
  refine va_forget (fun q hq => hS.2.2 q hq) ?_
  refine W.widen (k := 600000) (n := 7302249) (Nat.le_of_ble_eq_true rfl) (Nat.le_of_ble_eq_true rfl) ?_
  refine W.base ?_
  exact lw_ret (Drawn.sameBut.refl s.drawn lw_cs) hx hb hr hlocks dL_law_1957

set_option maxHeartbeats 4000000 in
set_option maxRecDepth 100000 in
theorem lw_case13 {p : Program} {e : Env} {s : State} {m : MethodId} {below : List Frame} {meth : Method} {c : Code} (l : Launch) {b : Nat} {xs : Nat → Int32} {dC : Nat → ClassId} {dI : Nat → Nat → Nat} (C0 : lw_At p s m meth c b 6 xs) {x0 tp nw dr rd sc sk fl ps sh nm nb dm db ss m0 mnw mhd mas mps msf mdt mhdd masd mpsd msfd mkp mtp mld mmd men mil mqu mbx : Nat} {kB kF kG kI kI2 kI3 kI4 kI5 kJ kJ2 kJ3 kJ4 kJ5 kZ kY : ClassId} {H : Heap} {locs : List Loc} {ls : Array Slot} (hK : va_K (dC, dI) vwCl [(kB, .byte), (kF, .object RX1), (kG, .object RX1), (kI, .int), (kI2, .int), (kI3, .int), (kI4, .int), (kI5, .int), (kJ, .long), (kJ2, .long), (kJ3, .long), (kJ4, .long), (kJ5, .long), (kZ, .boolean), (kY, .byte)] s) (hP : va_P (dC, dI) vwCl [(x0, .inr (6, [.ref tp, .int 0, .ref nw, .ref dr, .ref rd, .ref sc, .ref sk, .ref fl, .ref ps, .int 0, .int 0, .ref sh])), (tp, .inl (kB, 400, .inl (fun _ => 0))), (nw, .inr (1, [.ref nm, .ref nb, .int 0, .int 0, .int 0])), (dr, .inr (1, [.ref dm, .ref db, .int 0, .int 0, .int 0])), (rd, .inr (4, [.ref tp, .int 0, .int 0, .int 0, .int 0, .int 0])), (sc, .inr (5, [.ref nw, .ref ss, .int 0, .int (-1), .int 0, .int 0, .int 0, .int 0, .int 0])), (ps, .inl (kF, 10, .inr (.inr (.inr (.inr (fun _ => none)))))), (sh, .inl (kG, 2, .inr (.inr (.inr (.inr (fun _ => none)))))), (m0, .inr (7, [.ref mnw, .ref mhd, .ref mas, .ref mps, .ref msf, .ref mdt, .ref mhdd, .ref masd, .ref mpsd, .ref msfd, .ref mkp, .int 0, .ref mtp, .int 0, .int 0, .int 0, .int 0, .ref mld, .int 0, .ref mmd, .ref men, .ref mil, .ref mqu, .int 0, .int 0, .ref mbx])), (mnw, .inl (kI, 99, .inl (fun _ => 0))), (mhd, .inl (kI2, 99, .inl (fun _ => 0))), (mas, .inl (kI3, 99, .inl (fun _ => 0))), (mps, .inl (kI4, 990, .inl (fun _ => 0))), (msf, .inl (kI5, 198, .inl (fun _ => 0))), (mdt, .inl (kJ, 640, .inr (.inl (fun _ => 0)))), (mhdd, .inl (kJ2, 640, .inr (.inl (fun _ => 0)))), (masd, .inl (kJ3, 640, .inr (.inl (fun _ => 0)))), (mpsd, .inl (kJ4, 6400, .inr (.inl (fun _ => 0)))), (msfd, .inl (kJ5, 1280, .inr (.inl (fun _ => 0)))), (mkp, .inl (kZ, 2, .inl (fun _ => 0))), (mtp, .inl (kY, 400, .inl (fun _ => 0)))] H) (hD : va_D (fun q : Nat => s.heap.size ≤ q) [(x0, .inr (6, [.ref tp, .int 0, .ref nw, .ref dr, .ref rd, .ref sc, .ref sk, .ref fl, .ref ps, .int 0, .int 0, .ref sh])), (tp, .inl (kB, 400, .inl (fun _ => 0))), (nw, .inr (1, [.ref nm, .ref nb, .int 0, .int 0, .int 0])), (dr, .inr (1, [.ref dm, .ref db, .int 0, .int 0, .int 0])), (rd, .inr (4, [.ref tp, .int 0, .int 0, .int 0, .int 0, .int 0])), (sc, .inr (5, [.ref nw, .ref ss, .int 0, .int (-1), .int 0, .int 0, .int 0, .int 0, .int 0])), (ps, .inl (kF, 10, .inr (.inr (.inr (.inr (fun _ => none)))))), (sh, .inl (kG, 2, .inr (.inr (.inr (.inr (fun _ => none)))))), (m0, .inr (7, [.ref mnw, .ref mhd, .ref mas, .ref mps, .ref msf, .ref mdt, .ref mhdd, .ref masd, .ref mpsd, .ref msfd, .ref mkp, .int 0, .ref mtp, .int 0, .int 0, .int 0, .int 0, .ref mld, .int 0, .ref mmd, .ref men, .ref mil, .ref mqu, .int 0, .int 0, .ref mbx])), (mnw, .inl (kI, 99, .inl (fun _ => 0))), (mhd, .inl (kI2, 99, .inl (fun _ => 0))), (mas, .inl (kI3, 99, .inl (fun _ => 0))), (mps, .inl (kI4, 990, .inl (fun _ => 0))), (msf, .inl (kI5, 198, .inl (fun _ => 0))), (mdt, .inl (kJ, 640, .inr (.inl (fun _ => 0)))), (mhdd, .inl (kJ2, 640, .inr (.inl (fun _ => 0)))), (masd, .inl (kJ3, 640, .inr (.inl (fun _ => 0)))), (mpsd, .inl (kJ4, 6400, .inr (.inl (fun _ => 0)))), (msfd, .inl (kJ5, 1280, .inr (.inl (fun _ => 0)))), (mkp, .inl (kZ, 2, .inl (fun _ => 0))), (mtp, .inl (kY, 400, .inl (fun _ => 0)))]) (hS : va_S (fun q : Nat => s.heap.size ≤ q) s.heap H locs) (hl : lv_has ls 4 [(3, .int 0), (2, .ref m0), (1, .ref x0), (0, .ref b)]) : W p l e room_1 s m #[Value.ref b] below meth c H locs 110 27528 (lw_Z below #[Value.ref b] s) (F0 m 743 ls []) := by
  obtain ⟨hx, hb, hr, hml, hown, htl, hX, hbl, hlocks, hgv⟩ := id C0
  have hb : c.code = cL_law := hb
  have hown : s.vm.findClass RL = some m.cls := hown
  have hts : ∀ w ∈ pw, w.before #[Value.ref b] s = true := fun w h => htl w (pw_tbl h)
  have hN : xN s := xN_of htl
  have hA : ∀ q : Nat, s.heap.size ≤ q → (fun q : Nat => s.heap.size ≤ q) q := fun _ h => h
  have hbA : ¬ (fun q : Nat => s.heap.size ≤ q) b := Nat.not_le.mpr hbl
  refine lv_aload_n hx hb dL_law_743 rfl (lv_at hl 2 rfl) ?_
  have hPc := hP.sub (ws' := [(x0, .inr (6, [.ref tp, .int 0, .ref nw, .ref dr, .ref rd, .ref sc, .ref sk, .ref fl, .ref ps, .int 0, .int 0, .ref sh])), (nw, .inr (1, [.ref nm, .ref nb, .int 0, .int 0, .int 0]))]) [0, 2] rfl
  have hDc := hD.sub (ws' := [(x0, .inr (6, [.ref tp, .int 0, .ref nw, .ref dr, .ref rd, .ref sc, .ref sk, .ref fl, .ref ps, .int 0, .int 0, .ref sh])), (nw, .inr (1, [.ref nm, .ref nb, .int 0, .int 0, .int 0]))]) [0, 2] (by decide) rfl
  have hKc := hK.sub (tys' := []) [] rfl
  refine ro_i (va_runV (As := []) (rest := []) ⟨hx, hb, hml, hown, hts⟩ (c_X6_falls l dC dI x0 tp nw dr rd sc sk fl ps sh nm nb H.size  ) (cwV 0 hts (gV pq821 pq822 pq823 pq74 pq824) rfl rfl rfl (by decide +kernel) ⟨(Nat.le_of_ble_eq_true rfl), (Nat.le_of_ble_eq_true rfl)⟩) (pc_V hPc hDc hKc hN (va_recv hK hP (ci := 6) (q0 := 0) rfl rfl)) rfl rfl hl.1 rfl (lv_room (Nat.le_of_ble_eq_true rfl)) dL_law_744 ⟨(Nat.le_of_ble_eq_true rfl), (Nat.le_of_ble_eq_true rfl)⟩) hS hP (fun r1 H locs hr1 hP hS => ?_)
  subst hr1
  refine lv_aload_n hx hb dL_law_747 rfl (lv_at hl 1 rfl) ?_
  have hPc := hP.sub (ws' := [(m0, .inr (7, [.ref mnw, .ref mhd, .ref mas, .ref mps, .ref msf, .ref mdt, .ref mhdd, .ref masd, .ref mpsd, .ref msfd, .ref mkp, .int 0, .ref mtp, .int 0, .int 0, .int 0, .int 0, .ref mld, .int 0, .ref mmd, .ref men, .ref mil, .ref mqu, .int 0, .int 0, .ref mbx])), (mnw, .inl (kI, 99, .inl (fun _ => 0)))]) [8, 9] rfl
  have hDc := hD.sub (ws' := [(m0, .inr (7, [.ref mnw, .ref mhd, .ref mas, .ref mps, .ref msf, .ref mdt, .ref mhdd, .ref masd, .ref mpsd, .ref msfd, .ref mkp, .int 0, .ref mtp, .int 0, .int 0, .int 0, .int 0, .ref mld, .int 0, .ref mmd, .ref men, .ref mil, .ref mqu, .int 0, .int 0, .ref mbx])), (mnw, .inl (kI, 99, .inl (fun _ => 0)))]) [8, 9] (by decide) rfl
  have hKc := hK.sub (tys' := [(kI, .int)]) [3] rfl
  refine ro_i (va_runV (As := []) (rest := [.int (-1)]) ⟨hx, hb, hml, hown, hts⟩ (c_X7_falls l dC dI m0 mnw mhd mas mps msf mdt mhdd masd mpsd msfd mkp mtp mld mmd men mil mqu mbx kI H.size  ) (cwV 0 hts (gV pq1494 pq1495 pq1496 pq81 pq1497) rfl rfl rfl (by decide +kernel) ⟨(Nat.le_of_ble_eq_true rfl), (Nat.le_of_ble_eq_true rfl)⟩) (pc_V hPc hDc hKc hN (va_recv hK hP (ci := 7) (q0 := 8) rfl rfl)) rfl rfl hl.1 rfl (lv_room (Nat.le_of_ble_eq_true rfl)) dL_law_748 ⟨(Nat.le_of_ble_eq_true rfl), (Nat.le_of_ble_eq_true rfl)⟩) hS hP (fun r2 H locs hr2 hP hS => ?_)
  subst hr2
  refine lv_icmp_eq (tgt := 1950) hx hb dL_law_751 (by decide) (fun c3 => ?_) (fun c3 => absurd (by decide +kernel) c3)
  refine lv_iinc (v := 6) (lv' := [(3, .int 6), (2, .ref m0), (1, .ref x0), (0, .ref b)]) hx hb dL_law_1950 hl (k := 0) rfl (by decide +kernel) (by decide) rfl (fun ls hl => ?_)
  refine lv_goto (tgt := 18) hx hb dL_law_1953 (by decide) ?_
  refine lv_iload_n hx hb dL_law_18 rfl (lv_at hl 0 rfl) ?_
  refine lv_aload_n hx hb dL_law_19 rfl (lv_at hl 3 rfl) ?_
  refine va_slen hx hb hX hbl hbA hS dL_law_20 ?_
  refine lv_bipush (v := 6) hx hb dL_law_21 (by decide +kernel) ?_
  refine lv_isub hx hb dL_law_23 ?_
  refine lv_topi (fun z4 ez4 => ?_)
  obtain rfl : z4 = 0 := ez4.trans (by decide +kernel)
  refine lv_icmp_gt (tgt := 1956) hx hb dL_law_24 (by decide) (fun c5 => ?_) (fun c5 => absurd (by decide +kernel) c5)
  refine lv_iconst (v := 1) hx hb dL_law_1956 (by decide +kernel) ?_
  refine va_forget (fun q hq => hS.2.2 q hq) ?_
  refine W.widen (k := 600000) (n := 7302249) (Nat.le_of_ble_eq_true rfl) (Nat.le_of_ble_eq_true rfl) ?_
  refine W.base ?_
  exact lw_ret (Drawn.sameBut.refl s.drawn lw_cs) hx hb hr hlocks dL_law_1957

set_option maxHeartbeats 4000000 in
set_option maxRecDepth 100000 in
theorem lw_case14 {p : Program} {e : Env} {s : State} {m : MethodId} {below : List Frame} {meth : Method} {c : Code} (l : Launch) {b : Nat} {xs : Nat → Int32} {dC : Nat → ClassId} {dI : Nat → Nat → Nat} (C0 : lw_At p s m meth c b 6 xs) {x0 tp nw dr rd sc sk fl ps sh nm nb dm db ss m0 mnw mhd mas mps msf mdt mhdd masd mpsd msfd mkp mtp mld mmd men mil mqu mbx : Nat} {kB kF kG kI kI2 kI3 kI4 kI5 kJ kJ2 kJ3 kJ4 kJ5 kZ kY : ClassId} {H : Heap} {locs : List Loc} {ls : Array Slot} (hK : va_K (dC, dI) vwCl [(kB, .byte), (kF, .object RX1), (kG, .object RX1), (kI, .int), (kI2, .int), (kI3, .int), (kI4, .int), (kI5, .int), (kJ, .long), (kJ2, .long), (kJ3, .long), (kJ4, .long), (kJ5, .long), (kZ, .boolean), (kY, .byte)] s) (hP : va_P (dC, dI) vwCl [(x0, .inr (6, [.ref tp, .int 0, .ref nw, .ref dr, .ref rd, .ref sc, .ref sk, .ref fl, .ref ps, .int 0, .int 0, .ref sh])), (tp, .inl (kB, 400, .inl (fun _ => 0))), (nw, .inr (1, [.ref nm, .ref nb, .int 0, .int 0, .int 0])), (dr, .inr (1, [.ref dm, .ref db, .int 0, .int 0, .int 0])), (rd, .inr (4, [.ref tp, .int 0, .int 0, .int 0, .int 0, .int 0])), (sc, .inr (5, [.ref nw, .ref ss, .int 0, .int (-1), .int 0, .int 0, .int 0, .int 0, .int 0])), (ps, .inl (kF, 10, .inr (.inr (.inr (.inr (fun _ => none)))))), (sh, .inl (kG, 2, .inr (.inr (.inr (.inr (fun _ => none)))))), (m0, .inr (7, [.ref mnw, .ref mhd, .ref mas, .ref mps, .ref msf, .ref mdt, .ref mhdd, .ref masd, .ref mpsd, .ref msfd, .ref mkp, .int 0, .ref mtp, .int 0, .int 0, .int 0, .int 0, .ref mld, .int 0, .ref mmd, .ref men, .ref mil, .ref mqu, .int 0, .int 0, .ref mbx])), (mnw, .inl (kI, 99, .inl (fun _ => 0))), (mhd, .inl (kI2, 99, .inl (fun _ => 0))), (mas, .inl (kI3, 99, .inl (fun _ => 0))), (mps, .inl (kI4, 990, .inl (fun _ => 0))), (msf, .inl (kI5, 198, .inl (fun _ => 0))), (mdt, .inl (kJ, 640, .inr (.inl (fun _ => 0)))), (mhdd, .inl (kJ2, 640, .inr (.inl (fun _ => 0)))), (masd, .inl (kJ3, 640, .inr (.inl (fun _ => 0)))), (mpsd, .inl (kJ4, 6400, .inr (.inl (fun _ => 0)))), (msfd, .inl (kJ5, 1280, .inr (.inl (fun _ => 0)))), (mkp, .inl (kZ, 2, .inl (fun _ => 0))), (mtp, .inl (kY, 400, .inl (fun _ => 0)))] H) (hD : va_D (fun q : Nat => s.heap.size ≤ q) [(x0, .inr (6, [.ref tp, .int 0, .ref nw, .ref dr, .ref rd, .ref sc, .ref sk, .ref fl, .ref ps, .int 0, .int 0, .ref sh])), (tp, .inl (kB, 400, .inl (fun _ => 0))), (nw, .inr (1, [.ref nm, .ref nb, .int 0, .int 0, .int 0])), (dr, .inr (1, [.ref dm, .ref db, .int 0, .int 0, .int 0])), (rd, .inr (4, [.ref tp, .int 0, .int 0, .int 0, .int 0, .int 0])), (sc, .inr (5, [.ref nw, .ref ss, .int 0, .int (-1), .int 0, .int 0, .int 0, .int 0, .int 0])), (ps, .inl (kF, 10, .inr (.inr (.inr (.inr (fun _ => none)))))), (sh, .inl (kG, 2, .inr (.inr (.inr (.inr (fun _ => none)))))), (m0, .inr (7, [.ref mnw, .ref mhd, .ref mas, .ref mps, .ref msf, .ref mdt, .ref mhdd, .ref masd, .ref mpsd, .ref msfd, .ref mkp, .int 0, .ref mtp, .int 0, .int 0, .int 0, .int 0, .ref mld, .int 0, .ref mmd, .ref men, .ref mil, .ref mqu, .int 0, .int 0, .ref mbx])), (mnw, .inl (kI, 99, .inl (fun _ => 0))), (mhd, .inl (kI2, 99, .inl (fun _ => 0))), (mas, .inl (kI3, 99, .inl (fun _ => 0))), (mps, .inl (kI4, 990, .inl (fun _ => 0))), (msf, .inl (kI5, 198, .inl (fun _ => 0))), (mdt, .inl (kJ, 640, .inr (.inl (fun _ => 0)))), (mhdd, .inl (kJ2, 640, .inr (.inl (fun _ => 0)))), (masd, .inl (kJ3, 640, .inr (.inl (fun _ => 0)))), (mpsd, .inl (kJ4, 6400, .inr (.inl (fun _ => 0)))), (msfd, .inl (kJ5, 1280, .inr (.inl (fun _ => 0)))), (mkp, .inl (kZ, 2, .inl (fun _ => 0))), (mtp, .inl (kY, 400, .inl (fun _ => 0)))]) (hS : va_S (fun q : Nat => s.heap.size ≤ q) s.heap H locs) (hl : lv_has ls 4 [(3, .int 0), (2, .ref m0), (1, .ref x0), (0, .ref b)]) : W p l e room_1 s m #[Value.ref b] below meth c H locs 110 27528 (lw_Z below #[Value.ref b] s) (F0 m 756 ls []) := by
  obtain ⟨hx, hb, hr, hml, hown, htl, hX, hbl, hlocks, hgv⟩ := id C0
  have hb : c.code = cL_law := hb
  have hown : s.vm.findClass RL = some m.cls := hown
  have hts : ∀ w ∈ pw, w.before #[Value.ref b] s = true := fun w h => htl w (pw_tbl h)
  have hN : xN s := xN_of htl
  have hA : ∀ q : Nat, s.heap.size ≤ q → (fun q : Nat => s.heap.size ≤ q) q := fun _ h => h
  have hbA : ¬ (fun q : Nat => s.heap.size ≤ q) b := Nat.not_le.mpr hbl
  refine lv_aload_n hx hb dL_law_756 rfl (lv_at hl 2 rfl) ?_
  refine lv_aload_n hx hb dL_law_757 rfl (lv_at hl 3 rfl) ?_
  refine lv_iload_n hx hb dL_law_758 rfl (lv_at hl 0 rfl) ?_
  refine lv_iconst (v := 1) hx hb dL_law_759 (by decide +kernel) ?_
  refine lv_iadd hx hb dL_law_760 ?_
  refine lv_topi (fun z1 ez1 => ?_)
  obtain rfl : z1 = 1 := ez1.trans (by decide +kernel)
  refine va_sld hx hb hX hbl hbA hS (in_d (by decide +kernel)) dL_law_761 ?_
  have hPc := hP.sub (ws' := [(x0, .inr (6, [.ref tp, .int 0, .ref nw, .ref dr, .ref rd, .ref sc, .ref sk, .ref fl, .ref ps, .int 0, .int 0, .ref sh])), (nw, .inr (1, [.ref nm, .ref nb, .int 0, .int 0, .int 0]))]) [0, 2] rfl
  have hDc := hD.sub (ws' := [(x0, .inr (6, [.ref tp, .int 0, .ref nw, .ref dr, .ref rd, .ref sc, .ref sk, .ref fl, .ref ps, .int 0, .int 0, .ref sh])), (nw, .inr (1, [.ref nm, .ref nb, .int 0, .int 0, .int 0]))]) [0, 2] (by decide) rfl
  have hKc := hK.sub (tys' := []) [] rfl
  refine ro_i (va_runV (As := [.int (xs (1 : Int32).toNatClampNeg)]) (rest := []) ⟨hx, hb, hml, hown, hts⟩ (c_X6_crop l dC dI x0 tp nw dr rd sc sk fl ps sh nm nb H.size (xs (1 : Int32).toNatClampNeg) ) (cwV 1 hts (gV pq711 pq712 pq713 pq74 pq714) rfl rfl rfl (by decide +kernel) ⟨(Nat.le_of_ble_eq_true rfl), (Nat.le_of_ble_eq_true rfl)⟩) (pc_V hPc hDc hKc hN (va_recv hK hP (ci := 6) (q0 := 0) rfl rfl)) rfl rfl hl.1 rfl (lv_room (Nat.le_of_ble_eq_true rfl)) dL_law_762 ⟨(Nat.le_of_ble_eq_true rfl), (Nat.le_of_ble_eq_true rfl)⟩) hS hP (fun r2 H locs hr2 hP hS => ?_)
  subst hr2
  refine lv_aload_n hx hb dL_law_765 rfl (lv_at hl 1 rfl) ?_
  refine lv_aload_n hx hb dL_law_766 rfl (lv_at hl 3 rfl) ?_
  refine lv_iload_n hx hb dL_law_767 rfl (lv_at hl 0 rfl) ?_
  refine lv_iconst (v := 1) hx hb dL_law_768 (by decide +kernel) ?_
  refine lv_iadd hx hb dL_law_769 ?_
  refine lv_topi (fun z3 ez3 => ?_)
  obtain rfl : z3 = 1 := ez3.trans (by decide +kernel)
  refine va_sld hx hb hX hbl hbA hS (in_d (by decide +kernel)) dL_law_770 ?_
  have hPc := hP.sub (ws' := [(m0, .inr (7, [.ref mnw, .ref mhd, .ref mas, .ref mps, .ref msf, .ref mdt, .ref mhdd, .ref masd, .ref mpsd, .ref msfd, .ref mkp, .int 0, .ref mtp, .int 0, .int 0, .int 0, .int 0, .ref mld, .int 0, .ref mmd, .ref men, .ref mil, .ref mqu, .int 0, .int 0, .ref mbx])), (mnw, .inl (kI, 99, .inl (fun _ => 0)))]) [8, 9] rfl
  have hDc := hD.sub (ws' := [(m0, .inr (7, [.ref mnw, .ref mhd, .ref mas, .ref mps, .ref msf, .ref mdt, .ref mhdd, .ref masd, .ref mpsd, .ref msfd, .ref mkp, .int 0, .ref mtp, .int 0, .int 0, .int 0, .int 0, .ref mld, .int 0, .ref mmd, .ref men, .ref mil, .ref mqu, .int 0, .int 0, .ref mbx])), (mnw, .inl (kI, 99, .inl (fun _ => 0)))]) [8, 9] (by decide) rfl
  have hKc := hK.sub (tys' := [(kI, .int)]) [3] rfl
  refine ro_i (va_runV (As := [.int (xs (1 : Int32).toNatClampNeg)]) (rest := [.int (-1)]) ⟨hx, hb, hml, hown, hts⟩ (c_X7_crop l dC dI m0 mnw mhd mas mps msf mdt mhdd masd mpsd msfd mkp mtp mld mmd men mil mqu mbx kI H.size (xs (1 : Int32).toNatClampNeg) ) (cwV 1 hts (gV pq1502 pq1503 pq1504 pq81 pq1505) rfl rfl rfl (by decide +kernel) ⟨(Nat.le_of_ble_eq_true rfl), (Nat.le_of_ble_eq_true rfl)⟩) (pc_V hPc hDc hKc hN (va_recv hK hP (ci := 7) (q0 := 8) rfl rfl)) rfl rfl hl.1 rfl (lv_room (Nat.le_of_ble_eq_true rfl)) dL_law_771 ⟨(Nat.le_of_ble_eq_true rfl), (Nat.le_of_ble_eq_true rfl)⟩) hS hP (fun r4 H locs hr4 hP hS => ?_)
  subst hr4
  refine lv_icmp_eq (tgt := 1950) hx hb dL_law_774 (by decide) (fun c5 => ?_) (fun c5 => absurd (by decide +kernel) c5)
  refine lv_iinc (v := 6) (lv' := [(3, .int 6), (2, .ref m0), (1, .ref x0), (0, .ref b)]) hx hb dL_law_1950 hl (k := 0) rfl (by decide +kernel) (by decide) rfl (fun ls hl => ?_)
  refine lv_goto (tgt := 18) hx hb dL_law_1953 (by decide) ?_
  refine lv_iload_n hx hb dL_law_18 rfl (lv_at hl 0 rfl) ?_
  refine lv_aload_n hx hb dL_law_19 rfl (lv_at hl 3 rfl) ?_
  refine va_slen hx hb hX hbl hbA hS dL_law_20 ?_
  refine lv_bipush (v := 6) hx hb dL_law_21 (by decide +kernel) ?_
  refine lv_isub hx hb dL_law_23 ?_
  refine lv_topi (fun z6 ez6 => ?_)
  obtain rfl : z6 = 0 := ez6.trans (by decide +kernel)
  refine lv_icmp_gt (tgt := 1956) hx hb dL_law_24 (by decide) (fun c7 => ?_) (fun c7 => absurd (by decide +kernel) c7)
  refine lv_iconst (v := 1) hx hb dL_law_1956 (by decide +kernel) ?_
  refine va_forget (fun q hq => hS.2.2 q hq) ?_
  refine W.widen (k := 600000) (n := 7302249) (Nat.le_of_ble_eq_true rfl) (Nat.le_of_ble_eq_true rfl) ?_
  refine W.base ?_
  exact lw_ret (Drawn.sameBut.refl s.drawn lw_cs) hx hb hr hlocks dL_law_1957

set_option maxHeartbeats 4000000 in
set_option maxRecDepth 100000 in
theorem lw_case15 {p : Program} {e : Env} {s : State} {m : MethodId} {below : List Frame} {meth : Method} {c : Code} (l : Launch) {b : Nat} {xs : Nat → Int32} {dC : Nat → ClassId} {dI : Nat → Nat → Nat} (C0 : lw_At p s m meth c b 6 xs) {x0 tp nw dr rd sc sk fl ps sh nm nb dm db ss m0 mnw mhd mas mps msf mdt mhdd masd mpsd msfd mkp mtp mld mmd men mil mqu mbx : Nat} {kB kF kG kI kI2 kI3 kI4 kI5 kJ kJ2 kJ3 kJ4 kJ5 kZ kY : ClassId} {H : Heap} {locs : List Loc} {ls : Array Slot} (hK : va_K (dC, dI) vwCl [(kB, .byte), (kF, .object RX1), (kG, .object RX1), (kI, .int), (kI2, .int), (kI3, .int), (kI4, .int), (kI5, .int), (kJ, .long), (kJ2, .long), (kJ3, .long), (kJ4, .long), (kJ5, .long), (kZ, .boolean), (kY, .byte)] s) (hP : va_P (dC, dI) vwCl [(x0, .inr (6, [.ref tp, .int 0, .ref nw, .ref dr, .ref rd, .ref sc, .ref sk, .ref fl, .ref ps, .int 0, .int 0, .ref sh])), (tp, .inl (kB, 400, .inl (fun _ => 0))), (nw, .inr (1, [.ref nm, .ref nb, .int 0, .int 0, .int 0])), (dr, .inr (1, [.ref dm, .ref db, .int 0, .int 0, .int 0])), (rd, .inr (4, [.ref tp, .int 0, .int 0, .int 0, .int 0, .int 0])), (sc, .inr (5, [.ref nw, .ref ss, .int 0, .int (-1), .int 0, .int 0, .int 0, .int 0, .int 0])), (ps, .inl (kF, 10, .inr (.inr (.inr (.inr (fun _ => none)))))), (sh, .inl (kG, 2, .inr (.inr (.inr (.inr (fun _ => none)))))), (m0, .inr (7, [.ref mnw, .ref mhd, .ref mas, .ref mps, .ref msf, .ref mdt, .ref mhdd, .ref masd, .ref mpsd, .ref msfd, .ref mkp, .int 0, .ref mtp, .int 0, .int 0, .int 0, .int 0, .ref mld, .int 0, .ref mmd, .ref men, .ref mil, .ref mqu, .int 0, .int 0, .ref mbx])), (mnw, .inl (kI, 99, .inl (fun _ => 0))), (mhd, .inl (kI2, 99, .inl (fun _ => 0))), (mas, .inl (kI3, 99, .inl (fun _ => 0))), (mps, .inl (kI4, 990, .inl (fun _ => 0))), (msf, .inl (kI5, 198, .inl (fun _ => 0))), (mdt, .inl (kJ, 640, .inr (.inl (fun _ => 0)))), (mhdd, .inl (kJ2, 640, .inr (.inl (fun _ => 0)))), (masd, .inl (kJ3, 640, .inr (.inl (fun _ => 0)))), (mpsd, .inl (kJ4, 6400, .inr (.inl (fun _ => 0)))), (msfd, .inl (kJ5, 1280, .inr (.inl (fun _ => 0)))), (mkp, .inl (kZ, 2, .inl (fun _ => 0))), (mtp, .inl (kY, 400, .inl (fun _ => 0)))] H) (hD : va_D (fun q : Nat => s.heap.size ≤ q) [(x0, .inr (6, [.ref tp, .int 0, .ref nw, .ref dr, .ref rd, .ref sc, .ref sk, .ref fl, .ref ps, .int 0, .int 0, .ref sh])), (tp, .inl (kB, 400, .inl (fun _ => 0))), (nw, .inr (1, [.ref nm, .ref nb, .int 0, .int 0, .int 0])), (dr, .inr (1, [.ref dm, .ref db, .int 0, .int 0, .int 0])), (rd, .inr (4, [.ref tp, .int 0, .int 0, .int 0, .int 0, .int 0])), (sc, .inr (5, [.ref nw, .ref ss, .int 0, .int (-1), .int 0, .int 0, .int 0, .int 0, .int 0])), (ps, .inl (kF, 10, .inr (.inr (.inr (.inr (fun _ => none)))))), (sh, .inl (kG, 2, .inr (.inr (.inr (.inr (fun _ => none)))))), (m0, .inr (7, [.ref mnw, .ref mhd, .ref mas, .ref mps, .ref msf, .ref mdt, .ref mhdd, .ref masd, .ref mpsd, .ref msfd, .ref mkp, .int 0, .ref mtp, .int 0, .int 0, .int 0, .int 0, .ref mld, .int 0, .ref mmd, .ref men, .ref mil, .ref mqu, .int 0, .int 0, .ref mbx])), (mnw, .inl (kI, 99, .inl (fun _ => 0))), (mhd, .inl (kI2, 99, .inl (fun _ => 0))), (mas, .inl (kI3, 99, .inl (fun _ => 0))), (mps, .inl (kI4, 990, .inl (fun _ => 0))), (msf, .inl (kI5, 198, .inl (fun _ => 0))), (mdt, .inl (kJ, 640, .inr (.inl (fun _ => 0)))), (mhdd, .inl (kJ2, 640, .inr (.inl (fun _ => 0)))), (masd, .inl (kJ3, 640, .inr (.inl (fun _ => 0)))), (mpsd, .inl (kJ4, 6400, .inr (.inl (fun _ => 0)))), (msfd, .inl (kJ5, 1280, .inr (.inl (fun _ => 0)))), (mkp, .inl (kZ, 2, .inl (fun _ => 0))), (mtp, .inl (kY, 400, .inl (fun _ => 0)))]) (hS : va_S (fun q : Nat => s.heap.size ≤ q) s.heap H locs) (hl : lv_has ls 4 [(3, .int 0), (2, .ref m0), (1, .ref x0), (0, .ref b)]) : W p l e room_1 s m #[Value.ref b] below meth c H locs 110 27528 (lw_Z below #[Value.ref b] s) (F0 m 779 ls []) := by
  obtain ⟨hx, hb, hr, hml, hown, htl, hX, hbl, hlocks, hgv⟩ := id C0
  have hb : c.code = cL_law := hb
  have hown : s.vm.findClass RL = some m.cls := hown
  have hts : ∀ w ∈ pw, w.before #[Value.ref b] s = true := fun w h => htl w (pw_tbl h)
  have hN : xN s := xN_of htl
  have hA : ∀ q : Nat, s.heap.size ≤ q → (fun q : Nat => s.heap.size ≤ q) q := fun _ h => h
  have hbA : ¬ (fun q : Nat => s.heap.size ≤ q) b := Nat.not_le.mpr hbl
  refine lv_aload_n hx hb dL_law_779 rfl (lv_at hl 2 rfl) ?_
  refine lv_aload_n hx hb dL_law_780 rfl (lv_at hl 3 rfl) ?_
  refine lv_iload_n hx hb dL_law_781 rfl (lv_at hl 0 rfl) ?_
  refine lv_iconst (v := 1) hx hb dL_law_782 (by decide +kernel) ?_
  refine lv_iadd hx hb dL_law_783 ?_
  refine lv_topi (fun z1 ez1 => ?_)
  obtain rfl : z1 = 1 := ez1.trans (by decide +kernel)
  refine va_sld hx hb hX hbl hbA hS (in_d (by decide +kernel)) dL_law_784 ?_
  have hPc := hP.sub (ws' := [(x0, .inr (6, [.ref tp, .int 0, .ref nw, .ref dr, .ref rd, .ref sc, .ref sk, .ref fl, .ref ps, .int 0, .int 0, .ref sh])), (nw, .inr (1, [.ref nm, .ref nb, .int 0, .int 0, .int 0]))]) [0, 2] rfl
  have hDc := hD.sub (ws' := [(x0, .inr (6, [.ref tp, .int 0, .ref nw, .ref dr, .ref rd, .ref sc, .ref sk, .ref fl, .ref ps, .int 0, .int 0, .ref sh])), (nw, .inr (1, [.ref nm, .ref nb, .int 0, .int 0, .int 0]))]) [0, 2] (by decide) rfl
  have hKc := hK.sub (tys' := []) [] rfl
  refine ro_i (va_runV (As := [.int (xs (1 : Int32).toNatClampNeg)]) (rest := []) ⟨hx, hb, hml, hown, hts⟩ (c_X6_quarter l dC dI x0 tp nw dr rd sc sk fl ps sh nm nb H.size (xs (1 : Int32).toNatClampNeg) ) (cwV 1 hts (gV pq725 pq726 pq727 pq74 pq728) rfl rfl rfl (by decide +kernel) ⟨(Nat.le_of_ble_eq_true rfl), (Nat.le_of_ble_eq_true rfl)⟩) (pc_V hPc hDc hKc hN (va_recv hK hP (ci := 6) (q0 := 0) rfl rfl)) rfl rfl hl.1 rfl (lv_room (Nat.le_of_ble_eq_true rfl)) dL_law_785 ⟨(Nat.le_of_ble_eq_true rfl), (Nat.le_of_ble_eq_true rfl)⟩) hS hP (fun r2 H locs hr2 hP hS => ?_)
  subst hr2
  refine lv_aload_n hx hb dL_law_788 rfl (lv_at hl 1 rfl) ?_
  refine lv_aload_n hx hb dL_law_789 rfl (lv_at hl 3 rfl) ?_
  refine lv_iload_n hx hb dL_law_790 rfl (lv_at hl 0 rfl) ?_
  refine lv_iconst (v := 1) hx hb dL_law_791 (by decide +kernel) ?_
  refine lv_iadd hx hb dL_law_792 ?_
  refine lv_topi (fun z3 ez3 => ?_)
  obtain rfl : z3 = 1 := ez3.trans (by decide +kernel)
  refine va_sld hx hb hX hbl hbA hS (in_d (by decide +kernel)) dL_law_793 ?_
  have hPc := hP.sub (ws' := [(m0, .inr (7, [.ref mnw, .ref mhd, .ref mas, .ref mps, .ref msf, .ref mdt, .ref mhdd, .ref masd, .ref mpsd, .ref msfd, .ref mkp, .int 0, .ref mtp, .int 0, .int 0, .int 0, .int 0, .ref mld, .int 0, .ref mmd, .ref men, .ref mil, .ref mqu, .int 0, .int 0, .ref mbx])), (mnw, .inl (kI, 99, .inl (fun _ => 0)))]) [8, 9] rfl
  have hDc := hD.sub (ws' := [(m0, .inr (7, [.ref mnw, .ref mhd, .ref mas, .ref mps, .ref msf, .ref mdt, .ref mhdd, .ref masd, .ref mpsd, .ref msfd, .ref mkp, .int 0, .ref mtp, .int 0, .int 0, .int 0, .int 0, .ref mld, .int 0, .ref mmd, .ref men, .ref mil, .ref mqu, .int 0, .int 0, .ref mbx])), (mnw, .inl (kI, 99, .inl (fun _ => 0)))]) [8, 9] (by decide) rfl
  have hKc := hK.sub (tys' := [(kI, .int)]) [3] rfl
  refine ro_i (va_runV (As := [.int (xs (1 : Int32).toNatClampNeg)]) (rest := [.int (-1)]) ⟨hx, hb, hml, hown, hts⟩ (c_X7_quarter l dC dI m0 mnw mhd mas mps msf mdt mhdd masd mpsd msfd mkp mtp mld mmd men mil mqu mbx kI H.size (xs (1 : Int32).toNatClampNeg) ) (cwV 1 hts (gV pq1518 pq1519 pq1520 pq81 pq1521) rfl rfl rfl (by decide +kernel) ⟨(Nat.le_of_ble_eq_true rfl), (Nat.le_of_ble_eq_true rfl)⟩) (pc_V hPc hDc hKc hN (va_recv hK hP (ci := 7) (q0 := 8) rfl rfl)) rfl rfl hl.1 rfl (lv_room (Nat.le_of_ble_eq_true rfl)) dL_law_794 ⟨(Nat.le_of_ble_eq_true rfl), (Nat.le_of_ble_eq_true rfl)⟩) hS hP (fun r4 H locs hr4 hP hS => ?_)
  subst hr4
  refine lv_icmp_eq (tgt := 1950) hx hb dL_law_797 (by decide) (fun c5 => ?_) (fun c5 => absurd (by decide +kernel) c5)
  refine lv_iinc (v := 6) (lv' := [(3, .int 6), (2, .ref m0), (1, .ref x0), (0, .ref b)]) hx hb dL_law_1950 hl (k := 0) rfl (by decide +kernel) (by decide) rfl (fun ls hl => ?_)
  refine lv_goto (tgt := 18) hx hb dL_law_1953 (by decide) ?_
  refine lv_iload_n hx hb dL_law_18 rfl (lv_at hl 0 rfl) ?_
  refine lv_aload_n hx hb dL_law_19 rfl (lv_at hl 3 rfl) ?_
  refine va_slen hx hb hX hbl hbA hS dL_law_20 ?_
  refine lv_bipush (v := 6) hx hb dL_law_21 (by decide +kernel) ?_
  refine lv_isub hx hb dL_law_23 ?_
  refine lv_topi (fun z6 ez6 => ?_)
  obtain rfl : z6 = 0 := ez6.trans (by decide +kernel)
  refine lv_icmp_gt (tgt := 1956) hx hb dL_law_24 (by decide) (fun c7 => ?_) (fun c7 => absurd (by decide +kernel) c7)
  refine lv_iconst (v := 1) hx hb dL_law_1956 (by decide +kernel) ?_
  refine va_forget (fun q hq => hS.2.2 q hq) ?_
  refine W.widen (k := 600000) (n := 7302249) (Nat.le_of_ble_eq_true rfl) (Nat.le_of_ble_eq_true rfl) ?_
  refine W.base ?_
  exact lw_ret (Drawn.sameBut.refl s.drawn lw_cs) hx hb hr hlocks dL_law_1957

set_option maxHeartbeats 4000000 in
set_option maxRecDepth 100000 in
theorem lw_case16 {p : Program} {e : Env} {s : State} {m : MethodId} {below : List Frame} {meth : Method} {c : Code} (l : Launch) {b : Nat} {xs : Nat → Int32} {dC : Nat → ClassId} {dI : Nat → Nat → Nat} (C0 : lw_At p s m meth c b 6 xs) {x0 tp nw dr rd sc sk fl ps sh nm nb dm db ss m0 mnw mhd mas mps msf mdt mhdd masd mpsd msfd mkp mtp mld mmd men mil mqu mbx : Nat} {kB kF kG kI kI2 kI3 kI4 kI5 kJ kJ2 kJ3 kJ4 kJ5 kZ kY : ClassId} {H : Heap} {locs : List Loc} {ls : Array Slot} (hK : va_K (dC, dI) vwCl [(kB, .byte), (kF, .object RX1), (kG, .object RX1), (kI, .int), (kI2, .int), (kI3, .int), (kI4, .int), (kI5, .int), (kJ, .long), (kJ2, .long), (kJ3, .long), (kJ4, .long), (kJ5, .long), (kZ, .boolean), (kY, .byte)] s) (hP : va_P (dC, dI) vwCl [(x0, .inr (6, [.ref tp, .int 0, .ref nw, .ref dr, .ref rd, .ref sc, .ref sk, .ref fl, .ref ps, .int 0, .int 0, .ref sh])), (tp, .inl (kB, 400, .inl (fun _ => 0))), (nw, .inr (1, [.ref nm, .ref nb, .int 0, .int 0, .int 0])), (dr, .inr (1, [.ref dm, .ref db, .int 0, .int 0, .int 0])), (rd, .inr (4, [.ref tp, .int 0, .int 0, .int 0, .int 0, .int 0])), (sc, .inr (5, [.ref nw, .ref ss, .int 0, .int (-1), .int 0, .int 0, .int 0, .int 0, .int 0])), (ps, .inl (kF, 10, .inr (.inr (.inr (.inr (fun _ => none)))))), (sh, .inl (kG, 2, .inr (.inr (.inr (.inr (fun _ => none)))))), (m0, .inr (7, [.ref mnw, .ref mhd, .ref mas, .ref mps, .ref msf, .ref mdt, .ref mhdd, .ref masd, .ref mpsd, .ref msfd, .ref mkp, .int 0, .ref mtp, .int 0, .int 0, .int 0, .int 0, .ref mld, .int 0, .ref mmd, .ref men, .ref mil, .ref mqu, .int 0, .int 0, .ref mbx])), (mnw, .inl (kI, 99, .inl (fun _ => 0))), (mhd, .inl (kI2, 99, .inl (fun _ => 0))), (mas, .inl (kI3, 99, .inl (fun _ => 0))), (mps, .inl (kI4, 990, .inl (fun _ => 0))), (msf, .inl (kI5, 198, .inl (fun _ => 0))), (mdt, .inl (kJ, 640, .inr (.inl (fun _ => 0)))), (mhdd, .inl (kJ2, 640, .inr (.inl (fun _ => 0)))), (masd, .inl (kJ3, 640, .inr (.inl (fun _ => 0)))), (mpsd, .inl (kJ4, 6400, .inr (.inl (fun _ => 0)))), (msfd, .inl (kJ5, 1280, .inr (.inl (fun _ => 0)))), (mkp, .inl (kZ, 2, .inl (fun _ => 0))), (mtp, .inl (kY, 400, .inl (fun _ => 0)))] H) (hD : va_D (fun q : Nat => s.heap.size ≤ q) [(x0, .inr (6, [.ref tp, .int 0, .ref nw, .ref dr, .ref rd, .ref sc, .ref sk, .ref fl, .ref ps, .int 0, .int 0, .ref sh])), (tp, .inl (kB, 400, .inl (fun _ => 0))), (nw, .inr (1, [.ref nm, .ref nb, .int 0, .int 0, .int 0])), (dr, .inr (1, [.ref dm, .ref db, .int 0, .int 0, .int 0])), (rd, .inr (4, [.ref tp, .int 0, .int 0, .int 0, .int 0, .int 0])), (sc, .inr (5, [.ref nw, .ref ss, .int 0, .int (-1), .int 0, .int 0, .int 0, .int 0, .int 0])), (ps, .inl (kF, 10, .inr (.inr (.inr (.inr (fun _ => none)))))), (sh, .inl (kG, 2, .inr (.inr (.inr (.inr (fun _ => none)))))), (m0, .inr (7, [.ref mnw, .ref mhd, .ref mas, .ref mps, .ref msf, .ref mdt, .ref mhdd, .ref masd, .ref mpsd, .ref msfd, .ref mkp, .int 0, .ref mtp, .int 0, .int 0, .int 0, .int 0, .ref mld, .int 0, .ref mmd, .ref men, .ref mil, .ref mqu, .int 0, .int 0, .ref mbx])), (mnw, .inl (kI, 99, .inl (fun _ => 0))), (mhd, .inl (kI2, 99, .inl (fun _ => 0))), (mas, .inl (kI3, 99, .inl (fun _ => 0))), (mps, .inl (kI4, 990, .inl (fun _ => 0))), (msf, .inl (kI5, 198, .inl (fun _ => 0))), (mdt, .inl (kJ, 640, .inr (.inl (fun _ => 0)))), (mhdd, .inl (kJ2, 640, .inr (.inl (fun _ => 0)))), (masd, .inl (kJ3, 640, .inr (.inl (fun _ => 0)))), (mpsd, .inl (kJ4, 6400, .inr (.inl (fun _ => 0)))), (msfd, .inl (kJ5, 1280, .inr (.inl (fun _ => 0)))), (mkp, .inl (kZ, 2, .inl (fun _ => 0))), (mtp, .inl (kY, 400, .inl (fun _ => 0)))]) (hS : va_S (fun q : Nat => s.heap.size ≤ q) s.heap H locs) (hl : lv_has ls 4 [(3, .int 0), (2, .ref m0), (1, .ref x0), (0, .ref b)]) : W p l e room_1 s m #[Value.ref b] below meth c H locs 110 27528 (lw_Z below #[Value.ref b] s) (F0 m 802 ls []) := by
  obtain ⟨hx, hb, hr, hml, hown, htl, hX, hbl, hlocks, hgv⟩ := id C0
  have hb : c.code = cL_law := hb
  have hown : s.vm.findClass RL = some m.cls := hown
  have hts : ∀ w ∈ pw, w.before #[Value.ref b] s = true := fun w h => htl w (pw_tbl h)
  have hN : xN s := xN_of htl
  have hA : ∀ q : Nat, s.heap.size ≤ q → (fun q : Nat => s.heap.size ≤ q) q := fun _ h => h
  have hbA : ¬ (fun q : Nat => s.heap.size ≤ q) b := Nat.not_le.mpr hbl
  refine lv_aload_n hx hb dL_law_802 rfl (lv_at hl 2 rfl) ?_
  refine lv_aload_n hx hb dL_law_803 rfl (lv_at hl 3 rfl) ?_
  refine lv_iload_n hx hb dL_law_804 rfl (lv_at hl 0 rfl) ?_
  refine lv_iconst (v := 1) hx hb dL_law_805 (by decide +kernel) ?_
  refine lv_iadd hx hb dL_law_806 ?_
  refine lv_topi (fun z1 ez1 => ?_)
  obtain rfl : z1 = 1 := ez1.trans (by decide +kernel)
  refine va_sld hx hb hX hbl hbA hS (in_d (by decide +kernel)) dL_law_807 ?_
  have hPc := hP.sub (ws' := [(x0, .inr (6, [.ref tp, .int 0, .ref nw, .ref dr, .ref rd, .ref sc, .ref sk, .ref fl, .ref ps, .int 0, .int 0, .ref sh])), (nw, .inr (1, [.ref nm, .ref nb, .int 0, .int 0, .int 0])), (ps, .inl (kF, 10, .inr (.inr (.inr (.inr (fun _ => none))))))]) [0, 2, 6] rfl
  have hDc := hD.sub (ws' := [(x0, .inr (6, [.ref tp, .int 0, .ref nw, .ref dr, .ref rd, .ref sc, .ref sk, .ref fl, .ref ps, .int 0, .int 0, .ref sh])), (nw, .inr (1, [.ref nm, .ref nb, .int 0, .int 0, .int 0])), (ps, .inl (kF, 10, .inr (.inr (.inr (.inr (fun _ => none))))))]) [0, 2, 6] (by decide) rfl
  have hKc := hK.sub (tys' := [(kF, .object RX1)]) [1] rfl
  have hFc := va_free (wc := [(x0, .inr (6, [.ref tp, .int 0, .ref nw, .ref dr, .ref rd, .ref sc, .ref sk, .ref fl, .ref ps, .int 0, .int 0, .ref sh])), (nw, .inr (1, [.ref nm, .ref nb, .int 0, .int 0, .int 0])), (ps, .inl (kF, 10, .inr (.inr (.inr (.inr (fun _ => none))))))]) hD hS hA [0, 2, 6] rfl
  refine va_calli (va_runV (As := [.int (xs (1 : Int32).toNatClampNeg)]) (rest := []) ⟨hx, hb, hml, hown, hts⟩ (c_X6_ticks l dC dI x0 tp nw dr rd sc sk fl ps sh nm nb kF H.size (xs (1 : Int32).toNatClampNeg) ) (cwV 1 hts (gV pq825 pq826 pq827 pq74 pq828) rfl rfl rfl (by decide +kernel) ⟨(Nat.le_of_ble_eq_true rfl), (Nat.le_of_ble_eq_true rfl)⟩) (pc_V hPc hDc hKc hN (va_recv hK hP (ci := 6) (q0 := 0) rfl rfl)) rfl rfl hl.1 rfl (lv_room (Nat.le_of_ble_eq_true rfl)) dL_law_808 ⟨(Nat.le_of_ble_eq_true rfl), (Nat.le_of_ble_eq_true rfl)⟩) hS (fun q _ h => hFc q h) hFc (fun r2 u t H1 locs ht hvm hr2 hB hz1 hk1 hS => ?_)
  obtain ⟨hP, hD⟩ := va_join (wr := [(tp, .inl (kB, 400, .inl (fun _ => 0))), (dr, .inr (1, [.ref dm, .ref db, .int 0, .int 0, .int 0])), (rd, .inr (4, [.ref tp, .int 0, .int 0, .int 0, .int 0, .int 0])), (sc, .inr (5, [.ref nw, .ref ss, .int 0, .int (-1), .int 0, .int 0, .int 0, .int 0, .int 0])), (sh, .inl (kG, 2, .inr (.inr (.inr (.inr (fun _ => none)))))), (m0, .inr (7, [.ref mnw, .ref mhd, .ref mas, .ref mps, .ref msf, .ref mdt, .ref mhdd, .ref masd, .ref mpsd, .ref msfd, .ref mkp, .int 0, .ref mtp, .int 0, .int 0, .int 0, .int 0, .ref mld, .int 0, .ref mmd, .ref men, .ref mil, .ref mqu, .int 0, .int 0, .ref mbx])), (mnw, .inl (kI, 99, .inl (fun _ => 0))), (mhd, .inl (kI2, 99, .inl (fun _ => 0))), (mas, .inl (kI3, 99, .inl (fun _ => 0))), (mps, .inl (kI4, 990, .inl (fun _ => 0))), (msf, .inl (kI5, 198, .inl (fun _ => 0))), (mdt, .inl (kJ, 640, .inr (.inl (fun _ => 0)))), (mhdd, .inl (kJ2, 640, .inr (.inl (fun _ => 0)))), (masd, .inl (kJ3, 640, .inr (.inl (fun _ => 0)))), (mpsd, .inl (kJ4, 6400, .inr (.inl (fun _ => 0)))), (msfd, .inl (kJ5, 1280, .inr (.inl (fun _ => 0)))), (mkp, .inl (kZ, 2, .inl (fun _ => 0))), (mtp, .inl (kY, 400, .inl (fun _ => 0)))]) (w1 := []) hP hD [0, 2, 6] [1, 3, 4, 5, 7, 8, 9, 10, 11, 12, 13, 14, 15, 16, 17, 18, 19, 20] rfl rfl (by decide) (by decide) hk1 hFc va_P0 va_D0
  generalize H1 = H at hP hS ⊢
  have hP : va_P (dC, dI) vwCl [(tp, .inl (kB, 400, .inl (fun _ => 0))), (dr, .inr (1, [.ref dm, .ref db, .int 0, .int 0, .int 0])), (rd, .inr (4, [.ref tp, .int 0, .int 0, .int 0, .int 0, .int 0])), (sc, .inr (5, [.ref nw, .ref ss, .int 0, .int (-1), .int 0, .int 0, .int 0, .int 0, .int 0])), (sh, .inl (kG, 2, .inr (.inr (.inr (.inr (fun _ => none)))))), (m0, .inr (7, [.ref mnw, .ref mhd, .ref mas, .ref mps, .ref msf, .ref mdt, .ref mhdd, .ref masd, .ref mpsd, .ref msfd, .ref mkp, .int 0, .ref mtp, .int 0, .int 0, .int 0, .int 0, .ref mld, .int 0, .ref mmd, .ref men, .ref mil, .ref mqu, .int 0, .int 0, .ref mbx])), (mnw, .inl (kI, 99, .inl (fun _ => 0))), (mhd, .inl (kI2, 99, .inl (fun _ => 0))), (mas, .inl (kI3, 99, .inl (fun _ => 0))), (mps, .inl (kI4, 990, .inl (fun _ => 0))), (msf, .inl (kI5, 198, .inl (fun _ => 0))), (mdt, .inl (kJ, 640, .inr (.inl (fun _ => 0)))), (mhdd, .inl (kJ2, 640, .inr (.inl (fun _ => 0)))), (masd, .inl (kJ3, 640, .inr (.inl (fun _ => 0)))), (mpsd, .inl (kJ4, 6400, .inr (.inl (fun _ => 0)))), (msfd, .inl (kJ5, 1280, .inr (.inl (fun _ => 0)))), (mkp, .inl (kZ, 2, .inl (fun _ => 0))), (mtp, .inl (kY, 400, .inl (fun _ => 0)))] H := hP
  have hD : va_D (fun q : Nat => s.heap.size ≤ q) [(tp, .inl (kB, 400, .inl (fun _ => 0))), (dr, .inr (1, [.ref dm, .ref db, .int 0, .int 0, .int 0])), (rd, .inr (4, [.ref tp, .int 0, .int 0, .int 0, .int 0, .int 0])), (sc, .inr (5, [.ref nw, .ref ss, .int 0, .int (-1), .int 0, .int 0, .int 0, .int 0, .int 0])), (sh, .inl (kG, 2, .inr (.inr (.inr (.inr (fun _ => none)))))), (m0, .inr (7, [.ref mnw, .ref mhd, .ref mas, .ref mps, .ref msf, .ref mdt, .ref mhdd, .ref masd, .ref mpsd, .ref msfd, .ref mkp, .int 0, .ref mtp, .int 0, .int 0, .int 0, .int 0, .ref mld, .int 0, .ref mmd, .ref men, .ref mil, .ref mqu, .int 0, .int 0, .ref mbx])), (mnw, .inl (kI, 99, .inl (fun _ => 0))), (mhd, .inl (kI2, 99, .inl (fun _ => 0))), (mas, .inl (kI3, 99, .inl (fun _ => 0))), (mps, .inl (kI4, 990, .inl (fun _ => 0))), (msf, .inl (kI5, 198, .inl (fun _ => 0))), (mdt, .inl (kJ, 640, .inr (.inl (fun _ => 0)))), (mhdd, .inl (kJ2, 640, .inr (.inl (fun _ => 0)))), (masd, .inl (kJ3, 640, .inr (.inl (fun _ => 0)))), (mpsd, .inl (kJ4, 6400, .inr (.inl (fun _ => 0)))), (msfd, .inl (kJ5, 1280, .inr (.inl (fun _ => 0)))), (mkp, .inl (kZ, 2, .inl (fun _ => 0))), (mtp, .inl (kY, 400, .inl (fun _ => 0)))] := hD
  refine W.widen (k := 139) (n := 28335) (Nat.le_of_ble_eq_true rfl) (Nat.le_of_ble_eq_true rfl) ?_
  refine lv_aload_n hx hb dL_law_811 rfl (lv_at hl 1 rfl) ?_
  refine lv_aload_n hx hb dL_law_812 rfl (lv_at hl 3 rfl) ?_
  refine lv_iload_n hx hb dL_law_813 rfl (lv_at hl 0 rfl) ?_
  refine lv_iconst (v := 1) hx hb dL_law_814 (by decide +kernel) ?_
  refine lv_iadd hx hb dL_law_815 ?_
  refine lv_topi (fun z3 ez3 => ?_)
  obtain rfl : z3 = 1 := ez3.trans (by decide +kernel)
  refine va_sld hx hb hX hbl hbA hS (in_d (by decide +kernel)) dL_law_816 ?_
  have hPc := hP.sub (ws' := [(m0, .inr (7, [.ref mnw, .ref mhd, .ref mas, .ref mps, .ref msf, .ref mdt, .ref mhdd, .ref masd, .ref mpsd, .ref msfd, .ref mkp, .int 0, .ref mtp, .int 0, .int 0, .int 0, .int 0, .ref mld, .int 0, .ref mmd, .ref men, .ref mil, .ref mqu, .int 0, .int 0, .ref mbx])), (mnw, .inl (kI, 99, .inl (fun _ => 0))), (mdt, .inl (kJ, 640, .inr (.inl (fun _ => 0)))), (mas, .inl (kI3, 99, .inl (fun _ => 0))), (masd, .inl (kJ3, 640, .inr (.inl (fun _ => 0)))), (mps, .inl (kI4, 990, .inl (fun _ => 0))), (mpsd, .inl (kJ4, 6400, .inr (.inl (fun _ => 0))))]) [5, 6, 11, 8, 13, 9, 14] rfl
  have hDc := hD.sub (ws' := [(m0, .inr (7, [.ref mnw, .ref mhd, .ref mas, .ref mps, .ref msf, .ref mdt, .ref mhdd, .ref masd, .ref mpsd, .ref msfd, .ref mkp, .int 0, .ref mtp, .int 0, .int 0, .int 0, .int 0, .ref mld, .int 0, .ref mmd, .ref men, .ref mil, .ref mqu, .int 0, .int 0, .ref mbx])), (mnw, .inl (kI, 99, .inl (fun _ => 0))), (mdt, .inl (kJ, 640, .inr (.inl (fun _ => 0)))), (mas, .inl (kI3, 99, .inl (fun _ => 0))), (masd, .inl (kJ3, 640, .inr (.inl (fun _ => 0)))), (mps, .inl (kI4, 990, .inl (fun _ => 0))), (mpsd, .inl (kJ4, 6400, .inr (.inl (fun _ => 0))))]) [5, 6, 11, 8, 13, 9, 14] (by decide) rfl
  have hKc := hK.sub (tys' := [(kI, .int), (kJ, .long), (kI3, .int), (kJ3, .long), (kI4, .int), (kJ4, .long)]) [3, 8, 5, 10, 6, 11] rfl
  have hFc := va_free (wc := [(m0, .inr (7, [.ref mnw, .ref mhd, .ref mas, .ref mps, .ref msf, .ref mdt, .ref mhdd, .ref masd, .ref mpsd, .ref msfd, .ref mkp, .int 0, .ref mtp, .int 0, .int 0, .int 0, .int 0, .ref mld, .int 0, .ref mmd, .ref men, .ref mil, .ref mqu, .int 0, .int 0, .ref mbx])), (mnw, .inl (kI, 99, .inl (fun _ => 0))), (mdt, .inl (kJ, 640, .inr (.inl (fun _ => 0)))), (mas, .inl (kI3, 99, .inl (fun _ => 0))), (masd, .inl (kJ3, 640, .inr (.inl (fun _ => 0)))), (mps, .inl (kI4, 990, .inl (fun _ => 0))), (mpsd, .inl (kJ4, 6400, .inr (.inl (fun _ => 0))))]) hD hS hA [5, 6, 11, 8, 13, 9, 14] rfl
  refine va_calli (va_runV (As := [.int (xs (1 : Int32).toNatClampNeg)]) (rest := [.int r2]) ⟨hx, hb, hml, hown, hts⟩ (c_X7_ticks l dC dI m0 mnw mhd mas mps msf mdt mhdd masd mpsd msfd mkp mtp mld mmd men mil mqu mbx kI kJ kI3 kJ3 kI4 kJ4 H.size (xs (1 : Int32).toNatClampNeg) ) (cwV 1 hts (gV pq1522 pq1523 pq1524 pq81 pq1525) rfl rfl rfl (by decide +kernel) ⟨(Nat.le_of_ble_eq_true rfl), (Nat.le_of_ble_eq_true rfl)⟩) (pc_V hPc hDc hKc hN (va_recv hK hP (ci := 7) (q0 := 5) rfl rfl)) rfl rfl hl.1 rfl (lv_room (Nat.le_of_ble_eq_true rfl)) dL_law_817 ⟨(Nat.le_of_ble_eq_true rfl), (Nat.le_of_ble_eq_true rfl)⟩) hS (fun q _ h => hFc q h) hFc (fun r4 u t H1 locs ht hvm hr4 hB hz1 hk1 hS => ?_)
  obtain ⟨hP, hD⟩ := va_join (wr := [(tp, .inl (kB, 400, .inl (fun _ => 0))), (dr, .inr (1, [.ref dm, .ref db, .int 0, .int 0, .int 0])), (rd, .inr (4, [.ref tp, .int 0, .int 0, .int 0, .int 0, .int 0])), (sc, .inr (5, [.ref nw, .ref ss, .int 0, .int (-1), .int 0, .int 0, .int 0, .int 0, .int 0])), (sh, .inl (kG, 2, .inr (.inr (.inr (.inr (fun _ => none)))))), (mhd, .inl (kI2, 99, .inl (fun _ => 0))), (msf, .inl (kI5, 198, .inl (fun _ => 0))), (mhdd, .inl (kJ2, 640, .inr (.inl (fun _ => 0)))), (msfd, .inl (kJ5, 1280, .inr (.inl (fun _ => 0)))), (mkp, .inl (kZ, 2, .inl (fun _ => 0))), (mtp, .inl (kY, 400, .inl (fun _ => 0)))]) (w1 := []) hP hD [5, 6, 11, 8, 13, 9, 14] [0, 1, 2, 3, 4, 7, 10, 12, 15, 16, 17] rfl rfl (by decide) (by decide) hk1 hFc va_P0 va_D0
  generalize H1 = H at hP hS ⊢
  have hP : va_P (dC, dI) vwCl [(tp, .inl (kB, 400, .inl (fun _ => 0))), (dr, .inr (1, [.ref dm, .ref db, .int 0, .int 0, .int 0])), (rd, .inr (4, [.ref tp, .int 0, .int 0, .int 0, .int 0, .int 0])), (sc, .inr (5, [.ref nw, .ref ss, .int 0, .int (-1), .int 0, .int 0, .int 0, .int 0, .int 0])), (sh, .inl (kG, 2, .inr (.inr (.inr (.inr (fun _ => none)))))), (mhd, .inl (kI2, 99, .inl (fun _ => 0))), (msf, .inl (kI5, 198, .inl (fun _ => 0))), (mhdd, .inl (kJ2, 640, .inr (.inl (fun _ => 0)))), (msfd, .inl (kJ5, 1280, .inr (.inl (fun _ => 0)))), (mkp, .inl (kZ, 2, .inl (fun _ => 0))), (mtp, .inl (kY, 400, .inl (fun _ => 0)))] H := hP
  have hD : va_D (fun q : Nat => s.heap.size ≤ q) [(tp, .inl (kB, 400, .inl (fun _ => 0))), (dr, .inr (1, [.ref dm, .ref db, .int 0, .int 0, .int 0])), (rd, .inr (4, [.ref tp, .int 0, .int 0, .int 0, .int 0, .int 0])), (sc, .inr (5, [.ref nw, .ref ss, .int 0, .int (-1), .int 0, .int 0, .int 0, .int 0, .int 0])), (sh, .inl (kG, 2, .inr (.inr (.inr (.inr (fun _ => none)))))), (mhd, .inl (kI2, 99, .inl (fun _ => 0))), (msf, .inl (kI5, 198, .inl (fun _ => 0))), (mhdd, .inl (kJ2, 640, .inr (.inl (fun _ => 0)))), (msfd, .inl (kJ5, 1280, .inr (.inl (fun _ => 0)))), (mkp, .inl (kZ, 2, .inl (fun _ => 0))), (mtp, .inl (kY, 400, .inl (fun _ => 0)))] := hD
  refine lv_icmp_eq (tgt := 1950) hx hb dL_law_820 (by decide) (fun c5 => ?_) (fun c5 => absurd (hr2.trans hr4.symm) c5)
  refine lv_iinc (v := 6) (lv' := [(3, .int 6), (2, .ref m0), (1, .ref x0), (0, .ref b)]) hx hb dL_law_1950 hl (k := 0) rfl (by decide +kernel) (by decide) rfl (fun ls hl => ?_)
  refine lv_goto (tgt := 18) hx hb dL_law_1953 (by decide) ?_
  refine lv_iload_n hx hb dL_law_18 rfl (lv_at hl 0 rfl) ?_
  refine lv_aload_n hx hb dL_law_19 rfl (lv_at hl 3 rfl) ?_
  refine va_slen hx hb hX hbl hbA hS dL_law_20 ?_
  refine lv_bipush (v := 6) hx hb dL_law_21 (by decide +kernel) ?_
  refine lv_isub hx hb dL_law_23 ?_
  refine lv_topi (fun z6 ez6 => ?_)
  obtain rfl : z6 = 0 := ez6.trans (by decide +kernel)
  refine lv_icmp_gt (tgt := 1956) hx hb dL_law_24 (by decide) (fun c7 => ?_) (fun c7 => absurd (by decide +kernel) c7)
  refine lv_iconst (v := 1) hx hb dL_law_1956 (by decide +kernel) ?_
  refine va_forget (fun q hq => hS.2.2 q hq) ?_
  refine W.widen (k := 600000) (n := 7302249) (Nat.le_of_ble_eq_true rfl) (Nat.le_of_ble_eq_true rfl) ?_
  refine W.base ?_
  exact lw_ret (Drawn.sameBut.refl s.drawn lw_cs) hx hb hr hlocks dL_law_1957

set_option maxHeartbeats 4000000 in
set_option maxRecDepth 100000 in
theorem lw_case17 {p : Program} {e : Env} {s : State} {m : MethodId} {below : List Frame} {meth : Method} {c : Code} (l : Launch) {b : Nat} {xs : Nat → Int32} {dC : Nat → ClassId} {dI : Nat → Nat → Nat} (C0 : lw_At p s m meth c b 6 xs) {x0 tp nw dr rd sc sk fl ps sh nm nb dm db ss m0 mnw mhd mas mps msf mdt mhdd masd mpsd msfd mkp mtp mld mmd men mil mqu mbx : Nat} {kB kF kG kI kI2 kI3 kI4 kI5 kJ kJ2 kJ3 kJ4 kJ5 kZ kY : ClassId} {H : Heap} {locs : List Loc} {ls : Array Slot} (hK : va_K (dC, dI) vwCl [(kB, .byte), (kF, .object RX1), (kG, .object RX1), (kI, .int), (kI2, .int), (kI3, .int), (kI4, .int), (kI5, .int), (kJ, .long), (kJ2, .long), (kJ3, .long), (kJ4, .long), (kJ5, .long), (kZ, .boolean), (kY, .byte)] s) (hP : va_P (dC, dI) vwCl [(x0, .inr (6, [.ref tp, .int 0, .ref nw, .ref dr, .ref rd, .ref sc, .ref sk, .ref fl, .ref ps, .int 0, .int 0, .ref sh])), (tp, .inl (kB, 400, .inl (fun _ => 0))), (nw, .inr (1, [.ref nm, .ref nb, .int 0, .int 0, .int 0])), (dr, .inr (1, [.ref dm, .ref db, .int 0, .int 0, .int 0])), (rd, .inr (4, [.ref tp, .int 0, .int 0, .int 0, .int 0, .int 0])), (sc, .inr (5, [.ref nw, .ref ss, .int 0, .int (-1), .int 0, .int 0, .int 0, .int 0, .int 0])), (ps, .inl (kF, 10, .inr (.inr (.inr (.inr (fun _ => none)))))), (sh, .inl (kG, 2, .inr (.inr (.inr (.inr (fun _ => none)))))), (m0, .inr (7, [.ref mnw, .ref mhd, .ref mas, .ref mps, .ref msf, .ref mdt, .ref mhdd, .ref masd, .ref mpsd, .ref msfd, .ref mkp, .int 0, .ref mtp, .int 0, .int 0, .int 0, .int 0, .ref mld, .int 0, .ref mmd, .ref men, .ref mil, .ref mqu, .int 0, .int 0, .ref mbx])), (mnw, .inl (kI, 99, .inl (fun _ => 0))), (mhd, .inl (kI2, 99, .inl (fun _ => 0))), (mas, .inl (kI3, 99, .inl (fun _ => 0))), (mps, .inl (kI4, 990, .inl (fun _ => 0))), (msf, .inl (kI5, 198, .inl (fun _ => 0))), (mdt, .inl (kJ, 640, .inr (.inl (fun _ => 0)))), (mhdd, .inl (kJ2, 640, .inr (.inl (fun _ => 0)))), (masd, .inl (kJ3, 640, .inr (.inl (fun _ => 0)))), (mpsd, .inl (kJ4, 6400, .inr (.inl (fun _ => 0)))), (msfd, .inl (kJ5, 1280, .inr (.inl (fun _ => 0)))), (mkp, .inl (kZ, 2, .inl (fun _ => 0))), (mtp, .inl (kY, 400, .inl (fun _ => 0)))] H) (hD : va_D (fun q : Nat => s.heap.size ≤ q) [(x0, .inr (6, [.ref tp, .int 0, .ref nw, .ref dr, .ref rd, .ref sc, .ref sk, .ref fl, .ref ps, .int 0, .int 0, .ref sh])), (tp, .inl (kB, 400, .inl (fun _ => 0))), (nw, .inr (1, [.ref nm, .ref nb, .int 0, .int 0, .int 0])), (dr, .inr (1, [.ref dm, .ref db, .int 0, .int 0, .int 0])), (rd, .inr (4, [.ref tp, .int 0, .int 0, .int 0, .int 0, .int 0])), (sc, .inr (5, [.ref nw, .ref ss, .int 0, .int (-1), .int 0, .int 0, .int 0, .int 0, .int 0])), (ps, .inl (kF, 10, .inr (.inr (.inr (.inr (fun _ => none)))))), (sh, .inl (kG, 2, .inr (.inr (.inr (.inr (fun _ => none)))))), (m0, .inr (7, [.ref mnw, .ref mhd, .ref mas, .ref mps, .ref msf, .ref mdt, .ref mhdd, .ref masd, .ref mpsd, .ref msfd, .ref mkp, .int 0, .ref mtp, .int 0, .int 0, .int 0, .int 0, .ref mld, .int 0, .ref mmd, .ref men, .ref mil, .ref mqu, .int 0, .int 0, .ref mbx])), (mnw, .inl (kI, 99, .inl (fun _ => 0))), (mhd, .inl (kI2, 99, .inl (fun _ => 0))), (mas, .inl (kI3, 99, .inl (fun _ => 0))), (mps, .inl (kI4, 990, .inl (fun _ => 0))), (msf, .inl (kI5, 198, .inl (fun _ => 0))), (mdt, .inl (kJ, 640, .inr (.inl (fun _ => 0)))), (mhdd, .inl (kJ2, 640, .inr (.inl (fun _ => 0)))), (masd, .inl (kJ3, 640, .inr (.inl (fun _ => 0)))), (mpsd, .inl (kJ4, 6400, .inr (.inl (fun _ => 0)))), (msfd, .inl (kJ5, 1280, .inr (.inl (fun _ => 0)))), (mkp, .inl (kZ, 2, .inl (fun _ => 0))), (mtp, .inl (kY, 400, .inl (fun _ => 0)))]) (hS : va_S (fun q : Nat => s.heap.size ≤ q) s.heap H locs) (hl : lv_has ls 4 [(3, .int 0), (2, .ref m0), (1, .ref x0), (0, .ref b)]) : W p l e room_1 s m #[Value.ref b] below meth c H locs 110 27528 (lw_Z below #[Value.ref b] s) (F0 m 825 ls []) := by
  obtain ⟨hx, hb, hr, hml, hown, htl, hX, hbl, hlocks, hgv⟩ := id C0
  have hb : c.code = cL_law := hb
  have hown : s.vm.findClass RL = some m.cls := hown
  have hts : ∀ w ∈ pw, w.before #[Value.ref b] s = true := fun w h => htl w (pw_tbl h)
  have hN : xN s := xN_of htl
  have hA : ∀ q : Nat, s.heap.size ≤ q → (fun q : Nat => s.heap.size ≤ q) q := fun _ h => h
  have hbA : ¬ (fun q : Nat => s.heap.size ≤ q) b := Nat.not_le.mpr hbl
  refine lv_aload_n hx hb dL_law_825 rfl (lv_at hl 2 rfl) ?_
  have hPc := hP.sub (ws' := [(x0, .inr (6, [.ref tp, .int 0, .ref nw, .ref dr, .ref rd, .ref sc, .ref sk, .ref fl, .ref ps, .int 0, .int 0, .ref sh])), (nw, .inr (1, [.ref nm, .ref nb, .int 0, .int 0, .int 0]))]) [0, 2] rfl
  have hDc := hD.sub (ws' := [(x0, .inr (6, [.ref tp, .int 0, .ref nw, .ref dr, .ref rd, .ref sc, .ref sk, .ref fl, .ref ps, .int 0, .int 0, .ref sh])), (nw, .inr (1, [.ref nm, .ref nb, .int 0, .int 0, .int 0]))]) [0, 2] (by decide) rfl
  have hKc := hK.sub (tys' := []) [] rfl
  refine ro_i (va_runV (As := []) (rest := []) ⟨hx, hb, hml, hown, hts⟩ (c_X6_undo l dC dI x0 tp nw dr rd sc sk fl ps sh nm nb H.size  ) (cwV 0 hts (gV pq833 pq834 pq835 pq74 pq836) rfl rfl rfl (by decide +kernel) ⟨(Nat.le_of_ble_eq_true rfl), (Nat.le_of_ble_eq_true rfl)⟩) (pc_V hPc hDc hKc hN (va_recv hK hP (ci := 6) (q0 := 0) rfl rfl)) rfl rfl hl.1 rfl (lv_room (Nat.le_of_ble_eq_true rfl)) dL_law_826 ⟨(Nat.le_of_ble_eq_true rfl), (Nat.le_of_ble_eq_true rfl)⟩) hS hP (fun r1 H locs hr1 hP hS => ?_)
  subst hr1
  refine lv_aload_n hx hb dL_law_829 rfl (lv_at hl 1 rfl) ?_
  have hPc := hP.sub (ws' := [(m0, .inr (7, [.ref mnw, .ref mhd, .ref mas, .ref mps, .ref msf, .ref mdt, .ref mhdd, .ref masd, .ref mpsd, .ref msfd, .ref mkp, .int 0, .ref mtp, .int 0, .int 0, .int 0, .int 0, .ref mld, .int 0, .ref mmd, .ref men, .ref mil, .ref mqu, .int 0, .int 0, .ref mbx])), (mnw, .inl (kI, 99, .inl (fun _ => 0)))]) [8, 9] rfl
  have hDc := hD.sub (ws' := [(m0, .inr (7, [.ref mnw, .ref mhd, .ref mas, .ref mps, .ref msf, .ref mdt, .ref mhdd, .ref masd, .ref mpsd, .ref msfd, .ref mkp, .int 0, .ref mtp, .int 0, .int 0, .int 0, .int 0, .ref mld, .int 0, .ref mmd, .ref men, .ref mil, .ref mqu, .int 0, .int 0, .ref mbx])), (mnw, .inl (kI, 99, .inl (fun _ => 0)))]) [8, 9] (by decide) rfl
  have hKc := hK.sub (tys' := [(kI, .int)]) [3] rfl
  refine ro_i (va_runV (As := []) (rest := [.int (-1)]) ⟨hx, hb, hml, hown, hts⟩ (c_X7_undo l dC dI m0 mnw mhd mas mps msf mdt mhdd masd mpsd msfd mkp mtp mld mmd men mil mqu mbx kI H.size  ) (cwV 0 hts (gV pq1294 pq1295 pq1296 pq81 pq1297) rfl rfl rfl (by decide +kernel) ⟨(Nat.le_of_ble_eq_true rfl), (Nat.le_of_ble_eq_true rfl)⟩) (pc_V hPc hDc hKc hN (va_recv hK hP (ci := 7) (q0 := 8) rfl rfl)) rfl rfl hl.1 rfl (lv_room (Nat.le_of_ble_eq_true rfl)) dL_law_830 ⟨(Nat.le_of_ble_eq_true rfl), (Nat.le_of_ble_eq_true rfl)⟩) hS hP (fun r2 H locs hr2 hP hS => ?_)
  subst hr2
  refine lv_icmp_eq (tgt := 1950) hx hb dL_law_833 (by decide) (fun c3 => ?_) (fun c3 => absurd (by decide +kernel) c3)
  refine lv_iinc (v := 6) (lv' := [(3, .int 6), (2, .ref m0), (1, .ref x0), (0, .ref b)]) hx hb dL_law_1950 hl (k := 0) rfl (by decide +kernel) (by decide) rfl (fun ls hl => ?_)
  refine lv_goto (tgt := 18) hx hb dL_law_1953 (by decide) ?_
  refine lv_iload_n hx hb dL_law_18 rfl (lv_at hl 0 rfl) ?_
  refine lv_aload_n hx hb dL_law_19 rfl (lv_at hl 3 rfl) ?_
  refine va_slen hx hb hX hbl hbA hS dL_law_20 ?_
  refine lv_bipush (v := 6) hx hb dL_law_21 (by decide +kernel) ?_
  refine lv_isub hx hb dL_law_23 ?_
  refine lv_topi (fun z4 ez4 => ?_)
  obtain rfl : z4 = 0 := ez4.trans (by decide +kernel)
  refine lv_icmp_gt (tgt := 1956) hx hb dL_law_24 (by decide) (fun c5 => ?_) (fun c5 => absurd (by decide +kernel) c5)
  refine lv_iconst (v := 1) hx hb dL_law_1956 (by decide +kernel) ?_
  refine va_forget (fun q hq => hS.2.2 q hq) ?_
  refine W.widen (k := 600000) (n := 7302249) (Nat.le_of_ble_eq_true rfl) (Nat.le_of_ble_eq_true rfl) ?_
  refine W.base ?_
  exact lw_ret (Drawn.sameBut.refl s.drawn lw_cs) hx hb hr hlocks dL_law_1957

set_option maxHeartbeats 4000000 in
set_option maxRecDepth 100000 in
theorem lw_case18 {p : Program} {e : Env} {s : State} {m : MethodId} {below : List Frame} {meth : Method} {c : Code} (l : Launch) {b : Nat} {xs : Nat → Int32} {dC : Nat → ClassId} {dI : Nat → Nat → Nat} (C0 : lw_At p s m meth c b 6 xs) {x0 tp nw dr rd sc sk fl ps sh nm nb dm db ss m0 mnw mhd mas mps msf mdt mhdd masd mpsd msfd mkp mtp mld mmd men mil mqu mbx : Nat} {kB kF kG kI kI2 kI3 kI4 kI5 kJ kJ2 kJ3 kJ4 kJ5 kZ kY : ClassId} {H : Heap} {locs : List Loc} {ls : Array Slot} (hK : va_K (dC, dI) vwCl [(kB, .byte), (kF, .object RX1), (kG, .object RX1), (kI, .int), (kI2, .int), (kI3, .int), (kI4, .int), (kI5, .int), (kJ, .long), (kJ2, .long), (kJ3, .long), (kJ4, .long), (kJ5, .long), (kZ, .boolean), (kY, .byte)] s) (hP : va_P (dC, dI) vwCl [(x0, .inr (6, [.ref tp, .int 0, .ref nw, .ref dr, .ref rd, .ref sc, .ref sk, .ref fl, .ref ps, .int 0, .int 0, .ref sh])), (tp, .inl (kB, 400, .inl (fun _ => 0))), (nw, .inr (1, [.ref nm, .ref nb, .int 0, .int 0, .int 0])), (dr, .inr (1, [.ref dm, .ref db, .int 0, .int 0, .int 0])), (rd, .inr (4, [.ref tp, .int 0, .int 0, .int 0, .int 0, .int 0])), (sc, .inr (5, [.ref nw, .ref ss, .int 0, .int (-1), .int 0, .int 0, .int 0, .int 0, .int 0])), (ps, .inl (kF, 10, .inr (.inr (.inr (.inr (fun _ => none)))))), (sh, .inl (kG, 2, .inr (.inr (.inr (.inr (fun _ => none)))))), (m0, .inr (7, [.ref mnw, .ref mhd, .ref mas, .ref mps, .ref msf, .ref mdt, .ref mhdd, .ref masd, .ref mpsd, .ref msfd, .ref mkp, .int 0, .ref mtp, .int 0, .int 0, .int 0, .int 0, .ref mld, .int 0, .ref mmd, .ref men, .ref mil, .ref mqu, .int 0, .int 0, .ref mbx])), (mnw, .inl (kI, 99, .inl (fun _ => 0))), (mhd, .inl (kI2, 99, .inl (fun _ => 0))), (mas, .inl (kI3, 99, .inl (fun _ => 0))), (mps, .inl (kI4, 990, .inl (fun _ => 0))), (msf, .inl (kI5, 198, .inl (fun _ => 0))), (mdt, .inl (kJ, 640, .inr (.inl (fun _ => 0)))), (mhdd, .inl (kJ2, 640, .inr (.inl (fun _ => 0)))), (masd, .inl (kJ3, 640, .inr (.inl (fun _ => 0)))), (mpsd, .inl (kJ4, 6400, .inr (.inl (fun _ => 0)))), (msfd, .inl (kJ5, 1280, .inr (.inl (fun _ => 0)))), (mkp, .inl (kZ, 2, .inl (fun _ => 0))), (mtp, .inl (kY, 400, .inl (fun _ => 0)))] H) (hD : va_D (fun q : Nat => s.heap.size ≤ q) [(x0, .inr (6, [.ref tp, .int 0, .ref nw, .ref dr, .ref rd, .ref sc, .ref sk, .ref fl, .ref ps, .int 0, .int 0, .ref sh])), (tp, .inl (kB, 400, .inl (fun _ => 0))), (nw, .inr (1, [.ref nm, .ref nb, .int 0, .int 0, .int 0])), (dr, .inr (1, [.ref dm, .ref db, .int 0, .int 0, .int 0])), (rd, .inr (4, [.ref tp, .int 0, .int 0, .int 0, .int 0, .int 0])), (sc, .inr (5, [.ref nw, .ref ss, .int 0, .int (-1), .int 0, .int 0, .int 0, .int 0, .int 0])), (ps, .inl (kF, 10, .inr (.inr (.inr (.inr (fun _ => none)))))), (sh, .inl (kG, 2, .inr (.inr (.inr (.inr (fun _ => none)))))), (m0, .inr (7, [.ref mnw, .ref mhd, .ref mas, .ref mps, .ref msf, .ref mdt, .ref mhdd, .ref masd, .ref mpsd, .ref msfd, .ref mkp, .int 0, .ref mtp, .int 0, .int 0, .int 0, .int 0, .ref mld, .int 0, .ref mmd, .ref men, .ref mil, .ref mqu, .int 0, .int 0, .ref mbx])), (mnw, .inl (kI, 99, .inl (fun _ => 0))), (mhd, .inl (kI2, 99, .inl (fun _ => 0))), (mas, .inl (kI3, 99, .inl (fun _ => 0))), (mps, .inl (kI4, 990, .inl (fun _ => 0))), (msf, .inl (kI5, 198, .inl (fun _ => 0))), (mdt, .inl (kJ, 640, .inr (.inl (fun _ => 0)))), (mhdd, .inl (kJ2, 640, .inr (.inl (fun _ => 0)))), (masd, .inl (kJ3, 640, .inr (.inl (fun _ => 0)))), (mpsd, .inl (kJ4, 6400, .inr (.inl (fun _ => 0)))), (msfd, .inl (kJ5, 1280, .inr (.inl (fun _ => 0)))), (mkp, .inl (kZ, 2, .inl (fun _ => 0))), (mtp, .inl (kY, 400, .inl (fun _ => 0)))]) (hS : va_S (fun q : Nat => s.heap.size ≤ q) s.heap H locs) (hl : lv_has ls 4 [(3, .int 0), (2, .ref m0), (1, .ref x0), (0, .ref b)]) : W p l e room_1 s m #[Value.ref b] below meth c H locs 110 27528 (lw_Z below #[Value.ref b] s) (F0 m 838 ls []) := by
  obtain ⟨hx, hb, hr, hml, hown, htl, hX, hbl, hlocks, hgv⟩ := id C0
  have hb : c.code = cL_law := hb
  have hown : s.vm.findClass RL = some m.cls := hown
  have hts : ∀ w ∈ pw, w.before #[Value.ref b] s = true := fun w h => htl w (pw_tbl h)
  have hN : xN s := xN_of htl
  have hA : ∀ q : Nat, s.heap.size ≤ q → (fun q : Nat => s.heap.size ≤ q) q := fun _ h => h
  have hbA : ¬ (fun q : Nat => s.heap.size ≤ q) b := Nat.not_le.mpr hbl
  refine lv_aload_n hx hb dL_law_838 rfl (lv_at hl 2 rfl) ?_
  refine lv_aload_n hx hb dL_law_839 rfl (lv_at hl 3 rfl) ?_
  refine lv_iload_n hx hb dL_law_840 rfl (lv_at hl 0 rfl) ?_
  refine lv_iconst (v := 1) hx hb dL_law_841 (by decide +kernel) ?_
  refine lv_iadd hx hb dL_law_842 ?_
  refine lv_topi (fun z1 ez1 => ?_)
  obtain rfl : z1 = 1 := ez1.trans (by decide +kernel)
  refine va_sld hx hb hX hbl hbA hS (in_d (by decide +kernel)) dL_law_843 ?_
  have hPc := hP.sub (ws' := [(x0, .inr (6, [.ref tp, .int 0, .ref nw, .ref dr, .ref rd, .ref sc, .ref sk, .ref fl, .ref ps, .int 0, .int 0, .ref sh])), (nw, .inr (1, [.ref nm, .ref nb, .int 0, .int 0, .int 0])), (sh, .inl (kG, 2, .inr (.inr (.inr (.inr (fun _ => none))))))]) [0, 2, 7] rfl
  have hDc := hD.sub (ws' := [(x0, .inr (6, [.ref tp, .int 0, .ref nw, .ref dr, .ref rd, .ref sc, .ref sk, .ref fl, .ref ps, .int 0, .int 0, .ref sh])), (nw, .inr (1, [.ref nm, .ref nb, .int 0, .int 0, .int 0])), (sh, .inl (kG, 2, .inr (.inr (.inr (.inr (fun _ => none))))))]) [0, 2, 7] (by decide) rfl
  have hKc := hK.sub (tys' := [(kG, .object RX1)]) [2] rfl
  have hFc := va_free (wc := [(x0, .inr (6, [.ref tp, .int 0, .ref nw, .ref dr, .ref rd, .ref sc, .ref sk, .ref fl, .ref ps, .int 0, .int 0, .ref sh])), (nw, .inr (1, [.ref nm, .ref nb, .int 0, .int 0, .int 0])), (sh, .inl (kG, 2, .inr (.inr (.inr (.inr (fun _ => none))))))]) hD hS hA [0, 2, 7] rfl
  refine va_calli (va_runV (As := [.int (xs (1 : Int32).toNatClampNeg)]) (rest := []) ⟨hx, hb, hml, hown, hts⟩ (c_X6_keep l dC dI x0 tp nw dr rd sc sk fl ps sh nm nb kG H.size (xs (1 : Int32).toNatClampNeg) ) (cwV 1 hts (gV pq837 pq838 pq839 pq74 pq840) rfl rfl rfl (by decide +kernel) ⟨(Nat.le_of_ble_eq_true rfl), (Nat.le_of_ble_eq_true rfl)⟩) (pc_V hPc hDc hKc hN (va_recv hK hP (ci := 6) (q0 := 0) rfl rfl)) rfl rfl hl.1 rfl (lv_room (Nat.le_of_ble_eq_true rfl)) dL_law_844 ⟨(Nat.le_of_ble_eq_true rfl), (Nat.le_of_ble_eq_true rfl)⟩) hS (fun q _ h => hFc q h) hFc (fun r2 u t H1 locs ht hvm hr2 hB hz1 hk1 hS => ?_)
  obtain ⟨hP, hD⟩ := va_join (wr := [(tp, .inl (kB, 400, .inl (fun _ => 0))), (dr, .inr (1, [.ref dm, .ref db, .int 0, .int 0, .int 0])), (rd, .inr (4, [.ref tp, .int 0, .int 0, .int 0, .int 0, .int 0])), (sc, .inr (5, [.ref nw, .ref ss, .int 0, .int (-1), .int 0, .int 0, .int 0, .int 0, .int 0])), (ps, .inl (kF, 10, .inr (.inr (.inr (.inr (fun _ => none)))))), (m0, .inr (7, [.ref mnw, .ref mhd, .ref mas, .ref mps, .ref msf, .ref mdt, .ref mhdd, .ref masd, .ref mpsd, .ref msfd, .ref mkp, .int 0, .ref mtp, .int 0, .int 0, .int 0, .int 0, .ref mld, .int 0, .ref mmd, .ref men, .ref mil, .ref mqu, .int 0, .int 0, .ref mbx])), (mnw, .inl (kI, 99, .inl (fun _ => 0))), (mhd, .inl (kI2, 99, .inl (fun _ => 0))), (mas, .inl (kI3, 99, .inl (fun _ => 0))), (mps, .inl (kI4, 990, .inl (fun _ => 0))), (msf, .inl (kI5, 198, .inl (fun _ => 0))), (mdt, .inl (kJ, 640, .inr (.inl (fun _ => 0)))), (mhdd, .inl (kJ2, 640, .inr (.inl (fun _ => 0)))), (masd, .inl (kJ3, 640, .inr (.inl (fun _ => 0)))), (mpsd, .inl (kJ4, 6400, .inr (.inl (fun _ => 0)))), (msfd, .inl (kJ5, 1280, .inr (.inl (fun _ => 0)))), (mkp, .inl (kZ, 2, .inl (fun _ => 0))), (mtp, .inl (kY, 400, .inl (fun _ => 0)))]) (w1 := []) hP hD [0, 2, 7] [1, 3, 4, 5, 6, 8, 9, 10, 11, 12, 13, 14, 15, 16, 17, 18, 19, 20] rfl rfl (by decide) (by decide) hk1 hFc va_P0 va_D0
  generalize H1 = H at hP hS ⊢
  have hP : va_P (dC, dI) vwCl [(tp, .inl (kB, 400, .inl (fun _ => 0))), (dr, .inr (1, [.ref dm, .ref db, .int 0, .int 0, .int 0])), (rd, .inr (4, [.ref tp, .int 0, .int 0, .int 0, .int 0, .int 0])), (sc, .inr (5, [.ref nw, .ref ss, .int 0, .int (-1), .int 0, .int 0, .int 0, .int 0, .int 0])), (ps, .inl (kF, 10, .inr (.inr (.inr (.inr (fun _ => none)))))), (m0, .inr (7, [.ref mnw, .ref mhd, .ref mas, .ref mps, .ref msf, .ref mdt, .ref mhdd, .ref masd, .ref mpsd, .ref msfd, .ref mkp, .int 0, .ref mtp, .int 0, .int 0, .int 0, .int 0, .ref mld, .int 0, .ref mmd, .ref men, .ref mil, .ref mqu, .int 0, .int 0, .ref mbx])), (mnw, .inl (kI, 99, .inl (fun _ => 0))), (mhd, .inl (kI2, 99, .inl (fun _ => 0))), (mas, .inl (kI3, 99, .inl (fun _ => 0))), (mps, .inl (kI4, 990, .inl (fun _ => 0))), (msf, .inl (kI5, 198, .inl (fun _ => 0))), (mdt, .inl (kJ, 640, .inr (.inl (fun _ => 0)))), (mhdd, .inl (kJ2, 640, .inr (.inl (fun _ => 0)))), (masd, .inl (kJ3, 640, .inr (.inl (fun _ => 0)))), (mpsd, .inl (kJ4, 6400, .inr (.inl (fun _ => 0)))), (msfd, .inl (kJ5, 1280, .inr (.inl (fun _ => 0)))), (mkp, .inl (kZ, 2, .inl (fun _ => 0))), (mtp, .inl (kY, 400, .inl (fun _ => 0)))] H := hP
  have hD : va_D (fun q : Nat => s.heap.size ≤ q) [(tp, .inl (kB, 400, .inl (fun _ => 0))), (dr, .inr (1, [.ref dm, .ref db, .int 0, .int 0, .int 0])), (rd, .inr (4, [.ref tp, .int 0, .int 0, .int 0, .int 0, .int 0])), (sc, .inr (5, [.ref nw, .ref ss, .int 0, .int (-1), .int 0, .int 0, .int 0, .int 0, .int 0])), (ps, .inl (kF, 10, .inr (.inr (.inr (.inr (fun _ => none)))))), (m0, .inr (7, [.ref mnw, .ref mhd, .ref mas, .ref mps, .ref msf, .ref mdt, .ref mhdd, .ref masd, .ref mpsd, .ref msfd, .ref mkp, .int 0, .ref mtp, .int 0, .int 0, .int 0, .int 0, .ref mld, .int 0, .ref mmd, .ref men, .ref mil, .ref mqu, .int 0, .int 0, .ref mbx])), (mnw, .inl (kI, 99, .inl (fun _ => 0))), (mhd, .inl (kI2, 99, .inl (fun _ => 0))), (mas, .inl (kI3, 99, .inl (fun _ => 0))), (mps, .inl (kI4, 990, .inl (fun _ => 0))), (msf, .inl (kI5, 198, .inl (fun _ => 0))), (mdt, .inl (kJ, 640, .inr (.inl (fun _ => 0)))), (mhdd, .inl (kJ2, 640, .inr (.inl (fun _ => 0)))), (masd, .inl (kJ3, 640, .inr (.inl (fun _ => 0)))), (mpsd, .inl (kJ4, 6400, .inr (.inl (fun _ => 0)))), (msfd, .inl (kJ5, 1280, .inr (.inl (fun _ => 0)))), (mkp, .inl (kZ, 2, .inl (fun _ => 0))), (mtp, .inl (kY, 400, .inl (fun _ => 0)))] := hD
  refine W.widen (k := 139) (n := 28335) (Nat.le_of_ble_eq_true rfl) (Nat.le_of_ble_eq_true rfl) ?_
  refine lv_aload_n hx hb dL_law_847 rfl (lv_at hl 1 rfl) ?_
  refine lv_aload_n hx hb dL_law_848 rfl (lv_at hl 3 rfl) ?_
  refine lv_iload_n hx hb dL_law_849 rfl (lv_at hl 0 rfl) ?_
  refine lv_iconst (v := 1) hx hb dL_law_850 (by decide +kernel) ?_
  refine lv_iadd hx hb dL_law_851 ?_
  refine lv_topi (fun z3 ez3 => ?_)
  obtain rfl : z3 = 1 := ez3.trans (by decide +kernel)
  refine va_sld hx hb hX hbl hbA hS (in_d (by decide +kernel)) dL_law_852 ?_
  have hPc := hP.sub (ws' := [(m0, .inr (7, [.ref mnw, .ref mhd, .ref mas, .ref mps, .ref msf, .ref mdt, .ref mhdd, .ref masd, .ref mpsd, .ref msfd, .ref mkp, .int 0, .ref mtp, .int 0, .int 0, .int 0, .int 0, .ref mld, .int 0, .ref mmd, .ref men, .ref mil, .ref mqu, .int 0, .int 0, .ref mbx])), (mnw, .inl (kI, 99, .inl (fun _ => 0))), (mdt, .inl (kJ, 640, .inr (.inl (fun _ => 0)))), (msf, .inl (kI5, 198, .inl (fun _ => 0))), (msfd, .inl (kJ5, 1280, .inr (.inl (fun _ => 0)))), (mkp, .inl (kZ, 2, .inl (fun _ => 0)))]) [5, 6, 11, 10, 15, 16] rfl
  have hDc := hD.sub (ws' := [(m0, .inr (7, [.ref mnw, .ref mhd, .ref mas, .ref mps, .ref msf, .ref mdt, .ref mhdd, .ref masd, .ref mpsd, .ref msfd, .ref mkp, .int 0, .ref mtp, .int 0, .int 0, .int 0, .int 0, .ref mld, .int 0, .ref mmd, .ref men, .ref mil, .ref mqu, .int 0, .int 0, .ref mbx])), (mnw, .inl (kI, 99, .inl (fun _ => 0))), (mdt, .inl (kJ, 640, .inr (.inl (fun _ => 0)))), (msf, .inl (kI5, 198, .inl (fun _ => 0))), (msfd, .inl (kJ5, 1280, .inr (.inl (fun _ => 0)))), (mkp, .inl (kZ, 2, .inl (fun _ => 0)))]) [5, 6, 11, 10, 15, 16] (by decide) rfl
  have hKc := hK.sub (tys' := [(kI, .int), (kJ, .long), (kI5, .int), (kJ5, .long), (kZ, .boolean)]) [3, 8, 7, 12, 13] rfl
  have hFc := va_free (wc := [(m0, .inr (7, [.ref mnw, .ref mhd, .ref mas, .ref mps, .ref msf, .ref mdt, .ref mhdd, .ref masd, .ref mpsd, .ref msfd, .ref mkp, .int 0, .ref mtp, .int 0, .int 0, .int 0, .int 0, .ref mld, .int 0, .ref mmd, .ref men, .ref mil, .ref mqu, .int 0, .int 0, .ref mbx])), (mnw, .inl (kI, 99, .inl (fun _ => 0))), (mdt, .inl (kJ, 640, .inr (.inl (fun _ => 0)))), (msf, .inl (kI5, 198, .inl (fun _ => 0))), (msfd, .inl (kJ5, 1280, .inr (.inl (fun _ => 0)))), (mkp, .inl (kZ, 2, .inl (fun _ => 0)))]) hD hS hA [5, 6, 11, 10, 15, 16] rfl
  refine va_calli (va_runV (As := [.int (xs (1 : Int32).toNatClampNeg)]) (rest := [.int r2]) ⟨hx, hb, hml, hown, hts⟩ (c_X7_keep l dC dI m0 mnw mhd mas mps msf mdt mhdd masd mpsd msfd mkp mtp mld mmd men mil mqu mbx kI kJ kI5 kJ5 kZ H.size (xs (1 : Int32).toNatClampNeg) ) (cwV 1 hts (gV pq1298 pq1299 pq1300 pq81 pq1301) rfl rfl rfl (by decide +kernel) ⟨(Nat.le_of_ble_eq_true rfl), (Nat.le_of_ble_eq_true rfl)⟩) (pc_V hPc hDc hKc hN (va_recv hK hP (ci := 7) (q0 := 5) rfl rfl)) rfl rfl hl.1 rfl (lv_room (Nat.le_of_ble_eq_true rfl)) dL_law_853 ⟨(Nat.le_of_ble_eq_true rfl), (Nat.le_of_ble_eq_true rfl)⟩) hS (fun q _ h => hFc q h) hFc (fun r4 u t H1 locs ht hvm hr4 hB hz1 hk1 hS => ?_)
  obtain ⟨hP, hD⟩ := va_join (wr := [(tp, .inl (kB, 400, .inl (fun _ => 0))), (dr, .inr (1, [.ref dm, .ref db, .int 0, .int 0, .int 0])), (rd, .inr (4, [.ref tp, .int 0, .int 0, .int 0, .int 0, .int 0])), (sc, .inr (5, [.ref nw, .ref ss, .int 0, .int (-1), .int 0, .int 0, .int 0, .int 0, .int 0])), (ps, .inl (kF, 10, .inr (.inr (.inr (.inr (fun _ => none)))))), (mhd, .inl (kI2, 99, .inl (fun _ => 0))), (mas, .inl (kI3, 99, .inl (fun _ => 0))), (mps, .inl (kI4, 990, .inl (fun _ => 0))), (mhdd, .inl (kJ2, 640, .inr (.inl (fun _ => 0)))), (masd, .inl (kJ3, 640, .inr (.inl (fun _ => 0)))), (mpsd, .inl (kJ4, 6400, .inr (.inl (fun _ => 0)))), (mtp, .inl (kY, 400, .inl (fun _ => 0)))]) (w1 := []) hP hD [5, 6, 11, 10, 15, 16] [0, 1, 2, 3, 4, 7, 8, 9, 12, 13, 14, 17] rfl rfl (by decide) (by decide) hk1 hFc va_P0 va_D0
  generalize H1 = H at hP hS ⊢
  have hP : va_P (dC, dI) vwCl [(tp, .inl (kB, 400, .inl (fun _ => 0))), (dr, .inr (1, [.ref dm, .ref db, .int 0, .int 0, .int 0])), (rd, .inr (4, [.ref tp, .int 0, .int 0, .int 0, .int 0, .int 0])), (sc, .inr (5, [.ref nw, .ref ss, .int 0, .int (-1), .int 0, .int 0, .int 0, .int 0, .int 0])), (ps, .inl (kF, 10, .inr (.inr (.inr (.inr (fun _ => none)))))), (mhd, .inl (kI2, 99, .inl (fun _ => 0))), (mas, .inl (kI3, 99, .inl (fun _ => 0))), (mps, .inl (kI4, 990, .inl (fun _ => 0))), (mhdd, .inl (kJ2, 640, .inr (.inl (fun _ => 0)))), (masd, .inl (kJ3, 640, .inr (.inl (fun _ => 0)))), (mpsd, .inl (kJ4, 6400, .inr (.inl (fun _ => 0)))), (mtp, .inl (kY, 400, .inl (fun _ => 0)))] H := hP
  have hD : va_D (fun q : Nat => s.heap.size ≤ q) [(tp, .inl (kB, 400, .inl (fun _ => 0))), (dr, .inr (1, [.ref dm, .ref db, .int 0, .int 0, .int 0])), (rd, .inr (4, [.ref tp, .int 0, .int 0, .int 0, .int 0, .int 0])), (sc, .inr (5, [.ref nw, .ref ss, .int 0, .int (-1), .int 0, .int 0, .int 0, .int 0, .int 0])), (ps, .inl (kF, 10, .inr (.inr (.inr (.inr (fun _ => none)))))), (mhd, .inl (kI2, 99, .inl (fun _ => 0))), (mas, .inl (kI3, 99, .inl (fun _ => 0))), (mps, .inl (kI4, 990, .inl (fun _ => 0))), (mhdd, .inl (kJ2, 640, .inr (.inl (fun _ => 0)))), (masd, .inl (kJ3, 640, .inr (.inl (fun _ => 0)))), (mpsd, .inl (kJ4, 6400, .inr (.inl (fun _ => 0)))), (mtp, .inl (kY, 400, .inl (fun _ => 0)))] := hD
  refine lv_icmp_eq (tgt := 1950) hx hb dL_law_856 (by decide) (fun c5 => ?_) (fun c5 => absurd (hr2.trans hr4.symm) c5)
  refine lv_iinc (v := 6) (lv' := [(3, .int 6), (2, .ref m0), (1, .ref x0), (0, .ref b)]) hx hb dL_law_1950 hl (k := 0) rfl (by decide +kernel) (by decide) rfl (fun ls hl => ?_)
  refine lv_goto (tgt := 18) hx hb dL_law_1953 (by decide) ?_
  refine lv_iload_n hx hb dL_law_18 rfl (lv_at hl 0 rfl) ?_
  refine lv_aload_n hx hb dL_law_19 rfl (lv_at hl 3 rfl) ?_
  refine va_slen hx hb hX hbl hbA hS dL_law_20 ?_
  refine lv_bipush (v := 6) hx hb dL_law_21 (by decide +kernel) ?_
  refine lv_isub hx hb dL_law_23 ?_
  refine lv_topi (fun z6 ez6 => ?_)
  obtain rfl : z6 = 0 := ez6.trans (by decide +kernel)
  refine lv_icmp_gt (tgt := 1956) hx hb dL_law_24 (by decide) (fun c7 => ?_) (fun c7 => absurd (by decide +kernel) c7)
  refine lv_iconst (v := 1) hx hb dL_law_1956 (by decide +kernel) ?_
  refine va_forget (fun q hq => hS.2.2 q hq) ?_
  refine W.widen (k := 600000) (n := 7302249) (Nat.le_of_ble_eq_true rfl) (Nat.le_of_ble_eq_true rfl) ?_
  refine W.base ?_
  exact lw_ret (Drawn.sameBut.refl s.drawn lw_cs) hx hb hr hlocks dL_law_1957

set_option maxHeartbeats 4000000 in
set_option maxRecDepth 100000 in
theorem lw_case19 {p : Program} {e : Env} {s : State} {m : MethodId} {below : List Frame} {meth : Method} {c : Code} (l : Launch) {b : Nat} {xs : Nat → Int32} {dC : Nat → ClassId} {dI : Nat → Nat → Nat} (C0 : lw_At p s m meth c b 6 xs) {x0 tp nw dr rd sc sk fl ps sh nm nb dm db ss m0 mnw mhd mas mps msf mdt mhdd masd mpsd msfd mkp mtp mld mmd men mil mqu mbx : Nat} {kB kF kG kI kI2 kI3 kI4 kI5 kJ kJ2 kJ3 kJ4 kJ5 kZ kY : ClassId} {H : Heap} {locs : List Loc} {ls : Array Slot} (hK : va_K (dC, dI) vwCl [(kB, .byte), (kF, .object RX1), (kG, .object RX1), (kI, .int), (kI2, .int), (kI3, .int), (kI4, .int), (kI5, .int), (kJ, .long), (kJ2, .long), (kJ3, .long), (kJ4, .long), (kJ5, .long), (kZ, .boolean), (kY, .byte)] s) (hP : va_P (dC, dI) vwCl [(x0, .inr (6, [.ref tp, .int 0, .ref nw, .ref dr, .ref rd, .ref sc, .ref sk, .ref fl, .ref ps, .int 0, .int 0, .ref sh])), (tp, .inl (kB, 400, .inl (fun _ => 0))), (nw, .inr (1, [.ref nm, .ref nb, .int 0, .int 0, .int 0])), (dr, .inr (1, [.ref dm, .ref db, .int 0, .int 0, .int 0])), (rd, .inr (4, [.ref tp, .int 0, .int 0, .int 0, .int 0, .int 0])), (sc, .inr (5, [.ref nw, .ref ss, .int 0, .int (-1), .int 0, .int 0, .int 0, .int 0, .int 0])), (ps, .inl (kF, 10, .inr (.inr (.inr (.inr (fun _ => none)))))), (sh, .inl (kG, 2, .inr (.inr (.inr (.inr (fun _ => none)))))), (m0, .inr (7, [.ref mnw, .ref mhd, .ref mas, .ref mps, .ref msf, .ref mdt, .ref mhdd, .ref masd, .ref mpsd, .ref msfd, .ref mkp, .int 0, .ref mtp, .int 0, .int 0, .int 0, .int 0, .ref mld, .int 0, .ref mmd, .ref men, .ref mil, .ref mqu, .int 0, .int 0, .ref mbx])), (mnw, .inl (kI, 99, .inl (fun _ => 0))), (mhd, .inl (kI2, 99, .inl (fun _ => 0))), (mas, .inl (kI3, 99, .inl (fun _ => 0))), (mps, .inl (kI4, 990, .inl (fun _ => 0))), (msf, .inl (kI5, 198, .inl (fun _ => 0))), (mdt, .inl (kJ, 640, .inr (.inl (fun _ => 0)))), (mhdd, .inl (kJ2, 640, .inr (.inl (fun _ => 0)))), (masd, .inl (kJ3, 640, .inr (.inl (fun _ => 0)))), (mpsd, .inl (kJ4, 6400, .inr (.inl (fun _ => 0)))), (msfd, .inl (kJ5, 1280, .inr (.inl (fun _ => 0)))), (mkp, .inl (kZ, 2, .inl (fun _ => 0))), (mtp, .inl (kY, 400, .inl (fun _ => 0)))] H) (hD : va_D (fun q : Nat => s.heap.size ≤ q) [(x0, .inr (6, [.ref tp, .int 0, .ref nw, .ref dr, .ref rd, .ref sc, .ref sk, .ref fl, .ref ps, .int 0, .int 0, .ref sh])), (tp, .inl (kB, 400, .inl (fun _ => 0))), (nw, .inr (1, [.ref nm, .ref nb, .int 0, .int 0, .int 0])), (dr, .inr (1, [.ref dm, .ref db, .int 0, .int 0, .int 0])), (rd, .inr (4, [.ref tp, .int 0, .int 0, .int 0, .int 0, .int 0])), (sc, .inr (5, [.ref nw, .ref ss, .int 0, .int (-1), .int 0, .int 0, .int 0, .int 0, .int 0])), (ps, .inl (kF, 10, .inr (.inr (.inr (.inr (fun _ => none)))))), (sh, .inl (kG, 2, .inr (.inr (.inr (.inr (fun _ => none)))))), (m0, .inr (7, [.ref mnw, .ref mhd, .ref mas, .ref mps, .ref msf, .ref mdt, .ref mhdd, .ref masd, .ref mpsd, .ref msfd, .ref mkp, .int 0, .ref mtp, .int 0, .int 0, .int 0, .int 0, .ref mld, .int 0, .ref mmd, .ref men, .ref mil, .ref mqu, .int 0, .int 0, .ref mbx])), (mnw, .inl (kI, 99, .inl (fun _ => 0))), (mhd, .inl (kI2, 99, .inl (fun _ => 0))), (mas, .inl (kI3, 99, .inl (fun _ => 0))), (mps, .inl (kI4, 990, .inl (fun _ => 0))), (msf, .inl (kI5, 198, .inl (fun _ => 0))), (mdt, .inl (kJ, 640, .inr (.inl (fun _ => 0)))), (mhdd, .inl (kJ2, 640, .inr (.inl (fun _ => 0)))), (masd, .inl (kJ3, 640, .inr (.inl (fun _ => 0)))), (mpsd, .inl (kJ4, 6400, .inr (.inl (fun _ => 0)))), (msfd, .inl (kJ5, 1280, .inr (.inl (fun _ => 0)))), (mkp, .inl (kZ, 2, .inl (fun _ => 0))), (mtp, .inl (kY, 400, .inl (fun _ => 0)))]) (hS : va_S (fun q : Nat => s.heap.size ≤ q) s.heap H locs) (hl : lv_has ls 4 [(3, .int 0), (2, .ref m0), (1, .ref x0), (0, .ref b)]) : W p l e room_1 s m #[Value.ref b] below meth c H locs 110 27528 (lw_Z below #[Value.ref b] s) (F0 m 861 ls []) := by
  obtain ⟨hx, hb, hr, hml, hown, htl, hX, hbl, hlocks, hgv⟩ := id C0
  have hb : c.code = cL_law := hb
  have hown : s.vm.findClass RL = some m.cls := hown
  have hts : ∀ w ∈ pw, w.before #[Value.ref b] s = true := fun w h => htl w (pw_tbl h)
  have hN : xN s := xN_of htl
  have hA : ∀ q : Nat, s.heap.size ≤ q → (fun q : Nat => s.heap.size ≤ q) q := fun _ h => h
  have hbA : ¬ (fun q : Nat => s.heap.size ≤ q) b := Nat.not_le.mpr hbl
  refine lv_aload_n hx hb dL_law_861 rfl (lv_at hl 2 rfl) ?_
  refine lv_aload_n hx hb dL_law_862 rfl (lv_at hl 3 rfl) ?_
  refine lv_iload_n hx hb dL_law_863 rfl (lv_at hl 0 rfl) ?_
  refine lv_iconst (v := 1) hx hb dL_law_864 (by decide +kernel) ?_
  refine lv_iadd hx hb dL_law_865 ?_
  refine lv_topi (fun z1 ez1 => ?_)
  obtain rfl : z1 = 1 := ez1.trans (by decide +kernel)
  refine va_sld hx hb hX hbl hbA hS (in_d (by decide +kernel)) dL_law_866 ?_
  have hPc := hP.sub (ws' := [(x0, .inr (6, [.ref tp, .int 0, .ref nw, .ref dr, .ref rd, .ref sc, .ref sk, .ref fl, .ref ps, .int 0, .int 0, .ref sh])), (nw, .inr (1, [.ref nm, .ref nb, .int 0, .int 0, .int 0])), (sh, .inl (kG, 2, .inr (.inr (.inr (.inr (fun _ => none))))))]) [0, 2, 7] rfl
  have hDc := hD.sub (ws' := [(x0, .inr (6, [.ref tp, .int 0, .ref nw, .ref dr, .ref rd, .ref sc, .ref sk, .ref fl, .ref ps, .int 0, .int 0, .ref sh])), (nw, .inr (1, [.ref nm, .ref nb, .int 0, .int 0, .int 0])), (sh, .inl (kG, 2, .inr (.inr (.inr (.inr (fun _ => none))))))]) [0, 2, 7] (by decide) rfl
  have hKc := hK.sub (tys' := [(kG, .object RX1)]) [2] rfl
  refine ro_i (va_runV (As := [.int (xs (1 : Int32).toNatClampNeg)]) (rest := []) ⟨hx, hb, hml, hown, hts⟩ (c_X6_back l dC dI x0 tp nw dr rd sc sk fl ps sh nm nb kG H.size (xs (1 : Int32).toNatClampNeg) ) (cwV 1 hts (gV pq841 pq842 pq843 pq74 pq844) rfl rfl rfl (by decide +kernel) ⟨(Nat.le_of_ble_eq_true rfl), (Nat.le_of_ble_eq_true rfl)⟩) (pc_V hPc hDc hKc hN (va_recv hK hP (ci := 6) (q0 := 0) rfl rfl)) rfl rfl hl.1 rfl (lv_room (Nat.le_of_ble_eq_true rfl)) dL_law_867 ⟨(Nat.le_of_ble_eq_true rfl), (Nat.le_of_ble_eq_true rfl)⟩) hS hP (fun r2 H locs hr2 hP hS => ?_)
  refine lv_aload_n hx hb dL_law_870 rfl (lv_at hl 1 rfl) ?_
  refine lv_aload_n hx hb dL_law_871 rfl (lv_at hl 3 rfl) ?_
  refine lv_iload_n hx hb dL_law_872 rfl (lv_at hl 0 rfl) ?_
  refine lv_iconst (v := 1) hx hb dL_law_873 (by decide +kernel) ?_
  refine lv_iadd hx hb dL_law_874 ?_
  refine lv_topi (fun z3 ez3 => ?_)
  obtain rfl : z3 = 1 := ez3.trans (by decide +kernel)
  refine va_sld hx hb hX hbl hbA hS (in_d (by decide +kernel)) dL_law_875 ?_
  have hPc := hP.sub (ws' := [(m0, .inr (7, [.ref mnw, .ref mhd, .ref mas, .ref mps, .ref msf, .ref mdt, .ref mhdd, .ref masd, .ref mpsd, .ref msfd, .ref mkp, .int 0, .ref mtp, .int 0, .int 0, .int 0, .int 0, .ref mld, .int 0, .ref mmd, .ref men, .ref mil, .ref mqu, .int 0, .int 0, .ref mbx])), (mkp, .inl (kZ, 2, .inl (fun _ => 0)))]) [8, 19] rfl
  have hDc := hD.sub (ws' := [(m0, .inr (7, [.ref mnw, .ref mhd, .ref mas, .ref mps, .ref msf, .ref mdt, .ref mhdd, .ref masd, .ref mpsd, .ref msfd, .ref mkp, .int 0, .ref mtp, .int 0, .int 0, .int 0, .int 0, .ref mld, .int 0, .ref mmd, .ref men, .ref mil, .ref mqu, .int 0, .int 0, .ref mbx])), (mkp, .inl (kZ, 2, .inl (fun _ => 0)))]) [8, 19] (by decide) rfl
  have hKc := hK.sub (tys' := [(kZ, .boolean)]) [13] rfl
  refine ro_i (va_runV (As := [.int (xs (1 : Int32).toNatClampNeg)]) (rest := [.int r2]) ⟨hx, hb, hml, hown, hts⟩ (c_X7_back l dC dI m0 mnw mhd mas mps msf mdt mhdd masd mpsd msfd mkp mtp mld mmd men mil mqu mbx kZ H.size (xs (1 : Int32).toNatClampNeg) ) (cwV 1 hts (gV pq1302 pq1303 pq1304 pq81 pq1305) rfl rfl rfl (by decide +kernel) ⟨(Nat.le_of_ble_eq_true rfl), (Nat.le_of_ble_eq_true rfl)⟩) (pc_V hPc hDc hKc hN (va_recv hK hP (ci := 7) (q0 := 8) rfl rfl)) rfl rfl hl.1 rfl (lv_room (Nat.le_of_ble_eq_true rfl)) dL_law_876 ⟨(Nat.le_of_ble_eq_true rfl), (Nat.le_of_ble_eq_true rfl)⟩) hS hP (fun r4 H locs hr4 hP hS => ?_)
  refine lv_icmp_eq (tgt := 1950) hx hb dL_law_879 (by decide) (fun c5 => ?_) (fun c5 => absurd (hr2.trans hr4.symm) c5)
  refine lv_iinc (v := 6) (lv' := [(3, .int 6), (2, .ref m0), (1, .ref x0), (0, .ref b)]) hx hb dL_law_1950 hl (k := 0) rfl (by decide +kernel) (by decide) rfl (fun ls hl => ?_)
  refine lv_goto (tgt := 18) hx hb dL_law_1953 (by decide) ?_
  refine lv_iload_n hx hb dL_law_18 rfl (lv_at hl 0 rfl) ?_
  refine lv_aload_n hx hb dL_law_19 rfl (lv_at hl 3 rfl) ?_
  refine va_slen hx hb hX hbl hbA hS dL_law_20 ?_
  refine lv_bipush (v := 6) hx hb dL_law_21 (by decide +kernel) ?_
  refine lv_isub hx hb dL_law_23 ?_
  refine lv_topi (fun z6 ez6 => ?_)
  obtain rfl : z6 = 0 := ez6.trans (by decide +kernel)
  refine lv_icmp_gt (tgt := 1956) hx hb dL_law_24 (by decide) (fun c7 => ?_) (fun c7 => absurd (by decide +kernel) c7)
  refine lv_iconst (v := 1) hx hb dL_law_1956 (by decide +kernel) ?_
  refine va_forget (fun q hq => hS.2.2 q hq) ?_
  refine W.widen (k := 600000) (n := 7302249) (Nat.le_of_ble_eq_true rfl) (Nat.le_of_ble_eq_true rfl) ?_
  refine W.base ?_
  exact lw_ret (Drawn.sameBut.refl s.drawn lw_cs) hx hb hr hlocks dL_law_1957

set_option maxHeartbeats 4000000 in
set_option maxRecDepth 100000 in
theorem lw_case20 {p : Program} {e : Env} {s : State} {m : MethodId} {below : List Frame} {meth : Method} {c : Code} (l : Launch) {b : Nat} {xs : Nat → Int32} {dC : Nat → ClassId} {dI : Nat → Nat → Nat} (C0 : lw_At p s m meth c b 6 xs) {x0 tp nw dr rd sc sk fl ps sh nm nb dm db ss m0 mnw mhd mas mps msf mdt mhdd masd mpsd msfd mkp mtp mld mmd men mil mqu mbx : Nat} {kB kF kG kI kI2 kI3 kI4 kI5 kJ kJ2 kJ3 kJ4 kJ5 kZ kY : ClassId} {H : Heap} {locs : List Loc} {ls : Array Slot} (hK : va_K (dC, dI) vwCl [(kB, .byte), (kF, .object RX1), (kG, .object RX1), (kI, .int), (kI2, .int), (kI3, .int), (kI4, .int), (kI5, .int), (kJ, .long), (kJ2, .long), (kJ3, .long), (kJ4, .long), (kJ5, .long), (kZ, .boolean), (kY, .byte)] s) (hP : va_P (dC, dI) vwCl [(x0, .inr (6, [.ref tp, .int 0, .ref nw, .ref dr, .ref rd, .ref sc, .ref sk, .ref fl, .ref ps, .int 0, .int 0, .ref sh])), (tp, .inl (kB, 400, .inl (fun _ => 0))), (nw, .inr (1, [.ref nm, .ref nb, .int 0, .int 0, .int 0])), (dr, .inr (1, [.ref dm, .ref db, .int 0, .int 0, .int 0])), (rd, .inr (4, [.ref tp, .int 0, .int 0, .int 0, .int 0, .int 0])), (sc, .inr (5, [.ref nw, .ref ss, .int 0, .int (-1), .int 0, .int 0, .int 0, .int 0, .int 0])), (ps, .inl (kF, 10, .inr (.inr (.inr (.inr (fun _ => none)))))), (sh, .inl (kG, 2, .inr (.inr (.inr (.inr (fun _ => none)))))), (m0, .inr (7, [.ref mnw, .ref mhd, .ref mas, .ref mps, .ref msf, .ref mdt, .ref mhdd, .ref masd, .ref mpsd, .ref msfd, .ref mkp, .int 0, .ref mtp, .int 0, .int 0, .int 0, .int 0, .ref mld, .int 0, .ref mmd, .ref men, .ref mil, .ref mqu, .int 0, .int 0, .ref mbx])), (mnw, .inl (kI, 99, .inl (fun _ => 0))), (mhd, .inl (kI2, 99, .inl (fun _ => 0))), (mas, .inl (kI3, 99, .inl (fun _ => 0))), (mps, .inl (kI4, 990, .inl (fun _ => 0))), (msf, .inl (kI5, 198, .inl (fun _ => 0))), (mdt, .inl (kJ, 640, .inr (.inl (fun _ => 0)))), (mhdd, .inl (kJ2, 640, .inr (.inl (fun _ => 0)))), (masd, .inl (kJ3, 640, .inr (.inl (fun _ => 0)))), (mpsd, .inl (kJ4, 6400, .inr (.inl (fun _ => 0)))), (msfd, .inl (kJ5, 1280, .inr (.inl (fun _ => 0)))), (mkp, .inl (kZ, 2, .inl (fun _ => 0))), (mtp, .inl (kY, 400, .inl (fun _ => 0)))] H) (hD : va_D (fun q : Nat => s.heap.size ≤ q) [(x0, .inr (6, [.ref tp, .int 0, .ref nw, .ref dr, .ref rd, .ref sc, .ref sk, .ref fl, .ref ps, .int 0, .int 0, .ref sh])), (tp, .inl (kB, 400, .inl (fun _ => 0))), (nw, .inr (1, [.ref nm, .ref nb, .int 0, .int 0, .int 0])), (dr, .inr (1, [.ref dm, .ref db, .int 0, .int 0, .int 0])), (rd, .inr (4, [.ref tp, .int 0, .int 0, .int 0, .int 0, .int 0])), (sc, .inr (5, [.ref nw, .ref ss, .int 0, .int (-1), .int 0, .int 0, .int 0, .int 0, .int 0])), (ps, .inl (kF, 10, .inr (.inr (.inr (.inr (fun _ => none)))))), (sh, .inl (kG, 2, .inr (.inr (.inr (.inr (fun _ => none)))))), (m0, .inr (7, [.ref mnw, .ref mhd, .ref mas, .ref mps, .ref msf, .ref mdt, .ref mhdd, .ref masd, .ref mpsd, .ref msfd, .ref mkp, .int 0, .ref mtp, .int 0, .int 0, .int 0, .int 0, .ref mld, .int 0, .ref mmd, .ref men, .ref mil, .ref mqu, .int 0, .int 0, .ref mbx])), (mnw, .inl (kI, 99, .inl (fun _ => 0))), (mhd, .inl (kI2, 99, .inl (fun _ => 0))), (mas, .inl (kI3, 99, .inl (fun _ => 0))), (mps, .inl (kI4, 990, .inl (fun _ => 0))), (msf, .inl (kI5, 198, .inl (fun _ => 0))), (mdt, .inl (kJ, 640, .inr (.inl (fun _ => 0)))), (mhdd, .inl (kJ2, 640, .inr (.inl (fun _ => 0)))), (masd, .inl (kJ3, 640, .inr (.inl (fun _ => 0)))), (mpsd, .inl (kJ4, 6400, .inr (.inl (fun _ => 0)))), (msfd, .inl (kJ5, 1280, .inr (.inl (fun _ => 0)))), (mkp, .inl (kZ, 2, .inl (fun _ => 0))), (mtp, .inl (kY, 400, .inl (fun _ => 0)))]) (hS : va_S (fun q : Nat => s.heap.size ≤ q) s.heap H locs) (hl : lv_has ls 4 [(3, .int 0), (2, .ref m0), (1, .ref x0), (0, .ref b)]) : W p l e room_1 s m #[Value.ref b] below meth c H locs 110 27528 (lw_Z below #[Value.ref b] s) (F0 m 884 ls []) := by
  obtain ⟨hx, hb, hr, hml, hown, htl, hX, hbl, hlocks, hgv⟩ := id C0
  have hb : c.code = cL_law := hb
  have hown : s.vm.findClass RL = some m.cls := hown
  have hts : ∀ w ∈ pw, w.before #[Value.ref b] s = true := fun w h => htl w (pw_tbl h)
  have hN : xN s := xN_of htl
  have hA : ∀ q : Nat, s.heap.size ≤ q → (fun q : Nat => s.heap.size ≤ q) q := fun _ h => h
  have hbA : ¬ (fun q : Nat => s.heap.size ≤ q) b := Nat.not_le.mpr hbl
  refine lv_aload_n hx hb dL_law_884 rfl (lv_at hl 2 rfl) ?_
  refine lv_aload_n hx hb dL_law_885 rfl (lv_at hl 3 rfl) ?_
  refine lv_iload_n hx hb dL_law_886 rfl (lv_at hl 0 rfl) ?_
  refine lv_iconst (v := 1) hx hb dL_law_887 (by decide +kernel) ?_
  refine lv_iadd hx hb dL_law_888 ?_
  refine lv_topi (fun z1 ez1 => ?_)
  obtain rfl : z1 = 1 := ez1.trans (by decide +kernel)
  refine va_sld hx hb hX hbl hbA hS (in_d (by decide +kernel)) dL_law_889 ?_
  refine lv_aload_n hx hb dL_law_890 rfl (lv_at hl 3 rfl) ?_
  refine lv_iload_n hx hb dL_law_891 rfl (lv_at hl 0 rfl) ?_
  refine lv_iconst (v := 2) hx hb dL_law_892 (by decide +kernel) ?_
  refine lv_iadd hx hb dL_law_893 ?_
  refine lv_topi (fun z2 ez2 => ?_)
  obtain rfl : z2 = 2 := ez2.trans (by decide +kernel)
  refine va_sld hx hb hX hbl hbA hS (in_d (by decide +kernel)) dL_law_894 ?_
  have hPc := hP.sub (ws' := [(x0, .inr (6, [.ref tp, .int 0, .ref nw, .ref dr, .ref rd, .ref sc, .ref sk, .ref fl, .ref ps, .int 0, .int 0, .ref sh])), (nw, .inr (1, [.ref nm, .ref nb, .int 0, .int 0, .int 0]))]) [0, 2] rfl
  have hDc := hD.sub (ws' := [(x0, .inr (6, [.ref tp, .int 0, .ref nw, .ref dr, .ref rd, .ref sc, .ref sk, .ref fl, .ref ps, .int 0, .int 0, .ref sh])), (nw, .inr (1, [.ref nm, .ref nb, .int 0, .int 0, .int 0]))]) [0, 2] (by decide) rfl
  have hKc := hK.sub (tys' := []) [] rfl
  refine ro_i (va_runV (As := [.int (xs (1 : Int32).toNatClampNeg), .int (xs (2 : Int32).toNatClampNeg)]) (rest := []) ⟨hx, hb, hml, hown, hts⟩ (c_X6_mask l dC dI x0 tp nw dr rd sc sk fl ps sh nm nb H.size (xs (1 : Int32).toNatClampNeg) (xs (2 : Int32).toNatClampNeg) ) (cwV 2 hts (gV pq845 pq846 pq847 pq74 pq848) rfl rfl rfl (by decide +kernel) ⟨(Nat.le_of_ble_eq_true rfl), (Nat.le_of_ble_eq_true rfl)⟩) (pc_V hPc hDc hKc hN (va_recv hK hP (ci := 6) (q0 := 0) rfl rfl)) rfl rfl hl.1 rfl (lv_room (Nat.le_of_ble_eq_true rfl)) dL_law_895 ⟨(Nat.le_of_ble_eq_true rfl), (Nat.le_of_ble_eq_true rfl)⟩) hS hP (fun r3 H locs hr3 hP hS => ?_)
  subst hr3
  refine lv_aload_n hx hb dL_law_898 rfl (lv_at hl 1 rfl) ?_
  refine lv_aload_n hx hb dL_law_899 rfl (lv_at hl 3 rfl) ?_
  refine lv_iload_n hx hb dL_law_900 rfl (lv_at hl 0 rfl) ?_
  refine lv_iconst (v := 1) hx hb dL_law_901 (by decide +kernel) ?_
  refine lv_iadd hx hb dL_law_902 ?_
  refine lv_topi (fun z4 ez4 => ?_)
  obtain rfl : z4 = 1 := ez4.trans (by decide +kernel)
  refine va_sld hx hb hX hbl hbA hS (in_d (by decide +kernel)) dL_law_903 ?_
  refine lv_aload_n hx hb dL_law_904 rfl (lv_at hl 3 rfl) ?_
  refine lv_iload_n hx hb dL_law_905 rfl (lv_at hl 0 rfl) ?_
  refine lv_iconst (v := 2) hx hb dL_law_906 (by decide +kernel) ?_
  refine lv_iadd hx hb dL_law_907 ?_
  refine lv_topi (fun z5 ez5 => ?_)
  obtain rfl : z5 = 2 := ez5.trans (by decide +kernel)
  refine va_sld hx hb hX hbl hbA hS (in_d (by decide +kernel)) dL_law_908 ?_
  have hPc := hP.sub (ws' := [(m0, .inr (7, [.ref mnw, .ref mhd, .ref mas, .ref mps, .ref msf, .ref mdt, .ref mhdd, .ref masd, .ref mpsd, .ref msfd, .ref mkp, .int 0, .ref mtp, .int 0, .int 0, .int 0, .int 0, .ref mld, .int 0, .ref mmd, .ref men, .ref mil, .ref mqu, .int 0, .int 0, .ref mbx])), (mnw, .inl (kI, 99, .inl (fun _ => 0)))]) [8, 9] rfl
  have hDc := hD.sub (ws' := [(m0, .inr (7, [.ref mnw, .ref mhd, .ref mas, .ref mps, .ref msf, .ref mdt, .ref mhdd, .ref masd, .ref mpsd, .ref msfd, .ref mkp, .int 0, .ref mtp, .int 0, .int 0, .int 0, .int 0, .ref mld, .int 0, .ref mmd, .ref men, .ref mil, .ref mqu, .int 0, .int 0, .ref mbx])), (mnw, .inl (kI, 99, .inl (fun _ => 0)))]) [8, 9] (by decide) rfl
  have hKc := hK.sub (tys' := [(kI, .int)]) [3] rfl
  refine ro_i (va_runV (As := [.int (xs (1 : Int32).toNatClampNeg), .int (xs (2 : Int32).toNatClampNeg)]) (rest := [.int (-1)]) ⟨hx, hb, hml, hown, hts⟩ (c_X7_mask l dC dI m0 mnw mhd mas mps msf mdt mhdd masd mpsd msfd mkp mtp mld mmd men mil mqu mbx kI H.size (xs (1 : Int32).toNatClampNeg) (xs (2 : Int32).toNatClampNeg) ) (cwV 2 hts (gV pq1526 pq1527 pq1528 pq81 pq1529) rfl rfl rfl (by decide +kernel) ⟨(Nat.le_of_ble_eq_true rfl), (Nat.le_of_ble_eq_true rfl)⟩) (pc_V hPc hDc hKc hN (va_recv hK hP (ci := 7) (q0 := 8) rfl rfl)) rfl rfl hl.1 rfl (lv_room (Nat.le_of_ble_eq_true rfl)) dL_law_909 ⟨(Nat.le_of_ble_eq_true rfl), (Nat.le_of_ble_eq_true rfl)⟩) hS hP (fun r6 H locs hr6 hP hS => ?_)
  subst hr6
  refine lv_icmp_eq (tgt := 1950) hx hb dL_law_912 (by decide) (fun c7 => ?_) (fun c7 => absurd (by decide +kernel) c7)
  refine lv_iinc (v := 6) (lv' := [(3, .int 6), (2, .ref m0), (1, .ref x0), (0, .ref b)]) hx hb dL_law_1950 hl (k := 0) rfl (by decide +kernel) (by decide) rfl (fun ls hl => ?_)
  refine lv_goto (tgt := 18) hx hb dL_law_1953 (by decide) ?_
  refine lv_iload_n hx hb dL_law_18 rfl (lv_at hl 0 rfl) ?_
  refine lv_aload_n hx hb dL_law_19 rfl (lv_at hl 3 rfl) ?_
  refine va_slen hx hb hX hbl hbA hS dL_law_20 ?_
  refine lv_bipush (v := 6) hx hb dL_law_21 (by decide +kernel) ?_
  refine lv_isub hx hb dL_law_23 ?_
  refine lv_topi (fun z8 ez8 => ?_)
  obtain rfl : z8 = 0 := ez8.trans (by decide +kernel)
  refine lv_icmp_gt (tgt := 1956) hx hb dL_law_24 (by decide) (fun c9 => ?_) (fun c9 => absurd (by decide +kernel) c9)
  refine lv_iconst (v := 1) hx hb dL_law_1956 (by decide +kernel) ?_
  refine va_forget (fun q hq => hS.2.2 q hq) ?_
  refine W.widen (k := 600000) (n := 7302249) (Nat.le_of_ble_eq_true rfl) (Nat.le_of_ble_eq_true rfl) ?_
  refine W.base ?_
  exact lw_ret (Drawn.sameBut.refl s.drawn lw_cs) hx hb hr hlocks dL_law_1957

set_option maxHeartbeats 4000000 in
set_option maxRecDepth 100000 in
theorem lw_case21 {p : Program} {e : Env} {s : State} {m : MethodId} {below : List Frame} {meth : Method} {c : Code} (l : Launch) {b : Nat} {xs : Nat → Int32} {dC : Nat → ClassId} {dI : Nat → Nat → Nat} (C0 : lw_At p s m meth c b 6 xs) {x0 tp nw dr rd sc sk fl ps sh nm nb dm db ss m0 mnw mhd mas mps msf mdt mhdd masd mpsd msfd mkp mtp mld mmd men mil mqu mbx : Nat} {kB kF kG kI kI2 kI3 kI4 kI5 kJ kJ2 kJ3 kJ4 kJ5 kZ kY : ClassId} {H : Heap} {locs : List Loc} {ls : Array Slot} (hK : va_K (dC, dI) vwCl [(kB, .byte), (kF, .object RX1), (kG, .object RX1), (kI, .int), (kI2, .int), (kI3, .int), (kI4, .int), (kI5, .int), (kJ, .long), (kJ2, .long), (kJ3, .long), (kJ4, .long), (kJ5, .long), (kZ, .boolean), (kY, .byte)] s) (hP : va_P (dC, dI) vwCl [(x0, .inr (6, [.ref tp, .int 0, .ref nw, .ref dr, .ref rd, .ref sc, .ref sk, .ref fl, .ref ps, .int 0, .int 0, .ref sh])), (tp, .inl (kB, 400, .inl (fun _ => 0))), (nw, .inr (1, [.ref nm, .ref nb, .int 0, .int 0, .int 0])), (dr, .inr (1, [.ref dm, .ref db, .int 0, .int 0, .int 0])), (rd, .inr (4, [.ref tp, .int 0, .int 0, .int 0, .int 0, .int 0])), (sc, .inr (5, [.ref nw, .ref ss, .int 0, .int (-1), .int 0, .int 0, .int 0, .int 0, .int 0])), (ps, .inl (kF, 10, .inr (.inr (.inr (.inr (fun _ => none)))))), (sh, .inl (kG, 2, .inr (.inr (.inr (.inr (fun _ => none)))))), (m0, .inr (7, [.ref mnw, .ref mhd, .ref mas, .ref mps, .ref msf, .ref mdt, .ref mhdd, .ref masd, .ref mpsd, .ref msfd, .ref mkp, .int 0, .ref mtp, .int 0, .int 0, .int 0, .int 0, .ref mld, .int 0, .ref mmd, .ref men, .ref mil, .ref mqu, .int 0, .int 0, .ref mbx])), (mnw, .inl (kI, 99, .inl (fun _ => 0))), (mhd, .inl (kI2, 99, .inl (fun _ => 0))), (mas, .inl (kI3, 99, .inl (fun _ => 0))), (mps, .inl (kI4, 990, .inl (fun _ => 0))), (msf, .inl (kI5, 198, .inl (fun _ => 0))), (mdt, .inl (kJ, 640, .inr (.inl (fun _ => 0)))), (mhdd, .inl (kJ2, 640, .inr (.inl (fun _ => 0)))), (masd, .inl (kJ3, 640, .inr (.inl (fun _ => 0)))), (mpsd, .inl (kJ4, 6400, .inr (.inl (fun _ => 0)))), (msfd, .inl (kJ5, 1280, .inr (.inl (fun _ => 0)))), (mkp, .inl (kZ, 2, .inl (fun _ => 0))), (mtp, .inl (kY, 400, .inl (fun _ => 0)))] H) (hD : va_D (fun q : Nat => s.heap.size ≤ q) [(x0, .inr (6, [.ref tp, .int 0, .ref nw, .ref dr, .ref rd, .ref sc, .ref sk, .ref fl, .ref ps, .int 0, .int 0, .ref sh])), (tp, .inl (kB, 400, .inl (fun _ => 0))), (nw, .inr (1, [.ref nm, .ref nb, .int 0, .int 0, .int 0])), (dr, .inr (1, [.ref dm, .ref db, .int 0, .int 0, .int 0])), (rd, .inr (4, [.ref tp, .int 0, .int 0, .int 0, .int 0, .int 0])), (sc, .inr (5, [.ref nw, .ref ss, .int 0, .int (-1), .int 0, .int 0, .int 0, .int 0, .int 0])), (ps, .inl (kF, 10, .inr (.inr (.inr (.inr (fun _ => none)))))), (sh, .inl (kG, 2, .inr (.inr (.inr (.inr (fun _ => none)))))), (m0, .inr (7, [.ref mnw, .ref mhd, .ref mas, .ref mps, .ref msf, .ref mdt, .ref mhdd, .ref masd, .ref mpsd, .ref msfd, .ref mkp, .int 0, .ref mtp, .int 0, .int 0, .int 0, .int 0, .ref mld, .int 0, .ref mmd, .ref men, .ref mil, .ref mqu, .int 0, .int 0, .ref mbx])), (mnw, .inl (kI, 99, .inl (fun _ => 0))), (mhd, .inl (kI2, 99, .inl (fun _ => 0))), (mas, .inl (kI3, 99, .inl (fun _ => 0))), (mps, .inl (kI4, 990, .inl (fun _ => 0))), (msf, .inl (kI5, 198, .inl (fun _ => 0))), (mdt, .inl (kJ, 640, .inr (.inl (fun _ => 0)))), (mhdd, .inl (kJ2, 640, .inr (.inl (fun _ => 0)))), (masd, .inl (kJ3, 640, .inr (.inl (fun _ => 0)))), (mpsd, .inl (kJ4, 6400, .inr (.inl (fun _ => 0)))), (msfd, .inl (kJ5, 1280, .inr (.inl (fun _ => 0)))), (mkp, .inl (kZ, 2, .inl (fun _ => 0))), (mtp, .inl (kY, 400, .inl (fun _ => 0)))]) (hS : va_S (fun q : Nat => s.heap.size ≤ q) s.heap H locs) (hl : lv_has ls 4 [(3, .int 0), (2, .ref m0), (1, .ref x0), (0, .ref b)]) : W p l e room_1 s m #[Value.ref b] below meth c H locs 110 27528 (lw_Z below #[Value.ref b] s) (F0 m 917 ls []) := by
  obtain ⟨hx, hb, hr, hml, hown, htl, hX, hbl, hlocks, hgv⟩ := id C0
  have hb : c.code = cL_law := hb
  have hown : s.vm.findClass RL = some m.cls := hown
  have hts : ∀ w ∈ pw, w.before #[Value.ref b] s = true := fun w h => htl w (pw_tbl h)
  have hN : xN s := xN_of htl
  have hA : ∀ q : Nat, s.heap.size ≤ q → (fun q : Nat => s.heap.size ≤ q) q := fun _ h => h
  have hbA : ¬ (fun q : Nat => s.heap.size ≤ q) b := Nat.not_le.mpr hbl
  refine lv_aload_n hx hb dL_law_917 rfl (lv_at hl 2 rfl) ?_
  refine lv_aload_n hx hb dL_law_918 rfl (lv_at hl 3 rfl) ?_
  refine lv_iload_n hx hb dL_law_919 rfl (lv_at hl 0 rfl) ?_
  refine lv_iconst (v := 1) hx hb dL_law_920 (by decide +kernel) ?_
  refine lv_iadd hx hb dL_law_921 ?_
  refine lv_topi (fun z1 ez1 => ?_)
  obtain rfl : z1 = 1 := ez1.trans (by decide +kernel)
  refine va_sld hx hb hX hbl hbA hS (in_d (by decide +kernel)) dL_law_922 ?_
  refine lv_aload_n hx hb dL_law_923 rfl (lv_at hl 3 rfl) ?_
  refine lv_iload_n hx hb dL_law_924 rfl (lv_at hl 0 rfl) ?_
  refine lv_iconst (v := 2) hx hb dL_law_925 (by decide +kernel) ?_
  refine lv_iadd hx hb dL_law_926 ?_
  refine lv_topi (fun z2 ez2 => ?_)
  obtain rfl : z2 = 2 := ez2.trans (by decide +kernel)
  refine va_sld hx hb hX hbl hbA hS (in_d (by decide +kernel)) dL_law_927 ?_
  refine lv_aload_n hx hb dL_law_928 rfl (lv_at hl 3 rfl) ?_
  refine lv_iload_n hx hb dL_law_929 rfl (lv_at hl 0 rfl) ?_
  refine lv_iconst (v := 3) hx hb dL_law_930 (by decide +kernel) ?_
  refine lv_iadd hx hb dL_law_931 ?_
  refine lv_topi (fun z3 ez3 => ?_)
  obtain rfl : z3 = 3 := ez3.trans (by decide +kernel)
  refine va_sld hx hb hX hbl hbA hS (in_d (by decide +kernel)) dL_law_932 ?_
  have hPc := hP.sub (ws' := [(x0, .inr (6, [.ref tp, .int 0, .ref nw, .ref dr, .ref rd, .ref sc, .ref sk, .ref fl, .ref ps, .int 0, .int 0, .ref sh])), (nw, .inr (1, [.ref nm, .ref nb, .int 0, .int 0, .int 0]))]) [0, 2] rfl
  have hDc := hD.sub (ws' := [(x0, .inr (6, [.ref tp, .int 0, .ref nw, .ref dr, .ref rd, .ref sc, .ref sk, .ref fl, .ref ps, .int 0, .int 0, .ref sh])), (nw, .inr (1, [.ref nm, .ref nb, .int 0, .int 0, .int 0]))]) [0, 2] (by decide) rfl
  have hKc := hK.sub (tys' := []) [] rfl
  refine ro_i (va_runV (As := [.int (xs (1 : Int32).toNatClampNeg), .int (xs (2 : Int32).toNatClampNeg), .int (xs (3 : Int32).toNatClampNeg)]) (rest := []) ⟨hx, hb, hml, hown, hts⟩ (c_X6_dot l dC dI x0 tp nw dr rd sc sk fl ps sh nm nb H.size (xs (1 : Int32).toNatClampNeg) (xs (2 : Int32).toNatClampNeg) (xs (3 : Int32).toNatClampNeg) ) (cwV 3 hts (gV pq878 pq879 pq880 pq74 pq881) rfl rfl rfl (by decide +kernel) ⟨(Nat.le_of_ble_eq_true rfl), (Nat.le_of_ble_eq_true rfl)⟩) (pc_V hPc hDc hKc hN (va_recv hK hP (ci := 6) (q0 := 0) rfl rfl)) rfl rfl hl.1 rfl (lv_room (Nat.le_of_ble_eq_true rfl)) dL_law_933 ⟨(Nat.le_of_ble_eq_true rfl), (Nat.le_of_ble_eq_true rfl)⟩) hS hP (fun r4 H locs hr4 hP hS => ?_)
  subst hr4
  refine lv_aload_n hx hb dL_law_936 rfl (lv_at hl 1 rfl) ?_
  refine lv_aload_n hx hb dL_law_937 rfl (lv_at hl 3 rfl) ?_
  refine lv_iload_n hx hb dL_law_938 rfl (lv_at hl 0 rfl) ?_
  refine lv_iconst (v := 1) hx hb dL_law_939 (by decide +kernel) ?_
  refine lv_iadd hx hb dL_law_940 ?_
  refine lv_topi (fun z5 ez5 => ?_)
  obtain rfl : z5 = 1 := ez5.trans (by decide +kernel)
  refine va_sld hx hb hX hbl hbA hS (in_d (by decide +kernel)) dL_law_941 ?_
  refine lv_aload_n hx hb dL_law_942 rfl (lv_at hl 3 rfl) ?_
  refine lv_iload_n hx hb dL_law_943 rfl (lv_at hl 0 rfl) ?_
  refine lv_iconst (v := 2) hx hb dL_law_944 (by decide +kernel) ?_
  refine lv_iadd hx hb dL_law_945 ?_
  refine lv_topi (fun z6 ez6 => ?_)
  obtain rfl : z6 = 2 := ez6.trans (by decide +kernel)
  refine va_sld hx hb hX hbl hbA hS (in_d (by decide +kernel)) dL_law_946 ?_
  refine lv_aload_n hx hb dL_law_947 rfl (lv_at hl 3 rfl) ?_
  refine lv_iload_n hx hb dL_law_948 rfl (lv_at hl 0 rfl) ?_
  refine lv_iconst (v := 3) hx hb dL_law_949 (by decide +kernel) ?_
  refine lv_iadd hx hb dL_law_950 ?_
  refine lv_topi (fun z7 ez7 => ?_)
  obtain rfl : z7 = 3 := ez7.trans (by decide +kernel)
  refine va_sld hx hb hX hbl hbA hS (in_d (by decide +kernel)) dL_law_951 ?_
  have hPc := hP.sub (ws' := [(m0, .inr (7, [.ref mnw, .ref mhd, .ref mas, .ref mps, .ref msf, .ref mdt, .ref mhdd, .ref masd, .ref mpsd, .ref msfd, .ref mkp, .int 0, .ref mtp, .int 0, .int 0, .int 0, .int 0, .ref mld, .int 0, .ref mmd, .ref men, .ref mil, .ref mqu, .int 0, .int 0, .ref mbx])), (mnw, .inl (kI, 99, .inl (fun _ => 0)))]) [8, 9] rfl
  have hDc := hD.sub (ws' := [(m0, .inr (7, [.ref mnw, .ref mhd, .ref mas, .ref mps, .ref msf, .ref mdt, .ref mhdd, .ref masd, .ref mpsd, .ref msfd, .ref mkp, .int 0, .ref mtp, .int 0, .int 0, .int 0, .int 0, .ref mld, .int 0, .ref mmd, .ref men, .ref mil, .ref mqu, .int 0, .int 0, .ref mbx])), (mnw, .inl (kI, 99, .inl (fun _ => 0)))]) [8, 9] (by decide) rfl
  have hKc := hK.sub (tys' := [(kI, .int)]) [3] rfl
  refine ro_i (va_runV (As := [.int (xs (1 : Int32).toNatClampNeg), .int (xs (2 : Int32).toNatClampNeg), .int (xs (3 : Int32).toNatClampNeg)]) (rest := [.int (-1)]) ⟨hx, hb, hml, hown, hts⟩ (c_X7_dot l dC dI m0 mnw mhd mas mps msf mdt mhdd masd mpsd msfd mkp mtp mld mmd men mil mqu mbx kI H.size (xs (1 : Int32).toNatClampNeg) (xs (2 : Int32).toNatClampNeg) (xs (3 : Int32).toNatClampNeg) ) (cwV 3 hts (gV pq1554 pq1555 pq1556 pq81 pq1557) rfl rfl rfl (by decide +kernel) ⟨(Nat.le_of_ble_eq_true rfl), (Nat.le_of_ble_eq_true rfl)⟩) (pc_V hPc hDc hKc hN (va_recv hK hP (ci := 7) (q0 := 8) rfl rfl)) rfl rfl hl.1 rfl (lv_room (Nat.le_of_ble_eq_true rfl)) dL_law_952 ⟨(Nat.le_of_ble_eq_true rfl), (Nat.le_of_ble_eq_true rfl)⟩) hS hP (fun r8 H locs hr8 hP hS => ?_)
  subst hr8
  refine lv_icmp_eq (tgt := 1950) hx hb dL_law_955 (by decide) (fun c9 => ?_) (fun c9 => absurd (by decide +kernel) c9)
  refine lv_iinc (v := 6) (lv' := [(3, .int 6), (2, .ref m0), (1, .ref x0), (0, .ref b)]) hx hb dL_law_1950 hl (k := 0) rfl (by decide +kernel) (by decide) rfl (fun ls hl => ?_)
  refine lv_goto (tgt := 18) hx hb dL_law_1953 (by decide) ?_
  refine lv_iload_n hx hb dL_law_18 rfl (lv_at hl 0 rfl) ?_
  refine lv_aload_n hx hb dL_law_19 rfl (lv_at hl 3 rfl) ?_
  refine va_slen hx hb hX hbl hbA hS dL_law_20 ?_
  refine lv_bipush (v := 6) hx hb dL_law_21 (by decide +kernel) ?_
  refine lv_isub hx hb dL_law_23 ?_
  refine lv_topi (fun z10 ez10 => ?_)
  obtain rfl : z10 = 0 := ez10.trans (by decide +kernel)
  refine lv_icmp_gt (tgt := 1956) hx hb dL_law_24 (by decide) (fun c11 => ?_) (fun c11 => absurd (by decide +kernel) c11)
  refine lv_iconst (v := 1) hx hb dL_law_1956 (by decide +kernel) ?_
  refine va_forget (fun q hq => hS.2.2 q hq) ?_
  refine W.widen (k := 600000) (n := 7302249) (Nat.le_of_ble_eq_true rfl) (Nat.le_of_ble_eq_true rfl) ?_
  refine W.base ?_
  exact lw_ret (Drawn.sameBut.refl s.drawn lw_cs) hx hb hr hlocks dL_law_1957
