theorem dL_law_743 : decode cL_law 743 = .ok (.aload_n 1, 1) := by decide +kernel
theorem dL_law_744 : decode cL_law 744 = .ok (.invokevirtual 70, 3) := by decide +kernel
theorem dL_law_747 : decode cL_law 747 = .ok (.pop, 1) := by decide +kernel
theorem dL_law_748 : decode cL_law 748 = .ok (.aload_n 2, 1) := by decide +kernel
theorem dL_law_749 : decode cL_law 749 = .ok (.invokevirtual 73, 3) := by decide +kernel
theorem dL_law_752 : decode cL_law 752 = .ok (.pop, 1) := by decide +kernel
theorem dL_law_753 : decode cL_law 753 = .ok (.goto 1194, 3) := by decide +kernel
theorem dL_law_756 : decode cL_law 756 = .ok (.aload_n 1, 1) := by decide +kernel
theorem dL_law_757 : decode cL_law 757 = .ok (.aload_n 0, 1) := by decide +kernel
theorem dL_law_758 : decode cL_law 758 = .ok (.iload_n 3, 1) := by decide +kernel
theorem dL_law_759 : decode cL_law 759 = .ok (.iconst 1, 1) := by decide +kernel
theorem dL_law_760 : decode cL_law 760 = .ok (.iadd, 1) := by decide +kernel
theorem dL_law_761 : decode cL_law 761 = .ok (.iaload, 1) := by decide +kernel
theorem dL_law_762 : decode cL_law 762 = .ok (.invokevirtual 74, 3) := by decide +kernel
theorem dL_law_765 : decode cL_law 765 = .ok (.pop, 1) := by decide +kernel
theorem dL_law_766 : decode cL_law 766 = .ok (.aload_n 2, 1) := by decide +kernel
theorem dL_law_767 : decode cL_law 767 = .ok (.aload_n 0, 1) := by decide +kernel
theorem dL_law_768 : decode cL_law 768 = .ok (.iload_n 3, 1) := by decide +kernel
theorem dL_law_769 : decode cL_law 769 = .ok (.iconst 1, 1) := by decide +kernel
theorem dL_law_770 : decode cL_law 770 = .ok (.iadd, 1) := by decide +kernel
theorem dL_law_771 : decode cL_law 771 = .ok (.iaload, 1) := by decide +kernel
theorem dL_law_772 : decode cL_law 772 = .ok (.invokevirtual 77, 3) := by decide +kernel
theorem dL_law_775 : decode cL_law 775 = .ok (.pop, 1) := by decide +kernel
theorem dL_law_776 : decode cL_law 776 = .ok (.goto 1171, 3) := by decide +kernel
theorem dL_law_779 : decode cL_law 779 = .ok (.aload_n 1, 1) := by decide +kernel
theorem dL_law_780 : decode cL_law 780 = .ok (.aload_n 0, 1) := by decide +kernel
theorem dL_law_781 : decode cL_law 781 = .ok (.iload_n 3, 1) := by decide +kernel
theorem dL_law_782 : decode cL_law 782 = .ok (.iconst 1, 1) := by decide +kernel
theorem dL_law_783 : decode cL_law 783 = .ok (.iadd, 1) := by decide +kernel
theorem dL_law_784 : decode cL_law 784 = .ok (.iaload, 1) := by decide +kernel
theorem dL_law_785 : decode cL_law 785 = .ok (.invokevirtual 78, 3) := by decide +kernel
theorem dL_law_788 : decode cL_law 788 = .ok (.pop, 1) := by decide +kernel
theorem dL_law_789 : decode cL_law 789 = .ok (.aload_n 2, 1) := by decide +kernel
theorem dL_law_790 : decode cL_law 790 = .ok (.aload_n 0, 1) := by decide +kernel
theorem dL_law_791 : decode cL_law 791 = .ok (.iload_n 3, 1) := by decide +kernel
theorem dL_law_792 : decode cL_law 792 = .ok (.iconst 1, 1) := by decide +kernel
theorem dL_law_793 : decode cL_law 793 = .ok (.iadd, 1) := by decide +kernel
theorem dL_law_794 : decode cL_law 794 = .ok (.iaload, 1) := by decide +kernel
theorem dL_law_795 : decode cL_law 795 = .ok (.invokevirtual 81, 3) := by decide +kernel
theorem dL_law_798 : decode cL_law 798 = .ok (.pop, 1) := by decide +kernel
theorem dL_law_799 : decode cL_law 799 = .ok (.goto 1148, 3) := by decide +kernel
theorem dL_law_802 : decode cL_law 802 = .ok (.aload_n 1, 1) := by decide +kernel
theorem dL_law_803 : decode cL_law 803 = .ok (.aload_n 0, 1) := by decide +kernel
theorem dL_law_804 : decode cL_law 804 = .ok (.iload_n 3, 1) := by decide +kernel
theorem dL_law_805 : decode cL_law 805 = .ok (.iconst 1, 1) := by decide +kernel
theorem dL_law_806 : decode cL_law 806 = .ok (.iadd, 1) := by decide +kernel
theorem dL_law_807 : decode cL_law 807 = .ok (.iaload, 1) := by decide +kernel
theorem dL_law_808 : decode cL_law 808 = .ok (.invokevirtual 82, 3) := by decide +kernel
theorem dL_law_811 : decode cL_law 811 = .ok (.pop, 1) := by decide +kernel
theorem dL_law_812 : decode cL_law 812 = .ok (.aload_n 2, 1) := by decide +kernel
theorem dL_law_813 : decode cL_law 813 = .ok (.aload_n 0, 1) := by decide +kernel
theorem dL_law_814 : decode cL_law 814 = .ok (.iload_n 3, 1) := by decide +kernel
theorem dL_law_815 : decode cL_law 815 = .ok (.iconst 1, 1) := by decide +kernel
theorem dL_law_816 : decode cL_law 816 = .ok (.iadd, 1) := by decide +kernel
theorem dL_law_817 : decode cL_law 817 = .ok (.iaload, 1) := by decide +kernel
theorem dL_law_818 : decode cL_law 818 = .ok (.invokevirtual 85, 3) := by decide +kernel
theorem dL_law_821 : decode cL_law 821 = .ok (.pop, 1) := by decide +kernel
theorem dL_law_822 : decode cL_law 822 = .ok (.goto 1125, 3) := by decide +kernel
theorem dL_law_825 : decode cL_law 825 = .ok (.aload_n 1, 1) := by decide +kernel
theorem dL_law_826 : decode cL_law 826 = .ok (.invokevirtual 86, 3) := by decide +kernel
theorem dL_law_829 : decode cL_law 829 = .ok (.pop, 1) := by decide +kernel
theorem dL_law_830 : decode cL_law 830 = .ok (.aload_n 2, 1) := by decide +kernel
theorem dL_law_831 : decode cL_law 831 = .ok (.invokevirtual 89, 3) := by decide +kernel
theorem dL_law_834 : decode cL_law 834 = .ok (.pop, 1) := by decide +kernel
theorem dL_law_835 : decode cL_law 835 = .ok (.goto 1112, 3) := by decide +kernel
theorem dL_law_838 : decode cL_law 838 = .ok (.aload_n 1, 1) := by decide +kernel
theorem dL_law_839 : decode cL_law 839 = .ok (.aload_n 0, 1) := by decide +kernel
theorem dL_law_840 : decode cL_law 840 = .ok (.iload_n 3, 1) := by decide +kernel
theorem dL_law_841 : decode cL_law 841 = .ok (.iconst 1, 1) := by decide +kernel
theorem dL_law_842 : decode cL_law 842 = .ok (.iadd, 1) := by decide +kernel
theorem dL_law_843 : decode cL_law 843 = .ok (.iaload, 1) := by decide +kernel
theorem dL_law_844 : decode cL_law 844 = .ok (.invokevirtual 90, 3) := by decide +kernel
theorem dL_law_847 : decode cL_law 847 = .ok (.pop, 1) := by decide +kernel
theorem dL_law_848 : decode cL_law 848 = .ok (.aload_n 2, 1) := by decide +kernel
theorem dL_law_849 : decode cL_law 849 = .ok (.aload_n 0, 1) := by decide +kernel
theorem dL_law_850 : decode cL_law 850 = .ok (.iload_n 3, 1) := by decide +kernel
theorem dL_law_851 : decode cL_law 851 = .ok (.iconst 1, 1) := by decide +kernel
theorem dL_law_852 : decode cL_law 852 = .ok (.iadd, 1) := by decide +kernel
theorem dL_law_853 : decode cL_law 853 = .ok (.iaload, 1) := by decide +kernel
theorem dL_law_854 : decode cL_law 854 = .ok (.invokevirtual 93, 3) := by decide +kernel
theorem dL_law_857 : decode cL_law 857 = .ok (.pop, 1) := by decide +kernel
theorem dL_law_858 : decode cL_law 858 = .ok (.goto 1089, 3) := by decide +kernel
theorem dL_law_861 : decode cL_law 861 = .ok (.aload_n 1, 1) := by decide +kernel
theorem dL_law_862 : decode cL_law 862 = .ok (.aload_n 0, 1) := by decide +kernel
theorem dL_law_863 : decode cL_law 863 = .ok (.iload_n 3, 1) := by decide +kernel
theorem dL_law_864 : decode cL_law 864 = .ok (.iconst 1, 1) := by decide +kernel
theorem dL_law_865 : decode cL_law 865 = .ok (.iadd, 1) := by decide +kernel
theorem dL_law_866 : decode cL_law 866 = .ok (.iaload, 1) := by decide +kernel
theorem dL_law_867 : decode cL_law 867 = .ok (.invokevirtual 94, 3) := by decide +kernel
theorem dL_law_870 : decode cL_law 870 = .ok (.pop, 1) := by decide +kernel
theorem dL_law_871 : decode cL_law 871 = .ok (.aload_n 2, 1) := by decide +kernel
theorem dL_law_872 : decode cL_law 872 = .ok (.aload_n 0, 1) := by decide +kernel
theorem dL_law_873 : decode cL_law 873 = .ok (.iload_n 3, 1) := by decide +kernel
theorem dL_law_874 : decode cL_law 874 = .ok (.iconst 1, 1) := by decide +kernel
theorem dL_law_875 : decode cL_law 875 = .ok (.iadd, 1) := by decide +kernel
theorem dL_law_876 : decode cL_law 876 = .ok (.iaload, 1) := by decide +kernel
theorem dL_law_877 : decode cL_law 877 = .ok (.invokevirtual 97, 3) := by decide +kernel
theorem dL_law_880 : decode cL_law 880 = .ok (.pop, 1) := by decide +kernel
theorem dL_law_881 : decode cL_law 881 = .ok (.goto 1066, 3) := by decide +kernel
theorem dL_law_884 : decode cL_law 884 = .ok (.aload_n 1, 1) := by decide +kernel
theorem dL_law_885 : decode cL_law 885 = .ok (.aload_n 0, 1) := by decide +kernel
theorem dL_law_886 : decode cL_law 886 = .ok (.iload_n 3, 1) := by decide +kernel
theorem dL_law_887 : decode cL_law 887 = .ok (.iconst 1, 1) := by decide +kernel
theorem dL_law_888 : decode cL_law 888 = .ok (.iadd, 1) := by decide +kernel
theorem dL_law_889 : decode cL_law 889 = .ok (.iaload, 1) := by decide +kernel
theorem dL_law_890 : decode cL_law 890 = .ok (.aload_n 0, 1) := by decide +kernel
theorem dL_law_891 : decode cL_law 891 = .ok (.iload_n 3, 1) := by decide +kernel
theorem dL_law_892 : decode cL_law 892 = .ok (.iconst 2, 1) := by decide +kernel
theorem dL_law_893 : decode cL_law 893 = .ok (.iadd, 1) := by decide +kernel
theorem dL_law_894 : decode cL_law 894 = .ok (.iaload, 1) := by decide +kernel
theorem dL_law_895 : decode cL_law 895 = .ok (.invokevirtual 98, 3) := by decide +kernel
theorem dL_law_898 : decode cL_law 898 = .ok (.pop, 1) := by decide +kernel
theorem dL_law_899 : decode cL_law 899 = .ok (.aload_n 2, 1) := by decide +kernel
theorem dL_law_900 : decode cL_law 900 = .ok (.aload_n 0, 1) := by decide +kernel
theorem dL_law_901 : decode cL_law 901 = .ok (.iload_n 3, 1) := by decide +kernel
theorem dL_law_902 : decode cL_law 902 = .ok (.iconst 1, 1) := by decide +kernel
theorem dL_law_903 : decode cL_law 903 = .ok (.iadd, 1) := by decide +kernel
theorem dL_law_904 : decode cL_law 904 = .ok (.iaload, 1) := by decide +kernel
theorem dL_law_905 : decode cL_law 905 = .ok (.aload_n 0, 1) := by decide +kernel
theorem dL_law_906 : decode cL_law 906 = .ok (.iload_n 3, 1) := by decide +kernel
theorem dL_law_907 : decode cL_law 907 = .ok (.iconst 2, 1) := by decide +kernel
theorem dL_law_908 : decode cL_law 908 = .ok (.iadd, 1) := by decide +kernel
theorem dL_law_909 : decode cL_law 909 = .ok (.iaload, 1) := by decide +kernel
theorem dL_law_910 : decode cL_law 910 = .ok (.invokevirtual 101, 3) := by decide +kernel
theorem dL_law_913 : decode cL_law 913 = .ok (.pop, 1) := by decide +kernel
theorem dL_law_914 : decode cL_law 914 = .ok (.goto 1033, 3) := by decide +kernel
theorem dL_law_917 : decode cL_law 917 = .ok (.aload_n 1, 1) := by decide +kernel
theorem dL_law_918 : decode cL_law 918 = .ok (.aload_n 0, 1) := by decide +kernel
theorem dL_law_919 : decode cL_law 919 = .ok (.iload_n 3, 1) := by decide +kernel
theorem dL_law_920 : decode cL_law 920 = .ok (.iconst 1, 1) := by decide +kernel
theorem dL_law_921 : decode cL_law 921 = .ok (.iadd, 1) := by decide +kernel
theorem dL_law_922 : decode cL_law 922 = .ok (.iaload, 1) := by decide +kernel
theorem dL_law_923 : decode cL_law 923 = .ok (.aload_n 0, 1) := by decide +kernel
theorem dL_law_924 : decode cL_law 924 = .ok (.iload_n 3, 1) := by decide +kernel
theorem dL_law_925 : decode cL_law 925 = .ok (.iconst 2, 1) := by decide +kernel
theorem dL_law_926 : decode cL_law 926 = .ok (.iadd, 1) := by decide +kernel
theorem dL_law_927 : decode cL_law 927 = .ok (.iaload, 1) := by decide +kernel
theorem dL_law_928 : decode cL_law 928 = .ok (.aload_n 0, 1) := by decide +kernel
theorem dL_law_929 : decode cL_law 929 = .ok (.iload_n 3, 1) := by decide +kernel
theorem dL_law_930 : decode cL_law 930 = .ok (.iconst 3, 1) := by decide +kernel
theorem dL_law_931 : decode cL_law 931 = .ok (.iadd, 1) := by decide +kernel
theorem dL_law_932 : decode cL_law 932 = .ok (.iaload, 1) := by decide +kernel
theorem dL_law_933 : decode cL_law 933 = .ok (.invokevirtual 102, 3) := by decide +kernel
theorem dL_law_936 : decode cL_law 936 = .ok (.pop, 1) := by decide +kernel
theorem dL_law_937 : decode cL_law 937 = .ok (.aload_n 2, 1) := by decide +kernel
theorem dL_law_938 : decode cL_law 938 = .ok (.aload_n 0, 1) := by decide +kernel
theorem dL_law_939 : decode cL_law 939 = .ok (.iload_n 3, 1) := by decide +kernel
theorem dL_law_940 : decode cL_law 940 = .ok (.iconst 1, 1) := by decide +kernel
theorem dL_law_941 : decode cL_law 941 = .ok (.iadd, 1) := by decide +kernel
theorem dL_law_942 : decode cL_law 942 = .ok (.iaload, 1) := by decide +kernel
theorem dL_law_943 : decode cL_law 943 = .ok (.aload_n 0, 1) := by decide +kernel
theorem dL_law_944 : decode cL_law 944 = .ok (.iload_n 3, 1) := by decide +kernel
theorem dL_law_945 : decode cL_law 945 = .ok (.iconst 2, 1) := by decide +kernel
theorem dL_law_946 : decode cL_law 946 = .ok (.iadd, 1) := by decide +kernel
theorem dL_law_947 : decode cL_law 947 = .ok (.iaload, 1) := by decide +kernel
theorem dL_law_948 : decode cL_law 948 = .ok (.aload_n 0, 1) := by decide +kernel
theorem dL_law_949 : decode cL_law 949 = .ok (.iload_n 3, 1) := by decide +kernel
theorem dL_law_950 : decode cL_law 950 = .ok (.iconst 3, 1) := by decide +kernel
theorem dL_law_951 : decode cL_law 951 = .ok (.iadd, 1) := by decide +kernel
theorem dL_law_952 : decode cL_law 952 = .ok (.iaload, 1) := by decide +kernel
theorem dL_law_953 : decode cL_law 953 = .ok (.invokevirtual 105, 3) := by decide +kernel
theorem dL_law_956 : decode cL_law 956 = .ok (.pop, 1) := by decide +kernel
theorem dL_law_957 : decode cL_law 957 = .ok (.goto 990, 3) := by decide +kernel
theorem dL_law_960 : decode cL_law 960 = .ok (.aload_n 1, 1) := by decide +kernel
theorem dL_law_961 : decode cL_law 961 = .ok (.aload_n 0, 1) := by decide +kernel
theorem dL_law_962 : decode cL_law 962 = .ok (.iload_n 3, 1) := by decide +kernel
theorem dL_law_963 : decode cL_law 963 = .ok (.iconst 1, 1) := by decide +kernel
theorem dL_law_964 : decode cL_law 964 = .ok (.iadd, 1) := by decide +kernel
theorem dL_law_965 : decode cL_law 965 = .ok (.iaload, 1) := by decide +kernel
theorem dL_law_966 : decode cL_law 966 = .ok (.aload_n 0, 1) := by decide +kernel
theorem dL_law_967 : decode cL_law 967 = .ok (.iload_n 3, 1) := by decide +kernel
theorem dL_law_968 : decode cL_law 968 = .ok (.iconst 2, 1) := by decide +kernel
theorem dL_law_969 : decode cL_law 969 = .ok (.iadd, 1) := by decide +kernel
theorem dL_law_970 : decode cL_law 970 = .ok (.iaload, 1) := by decide +kernel
theorem dL_law_971 : decode cL_law 971 = .ok (.aload_n 0, 1) := by decide +kernel
theorem dL_law_972 : decode cL_law 972 = .ok (.iload_n 3, 1) := by decide +kernel
theorem dL_law_973 : decode cL_law 973 = .ok (.iconst 3, 1) := by decide +kernel
theorem dL_law_974 : decode cL_law 974 = .ok (.iadd, 1) := by decide +kernel
theorem dL_law_975 : decode cL_law 975 = .ok (.iaload, 1) := by decide +kernel
theorem dL_law_976 : decode cL_law 976 = .ok (.invokevirtual 106, 3) := by decide +kernel
theorem dL_law_979 : decode cL_law 979 = .ok (.pop2, 1) := by decide +kernel
theorem dL_law_980 : decode cL_law 980 = .ok (.aload_n 2, 1) := by decide +kernel
theorem dL_law_981 : decode cL_law 981 = .ok (.aload_n 0, 1) := by decide +kernel
theorem dL_law_982 : decode cL_law 982 = .ok (.iload_n 3, 1) := by decide +kernel
theorem dL_law_983 : decode cL_law 983 = .ok (.iconst 1, 1) := by decide +kernel
theorem dL_law_984 : decode cL_law 984 = .ok (.iadd, 1) := by decide +kernel
theorem dL_law_985 : decode cL_law 985 = .ok (.iaload, 1) := by decide +kernel
theorem dL_law_986 : decode cL_law 986 = .ok (.aload_n 0, 1) := by decide +kernel
theorem dL_law_987 : decode cL_law 987 = .ok (.iload_n 3, 1) := by decide +kernel
theorem dL_law_988 : decode cL_law 988 = .ok (.iconst 2, 1) := by decide +kernel
theorem dL_law_989 : decode cL_law 989 = .ok (.iadd, 1) := by decide +kernel
theorem dL_law_990 : decode cL_law 990 = .ok (.iaload, 1) := by decide +kernel
theorem dL_law_991 : decode cL_law 991 = .ok (.aload_n 0, 1) := by decide +kernel
theorem dL_law_992 : decode cL_law 992 = .ok (.iload_n 3, 1) := by decide +kernel
theorem dL_law_993 : decode cL_law 993 = .ok (.iconst 3, 1) := by decide +kernel
theorem dL_law_994 : decode cL_law 994 = .ok (.iadd, 1) := by decide +kernel
theorem dL_law_995 : decode cL_law 995 = .ok (.iaload, 1) := by decide +kernel
theorem dL_law_996 : decode cL_law 996 = .ok (.invokevirtual 110, 3) := by decide +kernel
theorem dL_law_999 : decode cL_law 999 = .ok (.pop2, 1) := by decide +kernel
theorem dL_law_1000 : decode cL_law 1000 = .ok (.goto 947, 3) := by decide +kernel
theorem dL_law_1003 : decode cL_law 1003 = .ok (.aload_n 1, 1) := by decide +kernel
theorem dL_law_1004 : decode cL_law 1004 = .ok (.aload_n 0, 1) := by decide +kernel
theorem dL_law_1005 : decode cL_law 1005 = .ok (.iload_n 3, 1) := by decide +kernel
theorem dL_law_1006 : decode cL_law 1006 = .ok (.iconst 1, 1) := by decide +kernel
theorem dL_law_1007 : decode cL_law 1007 = .ok (.iadd, 1) := by decide +kernel
theorem dL_law_1008 : decode cL_law 1008 = .ok (.iaload, 1) := by decide +kernel
theorem dL_law_1009 : decode cL_law 1009 = .ok (.aload_n 0, 1) := by decide +kernel
theorem dL_law_1010 : decode cL_law 1010 = .ok (.iload_n 3, 1) := by decide +kernel
theorem dL_law_1011 : decode cL_law 1011 = .ok (.iconst 2, 1) := by decide +kernel
theorem dL_law_1012 : decode cL_law 1012 = .ok (.iadd, 1) := by decide +kernel
theorem dL_law_1013 : decode cL_law 1013 = .ok (.iaload, 1) := by decide +kernel
theorem dL_law_1014 : decode cL_law 1014 = .ok (.invokevirtual 111, 3) := by decide +kernel
theorem dL_law_1017 : decode cL_law 1017 = .ok (.pop, 1) := by decide +kernel
theorem dL_law_1018 : decode cL_law 1018 = .ok (.aload_n 2, 1) := by decide +kernel
theorem dL_law_1019 : decode cL_law 1019 = .ok (.aload_n 0, 1) := by decide +kernel
theorem dL_law_1020 : decode cL_law 1020 = .ok (.iload_n 3, 1) := by decide +kernel
theorem dL_law_1021 : decode cL_law 1021 = .ok (.iconst 1, 1) := by decide +kernel
theorem dL_law_1022 : decode cL_law 1022 = .ok (.iadd, 1) := by decide +kernel
theorem dL_law_1023 : decode cL_law 1023 = .ok (.iaload, 1) := by decide +kernel
theorem dL_law_1024 : decode cL_law 1024 = .ok (.aload_n 0, 1) := by decide +kernel
theorem dL_law_1025 : decode cL_law 1025 = .ok (.iload_n 3, 1) := by decide +kernel
theorem dL_law_1026 : decode cL_law 1026 = .ok (.iconst 2, 1) := by decide +kernel
theorem dL_law_1027 : decode cL_law 1027 = .ok (.iadd, 1) := by decide +kernel
theorem dL_law_1028 : decode cL_law 1028 = .ok (.iaload, 1) := by decide +kernel
theorem dL_law_1029 : decode cL_law 1029 = .ok (.invokevirtual 114, 3) := by decide +kernel
theorem dL_law_1032 : decode cL_law 1032 = .ok (.pop, 1) := by decide +kernel
theorem dL_law_1033 : decode cL_law 1033 = .ok (.goto 914, 3) := by decide +kernel
theorem dL_law_1036 : decode cL_law 1036 = .ok (.aload_n 1, 1) := by decide +kernel
theorem dL_law_1037 : decode cL_law 1037 = .ok (.aload_n 0, 1) := by decide +kernel
theorem dL_law_1038 : decode cL_law 1038 = .ok (.iload_n 3, 1) := by decide +kernel
theorem dL_law_1039 : decode cL_law 1039 = .ok (.iconst 1, 1) := by decide +kernel
theorem dL_law_1040 : decode cL_law 1040 = .ok (.iadd, 1) := by decide +kernel
theorem dL_law_1041 : decode cL_law 1041 = .ok (.iaload, 1) := by decide +kernel
theorem dL_law_1042 : decode cL_law 1042 = .ok (.aload_n 0, 1) := by decide +kernel
theorem dL_law_1043 : decode cL_law 1043 = .ok (.iload_n 3, 1) := by decide +kernel
theorem dL_law_1044 : decode cL_law 1044 = .ok (.iconst 2, 1) := by decide +kernel
theorem dL_law_1045 : decode cL_law 1045 = .ok (.iadd, 1) := by decide +kernel
theorem dL_law_1046 : decode cL_law 1046 = .ok (.iaload, 1) := by decide +kernel
theorem dL_law_1047 : decode cL_law 1047 = .ok (.invokevirtual 115, 3) := by decide +kernel
theorem dL_law_1050 : decode cL_law 1050 = .ok (.pop, 1) := by decide +kernel
theorem dL_law_1051 : decode cL_law 1051 = .ok (.aload_n 2, 1) := by decide +kernel
theorem dL_law_1052 : decode cL_law 1052 = .ok (.aload_n 0, 1) := by decide +kernel
theorem dL_law_1053 : decode cL_law 1053 = .ok (.iload_n 3, 1) := by decide +kernel
theorem dL_law_1054 : decode cL_law 1054 = .ok (.iconst 1, 1) := by decide +kernel
theorem dL_law_1055 : decode cL_law 1055 = .ok (.iadd, 1) := by decide +kernel
theorem dL_law_1056 : decode cL_law 1056 = .ok (.iaload, 1) := by decide +kernel
theorem dL_law_1057 : decode cL_law 1057 = .ok (.aload_n 0, 1) := by decide +kernel
theorem dL_law_1058 : decode cL_law 1058 = .ok (.iload_n 3, 1) := by decide +kernel
theorem dL_law_1059 : decode cL_law 1059 = .ok (.iconst 2, 1) := by decide +kernel
theorem dL_law_1060 : decode cL_law 1060 = .ok (.iadd, 1) := by decide +kernel
theorem dL_law_1061 : decode cL_law 1061 = .ok (.iaload, 1) := by decide +kernel
theorem dL_law_1062 : decode cL_law 1062 = .ok (.invokevirtual 118, 3) := by decide +kernel
theorem dL_law_1065 : decode cL_law 1065 = .ok (.pop, 1) := by decide +kernel
theorem dL_law_1066 : decode cL_law 1066 = .ok (.goto 881, 3) := by decide +kernel
set_option maxRecDepth 100000 in
theorem pq711 : Cond.methodLink RL 74 yX6_crop ∈ pw := pw_mem (i := 711) (by decide +kernel) rfl
set_option maxRecDepth 100000 in
theorem pq712 : Cond.instanceMethod yX6_crop ∈ pw := pw_mem (i := 712) (by decide +kernel) rfl
set_option maxRecDepth 100000 in
theorem pq713 : Cond.selects RX6 yX6_crop yX6_crop ∈ pw := pw_mem (i := 713) (by decide +kernel) rfl
set_option maxRecDepth 100000 in
theorem pq714 : Cond.code yX6_crop cX6_crop 5 (some .int) ∈ pw := pw_mem (i := 714) (by rfl) rfl
set_option maxRecDepth 100000 in
theorem pq725 : Cond.methodLink RL 78 yX6_quarter ∈ pw := pw_mem (i := 725) (by decide +kernel) rfl
set_option maxRecDepth 100000 in
theorem pq726 : Cond.instanceMethod yX6_quarter ∈ pw := pw_mem (i := 726) (by decide +kernel) rfl
set_option maxRecDepth 100000 in
theorem pq727 : Cond.selects RX6 yX6_quarter yX6_quarter ∈ pw := pw_mem (i := 727) (by decide +kernel) rfl
set_option maxRecDepth 100000 in
theorem pq728 : Cond.code yX6_quarter cX6_quarter 2 (some .int) ∈ pw := pw_mem (i := 728) (by rfl) rfl
set_option maxRecDepth 100000 in
theorem pq821 : Cond.methodLink RL 70 yX6_falls ∈ pw := pw_mem (i := 821) (by decide +kernel) rfl
set_option maxRecDepth 100000 in
theorem pq822 : Cond.instanceMethod yX6_falls ∈ pw := pw_mem (i := 822) (by decide +kernel) rfl
set_option maxRecDepth 100000 in
theorem pq823 : Cond.selects RX6 yX6_falls yX6_falls ∈ pw := pw_mem (i := 823) (by decide +kernel) rfl
set_option maxRecDepth 100000 in
theorem pq824 : Cond.code yX6_falls cX6_falls 6 (some .int) ∈ pw := pw_mem (i := 824) (by rfl) rfl
set_option maxRecDepth 100000 in
theorem pq825 : Cond.methodLink RL 82 yX6_ticks ∈ pw := pw_mem (i := 825) (by decide +kernel) rfl
set_option maxRecDepth 100000 in
theorem pq826 : Cond.instanceMethod yX6_ticks ∈ pw := pw_mem (i := 826) (by decide +kernel) rfl
set_option maxRecDepth 100000 in
theorem pq827 : Cond.selects RX6 yX6_ticks yX6_ticks ∈ pw := pw_mem (i := 827) (by decide +kernel) rfl
set_option maxRecDepth 100000 in
theorem pq828 : Cond.code yX6_ticks cX6_ticks 5 (some .int) ∈ pw := pw_mem (i := 828) (by rfl) rfl
set_option maxRecDepth 100000 in
theorem pq833 : Cond.methodLink RL 86 yX6_undo ∈ pw := pw_mem (i := 833) (by decide +kernel) rfl
set_option maxRecDepth 100000 in
theorem pq834 : Cond.instanceMethod yX6_undo ∈ pw := pw_mem (i := 834) (by decide +kernel) rfl
set_option maxRecDepth 100000 in
theorem pq835 : Cond.selects RX6 yX6_undo yX6_undo ∈ pw := pw_mem (i := 835) (by decide +kernel) rfl
set_option maxRecDepth 100000 in
theorem pq836 : Cond.code yX6_undo cX6_undo 2 (some .int) ∈ pw := pw_mem (i := 836) (by rfl) rfl
set_option maxRecDepth 100000 in
theorem pq837 : Cond.methodLink RL 90 yX6_keep ∈ pw := pw_mem (i := 837) (by decide +kernel) rfl
set_option maxRecDepth 100000 in
theorem pq838 : Cond.instanceMethod yX6_keep ∈ pw := pw_mem (i := 838) (by decide +kernel) rfl
set_option maxRecDepth 100000 in
theorem pq839 : Cond.selects RX6 yX6_keep yX6_keep ∈ pw := pw_mem (i := 839) (by decide +kernel) rfl
set_option maxRecDepth 100000 in
theorem pq840 : Cond.code yX6_keep cX6_keep 3 (some .int) ∈ pw := pw_mem (i := 840) (by rfl) rfl
set_option maxRecDepth 100000 in
theorem pq841 : Cond.methodLink RL 94 yX6_back ∈ pw := pw_mem (i := 841) (by decide +kernel) rfl
set_option maxRecDepth 100000 in
theorem pq842 : Cond.instanceMethod yX6_back ∈ pw := pw_mem (i := 842) (by decide +kernel) rfl
set_option maxRecDepth 100000 in
theorem pq843 : Cond.selects RX6 yX6_back yX6_back ∈ pw := pw_mem (i := 843) (by decide +kernel) rfl
set_option maxRecDepth 100000 in
theorem pq844 : Cond.code yX6_back cX6_back 3 (some .int) ∈ pw := pw_mem (i := 844) (by rfl) rfl
set_option maxRecDepth 100000 in
theorem pq845 : Cond.methodLink RL 98 yX6_mask ∈ pw := pw_mem (i := 845) (by decide +kernel) rfl
set_option maxRecDepth 100000 in
theorem pq846 : Cond.instanceMethod yX6_mask ∈ pw := pw_mem (i := 846) (by decide +kernel) rfl
set_option maxRecDepth 100000 in
theorem pq847 : Cond.selects RX6 yX6_mask yX6_mask ∈ pw := pw_mem (i := 847) (by decide +kernel) rfl
set_option maxRecDepth 100000 in
theorem pq848 : Cond.code yX6_mask cX6_mask 4 (some .int) ∈ pw := pw_mem (i := 848) (by rfl) rfl
set_option maxRecDepth 100000 in
theorem pq878 : Cond.methodLink RL 102 yX6_dot ∈ pw := pw_mem (i := 878) (by decide +kernel) rfl
set_option maxRecDepth 100000 in
theorem pq879 : Cond.instanceMethod yX6_dot ∈ pw := pw_mem (i := 879) (by decide +kernel) rfl
set_option maxRecDepth 100000 in
theorem pq880 : Cond.selects RX6 yX6_dot yX6_dot ∈ pw := pw_mem (i := 880) (by decide +kernel) rfl
set_option maxRecDepth 100000 in
theorem pq881 : Cond.code yX6_dot cX6_dot 4 (some .int) ∈ pw := pw_mem (i := 881) (by rfl) rfl
set_option maxRecDepth 100000 in
theorem pq882 : Cond.methodLink RL 106 yX6_row ∈ pw := pw_mem (i := 882) (by decide +kernel) rfl
set_option maxRecDepth 100000 in
theorem pq883 : Cond.instanceMethod yX6_row ∈ pw := pw_mem (i := 883) (by decide +kernel) rfl
set_option maxRecDepth 100000 in
theorem pq884 : Cond.selects RX6 yX6_row yX6_row ∈ pw := pw_mem (i := 884) (by decide +kernel) rfl
set_option maxRecDepth 100000 in
theorem pq885 : Cond.code yX6_row cX6_row 4 (some .long) ∈ pw := pw_mem (i := 885) (by rfl) rfl
set_option maxRecDepth 100000 in
theorem pq958 : Cond.methodLink RL 111 yX6_body ∈ pw := pw_mem (i := 958) (by decide +kernel) rfl
set_option maxRecDepth 100000 in
theorem pq959 : Cond.instanceMethod yX6_body ∈ pw := pw_mem (i := 959) (by decide +kernel) rfl
set_option maxRecDepth 100000 in
theorem pq960 : Cond.selects RX6 yX6_body yX6_body ∈ pw := pw_mem (i := 960) (by decide +kernel) rfl
set_option maxRecDepth 100000 in
theorem pq961 : Cond.code yX6_body cX6_body 3 (some .int) ∈ pw := pw_mem (i := 961) (by rfl) rfl
set_option maxRecDepth 100000 in
theorem pq966 : Cond.methodLink RL 115 yX6_common ∈ pw := pw_mem (i := 966) (by decide +kernel) rfl
set_option maxRecDepth 100000 in
theorem pq967 : Cond.instanceMethod yX6_common ∈ pw := pw_mem (i := 967) (by decide +kernel) rfl
set_option maxRecDepth 100000 in
theorem pq968 : Cond.selects RX6 yX6_common yX6_common ∈ pw := pw_mem (i := 968) (by decide +kernel) rfl
set_option maxRecDepth 100000 in
theorem pq969 : Cond.code yX6_common cX6_common 3 (some .int) ∈ pw := pw_mem (i := 969) (by rfl) rfl
set_option maxRecDepth 100000 in
theorem pq1294 : Cond.methodLink RL 89 yX7_undo ∈ pw := pw_mem (i := 1294) (by decide +kernel) rfl
set_option maxRecDepth 100000 in
theorem pq1295 : Cond.instanceMethod yX7_undo ∈ pw := pw_mem (i := 1295) (by decide +kernel) rfl
set_option maxRecDepth 100000 in
theorem pq1296 : Cond.selects RX7 yX7_undo yX7_undo ∈ pw := pw_mem (i := 1296) (by decide +kernel) rfl
set_option maxRecDepth 100000 in
theorem pq1297 : Cond.code yX7_undo cX7_undo 1 (some .int) ∈ pw := pw_mem (i := 1297) (by rfl) rfl
set_option maxRecDepth 100000 in
theorem pq1298 : Cond.methodLink RL 93 yX7_keep ∈ pw := pw_mem (i := 1298) (by decide +kernel) rfl
set_option maxRecDepth 100000 in
theorem pq1299 : Cond.instanceMethod yX7_keep ∈ pw := pw_mem (i := 1299) (by decide +kernel) rfl
set_option maxRecDepth 100000 in
theorem pq1300 : Cond.selects RX7 yX7_keep yX7_keep ∈ pw := pw_mem (i := 1300) (by decide +kernel) rfl
set_option maxRecDepth 100000 in
theorem pq1301 : Cond.code yX7_keep cX7_keep 2 (some .int) ∈ pw := pw_mem (i := 1301) (by rfl) rfl
set_option maxRecDepth 100000 in
theorem pq1302 : Cond.methodLink RL 97 yX7_back ∈ pw := pw_mem (i := 1302) (by decide +kernel) rfl
set_option maxRecDepth 100000 in
theorem pq1303 : Cond.instanceMethod yX7_back ∈ pw := pw_mem (i := 1303) (by decide +kernel) rfl
set_option maxRecDepth 100000 in
theorem pq1304 : Cond.selects RX7 yX7_back yX7_back ∈ pw := pw_mem (i := 1304) (by decide +kernel) rfl
set_option maxRecDepth 100000 in
theorem pq1305 : Cond.code yX7_back cX7_back 2 (some .int) ∈ pw := pw_mem (i := 1305) (by rfl) rfl
set_option maxRecDepth 100000 in
theorem pq1494 : Cond.methodLink RL 73 yX7_falls ∈ pw := pw_mem (i := 1494) (by decide +kernel) rfl
set_option maxRecDepth 100000 in
theorem pq1495 : Cond.instanceMethod yX7_falls ∈ pw := pw_mem (i := 1495) (by decide +kernel) rfl
set_option maxRecDepth 100000 in
theorem pq1496 : Cond.selects RX7 yX7_falls yX7_falls ∈ pw := pw_mem (i := 1496) (by decide +kernel) rfl
set_option maxRecDepth 100000 in
theorem pq1497 : Cond.code yX7_falls cX7_falls 4 (some .int) ∈ pw := pw_mem (i := 1497) (by rfl) rfl
set_option maxRecDepth 100000 in
theorem pq1502 : Cond.methodLink RL 77 yX7_crop ∈ pw := pw_mem (i := 1502) (by decide +kernel) rfl
set_option maxRecDepth 100000 in
theorem pq1503 : Cond.instanceMethod yX7_crop ∈ pw := pw_mem (i := 1503) (by decide +kernel) rfl
set_option maxRecDepth 100000 in
theorem pq1504 : Cond.selects RX7 yX7_crop yX7_crop ∈ pw := pw_mem (i := 1504) (by decide +kernel) rfl
set_option maxRecDepth 100000 in
theorem pq1505 : Cond.code yX7_crop cX7_crop 4 (some .int) ∈ pw := pw_mem (i := 1505) (by rfl) rfl
set_option maxRecDepth 100000 in
theorem pq1518 : Cond.methodLink RL 81 yX7_quarter ∈ pw := pw_mem (i := 1518) (by decide +kernel) rfl
set_option maxRecDepth 100000 in
theorem pq1519 : Cond.instanceMethod yX7_quarter ∈ pw := pw_mem (i := 1519) (by decide +kernel) rfl
set_option maxRecDepth 100000 in
theorem pq1520 : Cond.selects RX7 yX7_quarter yX7_quarter ∈ pw := pw_mem (i := 1520) (by decide +kernel) rfl
set_option maxRecDepth 100000 in
theorem pq1521 : Cond.code yX7_quarter cX7_quarter 4 (some .int) ∈ pw := pw_mem (i := 1521) (by rfl) rfl
set_option maxRecDepth 100000 in
theorem pq1522 : Cond.methodLink RL 85 yX7_ticks ∈ pw := pw_mem (i := 1522) (by decide +kernel) rfl
set_option maxRecDepth 100000 in
theorem pq1523 : Cond.instanceMethod yX7_ticks ∈ pw := pw_mem (i := 1523) (by decide +kernel) rfl
set_option maxRecDepth 100000 in
theorem pq1524 : Cond.selects RX7 yX7_ticks yX7_ticks ∈ pw := pw_mem (i := 1524) (by decide +kernel) rfl
set_option maxRecDepth 100000 in
theorem pq1525 : Cond.code yX7_ticks cX7_ticks 7 (some .int) ∈ pw := pw_mem (i := 1525) (by rfl) rfl
set_option maxRecDepth 100000 in
theorem pq1526 : Cond.methodLink RL 101 yX7_mask ∈ pw := pw_mem (i := 1526) (by decide +kernel) rfl
set_option maxRecDepth 100000 in
theorem pq1527 : Cond.instanceMethod yX7_mask ∈ pw := pw_mem (i := 1527) (by decide +kernel) rfl
set_option maxRecDepth 100000 in
theorem pq1528 : Cond.selects RX7 yX7_mask yX7_mask ∈ pw := pw_mem (i := 1528) (by decide +kernel) rfl
set_option maxRecDepth 100000 in
theorem pq1529 : Cond.code yX7_mask cX7_mask 3 (some .int) ∈ pw := pw_mem (i := 1529) (by rfl) rfl
set_option maxRecDepth 100000 in
theorem pq1554 : Cond.methodLink RL 105 yX7_dot ∈ pw := pw_mem (i := 1554) (by decide +kernel) rfl
set_option maxRecDepth 100000 in
theorem pq1555 : Cond.instanceMethod yX7_dot ∈ pw := pw_mem (i := 1555) (by decide +kernel) rfl
set_option maxRecDepth 100000 in
theorem pq1556 : Cond.selects RX7 yX7_dot yX7_dot ∈ pw := pw_mem (i := 1556) (by decide +kernel) rfl
set_option maxRecDepth 100000 in
theorem pq1557 : Cond.code yX7_dot cX7_dot 4 (some .int) ∈ pw := pw_mem (i := 1557) (by rfl) rfl
set_option maxRecDepth 100000 in
theorem pq1558 : Cond.methodLink RL 110 yX7_row ∈ pw := pw_mem (i := 1558) (by decide +kernel) rfl
set_option maxRecDepth 100000 in
theorem pq1562 : Cond.methodLink RL 114 yX7_body ∈ pw := pw_mem (i := 1562) (by decide +kernel) rfl
set_option maxRecDepth 100000 in
theorem pq1563 : Cond.instanceMethod yX7_body ∈ pw := pw_mem (i := 1563) (by decide +kernel) rfl
set_option maxRecDepth 100000 in
theorem pq1564 : Cond.selects RX7 yX7_body yX7_body ∈ pw := pw_mem (i := 1564) (by decide +kernel) rfl
set_option maxRecDepth 100000 in
theorem pq1565 : Cond.code yX7_body cX7_body 3 (some .int) ∈ pw := pw_mem (i := 1565) (by rfl) rfl
set_option maxRecDepth 100000 in
theorem pq1567 : Cond.methodLink RL 118 yX7_common ∈ pw := pw_mem (i := 1567) (by decide +kernel) rfl
set_option maxRecDepth 100000 in
theorem pq1568 : Cond.instanceMethod yX7_common ∈ pw := pw_mem (i := 1568) (by decide +kernel) rfl
set_option maxRecDepth 100000 in
theorem pq1569 : Cond.selects RX7 yX7_common yX7_common ∈ pw := pw_mem (i := 1569) (by decide +kernel) rfl
set_option maxRecDepth 100000 in
theorem pq1570 : Cond.code yX7_common cX7_common 3 (some .int) ∈ pw := pw_mem (i := 1570) (by rfl) rfl
set_option maxHeartbeats 4000000 in
set_option maxRecDepth 100000 in
theorem s_lwcase13 {p : Program} {e : Env} {s : State} {m : MethodId} {below : List Frame} {meth : Method} {c : Code} (l : Launch) {b Ln : Nat} {xs : Nat → Int32} {dC : Nat → ClassId} {dI : Nat → Nat → Nat} {cs : Nat → ClassId} {x0 m0 : Nat} (C0 : lw_At p s m meth c b Ln xs) (hLn : Ln ≤ 3072) (hK : va_K (dC, dI) vwCl (tysA cs) s) (hXs : xS (fun q : Nat => s.heap.size ≤ q) s s.heap) (i : Int32) (n : Nat) (hn : n < 512) (hi : i.toInt = 6 * (n : Int)) (hiL : i.toInt + 5 < (Ln : Int)) {d0 : Drawn} {H : Heap} {lo : List Loc} {ls : Array Slot} {nc ns : Nat} (h : lwI dC dI cs x0 m0 b s i n d0 H lo ls nc ns) (kk : ∀ (d0 : Drawn) (H : Heap) (lo : List Loc) (ls : Array Slot) (nc ns : Nat), lwI dC dI cs x0 m0 b s i (n + 1) d0 H lo ls nc ns → W p l e room_1 (s.setDrawn d0) m #[Value.ref b] below meth c H lo nc ns (lw_Z below #[Value.ref b] s) (F0 m 1947 ls [])) : W p l e room_1 (s.setDrawn d0) m #[Value.ref b] below meth c H lo nc ns (lw_Z below #[Value.ref b] s) (F0 m 743 ls []) := by
  obtain ⟨hx, hb, hr, hml, hown, htl, hX, hbl, hlocks, hgv⟩ := id C0
  have hb : c.code = cL_law := hb
  have hown : s.vm.findClass RL = some m.cls := hown
  have hts0 : ∀ w ∈ pw, w.before #[Value.ref b] s = true := fun w h => htl w (pw_tbl h)
  have hts := dr_words hts0 d0
  have hN : xN s := xN_of htl
  have hA : ∀ q : Nat, s.heap.size ≤ q → (fun q : Nat => s.heap.size ≤ q) q := fun _ h => h
  have hbA : ¬ (fun q : Nat => s.heap.size ≤ q) b := Nat.not_le.mpr hbl
  obtain ⟨L, K, G, Q, I, J, tx, tm, B, σ, hQ, hI, hx0, hm0, hB, hT, hC, hM, hD, hAL, hP, hS, hl, hd0, hnc, hns⟩ := h
  have hi0 : 0 ≤ i.toInt := by omega
  have hok : okF σ.1 := hC.1.1.1
  refine lv_aload_n hx hb dL_law_743 rfl (lv_at hl 2 rfl) ?_
  have hQo := hQ
  have hx0o := hx0
  have hm0o := hm0
  have hIo := hI
  refine sa_i (va_runV (As := []) (rest := []) ⟨hx, hb, hml, hown, hts⟩ (s_X6_falls l dC dI cs L K G Q hQ x0 m0 tx (tm, B) hx0 hm0 H.size I J hI x0 hx0 hI.2.1.1) (cwV 0 hts (gV pq821 pq822 pq823 pq74 pq824) rfl rfl rfl (by decide +kernel) ⟨(Nat.le_of_ble_eq_true rfl), (Nat.le_of_ble_eq_true rfl)⟩) (sP_V hP hD hK hN hx0 hI.2.1.1 rfl rfl) rfl rfl hl.1 rfl (lv_room (Nat.le_of_ble_eq_true rfl)) dL_law_744 ⟨(show nc + 29 ≤ room_1.cells from (show nc + 29 ≤ 600000 from by omega)), (show ns + 807 ≤ room_1.slots from (show ns + 807 ≤ 7302249 from by omega))⟩) hS hAL hA (fun r1 L K G Q I1 J1 H lo hr1 hE hQ hI hD hAL hP hz1 hS => ?_)
  have hx0 := (hE x0 hx0).1
  have hm0 := (hE m0 hm0).1
  obtain ⟨rz1, dnc1, dj1⟩ := hz1
  have hk1 := hr1 σ hC
  have hC := rz1 σ hC
  have hM := cmA_al hQo hm0o hIo.2.1.2 hE hM dnc1 (fun b hl hb => dj1 b hl (by omega))
  refine lv_pop hx hb dL_law_747 rfl ?_
  refine lv_aload_n hx hb dL_law_748 rfl (lv_at hl 1 rfl) ?_
  refine sw_i (va_runV (As := []) (rest := []) ⟨hx, hb, hml, hown, hts⟩ (s_X7_falls l dC dI cs L K G Q hQ x0 m0 tx (tm, B) H.size I1 J1 hI m0 hm0 hI.2.1.2) (cwV 0 hts (gV pq1494 pq1495 pq1496 pq81 pq1497) rfl rfl rfl (by decide +kernel) ⟨(Nat.le_of_ble_eq_true rfl), (Nat.le_of_ble_eq_true rfl)⟩) (sP_V hP hD hK hN hm0 hI.2.1.2 rfl rfl) rfl rfl hl.1 rfl (lv_room (Nat.le_of_ble_eq_true rfl)) dL_law_749 ⟨(show (nc + 29) + 0 ≤ room_1.cells from (show (nc + 29) + 0 ≤ 600000 from by omega)), (show (ns + 807) + 0 ≤ room_1.slots from (show (ns + 807) + 0 ≤ 7302249 from by omega))⟩) hS hAL hA (fun r2 I2 J2 H lo hr2 hI2 hP hS => ?_)
  obtain ⟨hIn2, dnc2, jz2, dj2⟩ := hI2
  have hk2 := hr2 σ hok hM
  have hM := jz2 σ hok hM
  have hC := cxA_w hQ hx0 hI.2.1.1 hC dnc2 (fun b hb => dj2 b (by omega))
  have hIold := hI
  have hI := hIn2
  have heq : r1 = r2 := Int32.toInt_inj.mp (hk1.trans hk2.symm)
  refine lv_pop hx hb dL_law_752 rfl ?_
  refine lv_goto (tgt := 1947) hx hb dL_law_753 (by decide) ?_
  exact kk _ _ _ _ _ _ ⟨L, K, G, Q, I2, J2, tx, tm, B, _, hQ, hI, hx0, hm0, by omega, hT, hC, hM, hD, hAL, hP, hS, hl, hd0, by omega, by omega⟩

set_option maxHeartbeats 4000000 in
set_option maxRecDepth 100000 in
theorem s_lwcase14 {p : Program} {e : Env} {s : State} {m : MethodId} {below : List Frame} {meth : Method} {c : Code} (l : Launch) {b Ln : Nat} {xs : Nat → Int32} {dC : Nat → ClassId} {dI : Nat → Nat → Nat} {cs : Nat → ClassId} {x0 m0 : Nat} (C0 : lw_At p s m meth c b Ln xs) (hLn : Ln ≤ 3072) (hK : va_K (dC, dI) vwCl (tysA cs) s) (hXs : xS (fun q : Nat => s.heap.size ≤ q) s s.heap) (i : Int32) (n : Nat) (hn : n < 512) (hi : i.toInt = 6 * (n : Int)) (hiL : i.toInt + 5 < (Ln : Int)) {d0 : Drawn} {H : Heap} {lo : List Loc} {ls : Array Slot} {nc ns : Nat} (h : lwI dC dI cs x0 m0 b s i n d0 H lo ls nc ns) (kk : ∀ (d0 : Drawn) (H : Heap) (lo : List Loc) (ls : Array Slot) (nc ns : Nat), lwI dC dI cs x0 m0 b s i (n + 1) d0 H lo ls nc ns → W p l e room_1 (s.setDrawn d0) m #[Value.ref b] below meth c H lo nc ns (lw_Z below #[Value.ref b] s) (F0 m 1947 ls [])) : W p l e room_1 (s.setDrawn d0) m #[Value.ref b] below meth c H lo nc ns (lw_Z below #[Value.ref b] s) (F0 m 756 ls []) := by
  obtain ⟨hx, hb, hr, hml, hown, htl, hX, hbl, hlocks, hgv⟩ := id C0
  have hb : c.code = cL_law := hb
  have hown : s.vm.findClass RL = some m.cls := hown
  have hts0 : ∀ w ∈ pw, w.before #[Value.ref b] s = true := fun w h => htl w (pw_tbl h)
  have hts := dr_words hts0 d0
  have hN : xN s := xN_of htl
  have hA : ∀ q : Nat, s.heap.size ≤ q → (fun q : Nat => s.heap.size ≤ q) q := fun _ h => h
  have hbA : ¬ (fun q : Nat => s.heap.size ≤ q) b := Nat.not_le.mpr hbl
  obtain ⟨L, K, G, Q, I, J, tx, tm, B, σ, hQ, hI, hx0, hm0, hB, hT, hC, hM, hD, hAL, hP, hS, hl, hd0, hnc, hns⟩ := h
  have hi0 : 0 ≤ i.toInt := by omega
  have hok : okF σ.1 := hC.1.1.1
  refine lv_aload_n hx hb dL_law_756 rfl (lv_at hl 2 rfl) ?_
  refine lv_aload_n hx hb dL_law_757 rfl (lv_at hl 3 rfl) ?_
  refine lv_iload_n hx hb dL_law_758 rfl (lv_at hl 0 rfl) ?_
  refine lv_iconst (v := 1) hx hb dL_law_759 (by decide +kernel) ?_
  refine lv_iadd hx hb dL_law_760 ?_
  refine va_sld (s := s.setDrawn d0) hx hb hX hbl hbA hS (lw_in (j := (1 : Int32)) (J := 1) (by decide +kernel) (by decide) (by decide) hi0 hiL hLn) dL_law_761 ?_
  have hIn : Iv L K x0 m0 tx (tm, B + 5000) I := Iv_mono hI (by omega) (by omega)
  have hQo := hQ
  have hx0o := hx0
  have hm0o := hm0
  have hIo := hI
  refine sa_i (va_runV (As := [.int (xs (i + 1).toNatClampNeg)]) (rest := []) ⟨hx, hb, hml, hown, hts⟩ (s_X6_crop l dC dI cs L K G Q hQ x0 m0 tx (tm, B + 5000) hx0 hm0 H.size I J hIn x0 hx0 hI.2.1.1 (xs (i + 1).toNatClampNeg) (by show Iv L K x0 m0 tx (tm, B + 5000 - 5000) I; rw [Int.add_sub_cancel]; exact hI)) (cwV 1 hts (gV pq711 pq712 pq713 pq74 pq714) rfl rfl rfl (by decide +kernel) ⟨(Nat.le_of_ble_eq_true rfl), (Nat.le_of_ble_eq_true rfl)⟩) (sP_V hP hD hK hN hx0 hI.2.1.1 rfl rfl) rfl rfl hl.1 rfl (lv_room (Nat.le_of_ble_eq_true rfl)) dL_law_762 ⟨(show nc + 29 ≤ room_1.cells from (show nc + 29 ≤ 600000 from by omega)), (show ns + 807 ≤ room_1.slots from (show ns + 807 ≤ 7302249 from by omega))⟩) hS hAL hA (fun r1 L K G Q I1 J1 H lo hr1 hE hQ hI hD hAL hP hz1 hS => ?_)
  have hx0 := (hE x0 hx0).1
  have hm0 := (hE m0 hm0).1
  obtain ⟨rz1, dnc1, dj1⟩ := hz1
  have hk1 := hr1 σ hC
  have hC := rz1 σ hC
  have hM := cmA_al hQo hm0o hIo.2.1.2 hE hM dnc1 (fun b hl hb => dj1 b hl (by omega))
  refine lv_pop hx hb dL_law_765 rfl ?_
  refine lv_aload_n hx hb dL_law_766 rfl (lv_at hl 1 rfl) ?_
  refine lv_aload_n hx hb dL_law_767 rfl (lv_at hl 3 rfl) ?_
  refine lv_iload_n hx hb dL_law_768 rfl (lv_at hl 0 rfl) ?_
  refine lv_iconst (v := 1) hx hb dL_law_769 (by decide +kernel) ?_
  refine lv_iadd hx hb dL_law_770 ?_
  refine va_sld (s := s.setDrawn d0) hx hb hX hbl hbA hS (lw_in (j := (1 : Int32)) (J := 1) (by decide +kernel) (by decide) (by decide) hi0 hiL hLn) dL_law_771 ?_
  have hIn : Iv L K x0 m0 tx (tm, (B + 5000) + 5000) I1 := Iv_mono hI (by omega) (by omega)
  refine sw_i (va_runV (As := [.int (xs (i + 1).toNatClampNeg)]) (rest := []) ⟨hx, hb, hml, hown, hts⟩ (s_X7_crop l dC dI cs L K G Q hQ x0 m0 tx (tm, (B + 5000) + 5000) H.size I1 J1 hIn m0 hm0 hI.2.1.2 (xs (i + 1).toNatClampNeg) (by show Iv L K x0 m0 tx (tm, (B + 5000) + 5000 - 5000) I1; rw [Int.add_sub_cancel]; exact hI)) (cwV 1 hts (gV pq1502 pq1503 pq1504 pq81 pq1505) rfl rfl rfl (by decide +kernel) ⟨(Nat.le_of_ble_eq_true rfl), (Nat.le_of_ble_eq_true rfl)⟩) (sP_V hP hD hK hN hm0 hI.2.1.2 rfl rfl) rfl rfl hl.1 rfl (lv_room (Nat.le_of_ble_eq_true rfl)) dL_law_772 ⟨(show (nc + 29) + 0 ≤ room_1.cells from (show (nc + 29) + 0 ≤ 600000 from by omega)), (show (ns + 807) + 0 ≤ room_1.slots from (show (ns + 807) + 0 ≤ 7302249 from by omega))⟩) hS hAL hA (fun r2 I2 J2 H lo hr2 hI2 hP hS => ?_)
  obtain ⟨hIn2, dnc2, jz2, dj2⟩ := hI2
  have hk2 := hr2 σ hok hM
  have hM := jz2 σ hok hM
  have hC := cxA_w hQ hx0 hI.2.1.1 hC dnc2 (fun b hb => dj2 b (by omega))
  have hIold := hI
  have hI := hIn2
  have heq : r1 = r2 := Int32.toInt_inj.mp (hk1.trans hk2.symm)
  refine lv_pop hx hb dL_law_775 rfl ?_
  refine lv_goto (tgt := 1947) hx hb dL_law_776 (by decide) ?_
  exact kk _ _ _ _ _ _ ⟨L, K, G, Q, I2, J2, tx, tm, ((B + 5000) + 5000), _, hQ, hI, hx0, hm0, by omega, hT, hC, hM, hD, hAL, hP, hS, hl, hd0, by omega, by omega⟩

set_option maxHeartbeats 4000000 in
set_option maxRecDepth 100000 in
theorem s_lwcase15 {p : Program} {e : Env} {s : State} {m : MethodId} {below : List Frame} {meth : Method} {c : Code} (l : Launch) {b Ln : Nat} {xs : Nat → Int32} {dC : Nat → ClassId} {dI : Nat → Nat → Nat} {cs : Nat → ClassId} {x0 m0 : Nat} (C0 : lw_At p s m meth c b Ln xs) (hLn : Ln ≤ 3072) (hK : va_K (dC, dI) vwCl (tysA cs) s) (hXs : xS (fun q : Nat => s.heap.size ≤ q) s s.heap) (i : Int32) (n : Nat) (hn : n < 512) (hi : i.toInt = 6 * (n : Int)) (hiL : i.toInt + 5 < (Ln : Int)) {d0 : Drawn} {H : Heap} {lo : List Loc} {ls : Array Slot} {nc ns : Nat} (h : lwI dC dI cs x0 m0 b s i n d0 H lo ls nc ns) (kk : ∀ (d0 : Drawn) (H : Heap) (lo : List Loc) (ls : Array Slot) (nc ns : Nat), lwI dC dI cs x0 m0 b s i (n + 1) d0 H lo ls nc ns → W p l e room_1 (s.setDrawn d0) m #[Value.ref b] below meth c H lo nc ns (lw_Z below #[Value.ref b] s) (F0 m 1947 ls [])) : W p l e room_1 (s.setDrawn d0) m #[Value.ref b] below meth c H lo nc ns (lw_Z below #[Value.ref b] s) (F0 m 779 ls []) := by
  obtain ⟨hx, hb, hr, hml, hown, htl, hX, hbl, hlocks, hgv⟩ := id C0
  have hb : c.code = cL_law := hb
  have hown : s.vm.findClass RL = some m.cls := hown
  have hts0 : ∀ w ∈ pw, w.before #[Value.ref b] s = true := fun w h => htl w (pw_tbl h)
  have hts := dr_words hts0 d0
  have hN : xN s := xN_of htl
  have hA : ∀ q : Nat, s.heap.size ≤ q → (fun q : Nat => s.heap.size ≤ q) q := fun _ h => h
  have hbA : ¬ (fun q : Nat => s.heap.size ≤ q) b := Nat.not_le.mpr hbl
  obtain ⟨L, K, G, Q, I, J, tx, tm, B, σ, hQ, hI, hx0, hm0, hB, hT, hC, hM, hD, hAL, hP, hS, hl, hd0, hnc, hns⟩ := h
  have hi0 : 0 ≤ i.toInt := by omega
  have hok : okF σ.1 := hC.1.1.1
  refine lv_aload_n hx hb dL_law_779 rfl (lv_at hl 2 rfl) ?_
  refine lv_aload_n hx hb dL_law_780 rfl (lv_at hl 3 rfl) ?_
  refine lv_iload_n hx hb dL_law_781 rfl (lv_at hl 0 rfl) ?_
  refine lv_iconst (v := 1) hx hb dL_law_782 (by decide +kernel) ?_
  refine lv_iadd hx hb dL_law_783 ?_
  refine va_sld (s := s.setDrawn d0) hx hb hX hbl hbA hS (lw_in (j := (1 : Int32)) (J := 1) (by decide +kernel) (by decide) (by decide) hi0 hiL hLn) dL_law_784 ?_
  have hQo := hQ
  have hx0o := hx0
  have hm0o := hm0
  have hIo := hI
  refine sa_i (va_runV (As := [.int (xs (i + 1).toNatClampNeg)]) (rest := []) ⟨hx, hb, hml, hown, hts⟩ (s_X6_quarter l dC dI cs L K G Q hQ x0 m0 tx (tm, B) hx0 hm0 H.size I J hI x0 hx0 hI.2.1.1 (xs (i + 1).toNatClampNeg)) (cwV 1 hts (gV pq725 pq726 pq727 pq74 pq728) rfl rfl rfl (by decide +kernel) ⟨(Nat.le_of_ble_eq_true rfl), (Nat.le_of_ble_eq_true rfl)⟩) (sP_V hP hD hK hN hx0 hI.2.1.1 rfl rfl) rfl rfl hl.1 rfl (lv_room (Nat.le_of_ble_eq_true rfl)) dL_law_785 ⟨(show nc + 29 ≤ room_1.cells from (show nc + 29 ≤ 600000 from by omega)), (show ns + 807 ≤ room_1.slots from (show ns + 807 ≤ 7302249 from by omega))⟩) hS hAL hA (fun r1 L K G Q I1 J1 H lo hr1 hE hQ hI hD hAL hP hz1 hS => ?_)
  have hx0 := (hE x0 hx0).1
  have hm0 := (hE m0 hm0).1
  obtain ⟨rz1, dnc1, dj1⟩ := hz1
  have hk1 := hr1 σ hC
  have hC := rz1 σ hC
  have hM := cmA_al hQo hm0o hIo.2.1.2 hE hM dnc1 (fun b hl hb => dj1 b hl (by omega))
  refine lv_pop hx hb dL_law_788 rfl ?_
  refine lv_aload_n hx hb dL_law_789 rfl (lv_at hl 1 rfl) ?_
  refine lv_aload_n hx hb dL_law_790 rfl (lv_at hl 3 rfl) ?_
  refine lv_iload_n hx hb dL_law_791 rfl (lv_at hl 0 rfl) ?_
  refine lv_iconst (v := 1) hx hb dL_law_792 (by decide +kernel) ?_
  refine lv_iadd hx hb dL_law_793 ?_
  refine va_sld (s := s.setDrawn d0) hx hb hX hbl hbA hS (lw_in (j := (1 : Int32)) (J := 1) (by decide +kernel) (by decide) (by decide) hi0 hiL hLn) dL_law_794 ?_
  refine sw_i (va_runV (As := [.int (xs (i + 1).toNatClampNeg)]) (rest := []) ⟨hx, hb, hml, hown, hts⟩ (s_X7_quarter l dC dI cs L K G Q hQ x0 m0 tx (tm, B) H.size I1 J1 hI m0 hm0 hI.2.1.2 (xs (i + 1).toNatClampNeg)) (cwV 1 hts (gV pq1518 pq1519 pq1520 pq81 pq1521) rfl rfl rfl (by decide +kernel) ⟨(Nat.le_of_ble_eq_true rfl), (Nat.le_of_ble_eq_true rfl)⟩) (sP_V hP hD hK hN hm0 hI.2.1.2 rfl rfl) rfl rfl hl.1 rfl (lv_room (Nat.le_of_ble_eq_true rfl)) dL_law_795 ⟨(show (nc + 29) + 0 ≤ room_1.cells from (show (nc + 29) + 0 ≤ 600000 from by omega)), (show (ns + 807) + 0 ≤ room_1.slots from (show (ns + 807) + 0 ≤ 7302249 from by omega))⟩) hS hAL hA (fun r2 I2 J2 H lo hr2 hI2 hP hS => ?_)
  obtain ⟨hIn2, dnc2, jz2, dj2⟩ := hI2
  have hk2 := hr2 σ hok hM
  have hM := jz2 σ hok hM
  have hC := cxA_w hQ hx0 hI.2.1.1 hC dnc2 (fun b hb => dj2 b (by omega))
  have hIold := hI
  have hI := hIn2
  have heq : r1 = r2 := Int32.toInt_inj.mp (hk1.trans hk2.symm)
  refine lv_pop hx hb dL_law_798 rfl ?_
  refine lv_goto (tgt := 1947) hx hb dL_law_799 (by decide) ?_
  exact kk _ _ _ _ _ _ ⟨L, K, G, Q, I2, J2, tx, tm, B, _, hQ, hI, hx0, hm0, by omega, hT, hC, hM, hD, hAL, hP, hS, hl, hd0, by omega, by omega⟩

set_option maxHeartbeats 4000000 in
set_option maxRecDepth 100000 in
theorem s_lwcase16 {p : Program} {e : Env} {s : State} {m : MethodId} {below : List Frame} {meth : Method} {c : Code} (l : Launch) {b Ln : Nat} {xs : Nat → Int32} {dC : Nat → ClassId} {dI : Nat → Nat → Nat} {cs : Nat → ClassId} {x0 m0 : Nat} (C0 : lw_At p s m meth c b Ln xs) (hLn : Ln ≤ 3072) (hK : va_K (dC, dI) vwCl (tysA cs) s) (hXs : xS (fun q : Nat => s.heap.size ≤ q) s s.heap) (i : Int32) (n : Nat) (hn : n < 512) (hi : i.toInt = 6 * (n : Int)) (hiL : i.toInt + 5 < (Ln : Int)) {d0 : Drawn} {H : Heap} {lo : List Loc} {ls : Array Slot} {nc ns : Nat} (h : lwI dC dI cs x0 m0 b s i n d0 H lo ls nc ns) (kk : ∀ (d0 : Drawn) (H : Heap) (lo : List Loc) (ls : Array Slot) (nc ns : Nat), lwI dC dI cs x0 m0 b s i (n + 1) d0 H lo ls nc ns → W p l e room_1 (s.setDrawn d0) m #[Value.ref b] below meth c H lo nc ns (lw_Z below #[Value.ref b] s) (F0 m 1947 ls [])) : W p l e room_1 (s.setDrawn d0) m #[Value.ref b] below meth c H lo nc ns (lw_Z below #[Value.ref b] s) (F0 m 802 ls []) := by
  obtain ⟨hx, hb, hr, hml, hown, htl, hX, hbl, hlocks, hgv⟩ := id C0
  have hb : c.code = cL_law := hb
  have hown : s.vm.findClass RL = some m.cls := hown
  have hts0 : ∀ w ∈ pw, w.before #[Value.ref b] s = true := fun w h => htl w (pw_tbl h)
  have hts := dr_words hts0 d0
  have hN : xN s := xN_of htl
  have hA : ∀ q : Nat, s.heap.size ≤ q → (fun q : Nat => s.heap.size ≤ q) q := fun _ h => h
  have hbA : ¬ (fun q : Nat => s.heap.size ≤ q) b := Nat.not_le.mpr hbl
  obtain ⟨L, K, G, Q, I, J, tx, tm, B, σ, hQ, hI, hx0, hm0, hB, hT, hC, hM, hD, hAL, hP, hS, hl, hd0, hnc, hns⟩ := h
  have hi0 : 0 ≤ i.toInt := by omega
  have hok : okF σ.1 := hC.1.1.1
  refine lv_aload_n hx hb dL_law_802 rfl (lv_at hl 2 rfl) ?_
  refine lv_aload_n hx hb dL_law_803 rfl (lv_at hl 3 rfl) ?_
  refine lv_iload_n hx hb dL_law_804 rfl (lv_at hl 0 rfl) ?_
  refine lv_iconst (v := 1) hx hb dL_law_805 (by decide +kernel) ?_
  refine lv_iadd hx hb dL_law_806 ?_
  refine va_sld (s := s.setDrawn d0) hx hb hX hbl hbA hS (lw_in (j := (1 : Int32)) (J := 1) (by decide +kernel) (by decide) (by decide) hi0 hiL hLn) dL_law_807 ?_
  have hQo := hQ
  have hx0o := hx0
  have hm0o := hm0
  have hIo := hI
  refine sa_i (va_runV (As := [.int (xs (i + 1).toNatClampNeg)]) (rest := []) ⟨hx, hb, hml, hown, hts⟩ (s_X6_ticks l dC dI cs L K G Q hQ x0 m0 tx (tm, B) hx0 hm0 H.size I J hI x0 hx0 hI.2.1.1 (xs (i + 1).toNatClampNeg)) (cwV 1 hts (gV pq825 pq826 pq827 pq74 pq828) rfl rfl rfl (by decide +kernel) ⟨(Nat.le_of_ble_eq_true rfl), (Nat.le_of_ble_eq_true rfl)⟩) (sP_V hP hD hK hN hx0 hI.2.1.1 rfl rfl) rfl rfl hl.1 rfl (lv_room (Nat.le_of_ble_eq_true rfl)) dL_law_808 ⟨(show nc + 29 ≤ room_1.cells from (show nc + 29 ≤ 600000 from by omega)), (show ns + 807 ≤ room_1.slots from (show ns + 807 ≤ 7302249 from by omega))⟩) hS hAL hA (fun r1 L K G Q I1 J1 H lo hr1 hE hQ hI hD hAL hP hz1 hS => ?_)
  have hx0 := (hE x0 hx0).1
  have hm0 := (hE m0 hm0).1
  obtain ⟨rz1, dnc1, dj1⟩ := hz1
  have hk1 := hr1 σ hC
  have hC := rz1 σ hC
  have hM := cmA_al hQo hm0o hIo.2.1.2 hE hM dnc1 (fun b hl hb => dj1 b hl (by omega))
  refine lv_pop hx hb dL_law_811 rfl ?_
  refine lv_aload_n hx hb dL_law_812 rfl (lv_at hl 1 rfl) ?_
  refine lv_aload_n hx hb dL_law_813 rfl (lv_at hl 3 rfl) ?_
  refine lv_iload_n hx hb dL_law_814 rfl (lv_at hl 0 rfl) ?_
  refine lv_iconst (v := 1) hx hb dL_law_815 (by decide +kernel) ?_
  refine lv_iadd hx hb dL_law_816 ?_
  refine va_sld (s := s.setDrawn d0) hx hb hX hbl hbA hS (lw_in (j := (1 : Int32)) (J := 1) (by decide +kernel) (by decide) (by decide) hi0 hiL hLn) dL_law_817 ?_
  refine sw_i (va_runV (As := [.int (xs (i + 1).toNatClampNeg)]) (rest := []) ⟨hx, hb, hml, hown, hts⟩ (s_X7_ticks l dC dI cs L K G Q hQ x0 m0 tx (tm, B) H.size I1 J1 hI m0 hm0 hI.2.1.2 (xs (i + 1).toNatClampNeg)) (cwV 1 hts (gV pq1522 pq1523 pq1524 pq81 pq1525) rfl rfl rfl (by decide +kernel) ⟨(Nat.le_of_ble_eq_true rfl), (Nat.le_of_ble_eq_true rfl)⟩) (sP_V hP hD hK hN hm0 hI.2.1.2 rfl rfl) rfl rfl hl.1 rfl (lv_room (Nat.le_of_ble_eq_true rfl)) dL_law_818 ⟨(show (nc + 29) + 0 ≤ room_1.cells from (show (nc + 29) + 0 ≤ 600000 from by omega)), (show (ns + 807) + 0 ≤ room_1.slots from (show (ns + 807) + 0 ≤ 7302249 from by omega))⟩) hS hAL hA (fun r2 I2 J2 H lo hr2 hI2 hP hS => ?_)
  obtain ⟨hIn2, dnc2, jz2, dj2⟩ := hI2
  have hk2 := hr2 σ hok hM
  have hM := jz2 σ hok hM
  have hC := cxA_w hQ hx0 hI.2.1.1 hC dnc2 (fun b hb => dj2 b (by omega))
  have hIold := hI
  have hI := hIn2
  have heq : r1 = r2 := Int32.toInt_inj.mp (hk1.trans hk2.symm)
  refine lv_pop hx hb dL_law_821 rfl ?_
  refine lv_goto (tgt := 1947) hx hb dL_law_822 (by decide) ?_
  exact kk _ _ _ _ _ _ ⟨L, K, G, Q, I2, J2, tx, tm, B, _, hQ, hI, hx0, hm0, by omega, hT, hC, hM, hD, hAL, hP, hS, hl, hd0, by omega, by omega⟩

set_option maxHeartbeats 4000000 in
set_option maxRecDepth 100000 in
theorem s_lwcase17 {p : Program} {e : Env} {s : State} {m : MethodId} {below : List Frame} {meth : Method} {c : Code} (l : Launch) {b Ln : Nat} {xs : Nat → Int32} {dC : Nat → ClassId} {dI : Nat → Nat → Nat} {cs : Nat → ClassId} {x0 m0 : Nat} (C0 : lw_At p s m meth c b Ln xs) (hLn : Ln ≤ 3072) (hK : va_K (dC, dI) vwCl (tysA cs) s) (hXs : xS (fun q : Nat => s.heap.size ≤ q) s s.heap) (i : Int32) (n : Nat) (hn : n < 512) (hi : i.toInt = 6 * (n : Int)) (hiL : i.toInt + 5 < (Ln : Int)) {d0 : Drawn} {H : Heap} {lo : List Loc} {ls : Array Slot} {nc ns : Nat} (h : lwI dC dI cs x0 m0 b s i n d0 H lo ls nc ns) (kk : ∀ (d0 : Drawn) (H : Heap) (lo : List Loc) (ls : Array Slot) (nc ns : Nat), lwI dC dI cs x0 m0 b s i (n + 1) d0 H lo ls nc ns → W p l e room_1 (s.setDrawn d0) m #[Value.ref b] below meth c H lo nc ns (lw_Z below #[Value.ref b] s) (F0 m 1947 ls [])) : W p l e room_1 (s.setDrawn d0) m #[Value.ref b] below meth c H lo nc ns (lw_Z below #[Value.ref b] s) (F0 m 825 ls []) := by
  obtain ⟨hx, hb, hr, hml, hown, htl, hX, hbl, hlocks, hgv⟩ := id C0
  have hb : c.code = cL_law := hb
  have hown : s.vm.findClass RL = some m.cls := hown
  have hts0 : ∀ w ∈ pw, w.before #[Value.ref b] s = true := fun w h => htl w (pw_tbl h)
  have hts := dr_words hts0 d0
  have hN : xN s := xN_of htl
  have hA : ∀ q : Nat, s.heap.size ≤ q → (fun q : Nat => s.heap.size ≤ q) q := fun _ h => h
  have hbA : ¬ (fun q : Nat => s.heap.size ≤ q) b := Nat.not_le.mpr hbl
  obtain ⟨L, K, G, Q, I, J, tx, tm, B, σ, hQ, hI, hx0, hm0, hB, hT, hC, hM, hD, hAL, hP, hS, hl, hd0, hnc, hns⟩ := h
  have hi0 : 0 ≤ i.toInt := by omega
  have hok : okF σ.1 := hC.1.1.1
  refine lv_aload_n hx hb dL_law_825 rfl (lv_at hl 2 rfl) ?_
  refine sw_i (va_runV (As := []) (rest := []) ⟨hx, hb, hml, hown, hts⟩ (s_X6_undo l dC dI cs L K G Q hQ x0 m0 tx (tm, B) H.size I J hI x0 hx0 hI.2.1.1) (cwV 0 hts (gV pq833 pq834 pq835 pq74 pq836) rfl rfl rfl (by decide +kernel) ⟨(Nat.le_of_ble_eq_true rfl), (Nat.le_of_ble_eq_true rfl)⟩) (sP_V hP hD hK hN hx0 hI.2.1.1 rfl rfl) rfl rfl hl.1 rfl (lv_room (Nat.le_of_ble_eq_true rfl)) dL_law_826 ⟨(show nc + 0 ≤ room_1.cells from (show nc + 0 ≤ 600000 from by omega)), (show ns + 0 ≤ room_1.slots from (show ns + 0 ≤ 7302249 from by omega))⟩) hS hAL hA (fun r1 I1 J1 H lo hr1 hI1 hP hS => ?_)
  obtain ⟨hIn1, dnc1, jz1, dj1⟩ := hI1
  have hk1 := hr1 σ hC
  have hC := jz1 σ hC
  have hM := cmA_w hQ hm0 hI.2.1.2 hM dnc1 (fun b hb => dj1 b (by omega))
  have hIold := hI
  have hI := hIn1
  refine lv_pop hx hb dL_law_829 rfl ?_
  refine lv_aload_n hx hb dL_law_830 rfl (lv_at hl 1 rfl) ?_
  refine sw_i (va_runV (As := []) (rest := []) ⟨hx, hb, hml, hown, hts⟩ (s_X7_undo l dC dI cs L K G Q hQ x0 m0 tx (tm, B) H.size I1 J1 hI m0 hm0 hI.2.1.2) (cwV 0 hts (gV pq1294 pq1295 pq1296 pq81 pq1297) rfl rfl rfl (by decide +kernel) ⟨(Nat.le_of_ble_eq_true rfl), (Nat.le_of_ble_eq_true rfl)⟩) (sP_V hP hD hK hN hm0 hI.2.1.2 rfl rfl) rfl rfl hl.1 rfl (lv_room (Nat.le_of_ble_eq_true rfl)) dL_law_831 ⟨(show nc + 0 ≤ room_1.cells from (show nc + 0 ≤ 600000 from by omega)), (show ns + 0 ≤ room_1.slots from (show ns + 0 ≤ 7302249 from by omega))⟩) hS hAL hA (fun r2 I2 J2 H lo hr2 hI2 hP hS => ?_)
  obtain ⟨hIn2, dnc2, jz2, dj2⟩ := hI2
  have hk2 := hr2 σ hM
  have hM := jz2 σ hM
  have hC := cxA_w hQ hx0 hI.2.1.1 hC dnc2 (fun b hb => dj2 b (by omega))
  have hIold := hI
  have hI := hIn2
  have heq : r1 = r2 := Int32.toInt_inj.mp (hk1.trans hk2.symm)
  refine lv_pop hx hb dL_law_834 rfl ?_
  refine lv_goto (tgt := 1947) hx hb dL_law_835 (by decide) ?_
  exact kk _ _ _ _ _ _ ⟨L, K, G, Q, I2, J2, tx, tm, B, _, hQ, hI, hx0, hm0, by omega, hT, hC, hM, hD, hAL, hP, hS, hl, hd0, by omega, by omega⟩

set_option maxHeartbeats 4000000 in
set_option maxRecDepth 100000 in
theorem s_lwcase18 {p : Program} {e : Env} {s : State} {m : MethodId} {below : List Frame} {meth : Method} {c : Code} (l : Launch) {b Ln : Nat} {xs : Nat → Int32} {dC : Nat → ClassId} {dI : Nat → Nat → Nat} {cs : Nat → ClassId} {x0 m0 : Nat} (C0 : lw_At p s m meth c b Ln xs) (hLn : Ln ≤ 3072) (hK : va_K (dC, dI) vwCl (tysA cs) s) (hXs : xS (fun q : Nat => s.heap.size ≤ q) s s.heap) (i : Int32) (n : Nat) (hn : n < 512) (hi : i.toInt = 6 * (n : Int)) (hiL : i.toInt + 5 < (Ln : Int)) {d0 : Drawn} {H : Heap} {lo : List Loc} {ls : Array Slot} {nc ns : Nat} (h : lwI dC dI cs x0 m0 b s i n d0 H lo ls nc ns) (kk : ∀ (d0 : Drawn) (H : Heap) (lo : List Loc) (ls : Array Slot) (nc ns : Nat), lwI dC dI cs x0 m0 b s i (n + 1) d0 H lo ls nc ns → W p l e room_1 (s.setDrawn d0) m #[Value.ref b] below meth c H lo nc ns (lw_Z below #[Value.ref b] s) (F0 m 1947 ls [])) : W p l e room_1 (s.setDrawn d0) m #[Value.ref b] below meth c H lo nc ns (lw_Z below #[Value.ref b] s) (F0 m 838 ls []) := by
  obtain ⟨hx, hb, hr, hml, hown, htl, hX, hbl, hlocks, hgv⟩ := id C0
  have hb : c.code = cL_law := hb
  have hown : s.vm.findClass RL = some m.cls := hown
  have hts0 : ∀ w ∈ pw, w.before #[Value.ref b] s = true := fun w h => htl w (pw_tbl h)
  have hts := dr_words hts0 d0
  have hN : xN s := xN_of htl
  have hA : ∀ q : Nat, s.heap.size ≤ q → (fun q : Nat => s.heap.size ≤ q) q := fun _ h => h
  have hbA : ¬ (fun q : Nat => s.heap.size ≤ q) b := Nat.not_le.mpr hbl
  obtain ⟨L, K, G, Q, I, J, tx, tm, B, σ, hQ, hI, hx0, hm0, hB, hT, hC, hM, hD, hAL, hP, hS, hl, hd0, hnc, hns⟩ := h
  have hi0 : 0 ≤ i.toInt := by omega
  have hok : okF σ.1 := hC.1.1.1
  refine lv_aload_n hx hb dL_law_838 rfl (lv_at hl 2 rfl) ?_
  refine lv_aload_n hx hb dL_law_839 rfl (lv_at hl 3 rfl) ?_
  refine lv_iload_n hx hb dL_law_840 rfl (lv_at hl 0 rfl) ?_
  refine lv_iconst (v := 1) hx hb dL_law_841 (by decide +kernel) ?_
  refine lv_iadd hx hb dL_law_842 ?_
  refine va_sld (s := s.setDrawn d0) hx hb hX hbl hbA hS (lw_in (j := (1 : Int32)) (J := 1) (by decide +kernel) (by decide) (by decide) hi0 hiL hLn) dL_law_843 ?_
  have hQo := hQ
  have hx0o := hx0
  have hm0o := hm0
  have hIo := hI
  refine sa_i (va_runV (As := [.int (xs (i + 1).toNatClampNeg)]) (rest := []) ⟨hx, hb, hml, hown, hts⟩ (s_X6_keep l dC dI cs L K G Q hQ x0 m0 tx (tm, B) hx0 hm0 H.size I J hI x0 hx0 hI.2.1.1 (xs (i + 1).toNatClampNeg)) (cwV 1 hts (gV pq837 pq838 pq839 pq74 pq840) rfl rfl rfl (by decide +kernel) ⟨(Nat.le_of_ble_eq_true rfl), (Nat.le_of_ble_eq_true rfl)⟩) (sP_V hP hD hK hN hx0 hI.2.1.1 rfl rfl) rfl rfl hl.1 rfl (lv_room (Nat.le_of_ble_eq_true rfl)) dL_law_844 ⟨(show nc + 29 ≤ room_1.cells from (show nc + 29 ≤ 600000 from by omega)), (show ns + 807 ≤ room_1.slots from (show ns + 807 ≤ 7302249 from by omega))⟩) hS hAL hA (fun r1 L K G Q I1 J1 H lo hr1 hE hQ hI hD hAL hP hz1 hS => ?_)
  have hx0 := (hE x0 hx0).1
  have hm0 := (hE m0 hm0).1
  obtain ⟨rz1, dnc1, dj1⟩ := hz1
  have hk1 := hr1 σ hC
  have hC := rz1 σ hC
  have hM := cmA_al hQo hm0o hIo.2.1.2 hE hM dnc1 (fun b hl hb => dj1 b hl (by omega))
  refine lv_pop hx hb dL_law_847 rfl ?_
  refine lv_aload_n hx hb dL_law_848 rfl (lv_at hl 1 rfl) ?_
  refine lv_aload_n hx hb dL_law_849 rfl (lv_at hl 3 rfl) ?_
  refine lv_iload_n hx hb dL_law_850 rfl (lv_at hl 0 rfl) ?_
  refine lv_iconst (v := 1) hx hb dL_law_851 (by decide +kernel) ?_
  refine lv_iadd hx hb dL_law_852 ?_
  refine va_sld (s := s.setDrawn d0) hx hb hX hbl hbA hS (lw_in (j := (1 : Int32)) (J := 1) (by decide +kernel) (by decide) (by decide) hi0 hiL hLn) dL_law_853 ?_
  refine sw_i (va_runV (As := [.int (xs (i + 1).toNatClampNeg)]) (rest := []) ⟨hx, hb, hml, hown, hts⟩ (s_X7_keep l dC dI cs L K G Q hQ x0 m0 tx (tm, B) H.size I1 J1 hI m0 hm0 hI.2.1.2 (xs (i + 1).toNatClampNeg)) (cwV 1 hts (gV pq1298 pq1299 pq1300 pq81 pq1301) rfl rfl rfl (by decide +kernel) ⟨(Nat.le_of_ble_eq_true rfl), (Nat.le_of_ble_eq_true rfl)⟩) (sP_V hP hD hK hN hm0 hI.2.1.2 rfl rfl) rfl rfl hl.1 rfl (lv_room (Nat.le_of_ble_eq_true rfl)) dL_law_854 ⟨(show (nc + 29) + 0 ≤ room_1.cells from (show (nc + 29) + 0 ≤ 600000 from by omega)), (show (ns + 807) + 0 ≤ room_1.slots from (show (ns + 807) + 0 ≤ 7302249 from by omega))⟩) hS hAL hA (fun r2 I2 J2 H lo hr2 hI2 hP hS => ?_)
  obtain ⟨hIn2, dnc2, jz2, dj2⟩ := hI2
  have hk2 := hr2 σ hM
  have hM := jz2 σ hM
  have hC := cxA_w hQ hx0 hI.2.1.1 hC dnc2 (fun b hb => dj2 b (by omega))
  have hIold := hI
  have hI := hIn2
  have heq : r1 = r2 := Int32.toInt_inj.mp (hk1.trans hk2.symm)
  refine lv_pop hx hb dL_law_857 rfl ?_
  refine lv_goto (tgt := 1947) hx hb dL_law_858 (by decide) ?_
  exact kk _ _ _ _ _ _ ⟨L, K, G, Q, I2, J2, tx, tm, B, _, hQ, hI, hx0, hm0, by omega, hT, hC, hM, hD, hAL, hP, hS, hl, hd0, by omega, by omega⟩

set_option maxHeartbeats 4000000 in
set_option maxRecDepth 100000 in
theorem s_lwcase19 {p : Program} {e : Env} {s : State} {m : MethodId} {below : List Frame} {meth : Method} {c : Code} (l : Launch) {b Ln : Nat} {xs : Nat → Int32} {dC : Nat → ClassId} {dI : Nat → Nat → Nat} {cs : Nat → ClassId} {x0 m0 : Nat} (C0 : lw_At p s m meth c b Ln xs) (hLn : Ln ≤ 3072) (hK : va_K (dC, dI) vwCl (tysA cs) s) (hXs : xS (fun q : Nat => s.heap.size ≤ q) s s.heap) (i : Int32) (n : Nat) (hn : n < 512) (hi : i.toInt = 6 * (n : Int)) (hiL : i.toInt + 5 < (Ln : Int)) {d0 : Drawn} {H : Heap} {lo : List Loc} {ls : Array Slot} {nc ns : Nat} (h : lwI dC dI cs x0 m0 b s i n d0 H lo ls nc ns) (kk : ∀ (d0 : Drawn) (H : Heap) (lo : List Loc) (ls : Array Slot) (nc ns : Nat), lwI dC dI cs x0 m0 b s i (n + 1) d0 H lo ls nc ns → W p l e room_1 (s.setDrawn d0) m #[Value.ref b] below meth c H lo nc ns (lw_Z below #[Value.ref b] s) (F0 m 1947 ls [])) : W p l e room_1 (s.setDrawn d0) m #[Value.ref b] below meth c H lo nc ns (lw_Z below #[Value.ref b] s) (F0 m 861 ls []) := by
  obtain ⟨hx, hb, hr, hml, hown, htl, hX, hbl, hlocks, hgv⟩ := id C0
  have hb : c.code = cL_law := hb
  have hown : s.vm.findClass RL = some m.cls := hown
  have hts0 : ∀ w ∈ pw, w.before #[Value.ref b] s = true := fun w h => htl w (pw_tbl h)
  have hts := dr_words hts0 d0
  have hN : xN s := xN_of htl
  have hA : ∀ q : Nat, s.heap.size ≤ q → (fun q : Nat => s.heap.size ≤ q) q := fun _ h => h
  have hbA : ¬ (fun q : Nat => s.heap.size ≤ q) b := Nat.not_le.mpr hbl
  obtain ⟨L, K, G, Q, I, J, tx, tm, B, σ, hQ, hI, hx0, hm0, hB, hT, hC, hM, hD, hAL, hP, hS, hl, hd0, hnc, hns⟩ := h
  have hi0 : 0 ≤ i.toInt := by omega
  have hok : okF σ.1 := hC.1.1.1
  refine lv_aload_n hx hb dL_law_861 rfl (lv_at hl 2 rfl) ?_
  refine lv_aload_n hx hb dL_law_862 rfl (lv_at hl 3 rfl) ?_
  refine lv_iload_n hx hb dL_law_863 rfl (lv_at hl 0 rfl) ?_
  refine lv_iconst (v := 1) hx hb dL_law_864 (by decide +kernel) ?_
  refine lv_iadd hx hb dL_law_865 ?_
  refine va_sld (s := s.setDrawn d0) hx hb hX hbl hbA hS (lw_in (j := (1 : Int32)) (J := 1) (by decide +kernel) (by decide) (by decide) hi0 hiL hLn) dL_law_866 ?_
  refine sw_i (va_runV (As := [.int (xs (i + 1).toNatClampNeg)]) (rest := []) ⟨hx, hb, hml, hown, hts⟩ (s_X6_back l dC dI cs L K G Q hQ x0 m0 tx (tm, B) H.size I J hI x0 hx0 hI.2.1.1 (xs (i + 1).toNatClampNeg)) (cwV 1 hts (gV pq841 pq842 pq843 pq74 pq844) rfl rfl rfl (by decide +kernel) ⟨(Nat.le_of_ble_eq_true rfl), (Nat.le_of_ble_eq_true rfl)⟩) (sP_V hP hD hK hN hx0 hI.2.1.1 rfl rfl) rfl rfl hl.1 rfl (lv_room (Nat.le_of_ble_eq_true rfl)) dL_law_867 ⟨(show nc + 0 ≤ room_1.cells from (show nc + 0 ≤ 600000 from by omega)), (show ns + 0 ≤ room_1.slots from (show ns + 0 ≤ 7302249 from by omega))⟩) hS hAL hA (fun r1 I1 J1 H lo hr1 hI1 hP hS => ?_)
  obtain ⟨hIn1, dnc1, jz1, dj1⟩ := hI1
  have hk1 := hr1 σ hC
  have hC := jz1 σ hC
  have hM := cmA_w hQ hm0 hI.2.1.2 hM dnc1 (fun b hb => dj1 b (by omega))
  have hIold := hI
  have hI := hIn1
  refine lv_pop hx hb dL_law_870 rfl ?_
  refine lv_aload_n hx hb dL_law_871 rfl (lv_at hl 1 rfl) ?_
  refine lv_aload_n hx hb dL_law_872 rfl (lv_at hl 3 rfl) ?_
  refine lv_iload_n hx hb dL_law_873 rfl (lv_at hl 0 rfl) ?_
  refine lv_iconst (v := 1) hx hb dL_law_874 (by decide +kernel) ?_
  refine lv_iadd hx hb dL_law_875 ?_
  refine va_sld (s := s.setDrawn d0) hx hb hX hbl hbA hS (lw_in (j := (1 : Int32)) (J := 1) (by decide +kernel) (by decide) (by decide) hi0 hiL hLn) dL_law_876 ?_
  refine sw_i (va_runV (As := [.int (xs (i + 1).toNatClampNeg)]) (rest := []) ⟨hx, hb, hml, hown, hts⟩ (s_X7_back l dC dI cs L K G Q hQ x0 m0 tx (tm, B) H.size I1 J1 hI m0 hm0 hI.2.1.2 (xs (i + 1).toNatClampNeg)) (cwV 1 hts (gV pq1302 pq1303 pq1304 pq81 pq1305) rfl rfl rfl (by decide +kernel) ⟨(Nat.le_of_ble_eq_true rfl), (Nat.le_of_ble_eq_true rfl)⟩) (sP_V hP hD hK hN hm0 hI.2.1.2 rfl rfl) rfl rfl hl.1 rfl (lv_room (Nat.le_of_ble_eq_true rfl)) dL_law_877 ⟨(show nc + 0 ≤ room_1.cells from (show nc + 0 ≤ 600000 from by omega)), (show ns + 0 ≤ room_1.slots from (show ns + 0 ≤ 7302249 from by omega))⟩) hS hAL hA (fun r2 I2 J2 H lo hr2 hI2 hP hS => ?_)
  obtain ⟨hIn2, dnc2, jz2, dj2⟩ := hI2
  have hk2 := hr2 σ hM
  have hM := jz2 σ hM
  have hC := cxA_w hQ hx0 hI.2.1.1 hC dnc2 (fun b hb => dj2 b (by omega))
  have hIold := hI
  have hI := hIn2
  have heq : r1 = r2 := Int32.toInt_inj.mp (hk1.trans hk2.symm)
  refine lv_pop hx hb dL_law_880 rfl ?_
  refine lv_goto (tgt := 1947) hx hb dL_law_881 (by decide) ?_
  exact kk _ _ _ _ _ _ ⟨L, K, G, Q, I2, J2, tx, tm, B, _, hQ, hI, hx0, hm0, by omega, hT, hC, hM, hD, hAL, hP, hS, hl, hd0, by omega, by omega⟩

set_option maxHeartbeats 4000000 in
set_option maxRecDepth 100000 in
theorem s_lwcase20 {p : Program} {e : Env} {s : State} {m : MethodId} {below : List Frame} {meth : Method} {c : Code} (l : Launch) {b Ln : Nat} {xs : Nat → Int32} {dC : Nat → ClassId} {dI : Nat → Nat → Nat} {cs : Nat → ClassId} {x0 m0 : Nat} (C0 : lw_At p s m meth c b Ln xs) (hLn : Ln ≤ 3072) (hK : va_K (dC, dI) vwCl (tysA cs) s) (hXs : xS (fun q : Nat => s.heap.size ≤ q) s s.heap) (i : Int32) (n : Nat) (hn : n < 512) (hi : i.toInt = 6 * (n : Int)) (hiL : i.toInt + 5 < (Ln : Int)) {d0 : Drawn} {H : Heap} {lo : List Loc} {ls : Array Slot} {nc ns : Nat} (h : lwI dC dI cs x0 m0 b s i n d0 H lo ls nc ns) (kk : ∀ (d0 : Drawn) (H : Heap) (lo : List Loc) (ls : Array Slot) (nc ns : Nat), lwI dC dI cs x0 m0 b s i (n + 1) d0 H lo ls nc ns → W p l e room_1 (s.setDrawn d0) m #[Value.ref b] below meth c H lo nc ns (lw_Z below #[Value.ref b] s) (F0 m 1947 ls [])) : W p l e room_1 (s.setDrawn d0) m #[Value.ref b] below meth c H lo nc ns (lw_Z below #[Value.ref b] s) (F0 m 884 ls []) := by
  obtain ⟨hx, hb, hr, hml, hown, htl, hX, hbl, hlocks, hgv⟩ := id C0
  have hb : c.code = cL_law := hb
  have hown : s.vm.findClass RL = some m.cls := hown
  have hts0 : ∀ w ∈ pw, w.before #[Value.ref b] s = true := fun w h => htl w (pw_tbl h)
  have hts := dr_words hts0 d0
  have hN : xN s := xN_of htl
  have hA : ∀ q : Nat, s.heap.size ≤ q → (fun q : Nat => s.heap.size ≤ q) q := fun _ h => h
  have hbA : ¬ (fun q : Nat => s.heap.size ≤ q) b := Nat.not_le.mpr hbl
  obtain ⟨L, K, G, Q, I, J, tx, tm, B, σ, hQ, hI, hx0, hm0, hB, hT, hC, hM, hD, hAL, hP, hS, hl, hd0, hnc, hns⟩ := h
  have hi0 : 0 ≤ i.toInt := by omega
  have hok : okF σ.1 := hC.1.1.1
  refine lv_aload_n hx hb dL_law_884 rfl (lv_at hl 2 rfl) ?_
  refine lv_aload_n hx hb dL_law_885 rfl (lv_at hl 3 rfl) ?_
  refine lv_iload_n hx hb dL_law_886 rfl (lv_at hl 0 rfl) ?_
  refine lv_iconst (v := 1) hx hb dL_law_887 (by decide +kernel) ?_
  refine lv_iadd hx hb dL_law_888 ?_
  refine va_sld (s := s.setDrawn d0) hx hb hX hbl hbA hS (lw_in (j := (1 : Int32)) (J := 1) (by decide +kernel) (by decide) (by decide) hi0 hiL hLn) dL_law_889 ?_
  refine lv_aload_n hx hb dL_law_890 rfl (lv_at hl 3 rfl) ?_
  refine lv_iload_n hx hb dL_law_891 rfl (lv_at hl 0 rfl) ?_
  refine lv_iconst (v := 2) hx hb dL_law_892 (by decide +kernel) ?_
  refine lv_iadd hx hb dL_law_893 ?_
  refine va_sld (s := s.setDrawn d0) hx hb hX hbl hbA hS (lw_in (j := (2 : Int32)) (J := 2) (by decide +kernel) (by decide) (by decide) hi0 hiL hLn) dL_law_894 ?_
  refine sw_i (va_runV (As := [.int (xs (i + 1).toNatClampNeg), .int (xs (i + 2).toNatClampNeg)]) (rest := []) ⟨hx, hb, hml, hown, hts⟩ (s_X6_mask l dC dI cs L K G Q hQ x0 m0 tx (tm, B) H.size I J hI x0 hx0 hI.2.1.1 (xs (i + 1).toNatClampNeg) (xs (i + 2).toNatClampNeg)) (cwV 2 hts (gV pq845 pq846 pq847 pq74 pq848) rfl rfl rfl (by decide +kernel) ⟨(Nat.le_of_ble_eq_true rfl), (Nat.le_of_ble_eq_true rfl)⟩) (sP_V hP hD hK hN hx0 hI.2.1.1 rfl rfl) rfl rfl hl.1 rfl (lv_room (Nat.le_of_ble_eq_true rfl)) dL_law_895 ⟨(show nc + 0 ≤ room_1.cells from (show nc + 0 ≤ 600000 from by omega)), (show ns + 0 ≤ room_1.slots from (show ns + 0 ≤ 7302249 from by omega))⟩) hS hAL hA (fun r1 I1 J1 H lo hr1 hI1 hP hS => ?_)
  obtain ⟨hIn1, fr1, dnc1, jz1, dj1⟩ := hI1
  have hk1 := hr1 σ hC
  have hC := jz1 σ hC
  have hM := cmA_w hQ hm0 hI.2.1.2 hM dnc1 (fun b hb => dj1 b (by omega))
  have hIold := hI
  have hI := hIn1
  refine lv_pop hx hb dL_law_898 rfl ?_
  refine lv_aload_n hx hb dL_law_899 rfl (lv_at hl 1 rfl) ?_
  refine lv_aload_n hx hb dL_law_900 rfl (lv_at hl 3 rfl) ?_
  refine lv_iload_n hx hb dL_law_901 rfl (lv_at hl 0 rfl) ?_
  refine lv_iconst (v := 1) hx hb dL_law_902 (by decide +kernel) ?_
  refine lv_iadd hx hb dL_law_903 ?_
  refine va_sld (s := s.setDrawn d0) hx hb hX hbl hbA hS (lw_in (j := (1 : Int32)) (J := 1) (by decide +kernel) (by decide) (by decide) hi0 hiL hLn) dL_law_904 ?_
  refine lv_aload_n hx hb dL_law_905 rfl (lv_at hl 3 rfl) ?_
  refine lv_iload_n hx hb dL_law_906 rfl (lv_at hl 0 rfl) ?_
  refine lv_iconst (v := 2) hx hb dL_law_907 (by decide +kernel) ?_
  refine lv_iadd hx hb dL_law_908 ?_
  refine va_sld (s := s.setDrawn d0) hx hb hX hbl hbA hS (lw_in (j := (2 : Int32)) (J := 2) (by decide +kernel) (by decide) (by decide) hi0 hiL hLn) dL_law_909 ?_
  refine sw_i (va_runV (As := [.int (xs (i + 1).toNatClampNeg), .int (xs (i + 2).toNatClampNeg)]) (rest := []) ⟨hx, hb, hml, hown, hts⟩ (s_X7_mask l dC dI cs L K G Q hQ x0 m0 tx (tm, B) H.size I1 J1 hI m0 hm0 hI.2.1.2 (xs (i + 1).toNatClampNeg) (xs (i + 2).toNatClampNeg)) (cwV 2 hts (gV pq1526 pq1527 pq1528 pq81 pq1529) rfl rfl rfl (by decide +kernel) ⟨(Nat.le_of_ble_eq_true rfl), (Nat.le_of_ble_eq_true rfl)⟩) (sP_V hP hD hK hN hm0 hI.2.1.2 rfl rfl) rfl rfl hl.1 rfl (lv_room (Nat.le_of_ble_eq_true rfl)) dL_law_910 ⟨(show nc + 0 ≤ room_1.cells from (show nc + 0 ≤ 600000 from by omega)), (show ns + 0 ≤ room_1.slots from (show ns + 0 ≤ 7302249 from by omega))⟩) hS hAL hA (fun r2 I2 J2 H lo hr2 hI2 hP hS => ?_)
  obtain ⟨hIn2, fr2, kq2_0_11, dnc2, jz2, dj2⟩ := hI2
  have hk2 := hr2 σ hok hM
  have hM := jz2 σ hM
  have hC := cxA_w hQ hx0 hI.2.1.1 hC dnc2 (fun b _ => congrFun dj2 b)
  have hIold := hI
  have hI := hIn2
  have heq : r1 = r2 := mar_uni hk1 hk2
  refine lv_pop hx hb dL_law_913 rfl ?_
  refine lv_goto (tgt := 1947) hx hb dL_law_914 (by decide) ?_
  exact kk _ _ _ _ _ _ ⟨L, K, G, Q, I2, J2, tx, tm, B, _, hQ, hI, hx0, hm0, by omega, hT, hC, hM, hD, hAL, hP, hS, hl, hd0, by omega, by omega⟩

set_option maxHeartbeats 4000000 in
set_option maxRecDepth 100000 in
theorem s_lwcase21 {p : Program} {e : Env} {s : State} {m : MethodId} {below : List Frame} {meth : Method} {c : Code} (l : Launch) {b Ln : Nat} {xs : Nat → Int32} {dC : Nat → ClassId} {dI : Nat → Nat → Nat} {cs : Nat → ClassId} {x0 m0 : Nat} (C0 : lw_At p s m meth c b Ln xs) (hLn : Ln ≤ 3072) (hK : va_K (dC, dI) vwCl (tysA cs) s) (hXs : xS (fun q : Nat => s.heap.size ≤ q) s s.heap) (i : Int32) (n : Nat) (hn : n < 512) (hi : i.toInt = 6 * (n : Int)) (hiL : i.toInt + 5 < (Ln : Int)) {d0 : Drawn} {H : Heap} {lo : List Loc} {ls : Array Slot} {nc ns : Nat} (h : lwI dC dI cs x0 m0 b s i n d0 H lo ls nc ns) (kk : ∀ (d0 : Drawn) (H : Heap) (lo : List Loc) (ls : Array Slot) (nc ns : Nat), lwI dC dI cs x0 m0 b s i (n + 1) d0 H lo ls nc ns → W p l e room_1 (s.setDrawn d0) m #[Value.ref b] below meth c H lo nc ns (lw_Z below #[Value.ref b] s) (F0 m 1947 ls [])) : W p l e room_1 (s.setDrawn d0) m #[Value.ref b] below meth c H lo nc ns (lw_Z below #[Value.ref b] s) (F0 m 917 ls []) := by
  obtain ⟨hx, hb, hr, hml, hown, htl, hX, hbl, hlocks, hgv⟩ := id C0
  have hb : c.code = cL_law := hb
  have hown : s.vm.findClass RL = some m.cls := hown
  have hts0 : ∀ w ∈ pw, w.before #[Value.ref b] s = true := fun w h => htl w (pw_tbl h)
  have hts := dr_words hts0 d0
  have hN : xN s := xN_of htl
  have hA : ∀ q : Nat, s.heap.size ≤ q → (fun q : Nat => s.heap.size ≤ q) q := fun _ h => h
  have hbA : ¬ (fun q : Nat => s.heap.size ≤ q) b := Nat.not_le.mpr hbl
  obtain ⟨L, K, G, Q, I, J, tx, tm, B, σ, hQ, hI, hx0, hm0, hB, hT, hC, hM, hD, hAL, hP, hS, hl, hd0, hnc, hns⟩ := h
  have hi0 : 0 ≤ i.toInt := by omega
  have hok : okF σ.1 := hC.1.1.1
  refine lv_aload_n hx hb dL_law_917 rfl (lv_at hl 2 rfl) ?_
  refine lv_aload_n hx hb dL_law_918 rfl (lv_at hl 3 rfl) ?_
  refine lv_iload_n hx hb dL_law_919 rfl (lv_at hl 0 rfl) ?_
  refine lv_iconst (v := 1) hx hb dL_law_920 (by decide +kernel) ?_
  refine lv_iadd hx hb dL_law_921 ?_
  refine va_sld (s := s.setDrawn d0) hx hb hX hbl hbA hS (lw_in (j := (1 : Int32)) (J := 1) (by decide +kernel) (by decide) (by decide) hi0 hiL hLn) dL_law_922 ?_
  refine lv_aload_n hx hb dL_law_923 rfl (lv_at hl 3 rfl) ?_
  refine lv_iload_n hx hb dL_law_924 rfl (lv_at hl 0 rfl) ?_
  refine lv_iconst (v := 2) hx hb dL_law_925 (by decide +kernel) ?_
  refine lv_iadd hx hb dL_law_926 ?_
  refine va_sld (s := s.setDrawn d0) hx hb hX hbl hbA hS (lw_in (j := (2 : Int32)) (J := 2) (by decide +kernel) (by decide) (by decide) hi0 hiL hLn) dL_law_927 ?_
  refine lv_aload_n hx hb dL_law_928 rfl (lv_at hl 3 rfl) ?_
  refine lv_iload_n hx hb dL_law_929 rfl (lv_at hl 0 rfl) ?_
  refine lv_iconst (v := 3) hx hb dL_law_930 (by decide +kernel) ?_
  refine lv_iadd hx hb dL_law_931 ?_
  refine va_sld (s := s.setDrawn d0) hx hb hX hbl hbA hS (lw_in (j := (3 : Int32)) (J := 3) (by decide +kernel) (by decide) (by decide) hi0 hiL hLn) dL_law_932 ?_
  refine ro_i (va_runV (As := [.int (xs (i + 1).toNatClampNeg), .int (xs (i + 2).toNatClampNeg), .int (xs (i + 3).toNatClampNeg)]) (rest := []) ⟨hx, hb, hml, hown, hts⟩ (s_X6_dot l dC dI cs L K G Q hQ x0 m0 tx (tm, B) H.size I J hI x0 hx0 hI.2.1.1 (xs (i + 1).toNatClampNeg) (xs (i + 2).toNatClampNeg) (xs (i + 3).toNatClampNeg)) (cwV 3 hts (gV pq878 pq879 pq880 pq74 pq881) rfl rfl rfl (by decide +kernel) ⟨(Nat.le_of_ble_eq_true rfl), (Nat.le_of_ble_eq_true rfl)⟩) (sP_V hP hD hK hN hx0 hI.2.1.1 rfl rfl) rfl rfl hl.1 rfl (lv_room (Nat.le_of_ble_eq_true rfl)) dL_law_933 ⟨(show nc + 0 ≤ room_1.cells from (show nc + 0 ≤ 600000 from by omega)), (show ns + 0 ≤ room_1.slots from (show ns + 0 ≤ 7302249 from by omega))⟩) hS hP (fun r1 H lo hr1 hP hS => ?_)
  have hk1 := hr1 σ hC
  refine lv_pop hx hb dL_law_936 rfl ?_
  refine lv_aload_n hx hb dL_law_937 rfl (lv_at hl 1 rfl) ?_
  refine lv_aload_n hx hb dL_law_938 rfl (lv_at hl 3 rfl) ?_
  refine lv_iload_n hx hb dL_law_939 rfl (lv_at hl 0 rfl) ?_
  refine lv_iconst (v := 1) hx hb dL_law_940 (by decide +kernel) ?_
  refine lv_iadd hx hb dL_law_941 ?_
  refine va_sld (s := s.setDrawn d0) hx hb hX hbl hbA hS (lw_in (j := (1 : Int32)) (J := 1) (by decide +kernel) (by decide) (by decide) hi0 hiL hLn) dL_law_942 ?_
  refine lv_aload_n hx hb dL_law_943 rfl (lv_at hl 3 rfl) ?_
  refine lv_iload_n hx hb dL_law_944 rfl (lv_at hl 0 rfl) ?_
  refine lv_iconst (v := 2) hx hb dL_law_945 (by decide +kernel) ?_
  refine lv_iadd hx hb dL_law_946 ?_
  refine va_sld (s := s.setDrawn d0) hx hb hX hbl hbA hS (lw_in (j := (2 : Int32)) (J := 2) (by decide +kernel) (by decide) (by decide) hi0 hiL hLn) dL_law_947 ?_
  refine lv_aload_n hx hb dL_law_948 rfl (lv_at hl 3 rfl) ?_
  refine lv_iload_n hx hb dL_law_949 rfl (lv_at hl 0 rfl) ?_
  refine lv_iconst (v := 3) hx hb dL_law_950 (by decide +kernel) ?_
  refine lv_iadd hx hb dL_law_951 ?_
  refine va_sld (s := s.setDrawn d0) hx hb hX hbl hbA hS (lw_in (j := (3 : Int32)) (J := 3) (by decide +kernel) (by decide) (by decide) hi0 hiL hLn) dL_law_952 ?_
  refine ro_i (va_runV (As := [.int (xs (i + 1).toNatClampNeg), .int (xs (i + 2).toNatClampNeg), .int (xs (i + 3).toNatClampNeg)]) (rest := []) ⟨hx, hb, hml, hown, hts⟩ (s_X7_dot l dC dI cs L K G Q hQ x0 m0 tx (tm, B) H.size I J hI m0 hm0 hI.2.1.2 (xs (i + 1).toNatClampNeg) (xs (i + 2).toNatClampNeg) (xs (i + 3).toNatClampNeg)) (cwV 3 hts (gV pq1554 pq1555 pq1556 pq81 pq1557) rfl rfl rfl (by decide +kernel) ⟨(Nat.le_of_ble_eq_true rfl), (Nat.le_of_ble_eq_true rfl)⟩) (sP_V hP hD hK hN hm0 hI.2.1.2 rfl rfl) rfl rfl hl.1 rfl (lv_room (Nat.le_of_ble_eq_true rfl)) dL_law_953 ⟨(show nc + 0 ≤ room_1.cells from (show nc + 0 ≤ 600000 from by omega)), (show ns + 0 ≤ room_1.slots from (show ns + 0 ≤ 7302249 from by omega))⟩) hS hP (fun r2 H lo hr2 hP hS => ?_)
  have hk2 := hr2 σ hM
  have heq : r1 = r2 := Int32.toInt_inj.mp (hk1.trans hk2.symm)
  refine lv_pop hx hb dL_law_956 rfl ?_
  refine lv_goto (tgt := 1947) hx hb dL_law_957 (by decide) ?_
  exact kk _ _ _ _ _ _ ⟨L, K, G, Q, I, J, tx, tm, B, _, hQ, hI, hx0, hm0, by omega, hT, hC, hM, hD, hAL, hP, hS, hl, hd0, by omega, by omega⟩

set_option maxHeartbeats 4000000 in
set_option maxRecDepth 100000 in
theorem s_lwcase22 {p : Program} {e : Env} {s : State} {m : MethodId} {below : List Frame} {meth : Method} {c : Code} (l : Launch) {b Ln : Nat} {xs : Nat → Int32} {dC : Nat → ClassId} {dI : Nat → Nat → Nat} {cs : Nat → ClassId} {x0 m0 : Nat} (C0 : lw_At p s m meth c b Ln xs) (hLn : Ln ≤ 3072) (hK : va_K (dC, dI) vwCl (tysA cs) s) (hXs : xS (fun q : Nat => s.heap.size ≤ q) s s.heap) (i : Int32) (n : Nat) (hn : n < 512) (hi : i.toInt = 6 * (n : Int)) (hiL : i.toInt + 5 < (Ln : Int)) {d0 : Drawn} {H : Heap} {lo : List Loc} {ls : Array Slot} {nc ns : Nat} (h : lwI dC dI cs x0 m0 b s i n d0 H lo ls nc ns) (kk : ∀ (d0 : Drawn) (H : Heap) (lo : List Loc) (ls : Array Slot) (nc ns : Nat), lwI dC dI cs x0 m0 b s i (n + 1) d0 H lo ls nc ns → W p l e room_1 (s.setDrawn d0) m #[Value.ref b] below meth c H lo nc ns (lw_Z below #[Value.ref b] s) (F0 m 1947 ls [])) : W p l e room_1 (s.setDrawn d0) m #[Value.ref b] below meth c H lo nc ns (lw_Z below #[Value.ref b] s) (F0 m 960 ls []) := by
  obtain ⟨hx, hb, hr, hml, hown, htl, hX, hbl, hlocks, hgv⟩ := id C0
  have hb : c.code = cL_law := hb
  have hown : s.vm.findClass RL = some m.cls := hown
  have hts0 : ∀ w ∈ pw, w.before #[Value.ref b] s = true := fun w h => htl w (pw_tbl h)
  have hts := dr_words hts0 d0
  have hN : xN s := xN_of htl
  have hA : ∀ q : Nat, s.heap.size ≤ q → (fun q : Nat => s.heap.size ≤ q) q := fun _ h => h
  have hbA : ¬ (fun q : Nat => s.heap.size ≤ q) b := Nat.not_le.mpr hbl
  obtain ⟨L, K, G, Q, I, J, tx, tm, B, σ, hQ, hI, hx0, hm0, hB, hT, hC, hM, hD, hAL, hP, hS, hl, hd0, hnc, hns⟩ := h
  have hi0 : 0 ≤ i.toInt := by omega
  have hok : okF σ.1 := hC.1.1.1
  refine lv_aload_n hx hb dL_law_960 rfl (lv_at hl 2 rfl) ?_
  refine lv_aload_n hx hb dL_law_961 rfl (lv_at hl 3 rfl) ?_
  refine lv_iload_n hx hb dL_law_962 rfl (lv_at hl 0 rfl) ?_
  refine lv_iconst (v := 1) hx hb dL_law_963 (by decide +kernel) ?_
  refine lv_iadd hx hb dL_law_964 ?_
  refine va_sld (s := s.setDrawn d0) hx hb hX hbl hbA hS (lw_in (j := (1 : Int32)) (J := 1) (by decide +kernel) (by decide) (by decide) hi0 hiL hLn) dL_law_965 ?_
  refine lv_aload_n hx hb dL_law_966 rfl (lv_at hl 3 rfl) ?_
  refine lv_iload_n hx hb dL_law_967 rfl (lv_at hl 0 rfl) ?_
  refine lv_iconst (v := 2) hx hb dL_law_968 (by decide +kernel) ?_
  refine lv_iadd hx hb dL_law_969 ?_
  refine va_sld (s := s.setDrawn d0) hx hb hX hbl hbA hS (lw_in (j := (2 : Int32)) (J := 2) (by decide +kernel) (by decide) (by decide) hi0 hiL hLn) dL_law_970 ?_
  refine lv_aload_n hx hb dL_law_971 rfl (lv_at hl 3 rfl) ?_
  refine lv_iload_n hx hb dL_law_972 rfl (lv_at hl 0 rfl) ?_
  refine lv_iconst (v := 3) hx hb dL_law_973 (by decide +kernel) ?_
  refine lv_iadd hx hb dL_law_974 ?_
  refine va_sld (s := s.setDrawn d0) hx hb hX hbl hbA hS (lw_in (j := (3 : Int32)) (J := 3) (by decide +kernel) (by decide) (by decide) hi0 hiL hLn) dL_law_975 ?_
  refine ro_l (va_runV (As := [.int (xs (i + 1).toNatClampNeg), .int (xs (i + 2).toNatClampNeg), .int (xs (i + 3).toNatClampNeg)]) (rest := []) ⟨hx, hb, hml, hown, hts⟩ (s_X6_row l dC dI cs L K G Q hQ x0 m0 tx (tm, B) H.size I J hI x0 hx0 hI.2.1.1 (xs (i + 1).toNatClampNeg) (xs (i + 2).toNatClampNeg) (xs (i + 3).toNatClampNeg)) (cwV 3 hts (gV pq882 pq883 pq884 pq74 pq885) rfl rfl rfl (by decide +kernel) ⟨(Nat.le_of_ble_eq_true rfl), (Nat.le_of_ble_eq_true rfl)⟩) (sP_V hP hD hK hN hx0 hI.2.1.1 rfl rfl) rfl rfl hl.1 rfl (lv_room (Nat.le_of_ble_eq_true rfl)) dL_law_976 ⟨(show nc + 0 ≤ room_1.cells from (show nc + 0 ≤ 600000 from by omega)), (show ns + 0 ≤ room_1.slots from (show ns + 0 ≤ 7302249 from by omega))⟩) hS hP (fun r1 H lo hr1 hP hS => ?_)
  have hk1 := hr1 σ hC
  refine lv_pop2_2 hx hb dL_law_979 rfl ?_
  refine lv_aload_n hx hb dL_law_980 rfl (lv_at hl 1 rfl) ?_
  refine lv_aload_n hx hb dL_law_981 rfl (lv_at hl 3 rfl) ?_
  refine lv_iload_n hx hb dL_law_982 rfl (lv_at hl 0 rfl) ?_
  refine lv_iconst (v := 1) hx hb dL_law_983 (by decide +kernel) ?_
  refine lv_iadd hx hb dL_law_984 ?_
  refine va_sld (s := s.setDrawn d0) hx hb hX hbl hbA hS (lw_in (j := (1 : Int32)) (J := 1) (by decide +kernel) (by decide) (by decide) hi0 hiL hLn) dL_law_985 ?_
  refine lv_aload_n hx hb dL_law_986 rfl (lv_at hl 3 rfl) ?_
  refine lv_iload_n hx hb dL_law_987 rfl (lv_at hl 0 rfl) ?_
  refine lv_iconst (v := 2) hx hb dL_law_988 (by decide +kernel) ?_
  refine lv_iadd hx hb dL_law_989 ?_
  refine va_sld (s := s.setDrawn d0) hx hb hX hbl hbA hS (lw_in (j := (2 : Int32)) (J := 2) (by decide +kernel) (by decide) (by decide) hi0 hiL hLn) dL_law_990 ?_
  refine lv_aload_n hx hb dL_law_991 rfl (lv_at hl 3 rfl) ?_
  refine lv_iload_n hx hb dL_law_992 rfl (lv_at hl 0 rfl) ?_
  refine lv_iconst (v := 3) hx hb dL_law_993 (by decide +kernel) ?_
  refine lv_iadd hx hb dL_law_994 ?_
  refine va_sld (s := s.setDrawn d0) hx hb hX hbl hbA hS (lw_in (j := (3 : Int32)) (J := 3) (by decide +kernel) (by decide) (by decide) hi0 hiL hLn) dL_law_995 ?_
  refine ro_l (va_runV (As := [.int (xs (i + 1).toNatClampNeg), .int (xs (i + 2).toNatClampNeg), .int (xs (i + 3).toNatClampNeg)]) (rest := []) ⟨hx, hb, hml, hown, hts⟩ (s_X7_row l dC dI cs L K G Q hQ x0 m0 tx (tm, B) H.size I J hI m0 hm0 hI.2.1.2 (xs (i + 1).toNatClampNeg) (xs (i + 2).toNatClampNeg) (xs (i + 3).toNatClampNeg)) (cwV 3 hts (gV pq1558 pq1559 pq1560 pq81 pq1561) rfl rfl rfl (by decide +kernel) ⟨(Nat.le_of_ble_eq_true rfl), (Nat.le_of_ble_eq_true rfl)⟩) (sP_V hP hD hK hN hm0 hI.2.1.2 rfl rfl) rfl rfl hl.1 rfl (lv_room (Nat.le_of_ble_eq_true rfl)) dL_law_996 ⟨(show nc + 0 ≤ room_1.cells from (show nc + 0 ≤ 600000 from by omega)), (show ns + 0 ≤ room_1.slots from (show ns + 0 ≤ 7302249 from by omega))⟩) hS hP (fun r2 H lo hr2 hP hS => ?_)
  have hk2 := hr2 σ hM
  have heq : r1 = r2 := hk1.trans hk2.symm
  refine lv_pop2_2 hx hb dL_law_999 rfl ?_
  refine lv_goto (tgt := 1947) hx hb dL_law_1000 (by decide) ?_
  exact kk _ _ _ _ _ _ ⟨L, K, G, Q, I, J, tx, tm, B, _, hQ, hI, hx0, hm0, by omega, hT, hC, hM, hD, hAL, hP, hS, hl, hd0, by omega, by omega⟩

set_option maxHeartbeats 4000000 in
set_option maxRecDepth 100000 in
theorem s_lwcase23 {p : Program} {e : Env} {s : State} {m : MethodId} {below : List Frame} {meth : Method} {c : Code} (l : Launch) {b Ln : Nat} {xs : Nat → Int32} {dC : Nat → ClassId} {dI : Nat → Nat → Nat} {cs : Nat → ClassId} {x0 m0 : Nat} (C0 : lw_At p s m meth c b Ln xs) (hLn : Ln ≤ 3072) (hK : va_K (dC, dI) vwCl (tysA cs) s) (hXs : xS (fun q : Nat => s.heap.size ≤ q) s s.heap) (i : Int32) (n : Nat) (hn : n < 512) (hi : i.toInt = 6 * (n : Int)) (hiL : i.toInt + 5 < (Ln : Int)) {d0 : Drawn} {H : Heap} {lo : List Loc} {ls : Array Slot} {nc ns : Nat} (h : lwI dC dI cs x0 m0 b s i n d0 H lo ls nc ns) (kk : ∀ (d0 : Drawn) (H : Heap) (lo : List Loc) (ls : Array Slot) (nc ns : Nat), lwI dC dI cs x0 m0 b s i (n + 1) d0 H lo ls nc ns → W p l e room_1 (s.setDrawn d0) m #[Value.ref b] below meth c H lo nc ns (lw_Z below #[Value.ref b] s) (F0 m 1947 ls [])) : W p l e room_1 (s.setDrawn d0) m #[Value.ref b] below meth c H lo nc ns (lw_Z below #[Value.ref b] s) (F0 m 1003 ls []) := by
  obtain ⟨hx, hb, hr, hml, hown, htl, hX, hbl, hlocks, hgv⟩ := id C0
  have hb : c.code = cL_law := hb
  have hown : s.vm.findClass RL = some m.cls := hown
  have hts0 : ∀ w ∈ pw, w.before #[Value.ref b] s = true := fun w h => htl w (pw_tbl h)
  have hts := dr_words hts0 d0
  have hN : xN s := xN_of htl
  have hA : ∀ q : Nat, s.heap.size ≤ q → (fun q : Nat => s.heap.size ≤ q) q := fun _ h => h
  have hbA : ¬ (fun q : Nat => s.heap.size ≤ q) b := Nat.not_le.mpr hbl
  obtain ⟨L, K, G, Q, I, J, tx, tm, B, σ, hQ, hI, hx0, hm0, hB, hT, hC, hM, hD, hAL, hP, hS, hl, hd0, hnc, hns⟩ := h
  have hi0 : 0 ≤ i.toInt := by omega
  have hok : okF σ.1 := hC.1.1.1
  refine lv_aload_n hx hb dL_law_1003 rfl (lv_at hl 2 rfl) ?_
  refine lv_aload_n hx hb dL_law_1004 rfl (lv_at hl 3 rfl) ?_
  refine lv_iload_n hx hb dL_law_1005 rfl (lv_at hl 0 rfl) ?_
  refine lv_iconst (v := 1) hx hb dL_law_1006 (by decide +kernel) ?_
  refine lv_iadd hx hb dL_law_1007 ?_
  refine va_sld (s := s.setDrawn d0) hx hb hX hbl hbA hS (lw_in (j := (1 : Int32)) (J := 1) (by decide +kernel) (by decide) (by decide) hi0 hiL hLn) dL_law_1008 ?_
  refine lv_aload_n hx hb dL_law_1009 rfl (lv_at hl 3 rfl) ?_
  refine lv_iload_n hx hb dL_law_1010 rfl (lv_at hl 0 rfl) ?_
  refine lv_iconst (v := 2) hx hb dL_law_1011 (by decide +kernel) ?_
  refine lv_iadd hx hb dL_law_1012 ?_
  refine va_sld (s := s.setDrawn d0) hx hb hX hbl hbA hS (lw_in (j := (2 : Int32)) (J := 2) (by decide +kernel) (by decide) (by decide) hi0 hiL hLn) dL_law_1013 ?_
  refine ro_i (va_runV (As := [.int (xs (i + 1).toNatClampNeg), .int (xs (i + 2).toNatClampNeg)]) (rest := []) ⟨hx, hb, hml, hown, hts⟩ (s_X6_body l dC dI cs L K G Q hQ x0 m0 tx (tm, B) H.size I J hI x0 hx0 hI.2.1.1 (xs (i + 1).toNatClampNeg) (xs (i + 2).toNatClampNeg)) (cwV 2 hts (gV pq958 pq959 pq960 pq74 pq961) rfl rfl rfl (by decide +kernel) ⟨(Nat.le_of_ble_eq_true rfl), (Nat.le_of_ble_eq_true rfl)⟩) (sP_V hP hD hK hN hx0 hI.2.1.1 rfl rfl) rfl rfl hl.1 rfl (lv_room (Nat.le_of_ble_eq_true rfl)) dL_law_1014 ⟨(show nc + 0 ≤ room_1.cells from (show nc + 0 ≤ 600000 from by omega)), (show ns + 0 ≤ room_1.slots from (show ns + 0 ≤ 7302249 from by omega))⟩) hS hP (fun r1 H lo hr1 hP hS => ?_)
  have hk1 := hr1 σ hC
  refine lv_pop hx hb dL_law_1017 rfl ?_
  refine lv_aload_n hx hb dL_law_1018 rfl (lv_at hl 1 rfl) ?_
  refine lv_aload_n hx hb dL_law_1019 rfl (lv_at hl 3 rfl) ?_
  refine lv_iload_n hx hb dL_law_1020 rfl (lv_at hl 0 rfl) ?_
  refine lv_iconst (v := 1) hx hb dL_law_1021 (by decide +kernel) ?_
  refine lv_iadd hx hb dL_law_1022 ?_
  refine va_sld (s := s.setDrawn d0) hx hb hX hbl hbA hS (lw_in (j := (1 : Int32)) (J := 1) (by decide +kernel) (by decide) (by decide) hi0 hiL hLn) dL_law_1023 ?_
  refine lv_aload_n hx hb dL_law_1024 rfl (lv_at hl 3 rfl) ?_
  refine lv_iload_n hx hb dL_law_1025 rfl (lv_at hl 0 rfl) ?_
  refine lv_iconst (v := 2) hx hb dL_law_1026 (by decide +kernel) ?_
  refine lv_iadd hx hb dL_law_1027 ?_
  refine va_sld (s := s.setDrawn d0) hx hb hX hbl hbA hS (lw_in (j := (2 : Int32)) (J := 2) (by decide +kernel) (by decide) (by decide) hi0 hiL hLn) dL_law_1028 ?_
  refine ro_i (va_runV (As := [.int (xs (i + 1).toNatClampNeg), .int (xs (i + 2).toNatClampNeg)]) (rest := []) ⟨hx, hb, hml, hown, hts⟩ (s_X7_body l dC dI cs L K G Q hQ x0 m0 tx (tm, B) H.size I J hI m0 hm0 hI.2.1.2 (xs (i + 1).toNatClampNeg) (xs (i + 2).toNatClampNeg)) (cwV 2 hts (gV pq1562 pq1563 pq1564 pq81 pq1565) rfl rfl rfl (by decide +kernel) ⟨(Nat.le_of_ble_eq_true rfl), (Nat.le_of_ble_eq_true rfl)⟩) (sP_V hP hD hK hN hm0 hI.2.1.2 rfl rfl) rfl rfl hl.1 rfl (lv_room (Nat.le_of_ble_eq_true rfl)) dL_law_1029 ⟨(show nc + 0 ≤ room_1.cells from (show nc + 0 ≤ 600000 from by omega)), (show ns + 0 ≤ room_1.slots from (show ns + 0 ≤ 7302249 from by omega))⟩) hS hP (fun r2 H lo hr2 hP hS => ?_)
  have hk2 := hr2 σ hM
  have heq : r1 = r2 := Int32.toInt_inj.mp (hk1.trans hk2.symm)
  refine lv_pop hx hb dL_law_1032 rfl ?_
  refine lv_goto (tgt := 1947) hx hb dL_law_1033 (by decide) ?_
  exact kk _ _ _ _ _ _ ⟨L, K, G, Q, I, J, tx, tm, B, _, hQ, hI, hx0, hm0, by omega, hT, hC, hM, hD, hAL, hP, hS, hl, hd0, by omega, by omega⟩

set_option maxHeartbeats 4000000 in
set_option maxRecDepth 100000 in
theorem s_lwcase24 {p : Program} {e : Env} {s : State} {m : MethodId} {below : List Frame} {meth : Method} {c : Code} (l : Launch) {b Ln : Nat} {xs : Nat → Int32} {dC : Nat → ClassId} {dI : Nat → Nat → Nat} {cs : Nat → ClassId} {x0 m0 : Nat} (C0 : lw_At p s m meth c b Ln xs) (hLn : Ln ≤ 3072) (hK : va_K (dC, dI) vwCl (tysA cs) s) (hXs : xS (fun q : Nat => s.heap.size ≤ q) s s.heap) (i : Int32) (n : Nat) (hn : n < 512) (hi : i.toInt = 6 * (n : Int)) (hiL : i.toInt + 5 < (Ln : Int)) {d0 : Drawn} {H : Heap} {lo : List Loc} {ls : Array Slot} {nc ns : Nat} (h : lwI dC dI cs x0 m0 b s i n d0 H lo ls nc ns) (kk : ∀ (d0 : Drawn) (H : Heap) (lo : List Loc) (ls : Array Slot) (nc ns : Nat), lwI dC dI cs x0 m0 b s i (n + 1) d0 H lo ls nc ns → W p l e room_1 (s.setDrawn d0) m #[Value.ref b] below meth c H lo nc ns (lw_Z below #[Value.ref b] s) (F0 m 1947 ls [])) : W p l e room_1 (s.setDrawn d0) m #[Value.ref b] below meth c H lo nc ns (lw_Z below #[Value.ref b] s) (F0 m 1036 ls []) := by
  obtain ⟨hx, hb, hr, hml, hown, htl, hX, hbl, hlocks, hgv⟩ := id C0
  have hb : c.code = cL_law := hb
  have hown : s.vm.findClass RL = some m.cls := hown
  have hts0 : ∀ w ∈ pw, w.before #[Value.ref b] s = true := fun w h => htl w (pw_tbl h)
  have hts := dr_words hts0 d0
  have hN : xN s := xN_of htl
  have hA : ∀ q : Nat, s.heap.size ≤ q → (fun q : Nat => s.heap.size ≤ q) q := fun _ h => h
  have hbA : ¬ (fun q : Nat => s.heap.size ≤ q) b := Nat.not_le.mpr hbl
  obtain ⟨L, K, G, Q, I, J, tx, tm, B, σ, hQ, hI, hx0, hm0, hB, hT, hC, hM, hD, hAL, hP, hS, hl, hd0, hnc, hns⟩ := h
  have hi0 : 0 ≤ i.toInt := by omega
  have hok : okF σ.1 := hC.1.1.1
  refine lv_aload_n hx hb dL_law_1036 rfl (lv_at hl 2 rfl) ?_
  refine lv_aload_n hx hb dL_law_1037 rfl (lv_at hl 3 rfl) ?_
  refine lv_iload_n hx hb dL_law_1038 rfl (lv_at hl 0 rfl) ?_
  refine lv_iconst (v := 1) hx hb dL_law_1039 (by decide +kernel) ?_
  refine lv_iadd hx hb dL_law_1040 ?_
  refine va_sld (s := s.setDrawn d0) hx hb hX hbl hbA hS (lw_in (j := (1 : Int32)) (J := 1) (by decide +kernel) (by decide) (by decide) hi0 hiL hLn) dL_law_1041 ?_
  refine lv_aload_n hx hb dL_law_1042 rfl (lv_at hl 3 rfl) ?_
  refine lv_iload_n hx hb dL_law_1043 rfl (lv_at hl 0 rfl) ?_
  refine lv_iconst (v := 2) hx hb dL_law_1044 (by decide +kernel) ?_
  refine lv_iadd hx hb dL_law_1045 ?_
  refine va_sld (s := s.setDrawn d0) hx hb hX hbl hbA hS (lw_in (j := (2 : Int32)) (J := 2) (by decide +kernel) (by decide) (by decide) hi0 hiL hLn) dL_law_1046 ?_
  refine ro_i (va_runV (As := [.int (xs (i + 1).toNatClampNeg), .int (xs (i + 2).toNatClampNeg)]) (rest := []) ⟨hx, hb, hml, hown, hts⟩ (s_X6_common l dC dI cs L K G Q hQ x0 m0 tx (tm, B) H.size I J hI x0 hx0 hI.2.1.1 (xs (i + 1).toNatClampNeg) (xs (i + 2).toNatClampNeg)) (cwV 2 hts (gV pq966 pq967 pq968 pq74 pq969) rfl rfl rfl (by decide +kernel) ⟨(Nat.le_of_ble_eq_true rfl), (Nat.le_of_ble_eq_true rfl)⟩) (sP_V hP hD hK hN hx0 hI.2.1.1 rfl rfl) rfl rfl hl.1 rfl (lv_room (Nat.le_of_ble_eq_true rfl)) dL_law_1047 ⟨(show nc + 0 ≤ room_1.cells from (show nc + 0 ≤ 600000 from by omega)), (show ns + 0 ≤ room_1.slots from (show ns + 0 ≤ 7302249 from by omega))⟩) hS hP (fun r1 H lo hr1 hP hS => ?_)
  have hk1 := hr1 σ hC
  refine lv_pop hx hb dL_law_1050 rfl ?_
  refine lv_aload_n hx hb dL_law_1051 rfl (lv_at hl 1 rfl) ?_
  refine lv_aload_n hx hb dL_law_1052 rfl (lv_at hl 3 rfl) ?_
  refine lv_iload_n hx hb dL_law_1053 rfl (lv_at hl 0 rfl) ?_
  refine lv_iconst (v := 1) hx hb dL_law_1054 (by decide +kernel) ?_
  refine lv_iadd hx hb dL_law_1055 ?_
  refine va_sld (s := s.setDrawn d0) hx hb hX hbl hbA hS (lw_in (j := (1 : Int32)) (J := 1) (by decide +kernel) (by decide) (by decide) hi0 hiL hLn) dL_law_1056 ?_
  refine lv_aload_n hx hb dL_law_1057 rfl (lv_at hl 3 rfl) ?_
  refine lv_iload_n hx hb dL_law_1058 rfl (lv_at hl 0 rfl) ?_
  refine lv_iconst (v := 2) hx hb dL_law_1059 (by decide +kernel) ?_
  refine lv_iadd hx hb dL_law_1060 ?_
  refine va_sld (s := s.setDrawn d0) hx hb hX hbl hbA hS (lw_in (j := (2 : Int32)) (J := 2) (by decide +kernel) (by decide) (by decide) hi0 hiL hLn) dL_law_1061 ?_
  refine sw_i (va_runV (As := [.int (xs (i + 1).toNatClampNeg), .int (xs (i + 2).toNatClampNeg)]) (rest := []) ⟨hx, hb, hml, hown, hts⟩ (s_X7_common l dC dI cs L K G Q hQ x0 m0 tx (tm, B) H.size I J hI m0 hm0 hI.2.1.2 (xs (i + 1).toNatClampNeg) (xs (i + 2).toNatClampNeg)) (cwV 2 hts (gV pq1567 pq1568 pq1569 pq81 pq1570) rfl rfl rfl (by decide +kernel) ⟨(Nat.le_of_ble_eq_true rfl), (Nat.le_of_ble_eq_true rfl)⟩) (sP_V hP hD hK hN hm0 hI.2.1.2 rfl rfl) rfl rfl hl.1 rfl (lv_room (Nat.le_of_ble_eq_true rfl)) dL_law_1062 ⟨(show nc + 0 ≤ room_1.cells from (show nc + 0 ≤ 600000 from by omega)), (show ns + 0 ≤ room_1.slots from (show ns + 0 ≤ 7302249 from by omega))⟩) hS hAL hA (fun r2 I2 J2 H lo hr2 hI2 hP hS => ?_)
  obtain ⟨hIn2, sm2, jz2, dj2⟩ := hI2
  have hk2 := hr2 σ hok hM
  have hM := jz2 σ hM
  have hC := cxA_w hQ hx0 hI.2.1.1 hC (fun b _ => congrFun sm2 b) (fun b hb => dj2 b (by omega))
  have hIold := hI
  have hI := hIn2
  have heq : r1 = r2 := Int32.toInt_inj.mp (hk1.trans hk2.symm)
  refine lv_pop hx hb dL_law_1065 rfl ?_
  refine lv_goto (tgt := 1947) hx hb dL_law_1066 (by decide) ?_
  exact kk _ _ _ _ _ _ ⟨L, K, G, Q, I2, J2, tx, tm, B, _, hQ, hI, hx0, hm0, by omega, hT, hC, hM, hD, hAL, hP, hS, hl, hd0, by omega, by omega⟩
