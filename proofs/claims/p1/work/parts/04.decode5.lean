theorem d_Mo_init_710 : decode prog_14_method_1_code 710 = .ok (.ldc 100, 2) := by decide +kernel
theorem d_Mo_init_712 : decode prog_14_method_1_code 712 = .ok (.iastore, 1) := by decide +kernel
theorem d_Mo_init_713 : decode prog_14_method_1_code 713 = .ok (.dup, 1) := by decide +kernel
theorem d_Mo_init_714 : decode prog_14_method_1_code 714 = .ok (.iconst 2, 1) := by decide +kernel
theorem d_Mo_init_715 : decode prog_14_method_1_code 715 = .ok (.sipush (9891), 3) := by decide +kernel
theorem d_Mo_init_718 : decode prog_14_method_1_code 718 = .ok (.iastore, 1) := by decide +kernel
theorem d_Mo_init_719 : decode prog_14_method_1_code 719 = .ok (.dup, 1) := by decide +kernel
theorem d_Mo_init_720 : decode prog_14_method_1_code 720 = .ok (.iconst 3, 1) := by decide +kernel
theorem d_Mo_init_721 : decode prog_14_method_1_code 721 = .ok (.ldc 101, 2) := by decide +kernel
theorem d_Mo_init_723 : decode prog_14_method_1_code 723 = .ok (.iastore, 1) := by decide +kernel
theorem d_Mo_init_724 : decode prog_14_method_1_code 724 = .ok (.dup, 1) := by decide +kernel
theorem d_Mo_init_725 : decode prog_14_method_1_code 725 = .ok (.iconst 4, 1) := by decide +kernel
theorem d_Mo_init_726 : decode prog_14_method_1_code 726 = .ok (.sipush (23972), 3) := by decide +kernel
theorem d_Mo_init_729 : decode prog_14_method_1_code 729 = .ok (.iastore, 1) := by decide +kernel
theorem d_Mo_init_730 : decode prog_14_method_1_code 730 = .ok (.dup, 1) := by decide +kernel
theorem d_Mo_init_731 : decode prog_14_method_1_code 731 = .ok (.iconst 5, 1) := by decide +kernel
theorem d_Mo_init_732 : decode prog_14_method_1_code 732 = .ok (.ldc 102, 2) := by decide +kernel
theorem d_Mo_init_734 : decode prog_14_method_1_code 734 = .ok (.iastore, 1) := by decide +kernel
theorem d_Mo_init_735 : decode prog_14_method_1_code 735 = .ok (.dup, 1) := by decide +kernel
theorem d_Mo_init_736 : decode prog_14_method_1_code 736 = .ok (.bipush (6), 2) := by decide +kernel
theorem d_Mo_init_738 : decode prog_14_method_1_code 738 = .ok (.sipush (3601), 3) := by decide +kernel
theorem d_Mo_init_741 : decode prog_14_method_1_code 741 = .ok (.iastore, 1) := by decide +kernel
theorem d_Mo_init_742 : decode prog_14_method_1_code 742 = .ok (.dup, 1) := by decide +kernel
theorem d_Mo_init_743 : decode prog_14_method_1_code 743 = .ok (.bipush (7), 2) := by decide +kernel
theorem d_Mo_init_745 : decode prog_14_method_1_code 745 = .ok (.sipush (2216), 3) := by decide +kernel
theorem d_Mo_init_748 : decode prog_14_method_1_code 748 = .ok (.iastore, 1) := by decide +kernel
theorem d_Mo_init_749 : decode prog_14_method_1_code 749 = .ok (.dup, 1) := by decide +kernel
theorem d_Mo_init_750 : decode prog_14_method_1_code 750 = .ok (.bipush (8), 2) := by decide +kernel
theorem d_Mo_init_752 : decode prog_14_method_1_code 752 = .ok (.ldc 103, 2) := by decide +kernel
theorem d_Mo_init_754 : decode prog_14_method_1_code 754 = .ok (.iastore, 1) := by decide +kernel
theorem d_Mo_init_755 : decode prog_14_method_1_code 755 = .ok (.dup, 1) := by decide +kernel
theorem d_Mo_init_756 : decode prog_14_method_1_code 756 = .ok (.bipush (9), 2) := by decide +kernel
theorem d_Mo_init_758 : decode prog_14_method_1_code 758 = .ok (.ldc 104, 2) := by decide +kernel
theorem d_Mo_init_760 : decode prog_14_method_1_code 760 = .ok (.iastore, 1) := by decide +kernel
theorem d_Mo_init_761 : decode prog_14_method_1_code 761 = .ok (.dup, 1) := by decide +kernel
theorem d_Mo_init_762 : decode prog_14_method_1_code 762 = .ok (.bipush (10), 2) := by decide +kernel
theorem d_Mo_init_764 : decode prog_14_method_1_code 764 = .ok (.ldc 105, 2) := by decide +kernel
theorem d_Mo_init_766 : decode prog_14_method_1_code 766 = .ok (.iastore, 1) := by decide +kernel
theorem d_Mo_init_767 : decode prog_14_method_1_code 767 = .ok (.dup, 1) := by decide +kernel
theorem d_Mo_init_768 : decode prog_14_method_1_code 768 = .ok (.bipush (11), 2) := by decide +kernel
theorem d_Mo_init_770 : decode prog_14_method_1_code 770 = .ok (.sipush (21529), 3) := by decide +kernel
theorem d_Mo_init_773 : decode prog_14_method_1_code 773 = .ok (.iastore, 1) := by decide +kernel
theorem d_Mo_init_774 : decode prog_14_method_1_code 774 = .ok (.dup, 1) := by decide +kernel
theorem d_Mo_init_775 : decode prog_14_method_1_code 775 = .ok (.bipush (12), 2) := by decide +kernel
theorem d_Mo_init_777 : decode prog_14_method_1_code 777 = .ok (.ldc 106, 2) := by decide +kernel
theorem d_Mo_init_779 : decode prog_14_method_1_code 779 = .ok (.iastore, 1) := by decide +kernel
theorem d_Mo_init_780 : decode prog_14_method_1_code 780 = .ok (.dup, 1) := by decide +kernel
theorem d_Mo_init_781 : decode prog_14_method_1_code 781 = .ok (.bipush (13), 2) := by decide +kernel
theorem d_Mo_init_783 : decode prog_14_method_1_code 783 = .ok (.ldc 107, 2) := by decide +kernel
theorem d_Mo_init_785 : decode prog_14_method_1_code 785 = .ok (.iastore, 1) := by decide +kernel
theorem d_Mo_init_786 : decode prog_14_method_1_code 786 = .ok (.dup, 1) := by decide +kernel
theorem d_Mo_init_787 : decode prog_14_method_1_code 787 = .ok (.bipush (14), 2) := by decide +kernel
theorem d_Mo_init_789 : decode prog_14_method_1_code 789 = .ok (.ldc 108, 2) := by decide +kernel
theorem d_Mo_init_791 : decode prog_14_method_1_code 791 = .ok (.iastore, 1) := by decide +kernel
theorem d_Mo_init_792 : decode prog_14_method_1_code 792 = .ok (.dup, 1) := by decide +kernel
theorem d_Mo_init_793 : decode prog_14_method_1_code 793 = .ok (.bipush (15), 2) := by decide +kernel
theorem d_Mo_init_795 : decode prog_14_method_1_code 795 = .ok (.ldc 109, 2) := by decide +kernel
theorem d_Mo_init_797 : decode prog_14_method_1_code 797 = .ok (.iastore, 1) := by decide +kernel
theorem d_Mo_init_798 : decode prog_14_method_1_code 798 = .ok (.putfield 110, 3) := by decide +kernel
theorem d_Mo_init_801 : decode prog_14_method_1_code 801 = .ok (.aload_n 0, 1) := by decide +kernel
theorem d_Mo_init_802 : decode prog_14_method_1_code 802 = .ok (.bipush (25), 2) := by decide +kernel
theorem d_Mo_init_804 : decode prog_14_method_1_code 804 = .ok (.newarray .int, 2) := by decide +kernel
theorem d_Mo_init_806 : decode prog_14_method_1_code 806 = .ok (.dup, 1) := by decide +kernel
theorem d_Mo_init_807 : decode prog_14_method_1_code 807 = .ok (.iconst 0, 1) := by decide +kernel
theorem d_Mo_init_808 : decode prog_14_method_1_code 808 = .ok (.bipush (70), 2) := by decide +kernel
theorem d_Mo_init_810 : decode prog_14_method_1_code 810 = .ok (.iastore, 1) := by decide +kernel
theorem d_Mo_init_811 : decode prog_14_method_1_code 811 = .ok (.dup, 1) := by decide +kernel
theorem d_Mo_init_812 : decode prog_14_method_1_code 812 = .ok (.iconst 1, 1) := by decide +kernel
theorem d_Mo_init_813 : decode prog_14_method_1_code 813 = .ok (.bipush (82), 2) := by decide +kernel
theorem d_Mo_init_815 : decode prog_14_method_1_code 815 = .ok (.iastore, 1) := by decide +kernel
theorem d_Mo_init_816 : decode prog_14_method_1_code 816 = .ok (.dup, 1) := by decide +kernel
theorem d_Mo_init_817 : decode prog_14_method_1_code 817 = .ok (.iconst 2, 1) := by decide +kernel
theorem d_Mo_init_818 : decode prog_14_method_1_code 818 = .ok (.bipush (79), 2) := by decide +kernel
theorem d_Mo_init_820 : decode prog_14_method_1_code 820 = .ok (.iastore, 1) := by decide +kernel
theorem d_Mo_init_821 : decode prog_14_method_1_code 821 = .ok (.dup, 1) := by decide +kernel
theorem d_Mo_init_822 : decode prog_14_method_1_code 822 = .ok (.iconst 3, 1) := by decide +kernel
theorem d_Mo_init_823 : decode prog_14_method_1_code 823 = .ok (.bipush (83), 2) := by decide +kernel
theorem d_Mo_init_825 : decode prog_14_method_1_code 825 = .ok (.iastore, 1) := by decide +kernel
theorem d_Mo_init_826 : decode prog_14_method_1_code 826 = .ok (.dup, 1) := by decide +kernel
theorem d_Mo_init_827 : decode prog_14_method_1_code 827 = .ok (.iconst 4, 1) := by decide +kernel
theorem d_Mo_init_828 : decode prog_14_method_1_code 828 = .ok (.bipush (84), 2) := by decide +kernel
theorem d_Mo_init_830 : decode prog_14_method_1_code 830 = .ok (.iastore, 1) := by decide +kernel
theorem d_Mo_init_831 : decode prog_14_method_1_code 831 = .ok (.dup, 1) := by decide +kernel
theorem d_Mo_init_832 : decode prog_14_method_1_code 832 = .ok (.iconst 5, 1) := by decide +kernel
theorem d_Mo_init_833 : decode prog_14_method_1_code 833 = .ok (.bipush (45), 2) := by decide +kernel
theorem d_Mo_init_835 : decode prog_14_method_1_code 835 = .ok (.iastore, 1) := by decide +kernel
theorem d_Mo_init_836 : decode prog_14_method_1_code 836 = .ok (.dup, 1) := by decide +kernel
theorem d_Mo_init_837 : decode prog_14_method_1_code 837 = .ok (.bipush (6), 2) := by decide +kernel
theorem d_Mo_init_839 : decode prog_14_method_1_code 839 = .ok (.bipush (115), 2) := by decide +kernel
theorem d_Mo_init_841 : decode prog_14_method_1_code 841 = .ok (.iastore, 1) := by decide +kernel
theorem d_Mo_init_842 : decode prog_14_method_1_code 842 = .ok (.dup, 1) := by decide +kernel
theorem d_Mo_init_843 : decode prog_14_method_1_code 843 = .ok (.bipush (7), 2) := by decide +kernel
theorem d_Mo_init_845 : decode prog_14_method_1_code 845 = .ok (.bipush (101), 2) := by decide +kernel
theorem d_Mo_init_847 : decode prog_14_method_1_code 847 = .ok (.iastore, 1) := by decide +kernel
theorem d_Mo_init_848 : decode prog_14_method_1_code 848 = .ok (.dup, 1) := by decide +kernel
theorem d_Mo_init_849 : decode prog_14_method_1_code 849 = .ok (.bipush (8), 2) := by decide +kernel
theorem d_Mo_init_851 : decode prog_14_method_1_code 851 = .ok (.bipush (99), 2) := by decide +kernel
theorem d_Mo_init_853 : decode prog_14_method_1_code 853 = .ok (.iastore, 1) := by decide +kernel
theorem d_Mo_init_854 : decode prog_14_method_1_code 854 = .ok (.dup, 1) := by decide +kernel
theorem d_Mo_init_855 : decode prog_14_method_1_code 855 = .ok (.bipush (9), 2) := by decide +kernel
theorem d_Mo_init_857 : decode prog_14_method_1_code 857 = .ok (.bipush (112), 2) := by decide +kernel
theorem d_Mo_init_859 : decode prog_14_method_1_code 859 = .ok (.iastore, 1) := by decide +kernel
theorem d_Mo_init_860 : decode prog_14_method_1_code 860 = .ok (.dup, 1) := by decide +kernel
theorem d_Mo_init_861 : decode prog_14_method_1_code 861 = .ok (.bipush (10), 2) := by decide +kernel
theorem d_Mo_init_863 : decode prog_14_method_1_code 863 = .ok (.bipush (50), 2) := by decide +kernel
theorem d_Mo_init_865 : decode prog_14_method_1_code 865 = .ok (.iastore, 1) := by decide +kernel
theorem d_Mo_init_866 : decode prog_14_method_1_code 866 = .ok (.dup, 1) := by decide +kernel
theorem d_Mo_init_867 : decode prog_14_method_1_code 867 = .ok (.bipush (11), 2) := by decide +kernel
theorem d_Mo_init_869 : decode prog_14_method_1_code 869 = .ok (.bipush (53), 2) := by decide +kernel
theorem d_Mo_init_871 : decode prog_14_method_1_code 871 = .ok (.iastore, 1) := by decide +kernel
theorem d_Mo_init_872 : decode prog_14_method_1_code 872 = .ok (.dup, 1) := by decide +kernel
theorem d_Mo_init_873 : decode prog_14_method_1_code 873 = .ok (.bipush (12), 2) := by decide +kernel
theorem d_Mo_init_875 : decode prog_14_method_1_code 875 = .ok (.bipush (54), 2) := by decide +kernel
theorem d_Mo_init_877 : decode prog_14_method_1_code 877 = .ok (.iastore, 1) := by decide +kernel
theorem d_Mo_init_878 : decode prog_14_method_1_code 878 = .ok (.dup, 1) := by decide +kernel
theorem d_Mo_init_879 : decode prog_14_method_1_code 879 = .ok (.bipush (13), 2) := by decide +kernel
theorem d_Mo_init_881 : decode prog_14_method_1_code 881 = .ok (.bipush (107), 2) := by decide +kernel
theorem d_Mo_init_883 : decode prog_14_method_1_code 883 = .ok (.iastore, 1) := by decide +kernel
theorem d_Mo_init_884 : decode prog_14_method_1_code 884 = .ok (.dup, 1) := by decide +kernel
theorem d_Mo_init_885 : decode prog_14_method_1_code 885 = .ok (.bipush (14), 2) := by decide +kernel
theorem d_Mo_init_887 : decode prog_14_method_1_code 887 = .ok (.bipush (49), 2) := by decide +kernel
theorem d_Mo_init_889 : decode prog_14_method_1_code 889 = .ok (.iastore, 1) := by decide +kernel
theorem d_Mo_init_890 : decode prog_14_method_1_code 890 = .ok (.dup, 1) := by decide +kernel
theorem d_Mo_init_891 : decode prog_14_method_1_code 891 = .ok (.bipush (15), 2) := by decide +kernel
theorem d_Mo_init_893 : decode prog_14_method_1_code 893 = .ok (.bipush (45), 2) := by decide +kernel
theorem d_Mo_init_895 : decode prog_14_method_1_code 895 = .ok (.iastore, 1) := by decide +kernel
theorem d_Mo_init_896 : decode prog_14_method_1_code 896 = .ok (.dup, 1) := by decide +kernel
theorem d_Mo_init_897 : decode prog_14_method_1_code 897 = .ok (.bipush (16), 2) := by decide +kernel
theorem d_Mo_init_899 : decode prog_14_method_1_code 899 = .ok (.bipush (83), 2) := by decide +kernel
theorem d_Mo_init_901 : decode prog_14_method_1_code 901 = .ok (.iastore, 1) := by decide +kernel
theorem d_Mo_init_902 : decode prog_14_method_1_code 902 = .ok (.dup, 1) := by decide +kernel
theorem d_Mo_init_903 : decode prog_14_method_1_code 903 = .ok (.bipush (17), 2) := by decide +kernel
theorem d_Mo_init_905 : decode prog_14_method_1_code 905 = .ok (.bipush (72), 2) := by decide +kernel
theorem d_Mo_init_907 : decode prog_14_method_1_code 907 = .ok (.iastore, 1) := by decide +kernel
theorem d_Mo_init_908 : decode prog_14_method_1_code 908 = .ok (.dup, 1) := by decide +kernel
theorem d_Mo_init_909 : decode prog_14_method_1_code 909 = .ok (.bipush (18), 2) := by decide +kernel
theorem d_Mo_init_911 : decode prog_14_method_1_code 911 = .ok (.bipush (65), 2) := by decide +kernel
theorem d_Mo_init_913 : decode prog_14_method_1_code 913 = .ok (.iastore, 1) := by decide +kernel
theorem d_Mo_init_914 : decode prog_14_method_1_code 914 = .ok (.dup, 1) := by decide +kernel
theorem d_Mo_init_915 : decode prog_14_method_1_code 915 = .ok (.bipush (19), 2) := by decide +kernel
theorem d_Mo_init_917 : decode prog_14_method_1_code 917 = .ok (.bipush (50), 2) := by decide +kernel
theorem d_Mo_init_919 : decode prog_14_method_1_code 919 = .ok (.iastore, 1) := by decide +kernel
theorem d_Mo_init_920 : decode prog_14_method_1_code 920 = .ok (.dup, 1) := by decide +kernel
theorem d_Mo_init_921 : decode prog_14_method_1_code 921 = .ok (.bipush (20), 2) := by decide +kernel
theorem d_Mo_init_923 : decode prog_14_method_1_code 923 = .ok (.bipush (53), 2) := by decide +kernel
theorem d_Mo_init_925 : decode prog_14_method_1_code 925 = .ok (.iastore, 1) := by decide +kernel
theorem d_Mo_init_926 : decode prog_14_method_1_code 926 = .ok (.dup, 1) := by decide +kernel
theorem d_Mo_init_927 : decode prog_14_method_1_code 927 = .ok (.bipush (21), 2) := by decide +kernel
theorem d_Mo_init_929 : decode prog_14_method_1_code 929 = .ok (.bipush (54), 2) := by decide +kernel
theorem d_Mo_init_931 : decode prog_14_method_1_code 931 = .ok (.iastore, 1) := by decide +kernel
theorem d_Mo_init_932 : decode prog_14_method_1_code 932 = .ok (.dup, 1) := by decide +kernel
theorem d_Mo_init_933 : decode prog_14_method_1_code 933 = .ok (.bipush (22), 2) := by decide +kernel
theorem d_Mo_init_935 : decode prog_14_method_1_code 935 = .ok (.bipush (45), 2) := by decide +kernel
theorem d_Mo_init_937 : decode prog_14_method_1_code 937 = .ok (.iastore, 1) := by decide +kernel
theorem d_Mo_init_938 : decode prog_14_method_1_code 938 = .ok (.dup, 1) := by decide +kernel
theorem d_Mo_init_939 : decode prog_14_method_1_code 939 = .ok (.bipush (23), 2) := by decide +kernel
theorem d_Mo_init_941 : decode prog_14_method_1_code 941 = .ok (.bipush (118), 2) := by decide +kernel
theorem d_Mo_init_943 : decode prog_14_method_1_code 943 = .ok (.iastore, 1) := by decide +kernel
theorem d_Mo_init_944 : decode prog_14_method_1_code 944 = .ok (.dup, 1) := by decide +kernel
theorem d_Mo_init_945 : decode prog_14_method_1_code 945 = .ok (.bipush (24), 2) := by decide +kernel
theorem d_Mo_init_947 : decode prog_14_method_1_code 947 = .ok (.bipush (49), 2) := by decide +kernel
theorem d_Mo_init_949 : decode prog_14_method_1_code 949 = .ok (.iastore, 1) := by decide +kernel
theorem d_Mo_init_950 : decode prog_14_method_1_code 950 = .ok (.putfield 113, 3) := by decide +kernel
theorem d_Mo_init_953 : decode prog_14_method_1_code 953 = .ok (.aload_n 0, 1) := by decide +kernel
theorem d_Mo_init_954 : decode prog_14_method_1_code 954 = .ok (.bipush (18), 2) := by decide +kernel
theorem d_Mo_init_956 : decode prog_14_method_1_code 956 = .ok (.newarray .int, 2) := by decide +kernel
theorem d_Mo_init_958 : decode prog_14_method_1_code 958 = .ok (.dup, 1) := by decide +kernel
theorem d_Mo_init_959 : decode prog_14_method_1_code 959 = .ok (.iconst 0, 1) := by decide +kernel
theorem d_Mo_init_960 : decode prog_14_method_1_code 960 = .ok (.bipush (114), 2) := by decide +kernel
theorem d_Mo_init_962 : decode prog_14_method_1_code 962 = .ok (.iastore, 1) := by decide +kernel
theorem d_Mo_init_963 : decode prog_14_method_1_code 963 = .ok (.dup, 1) := by decide +kernel
theorem d_Mo_init_964 : decode prog_14_method_1_code 964 = .ok (.iconst 1, 1) := by decide +kernel
theorem d_Mo_init_965 : decode prog_14_method_1_code 965 = .ok (.bipush (104), 2) := by decide +kernel
theorem d_Mo_init_967 : decode prog_14_method_1_code 967 = .ok (.iastore, 1) := by decide +kernel
theorem d_Mo_init_968 : decode prog_14_method_1_code 968 = .ok (.dup, 1) := by decide +kernel
theorem d_Mo_init_969 : decode prog_14_method_1_code 969 = .ok (.iconst 2, 1) := by decide +kernel
theorem d_Mo_init_970 : decode prog_14_method_1_code 970 = .ok (.bipush (111), 2) := by decide +kernel
theorem d_Mo_init_972 : decode prog_14_method_1_code 972 = .ok (.iastore, 1) := by decide +kernel
theorem d_Mo_init_973 : decode prog_14_method_1_code 973 = .ok (.dup, 1) := by decide +kernel
theorem d_Mo_init_974 : decode prog_14_method_1_code 974 = .ok (.iconst 3, 1) := by decide +kernel
theorem d_Mo_init_975 : decode prog_14_method_1_code 975 = .ok (.bipush (99), 2) := by decide +kernel
theorem d_Mo_init_977 : decode prog_14_method_1_code 977 = .ok (.iastore, 1) := by decide +kernel
theorem d_Mo_init_978 : decode prog_14_method_1_code 978 = .ok (.dup, 1) := by decide +kernel
theorem d_Mo_init_979 : decode prog_14_method_1_code 979 = .ok (.iconst 4, 1) := by decide +kernel
theorem d_Mo_init_980 : decode prog_14_method_1_code 980 = .ok (.bipush (104), 2) := by decide +kernel
theorem d_Mo_init_982 : decode prog_14_method_1_code 982 = .ok (.iastore, 1) := by decide +kernel
theorem d_Mo_init_983 : decode prog_14_method_1_code 983 = .ok (.dup, 1) := by decide +kernel
theorem d_Mo_init_984 : decode prog_14_method_1_code 984 = .ok (.iconst 5, 1) := by decide +kernel
theorem d_Mo_init_985 : decode prog_14_method_1_code 985 = .ok (.bipush (97), 2) := by decide +kernel
theorem d_Mo_init_987 : decode prog_14_method_1_code 987 = .ok (.iastore, 1) := by decide +kernel
theorem d_Mo_init_988 : decode prog_14_method_1_code 988 = .ok (.dup, 1) := by decide +kernel
theorem d_Mo_init_989 : decode prog_14_method_1_code 989 = .ok (.bipush (6), 2) := by decide +kernel
theorem d_Mo_init_991 : decode prog_14_method_1_code 991 = .ok (.bipush (108), 2) := by decide +kernel
theorem d_Mo_init_993 : decode prog_14_method_1_code 993 = .ok (.iastore, 1) := by decide +kernel
theorem d_Mo_init_994 : decode prog_14_method_1_code 994 = .ok (.dup, 1) := by decide +kernel
theorem d_Mo_init_995 : decode prog_14_method_1_code 995 = .ok (.bipush (7), 2) := by decide +kernel
theorem d_Mo_init_997 : decode prog_14_method_1_code 997 = .ok (.bipush (110), 2) := by decide +kernel
theorem d_Mo_init_999 : decode prog_14_method_1_code 999 = .ok (.iastore, 1) := by decide +kernel
theorem d_Mo_init_1000 : decode prog_14_method_1_code 1000 = .ok (.dup, 1) := by decide +kernel
theorem d_Mo_init_1001 : decode prog_14_method_1_code 1001 = .ok (.bipush (8), 2) := by decide +kernel
theorem d_Mo_init_1003 : decode prog_14_method_1_code 1003 = .ok (.bipush (111), 2) := by decide +kernel
theorem d_Mo_init_1005 : decode prog_14_method_1_code 1005 = .ok (.iastore, 1) := by decide +kernel
theorem d_Mo_init_1006 : decode prog_14_method_1_code 1006 = .ok (.dup, 1) := by decide +kernel
theorem d_Mo_init_1007 : decode prog_14_method_1_code 1007 = .ok (.bipush (9), 2) := by decide +kernel
theorem d_Mo_init_1009 : decode prog_14_method_1_code 1009 = .ok (.bipush (110), 2) := by decide +kernel
theorem d_Mo_init_1011 : decode prog_14_method_1_code 1011 = .ok (.iastore, 1) := by decide +kernel
theorem d_Mo_init_1012 : decode prog_14_method_1_code 1012 = .ok (.dup, 1) := by decide +kernel
theorem d_Mo_init_1013 : decode prog_14_method_1_code 1013 = .ok (.bipush (10), 2) := by decide +kernel
theorem d_Mo_init_1015 : decode prog_14_method_1_code 1015 = .ok (.bipush (99), 2) := by decide +kernel
theorem d_Mo_init_1017 : decode prog_14_method_1_code 1017 = .ok (.iastore, 1) := by decide +kernel
theorem d_Mo_init_1018 : decode prog_14_method_1_code 1018 = .ok (.dup, 1) := by decide +kernel
theorem d_Mo_init_1019 : decode prog_14_method_1_code 1019 = .ok (.bipush (11), 2) := by decide +kernel
theorem d_Mo_init_1021 : decode prog_14_method_1_code 1021 = .ok (.bipush (101), 2) := by decide +kernel
theorem d_Mo_init_1023 : decode prog_14_method_1_code 1023 = .ok (.iastore, 1) := by decide +kernel
theorem d_Mo_init_1024 : decode prog_14_method_1_code 1024 = .ok (.dup, 1) := by decide +kernel
theorem d_Mo_init_1025 : decode prog_14_method_1_code 1025 = .ok (.bipush (12), 2) := by decide +kernel
theorem d_Mo_init_1027 : decode prog_14_method_1_code 1027 = .ok (.bipush (109), 2) := by decide +kernel
theorem d_Mo_init_1029 : decode prog_14_method_1_code 1029 = .ok (.iastore, 1) := by decide +kernel
theorem d_Mo_init_1030 : decode prog_14_method_1_code 1030 = .ok (.dup, 1) := by decide +kernel
theorem d_Mo_init_1031 : decode prog_14_method_1_code 1031 = .ok (.bipush (13), 2) := by decide +kernel
theorem d_Mo_init_1033 : decode prog_14_method_1_code 1033 = .ok (.bipush (115), 2) := by decide +kernel
theorem d_Mo_init_1035 : decode prog_14_method_1_code 1035 = .ok (.iastore, 1) := by decide +kernel
theorem d_Mo_init_1036 : decode prog_14_method_1_code 1036 = .ok (.dup, 1) := by decide +kernel
theorem d_Mo_init_1037 : decode prog_14_method_1_code 1037 = .ok (.bipush (14), 2) := by decide +kernel
theorem d_Mo_init_1039 : decode prog_14_method_1_code 1039 = .ok (.bipush (103), 2) := by decide +kernel
theorem d_Mo_init_1041 : decode prog_14_method_1_code 1041 = .ok (.iastore, 1) := by decide +kernel
theorem d_Mo_init_1042 : decode prog_14_method_1_code 1042 = .ok (.dup, 1) := by decide +kernel
theorem d_Mo_init_1043 : decode prog_14_method_1_code 1043 = .ok (.bipush (15), 2) := by decide +kernel
theorem d_Mo_init_1045 : decode prog_14_method_1_code 1045 = .ok (.bipush (99), 2) := by decide +kernel
theorem d_Mo_init_1047 : decode prog_14_method_1_code 1047 = .ok (.iastore, 1) := by decide +kernel
theorem d_Mo_init_1048 : decode prog_14_method_1_code 1048 = .ok (.dup, 1) := by decide +kernel
theorem d_Mo_init_1049 : decode prog_14_method_1_code 1049 = .ok (.bipush (16), 2) := by decide +kernel
theorem d_Mo_init_1051 : decode prog_14_method_1_code 1051 = .ok (.bipush (111), 2) := by decide +kernel
theorem d_Mo_init_1053 : decode prog_14_method_1_code 1053 = .ok (.iastore, 1) := by decide +kernel
theorem d_Mo_init_1054 : decode prog_14_method_1_code 1054 = .ok (.dup, 1) := by decide +kernel
theorem d_Mo_init_1055 : decode prog_14_method_1_code 1055 = .ok (.bipush (17), 2) := by decide +kernel
theorem d_Mo_init_1057 : decode prog_14_method_1_code 1057 = .ok (.bipush (109), 2) := by decide +kernel
theorem d_Mo_init_1059 : decode prog_14_method_1_code 1059 = .ok (.iastore, 1) := by decide +kernel
theorem d_Mo_init_1060 : decode prog_14_method_1_code 1060 = .ok (.putfield 116, 3) := by decide +kernel
theorem d_Mo_init_1063 : decode prog_14_method_1_code 1063 = .ok (.aload_n 0, 1) := by decide +kernel
theorem d_Mo_init_1064 : decode prog_14_method_1_code 1064 = .ok (.bipush (6), 2) := by decide +kernel
theorem d_Mo_init_1066 : decode prog_14_method_1_code 1066 = .ok (.newarray .int, 2) := by decide +kernel
theorem d_Mo_init_1068 : decode prog_14_method_1_code 1068 = .ok (.dup, 1) := by decide +kernel
theorem d_Mo_init_1069 : decode prog_14_method_1_code 1069 = .ok (.iconst 0, 1) := by decide +kernel
theorem d_Mo_init_1070 : decode prog_14_method_1_code 1070 = .ok (.iconst 0, 1) := by decide +kernel
theorem d_Mo_init_1071 : decode prog_14_method_1_code 1071 = .ok (.iastore, 1) := by decide +kernel
theorem d_Mo_init_1072 : decode prog_14_method_1_code 1072 = .ok (.dup, 1) := by decide +kernel
theorem d_Mo_init_1073 : decode prog_14_method_1_code 1073 = .ok (.iconst 1, 1) := by decide +kernel
theorem d_Mo_init_1074 : decode prog_14_method_1_code 1074 = .ok (.iconst 3, 1) := by decide +kernel
theorem d_Mo_init_1075 : decode prog_14_method_1_code 1075 = .ok (.iastore, 1) := by decide +kernel
theorem d_Mo_init_1076 : decode prog_14_method_1_code 1076 = .ok (.dup, 1) := by decide +kernel
theorem d_Mo_init_1077 : decode prog_14_method_1_code 1077 = .ok (.iconst 2, 1) := by decide +kernel
theorem d_Mo_init_1078 : decode prog_14_method_1_code 1078 = .ok (.bipush (7), 2) := by decide +kernel
theorem d_Mo_init_1080 : decode prog_14_method_1_code 1080 = .ok (.iastore, 1) := by decide +kernel
theorem d_Mo_init_1081 : decode prog_14_method_1_code 1081 = .ok (.dup, 1) := by decide +kernel
theorem d_Mo_init_1082 : decode prog_14_method_1_code 1082 = .ok (.iconst 3, 1) := by decide +kernel
theorem d_Mo_init_1083 : decode prog_14_method_1_code 1083 = .ok (.bipush (12), 2) := by decide +kernel
theorem d_Mo_init_1085 : decode prog_14_method_1_code 1085 = .ok (.iastore, 1) := by decide +kernel
theorem d_Mo_init_1086 : decode prog_14_method_1_code 1086 = .ok (.dup, 1) := by decide +kernel
theorem d_Mo_init_1087 : decode prog_14_method_1_code 1087 = .ok (.iconst 4, 1) := by decide +kernel
theorem d_Mo_init_1088 : decode prog_14_method_1_code 1088 = .ok (.bipush (15), 2) := by decide +kernel
theorem d_Mo_init_1090 : decode prog_14_method_1_code 1090 = .ok (.iastore, 1) := by decide +kernel
theorem d_Mo_init_1091 : decode prog_14_method_1_code 1091 = .ok (.dup, 1) := by decide +kernel
theorem d_Mo_init_1092 : decode prog_14_method_1_code 1092 = .ok (.iconst 5, 1) := by decide +kernel
theorem d_Mo_init_1093 : decode prog_14_method_1_code 1093 = .ok (.bipush (18), 2) := by decide +kernel
theorem d_Mo_init_1095 : decode prog_14_method_1_code 1095 = .ok (.iastore, 1) := by decide +kernel
theorem d_Mo_init_1096 : decode prog_14_method_1_code 1096 = .ok (.putfield 119, 3) := by decide +kernel
theorem d_Mo_init_1099 : decode prog_14_method_1_code 1099 = .ok (.aload_n 0, 1) := by decide +kernel
theorem d_Mo_init_1100 : decode prog_14_method_1_code 1100 = .ok (.sipush (11392), 3) := by decide +kernel
theorem d_Mo_init_1103 : decode prog_14_method_1_code 1103 = .ok (.newarray .long, 2) := by decide +kernel
theorem d_Mo_init_1105 : decode prog_14_method_1_code 1105 = .ok (.putfield 122, 3) := by decide +kernel
theorem d_Mo_init_1108 : decode prog_14_method_1_code 1108 = .ok (.aload_n 0, 1) := by decide +kernel
theorem d_Mo_init_1109 : decode prog_14_method_1_code 1109 = .ok (.bipush (40), 2) := by decide +kernel
theorem d_Mo_init_1111 : decode prog_14_method_1_code 1111 = .ok (.newarray .long, 2) := by decide +kernel
theorem d_Mo_init_1113 : decode prog_14_method_1_code 1113 = .ok (.putfield 126, 3) := by decide +kernel
theorem d_Mo_init_1116 : decode prog_14_method_1_code 1116 = .ok (.aload_n 0, 1) := by decide +kernel
theorem d_Mo_init_1117 : decode prog_14_method_1_code 1117 = .ok (.sipush (576), 3) := by decide +kernel
theorem d_Mo_init_1120 : decode prog_14_method_1_code 1120 = .ok (.newarray .long, 2) := by decide +kernel
theorem d_Mo_init_1122 : decode prog_14_method_1_code 1122 = .ok (.putfield 129, 3) := by decide +kernel
theorem d_Mo_init_1125 : decode prog_14_method_1_code 1125 = .ok (.aload_n 0, 1) := by decide +kernel
theorem d_Mo_init_1126 : decode prog_14_method_1_code 1126 = .ok (.sipush (712), 3) := by decide +kernel
theorem d_Mo_init_1129 : decode prog_14_method_1_code 1129 = .ok (.newarray .boolean, 2) := by decide +kernel
theorem d_Mo_init_1131 : decode prog_14_method_1_code 1131 = .ok (.putfield 132, 3) := by decide +kernel
theorem d_Mo_init_1134 : decode prog_14_method_1_code 1134 = .ok (.aload_n 0, 1) := by decide +kernel
theorem d_Mo_init_1135 : decode prog_14_method_1_code 1135 = .ok (.bipush (9), 2) := by decide +kernel
theorem d_Mo_init_1137 : decode prog_14_method_1_code 1137 = .ok (.newarray .boolean, 2) := by decide +kernel
theorem d_Mo_init_1139 : decode prog_14_method_1_code 1139 = .ok (.putfield 136, 3) := by decide +kernel
theorem d_Mo_init_1142 : decode prog_14_method_1_code 1142 = .ok (.aload_n 0, 1) := by decide +kernel
theorem d_Mo_init_1143 : decode prog_14_method_1_code 1143 = .ok (.sipush (300), 3) := by decide +kernel
theorem d_Mo_init_1146 : decode prog_14_method_1_code 1146 = .ok (.newarray .byte, 2) := by decide +kernel
theorem d_Mo_init_1148 : decode prog_14_method_1_code 1148 = .ok (.putfield 139, 3) := by decide +kernel
theorem d_Mo_init_1151 : decode prog_14_method_1_code 1151 = .ok (.aload_n 0, 1) := by decide +kernel
theorem d_Mo_init_1152 : decode prog_14_method_1_code 1152 = .ok (.bipush (100), 2) := by decide +kernel
theorem d_Mo_init_1154 : decode prog_14_method_1_code 1154 = .ok (.newarray .byte, 2) := by decide +kernel
theorem d_Mo_init_1156 : decode prog_14_method_1_code 1156 = .ok (.putfield 143, 3) := by decide +kernel
theorem d_Mo_init_1159 : decode prog_14_method_1_code 1159 = .ok (.aload_n 0, 1) := by decide +kernel
theorem d_Mo_init_1160 : decode prog_14_method_1_code 1160 = .ok (.bipush (70), 2) := by decide +kernel
theorem d_Mo_init_1162 : decode prog_14_method_1_code 1162 = .ok (.newarray .byte, 2) := by decide +kernel
theorem d_Mo_init_1164 : decode prog_14_method_1_code 1164 = .ok (.putfield 146, 3) := by decide +kernel
theorem d_Mo_init_1167 : decode prog_14_method_1_code 1167 = .ok (.aload_n 0, 1) := by decide +kernel
theorem d_Mo_init_1168 : decode prog_14_method_1_code 1168 = .ok (.sipush (800), 3) := by decide +kernel
theorem d_Mo_init_1171 : decode prog_14_method_1_code 1171 = .ok (.newarray .byte, 2) := by decide +kernel
theorem d_Mo_init_1173 : decode prog_14_method_1_code 1173 = .ok (.putfield 149, 3) := by decide +kernel
theorem d_Mo_init_1176 : decode prog_14_method_1_code 1176 = .ok (.aload_n 0, 1) := by decide +kernel
theorem d_Mo_init_1177 : decode prog_14_method_1_code 1177 = .ok (.sipush (1200), 3) := by decide +kernel
theorem d_Mo_init_1180 : decode prog_14_method_1_code 1180 = .ok (.newarray .byte, 2) := by decide +kernel
theorem d_Mo_init_1182 : decode prog_14_method_1_code 1182 = .ok (.putfield 152, 3) := by decide +kernel
theorem d_Mo_init_1185 : decode prog_14_method_1_code 1185 = .ok (.aload_n 0, 1) := by decide +kernel
theorem d_Mo_init_1186 : decode prog_14_method_1_code 1186 = .ok (.bipush (32), 2) := by decide +kernel
theorem d_Mo_init_1188 : decode prog_14_method_1_code 1188 = .ok (.newarray .byte, 2) := by decide +kernel
theorem d_Mo_init_1190 : decode prog_14_method_1_code 1190 = .ok (.putfield 155, 3) := by decide +kernel
theorem d_Mo_init_1193 : decode prog_14_method_1_code 1193 = .ok (.aload_n 0, 1) := by decide +kernel
theorem d_Mo_init_1194 : decode prog_14_method_1_code 1194 = .ok (.bipush (32), 2) := by decide +kernel
theorem d_Mo_init_1196 : decode prog_14_method_1_code 1196 = .ok (.newarray .byte, 2) := by decide +kernel
theorem d_Mo_init_1198 : decode prog_14_method_1_code 1198 = .ok (.putfield 158, 3) := by decide +kernel
theorem d_Mo_init_1201 : decode prog_14_method_1_code 1201 = .ok (.aload_n 0, 1) := by decide +kernel
theorem d_Mo_init_1202 : decode prog_14_method_1_code 1202 = .ok (.sipush (200), 3) := by decide +kernel
theorem d_Mo_init_1205 : decode prog_14_method_1_code 1205 = .ok (.newarray .byte, 2) := by decide +kernel
theorem d_Mo_init_1207 : decode prog_14_method_1_code 1207 = .ok (.putfield 161, 3) := by decide +kernel
theorem d_Mo_init_1210 : decode prog_14_method_1_code 1210 = .ok (.aload_n 0, 1) := by decide +kernel
theorem d_Mo_init_1211 : decode prog_14_method_1_code 1211 = .ok (.bipush (8), 2) := by decide +kernel
theorem d_Mo_init_1213 : decode prog_14_method_1_code 1213 = .ok (.newarray .int, 2) := by decide +kernel
theorem d_Mo_init_1215 : decode prog_14_method_1_code 1215 = .ok (.putfield 164, 3) := by decide +kernel
theorem d_Mo_init_1218 : decode prog_14_method_1_code 1218 = .ok (.aload_n 0, 1) := by decide +kernel
theorem d_Mo_init_1219 : decode prog_14_method_1_code 1219 = .ok (.bipush (64), 2) := by decide +kernel
theorem d_Mo_init_1221 : decode prog_14_method_1_code 1221 = .ok (.newarray .int, 2) := by decide +kernel
theorem d_Mo_init_1223 : decode prog_14_method_1_code 1223 = .ok (.putfield 167, 3) := by decide +kernel
theorem d_Mo_init_1226 : decode prog_14_method_1_code 1226 = .ok (.iconst 0, 1) := by decide +kernel
theorem d_Mo_init_1227 : decode prog_14_method_1_code 1227 = .ok (.istore_n 1, 1) := by decide +kernel
theorem d_Mo_init_1228 : decode prog_14_method_1_code 1228 = .ok (.iload_n 1, 1) := by decide +kernel
theorem d_Mo_init_1229 : decode prog_14_method_1_code 1229 = .ok (.bipush (16), 2) := by decide +kernel
theorem d_Mo_init_1231 : decode prog_14_method_1_code 1231 = .ok (.if_icmp .ge (86), 3) := by decide +kernel
theorem d_Mo_init_1234 : decode prog_14_method_1_code 1234 = .ok (.aload_n 0, 1) := by decide +kernel
theorem d_Mo_init_1235 : decode prog_14_method_1_code 1235 = .ok (.getfield 122, 3) := by decide +kernel
theorem d_Mo_init_1238 : decode prog_14_method_1_code 1238 = .ok (.iconst 0, 1) := by decide +kernel
theorem d_Mo_init_1239 : decode prog_14_method_1_code 1239 = .ok (.iload_n 1, 1) := by decide +kernel
theorem d_Mo_init_1240 : decode prog_14_method_1_code 1240 = .ok (.iadd, 1) := by decide +kernel
theorem d_Mo_init_1241 : decode prog_14_method_1_code 1241 = .ok (.aload_n 0, 1) := by decide +kernel
theorem d_Mo_init_1242 : decode prog_14_method_1_code 1242 = .ok (.getfield 80, 3) := by decide +kernel
theorem d_Mo_init_1245 : decode prog_14_method_1_code 1245 = .ok (.bipush (15), 2) := by decide +kernel
theorem d_Mo_init_1247 : decode prog_14_method_1_code 1247 = .ok (.iload_n 1, 1) := by decide +kernel
theorem d_Mo_init_1248 : decode prog_14_method_1_code 1248 = .ok (.isub, 1) := by decide +kernel
theorem d_Mo_init_1249 : decode prog_14_method_1_code 1249 = .ok (.iaload, 1) := by decide +kernel
theorem d_Mo_init_1250 : decode prog_14_method_1_code 1250 = .ok (.i2l, 1) := by decide +kernel
theorem d_Mo_init_1251 : decode prog_14_method_1_code 1251 = .ok (.lastore, 1) := by decide +kernel
theorem d_Mo_init_1252 : decode prog_14_method_1_code 1252 = .ok (.aload_n 0, 1) := by decide +kernel
theorem d_Mo_init_1253 : decode prog_14_method_1_code 1253 = .ok (.getfield 122, 3) := by decide +kernel
theorem d_Mo_init_1256 : decode prog_14_method_1_code 1256 = .ok (.bipush (16), 2) := by decide +kernel
theorem d_Mo_init_1258 : decode prog_14_method_1_code 1258 = .ok (.iload_n 1, 1) := by decide +kernel
theorem d_Mo_init_1259 : decode prog_14_method_1_code 1259 = .ok (.iadd, 1) := by decide +kernel
theorem d_Mo_init_1260 : decode prog_14_method_1_code 1260 = .ok (.aload_n 0, 1) := by decide +kernel
theorem d_Mo_init_1261 : decode prog_14_method_1_code 1261 = .ok (.getfield 89, 3) := by decide +kernel
theorem d_Mo_init_1264 : decode prog_14_method_1_code 1264 = .ok (.bipush (15), 2) := by decide +kernel
theorem d_Mo_init_1266 : decode prog_14_method_1_code 1266 = .ok (.iload_n 1, 1) := by decide +kernel
theorem d_Mo_init_1267 : decode prog_14_method_1_code 1267 = .ok (.isub, 1) := by decide +kernel
theorem d_Mo_init_1268 : decode prog_14_method_1_code 1268 = .ok (.iaload, 1) := by decide +kernel
theorem d_Mo_init_1269 : decode prog_14_method_1_code 1269 = .ok (.i2l, 1) := by decide +kernel
theorem d_Mo_init_1270 : decode prog_14_method_1_code 1270 = .ok (.lastore, 1) := by decide +kernel
theorem d_Mo_init_1271 : decode prog_14_method_1_code 1271 = .ok (.aload_n 0, 1) := by decide +kernel
theorem d_Mo_init_1272 : decode prog_14_method_1_code 1272 = .ok (.getfield 122, 3) := by decide +kernel
theorem d_Mo_init_1275 : decode prog_14_method_1_code 1275 = .ok (.sipush (3200), 3) := by decide +kernel
theorem d_Mo_init_1278 : decode prog_14_method_1_code 1278 = .ok (.iload_n 1, 1) := by decide +kernel
theorem d_Mo_init_1279 : decode prog_14_method_1_code 1279 = .ok (.iadd, 1) := by decide +kernel
theorem d_Mo_init_1280 : decode prog_14_method_1_code 1280 = .ok (.aload_n 0, 1) := by decide +kernel
theorem d_Mo_init_1281 : decode prog_14_method_1_code 1281 = .ok (.getfield 97, 3) := by decide +kernel
theorem d_Mo_init_1284 : decode prog_14_method_1_code 1284 = .ok (.bipush (15), 2) := by decide +kernel
theorem d_Mo_init_1286 : decode prog_14_method_1_code 1286 = .ok (.iload_n 1, 1) := by decide +kernel
theorem d_Mo_init_1287 : decode prog_14_method_1_code 1287 = .ok (.isub, 1) := by decide +kernel
theorem d_Mo_init_1288 : decode prog_14_method_1_code 1288 = .ok (.iaload, 1) := by decide +kernel
theorem d_Mo_init_1289 : decode prog_14_method_1_code 1289 = .ok (.i2l, 1) := by decide +kernel
theorem d_Mo_init_1290 : decode prog_14_method_1_code 1290 = .ok (.lastore, 1) := by decide +kernel
theorem d_Mo_init_1291 : decode prog_14_method_1_code 1291 = .ok (.aload_n 0, 1) := by decide +kernel
theorem d_Mo_init_1292 : decode prog_14_method_1_code 1292 = .ok (.getfield 122, 3) := by decide +kernel
theorem d_Mo_init_1295 : decode prog_14_method_1_code 1295 = .ok (.sipush (3216), 3) := by decide +kernel
theorem d_Mo_init_1298 : decode prog_14_method_1_code 1298 = .ok (.iload_n 1, 1) := by decide +kernel
theorem d_Mo_init_1299 : decode prog_14_method_1_code 1299 = .ok (.iadd, 1) := by decide +kernel
theorem d_Mo_init_1300 : decode prog_14_method_1_code 1300 = .ok (.aload_n 0, 1) := by decide +kernel
theorem d_Mo_init_1301 : decode prog_14_method_1_code 1301 = .ok (.getfield 110, 3) := by decide +kernel
theorem d_Mo_init_1304 : decode prog_14_method_1_code 1304 = .ok (.bipush (15), 2) := by decide +kernel
theorem d_Mo_init_1306 : decode prog_14_method_1_code 1306 = .ok (.iload_n 1, 1) := by decide +kernel
theorem d_Mo_init_1307 : decode prog_14_method_1_code 1307 = .ok (.isub, 1) := by decide +kernel
theorem d_Mo_init_1308 : decode prog_14_method_1_code 1308 = .ok (.iaload, 1) := by decide +kernel
theorem d_Mo_init_1309 : decode prog_14_method_1_code 1309 = .ok (.i2l, 1) := by decide +kernel
theorem d_Mo_init_1310 : decode prog_14_method_1_code 1310 = .ok (.lastore, 1) := by decide +kernel
theorem d_Mo_init_1311 : decode prog_14_method_1_code 1311 = .ok (.iinc 1 (1), 3) := by decide +kernel
theorem d_Mo_init_1314 : decode prog_14_method_1_code 1314 = .ok (.goto (-86), 3) := by decide +kernel
theorem d_Mo_init_1317 : decode prog_14_method_1_code 1317 = .ok (.aload_n 0, 1) := by decide +kernel
theorem d_Mo_init_1318 : decode prog_14_method_1_code 1318 = .ok (.getfield 122, 3) := by decide +kernel
theorem d_Mo_init_1321 : decode prog_14_method_1_code 1321 = .ok (.bipush (32), 2) := by decide +kernel
theorem d_Mo_init_1323 : decode prog_14_method_1_code 1323 = .ok (.lconst 1, 1) := by decide +kernel
theorem d_Mo_init_1324 : decode prog_14_method_1_code 1324 = .ok (.lastore, 1) := by decide +kernel
theorem d_Mo_init_1325 : decode prog_14_method_1_code 1325 = .ok (.iconst 0, 1) := by decide +kernel
theorem d_Mo_init_1326 : decode prog_14_method_1_code 1326 = .ok (.istore_n 1, 1) := by decide +kernel
theorem d_Mo_init_1327 : decode prog_14_method_1_code 1327 = .ok (.iload_n 1, 1) := by decide +kernel
theorem d_Mo_init_1328 : decode prog_14_method_1_code 1328 = .ok (.iconst 2, 1) := by decide +kernel
theorem d_Mo_init_1329 : decode prog_14_method_1_code 1329 = .ok (.if_icmp .ge (198), 3) := by decide +kernel
theorem d_Mo_init_1332 : decode prog_14_method_1_code 1332 = .ok (.lconst 1, 1) := by decide +kernel
theorem d_Mo_init_1333 : decode prog_14_method_1_code 1333 = .ok (.lstore_n 2, 1) := by decide +kernel
theorem d_Mo_init_1334 : decode prog_14_method_1_code 1334 = .ok (.iconst 0, 1) := by decide +kernel
theorem d_Mo_init_1335 : decode prog_14_method_1_code 1335 = .ok (.istore 4, 2) := by decide +kernel
