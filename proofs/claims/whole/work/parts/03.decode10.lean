theorem d_la_law_790 : decode code 790 = .ok (.iload 4, 2) := by decide +kernel
theorem d_la_law_792 : decode code 792 = .ok (.iconst 1, 1) := by decide +kernel
theorem d_la_law_793 : decode code 793 = .ok (.iadd, 1) := by decide +kernel
theorem d_la_law_794 : decode code 794 = .ok (.iaload, 1) := by decide +kernel
theorem d_la_law_795 : decode code 795 = .ok (.aload_n 0, 1) := by decide +kernel
theorem d_la_law_796 : decode code 796 = .ok (.iload 4, 2) := by decide +kernel
theorem d_la_law_798 : decode code 798 = .ok (.iconst 2, 1) := by decide +kernel
theorem d_la_law_799 : decode code 799 = .ok (.iadd, 1) := by decide +kernel
theorem d_la_law_800 : decode code 800 = .ok (.iaload, 1) := by decide +kernel
theorem d_la_law_801 : decode code 801 = .ok (.aload_n 0, 1) := by decide +kernel
theorem d_la_law_802 : decode code 802 = .ok (.iload 4, 2) := by decide +kernel
theorem d_la_law_804 : decode code 804 = .ok (.iconst 3, 1) := by decide +kernel
theorem d_la_law_805 : decode code 805 = .ok (.iadd, 1) := by decide +kernel
theorem d_la_law_806 : decode code 806 = .ok (.iaload, 1) := by decide +kernel
theorem d_la_law_807 : decode code 807 = .ok (.invokevirtual 130, 3) := by decide +kernel
theorem d_la_law_810 : decode code 810 = .ok (.istore 6, 2) := by decide +kernel
theorem d_la_law_812 : decode code 812 = .ok (.aload_n 2, 1) := by decide +kernel
theorem d_la_law_813 : decode code 813 = .ok (.invokevirtual 87, 3) := by decide +kernel
theorem d_la_law_816 : decode code 816 = .ok (.iload 5, 2) := by decide +kernel
theorem d_la_law_818 : decode code 818 = .ok (.if_icmp .eq 5, 3) := by decide +kernel
theorem d_la_law_821 : decode code 821 = .ok (.iconst 0, 1) := by decide +kernel
theorem d_la_law_822 : decode code 822 = .ok (.ireturn, 1) := by decide +kernel
theorem d_la_law_823 : decode code 823 = .ok (.iload 5, 2) := by decide +kernel
theorem d_la_law_825 : decode code 825 = .ok (.ifCond .ne 22, 3) := by decide +kernel
theorem d_la_law_828 : decode code 828 = .ok (.aload_n 3, 1) := by decide +kernel
theorem d_la_law_829 : decode code 829 = .ok (.iconst 0, 1) := by decide +kernel
theorem d_la_law_830 : decode code 830 = .ok (.laload, 1) := by decide +kernel
theorem d_la_law_831 : decode code 831 = .ok (.iload 6, 2) := by decide +kernel
theorem d_la_law_833 : decode code 833 = .ok (.ifCond .eq 7, 3) := by decide +kernel
theorem d_la_law_836 : decode code 836 = .ok (.lconst 1, 1) := by decide +kernel
theorem d_la_law_837 : decode code 837 = .ok (.goto 4, 3) := by decide +kernel
theorem d_la_law_840 : decode code 840 = .ok (.lconst 0, 1) := by decide +kernel
theorem d_la_law_841 : decode code 841 = .ok (.lcmp, 1) := by decide +kernel
theorem d_la_law_842 : decode code 842 = .ok (.ifCond .eq 5, 3) := by decide +kernel
theorem d_la_law_845 : decode code 845 = .ok (.iconst 0, 1) := by decide +kernel
theorem d_la_law_846 : decode code 846 = .ok (.ireturn, 1) := by decide +kernel
theorem d_la_law_847 : decode code 847 = .ok (.goto 324, 3) := by decide +kernel
theorem d_la_law_850 : decode code 850 = .ok (.aload_n 1, 1) := by decide +kernel
theorem d_la_law_851 : decode code 851 = .ok (.aload_n 0, 1) := by decide +kernel
theorem d_la_law_852 : decode code 852 = .ok (.iload 4, 2) := by decide +kernel
theorem d_la_law_854 : decode code 854 = .ok (.iconst 1, 1) := by decide +kernel
theorem d_la_law_855 : decode code 855 = .ok (.iadd, 1) := by decide +kernel
theorem d_la_law_856 : decode code 856 = .ok (.iaload, 1) := by decide +kernel
theorem d_la_law_857 : decode code 857 = .ok (.aload_n 0, 1) := by decide +kernel
theorem d_la_law_858 : decode code 858 = .ok (.iload 4, 2) := by decide +kernel
theorem d_la_law_860 : decode code 860 = .ok (.iconst 2, 1) := by decide +kernel
theorem d_la_law_861 : decode code 861 = .ok (.iadd, 1) := by decide +kernel
theorem d_la_law_862 : decode code 862 = .ok (.iaload, 1) := by decide +kernel
theorem d_la_law_863 : decode code 863 = .ok (.aload_n 3, 1) := by decide +kernel
theorem d_la_law_864 : decode code 864 = .ok (.invokestatic 131, 3) := by decide +kernel
theorem d_la_law_867 : decode code 867 = .ok (.istore 5, 2) := by decide +kernel
theorem d_la_law_869 : decode code 869 = .ok (.aload_n 2, 1) := by decide +kernel
theorem d_la_law_870 : decode code 870 = .ok (.aload_n 0, 1) := by decide +kernel
theorem d_la_law_871 : decode code 871 = .ok (.iload 4, 2) := by decide +kernel
theorem d_la_law_873 : decode code 873 = .ok (.iconst 1, 1) := by decide +kernel
theorem d_la_law_874 : decode code 874 = .ok (.iadd, 1) := by decide +kernel
theorem d_la_law_875 : decode code 875 = .ok (.iaload, 1) := by decide +kernel
theorem d_la_law_876 : decode code 876 = .ok (.aload_n 0, 1) := by decide +kernel
theorem d_la_law_877 : decode code 877 = .ok (.iload 4, 2) := by decide +kernel
theorem d_la_law_879 : decode code 879 = .ok (.iconst 2, 1) := by decide +kernel
theorem d_la_law_880 : decode code 880 = .ok (.iadd, 1) := by decide +kernel
theorem d_la_law_881 : decode code 881 = .ok (.iaload, 1) := by decide +kernel
theorem d_la_law_882 : decode code 882 = .ok (.invokevirtual 133, 3) := by decide +kernel
theorem d_la_law_885 : decode code 885 = .ok (.lstore 6, 2) := by decide +kernel
theorem d_la_law_887 : decode code 887 = .ok (.aload_n 2, 1) := by decide +kernel
theorem d_la_law_888 : decode code 888 = .ok (.invokevirtual 87, 3) := by decide +kernel
theorem d_la_law_891 : decode code 891 = .ok (.iload 5, 2) := by decide +kernel
theorem d_la_law_893 : decode code 893 = .ok (.if_icmp .eq 5, 3) := by decide +kernel
theorem d_la_law_896 : decode code 896 = .ok (.iconst 0, 1) := by decide +kernel
theorem d_la_law_897 : decode code 897 = .ok (.ireturn, 1) := by decide +kernel
theorem d_la_law_898 : decode code 898 = .ok (.iload 5, 2) := by decide +kernel
theorem d_la_law_900 : decode code 900 = .ok (.ifCond .ne 14, 3) := by decide +kernel
theorem d_la_law_903 : decode code 903 = .ok (.aload_n 3, 1) := by decide +kernel
theorem d_la_law_904 : decode code 904 = .ok (.iconst 0, 1) := by decide +kernel
theorem d_la_law_905 : decode code 905 = .ok (.laload, 1) := by decide +kernel
theorem d_la_law_906 : decode code 906 = .ok (.lload 6, 2) := by decide +kernel
theorem d_la_law_908 : decode code 908 = .ok (.lcmp, 1) := by decide +kernel
theorem d_la_law_909 : decode code 909 = .ok (.ifCond .eq 5, 3) := by decide +kernel
theorem d_la_law_912 : decode code 912 = .ok (.iconst 0, 1) := by decide +kernel
theorem d_la_law_913 : decode code 913 = .ok (.ireturn, 1) := by decide +kernel
theorem d_la_law_914 : decode code 914 = .ok (.goto 257, 3) := by decide +kernel
theorem d_la_law_917 : decode code 917 = .ok (.aload_n 1, 1) := by decide +kernel
theorem d_la_law_918 : decode code 918 = .ok (.invokevirtual 134, 3) := by decide +kernel
theorem d_la_law_921 : decode code 921 = .ok (.aload_n 2, 1) := by decide +kernel
theorem d_la_law_922 : decode code 922 = .ok (.invokevirtual 138, 3) := by decide +kernel
theorem d_la_law_925 : decode code 925 = .ok (.if_icmp .eq 246, 3) := by decide +kernel
theorem d_la_law_928 : decode code 928 = .ok (.iconst 0, 1) := by decide +kernel
theorem d_la_law_929 : decode code 929 = .ok (.ireturn, 1) := by decide +kernel
theorem d_la_law_930 : decode code 930 = .ok (.aload_n 1, 1) := by decide +kernel
theorem d_la_law_931 : decode code 931 = .ok (.aload_n 0, 1) := by decide +kernel
theorem d_la_law_932 : decode code 932 = .ok (.iload 4, 2) := by decide +kernel
theorem d_la_law_934 : decode code 934 = .ok (.iconst 1, 1) := by decide +kernel
theorem d_la_law_935 : decode code 935 = .ok (.iadd, 1) := by decide +kernel
theorem d_la_law_936 : decode code 936 = .ok (.iaload, 1) := by decide +kernel
theorem d_la_law_937 : decode code 937 = .ok (.aload_n 0, 1) := by decide +kernel
theorem d_la_law_938 : decode code 938 = .ok (.iload 4, 2) := by decide +kernel
theorem d_la_law_940 : decode code 940 = .ok (.iconst 2, 1) := by decide +kernel
theorem d_la_law_941 : decode code 941 = .ok (.iadd, 1) := by decide +kernel
theorem d_la_law_942 : decode code 942 = .ok (.iaload, 1) := by decide +kernel
theorem d_la_law_943 : decode code 943 = .ok (.aload_n 3, 1) := by decide +kernel
theorem d_la_law_944 : decode code 944 = .ok (.invokestatic 139, 3) := by decide +kernel
theorem d_la_law_947 : decode code 947 = .ok (.istore 5, 2) := by decide +kernel
theorem d_la_law_949 : decode code 949 = .ok (.aload_n 2, 1) := by decide +kernel
theorem d_la_law_950 : decode code 950 = .ok (.aload_n 0, 1) := by decide +kernel
theorem d_la_law_951 : decode code 951 = .ok (.iload 4, 2) := by decide +kernel
theorem d_la_law_953 : decode code 953 = .ok (.iconst 1, 1) := by decide +kernel
theorem d_la_law_954 : decode code 954 = .ok (.iadd, 1) := by decide +kernel
theorem d_la_law_955 : decode code 955 = .ok (.iaload, 1) := by decide +kernel
theorem d_la_law_956 : decode code 956 = .ok (.aload_n 0, 1) := by decide +kernel
theorem d_la_law_957 : decode code 957 = .ok (.iload 4, 2) := by decide +kernel
theorem d_la_law_959 : decode code 959 = .ok (.iconst 2, 1) := by decide +kernel
theorem d_la_law_960 : decode code 960 = .ok (.iadd, 1) := by decide +kernel
theorem d_la_law_961 : decode code 961 = .ok (.iaload, 1) := by decide +kernel
theorem d_la_law_962 : decode code 962 = .ok (.invokevirtual 141, 3) := by decide +kernel
theorem d_la_law_965 : decode code 965 = .ok (.lstore 6, 2) := by decide +kernel
theorem d_la_law_967 : decode code 967 = .ok (.aload_n 2, 1) := by decide +kernel
theorem d_la_law_968 : decode code 968 = .ok (.invokevirtual 87, 3) := by decide +kernel
theorem d_la_law_971 : decode code 971 = .ok (.iload 5, 2) := by decide +kernel
theorem d_la_law_973 : decode code 973 = .ok (.if_icmp .eq 5, 3) := by decide +kernel
theorem d_la_law_976 : decode code 976 = .ok (.iconst 0, 1) := by decide +kernel
theorem d_la_law_977 : decode code 977 = .ok (.ireturn, 1) := by decide +kernel
theorem d_la_law_978 : decode code 978 = .ok (.iload 5, 2) := by decide +kernel
theorem d_la_law_980 : decode code 980 = .ok (.ifCond .ne 14, 3) := by decide +kernel
theorem d_la_law_983 : decode code 983 = .ok (.aload_n 3, 1) := by decide +kernel
theorem d_la_law_984 : decode code 984 = .ok (.iconst 0, 1) := by decide +kernel
theorem d_la_law_985 : decode code 985 = .ok (.laload, 1) := by decide +kernel
theorem d_la_law_986 : decode code 986 = .ok (.lload 6, 2) := by decide +kernel
theorem d_la_law_988 : decode code 988 = .ok (.lcmp, 1) := by decide +kernel
theorem d_la_law_989 : decode code 989 = .ok (.ifCond .eq 5, 3) := by decide +kernel
theorem d_la_law_992 : decode code 992 = .ok (.iconst 0, 1) := by decide +kernel
theorem d_la_law_993 : decode code 993 = .ok (.ireturn, 1) := by decide +kernel
theorem d_la_law_994 : decode code 994 = .ok (.goto 177, 3) := by decide +kernel
theorem d_la_law_997 : decode code 997 = .ok (.aload_n 1, 1) := by decide +kernel
theorem d_la_law_998 : decode code 998 = .ok (.aload_n 0, 1) := by decide +kernel
theorem d_la_law_999 : decode code 999 = .ok (.iload 4, 2) := by decide +kernel
theorem d_la_law_1001 : decode code 1001 = .ok (.iconst 1, 1) := by decide +kernel
theorem d_la_law_1002 : decode code 1002 = .ok (.iadd, 1) := by decide +kernel
theorem d_la_law_1003 : decode code 1003 = .ok (.iaload, 1) := by decide +kernel
theorem d_la_law_1004 : decode code 1004 = .ok (.aload_n 3, 1) := by decide +kernel
theorem d_la_law_1005 : decode code 1005 = .ok (.invokestatic 142, 3) := by decide +kernel
theorem d_la_law_1008 : decode code 1008 = .ok (.istore 5, 2) := by decide +kernel
theorem d_la_law_1010 : decode code 1010 = .ok (.aload_n 2, 1) := by decide +kernel
theorem d_la_law_1011 : decode code 1011 = .ok (.aload_n 0, 1) := by decide +kernel
theorem d_la_law_1012 : decode code 1012 = .ok (.iload 4, 2) := by decide +kernel
theorem d_la_law_1014 : decode code 1014 = .ok (.iconst 1, 1) := by decide +kernel
theorem d_la_law_1015 : decode code 1015 = .ok (.iadd, 1) := by decide +kernel
theorem d_la_law_1016 : decode code 1016 = .ok (.iaload, 1) := by decide +kernel
theorem d_la_law_1017 : decode code 1017 = .ok (.invokevirtual 144, 3) := by decide +kernel
theorem d_la_law_1020 : decode code 1020 = .ok (.istore 6, 2) := by decide +kernel
theorem d_la_law_1022 : decode code 1022 = .ok (.aload_n 2, 1) := by decide +kernel
