theorem d_L_law_852 : decode code 852 = .ok (.aload_n 0, 1) := by decide +kernel
theorem d_L_law_853 : decode code 853 = .ok (.iload_n 3, 1) := by decide +kernel
theorem d_L_law_854 : decode code 854 = .ok (.iconst 2, 1) := by decide +kernel
theorem d_L_law_855 : decode code 855 = .ok (.iadd, 1) := by decide +kernel
theorem d_L_law_856 : decode code 856 = .ok (.iaload, 1) := by decide +kernel
theorem d_L_law_857 : decode code 857 = .ok (.invokevirtual 108, 3) := by decide +kernel
theorem d_L_law_860 : decode code 860 = .ok (.aload_n 2, 1) := by decide +kernel
theorem d_L_law_861 : decode code 861 = .ok (.aload_n 0, 1) := by decide +kernel
theorem d_L_law_862 : decode code 862 = .ok (.iload_n 3, 1) := by decide +kernel
theorem d_L_law_863 : decode code 863 = .ok (.iconst 1, 1) := by decide +kernel
theorem d_L_law_864 : decode code 864 = .ok (.iadd, 1) := by decide +kernel
theorem d_L_law_865 : decode code 865 = .ok (.iaload, 1) := by decide +kernel
theorem d_L_law_866 : decode code 866 = .ok (.aload_n 0, 1) := by decide +kernel
theorem d_L_law_867 : decode code 867 = .ok (.iload_n 3, 1) := by decide +kernel
theorem d_L_law_868 : decode code 868 = .ok (.iconst 2, 1) := by decide +kernel
theorem d_L_law_869 : decode code 869 = .ok (.iadd, 1) := by decide +kernel
theorem d_L_law_870 : decode code 870 = .ok (.iaload, 1) := by decide +kernel
theorem d_L_law_871 : decode code 871 = .ok (.invokevirtual 111, 3) := by decide +kernel
theorem d_L_law_874 : decode code 874 = .ok (.if_icmp .eq 179, 3) := by decide +kernel
theorem d_L_law_877 : decode code 877 = .ok (.iconst 0, 1) := by decide +kernel
theorem d_L_law_878 : decode code 878 = .ok (.ireturn, 1) := by decide +kernel
theorem d_L_law_879 : decode code 879 = .ok (.aload_n 1, 1) := by decide +kernel
theorem d_L_law_880 : decode code 880 = .ok (.aload_n 0, 1) := by decide +kernel
theorem d_L_law_881 : decode code 881 = .ok (.iload_n 3, 1) := by decide +kernel
theorem d_L_law_882 : decode code 882 = .ok (.iconst 1, 1) := by decide +kernel
theorem d_L_law_883 : decode code 883 = .ok (.iadd, 1) := by decide +kernel
theorem d_L_law_884 : decode code 884 = .ok (.iaload, 1) := by decide +kernel
theorem d_L_law_885 : decode code 885 = .ok (.aload_n 0, 1) := by decide +kernel
theorem d_L_law_886 : decode code 886 = .ok (.iload_n 3, 1) := by decide +kernel
theorem d_L_law_887 : decode code 887 = .ok (.iconst 2, 1) := by decide +kernel
theorem d_L_law_888 : decode code 888 = .ok (.iadd, 1) := by decide +kernel
theorem d_L_law_889 : decode code 889 = .ok (.iaload, 1) := by decide +kernel
theorem d_L_law_890 : decode code 890 = .ok (.ifCond .eq 7, 3) := by decide +kernel
theorem d_L_law_893 : decode code 893 = .ok (.iconst 1, 1) := by decide +kernel
theorem d_L_law_894 : decode code 894 = .ok (.goto 4, 3) := by decide +kernel
theorem d_L_law_897 : decode code 897 = .ok (.iconst 0, 1) := by decide +kernel
theorem d_L_law_898 : decode code 898 = .ok (.invokevirtual 112, 3) := by decide +kernel
theorem d_L_law_901 : decode code 901 = .ok (.aload_n 2, 1) := by decide +kernel
theorem d_L_law_902 : decode code 902 = .ok (.aload_n 0, 1) := by decide +kernel
theorem d_L_law_903 : decode code 903 = .ok (.iload_n 3, 1) := by decide +kernel
theorem d_L_law_904 : decode code 904 = .ok (.iconst 1, 1) := by decide +kernel
theorem d_L_law_905 : decode code 905 = .ok (.iadd, 1) := by decide +kernel
theorem d_L_law_906 : decode code 906 = .ok (.iaload, 1) := by decide +kernel
theorem d_L_law_907 : decode code 907 = .ok (.aload_n 0, 1) := by decide +kernel
theorem d_L_law_908 : decode code 908 = .ok (.iload_n 3, 1) := by decide +kernel
theorem d_L_law_909 : decode code 909 = .ok (.iconst 2, 1) := by decide +kernel
theorem d_L_law_910 : decode code 910 = .ok (.iadd, 1) := by decide +kernel
theorem d_L_law_911 : decode code 911 = .ok (.iaload, 1) := by decide +kernel
theorem d_L_law_912 : decode code 912 = .ok (.ifCond .eq 7, 3) := by decide +kernel
theorem d_L_law_915 : decode code 915 = .ok (.iconst 1, 1) := by decide +kernel
theorem d_L_law_916 : decode code 916 = .ok (.goto 4, 3) := by decide +kernel
theorem d_L_law_919 : decode code 919 = .ok (.iconst 0, 1) := by decide +kernel
theorem d_L_law_920 : decode code 920 = .ok (.invokevirtual 116, 3) := by decide +kernel
theorem d_L_law_923 : decode code 923 = .ok (.if_icmp .eq 130, 3) := by decide +kernel
theorem d_L_law_926 : decode code 926 = .ok (.iconst 0, 1) := by decide +kernel
theorem d_L_law_927 : decode code 927 = .ok (.ireturn, 1) := by decide +kernel
theorem d_L_law_928 : decode code 928 = .ok (.aload_n 1, 1) := by decide +kernel
theorem d_L_law_929 : decode code 929 = .ok (.aload_n 0, 1) := by decide +kernel
theorem d_L_law_930 : decode code 930 = .ok (.iload_n 3, 1) := by decide +kernel
theorem d_L_law_931 : decode code 931 = .ok (.iconst 1, 1) := by decide +kernel
theorem d_L_law_932 : decode code 932 = .ok (.iadd, 1) := by decide +kernel
theorem d_L_law_933 : decode code 933 = .ok (.iaload, 1) := by decide +kernel
theorem d_L_law_934 : decode code 934 = .ok (.aload_n 0, 1) := by decide +kernel
theorem d_L_law_935 : decode code 935 = .ok (.iload_n 3, 1) := by decide +kernel
theorem d_L_law_936 : decode code 936 = .ok (.iconst 2, 1) := by decide +kernel
theorem d_L_law_937 : decode code 937 = .ok (.iadd, 1) := by decide +kernel
theorem d_L_law_938 : decode code 938 = .ok (.iaload, 1) := by decide +kernel
theorem d_L_law_939 : decode code 939 = .ok (.aload_n 0, 1) := by decide +kernel
theorem d_L_law_940 : decode code 940 = .ok (.iload_n 3, 1) := by decide +kernel
theorem d_L_law_941 : decode code 941 = .ok (.iconst 3, 1) := by decide +kernel
theorem d_L_law_942 : decode code 942 = .ok (.iadd, 1) := by decide +kernel
theorem d_L_law_943 : decode code 943 = .ok (.iaload, 1) := by decide +kernel
theorem d_L_law_944 : decode code 944 = .ok (.invokevirtual 117, 3) := by decide +kernel
theorem d_L_law_947 : decode code 947 = .ok (.aload_n 2, 1) := by decide +kernel
theorem d_L_law_948 : decode code 948 = .ok (.aload_n 0, 1) := by decide +kernel
theorem d_L_law_949 : decode code 949 = .ok (.iload_n 3, 1) := by decide +kernel
theorem d_L_law_950 : decode code 950 = .ok (.iconst 1, 1) := by decide +kernel
theorem d_L_law_951 : decode code 951 = .ok (.iadd, 1) := by decide +kernel
theorem d_L_law_952 : decode code 952 = .ok (.iaload, 1) := by decide +kernel
theorem d_L_law_953 : decode code 953 = .ok (.aload_n 0, 1) := by decide +kernel
theorem d_L_law_954 : decode code 954 = .ok (.iload_n 3, 1) := by decide +kernel
theorem d_L_law_955 : decode code 955 = .ok (.iconst 2, 1) := by decide +kernel
theorem d_L_law_956 : decode code 956 = .ok (.iadd, 1) := by decide +kernel
theorem d_L_law_957 : decode code 957 = .ok (.iaload, 1) := by decide +kernel
theorem d_L_law_958 : decode code 958 = .ok (.aload_n 0, 1) := by decide +kernel
theorem d_L_law_959 : decode code 959 = .ok (.iload_n 3, 1) := by decide +kernel
theorem d_L_law_960 : decode code 960 = .ok (.iconst 3, 1) := by decide +kernel
theorem d_L_law_961 : decode code 961 = .ok (.iadd, 1) := by decide +kernel
theorem d_L_law_962 : decode code 962 = .ok (.iaload, 1) := by decide +kernel
theorem d_L_law_963 : decode code 963 = .ok (.invokevirtual 120, 3) := by decide +kernel
theorem d_L_law_966 : decode code 966 = .ok (.if_icmp .eq 87, 3) := by decide +kernel
theorem d_L_law_969 : decode code 969 = .ok (.iconst 0, 1) := by decide +kernel
theorem d_L_law_970 : decode code 970 = .ok (.ireturn, 1) := by decide +kernel
theorem d_L_law_971 : decode code 971 = .ok (.aload_n 1, 1) := by decide +kernel
theorem d_L_law_972 : decode code 972 = .ok (.aload_n 0, 1) := by decide +kernel
theorem d_L_law_973 : decode code 973 = .ok (.iload_n 3, 1) := by decide +kernel
theorem d_L_law_974 : decode code 974 = .ok (.iconst 1, 1) := by decide +kernel
theorem d_L_law_975 : decode code 975 = .ok (.iadd, 1) := by decide +kernel
theorem d_L_law_976 : decode code 976 = .ok (.iaload, 1) := by decide +kernel
theorem d_L_law_977 : decode code 977 = .ok (.aload_n 0, 1) := by decide +kernel
theorem d_L_law_978 : decode code 978 = .ok (.iload_n 3, 1) := by decide +kernel
theorem d_L_law_979 : decode code 979 = .ok (.iconst 2, 1) := by decide +kernel
theorem d_L_law_980 : decode code 980 = .ok (.iadd, 1) := by decide +kernel
theorem d_L_law_981 : decode code 981 = .ok (.iaload, 1) := by decide +kernel
theorem d_L_law_982 : decode code 982 = .ok (.aload_n 0, 1) := by decide +kernel
theorem d_L_law_983 : decode code 983 = .ok (.iload_n 3, 1) := by decide +kernel
theorem d_L_law_984 : decode code 984 = .ok (.iconst 3, 1) := by decide +kernel
theorem d_L_law_985 : decode code 985 = .ok (.iadd, 1) := by decide +kernel
theorem d_L_law_986 : decode code 986 = .ok (.iaload, 1) := by decide +kernel
theorem d_L_law_987 : decode code 987 = .ok (.invokevirtual 121, 3) := by decide +kernel
theorem d_L_law_990 : decode code 990 = .ok (.aload_n 2, 1) := by decide +kernel
theorem d_L_law_991 : decode code 991 = .ok (.aload_n 0, 1) := by decide +kernel
theorem d_L_law_992 : decode code 992 = .ok (.iload_n 3, 1) := by decide +kernel
theorem d_L_law_993 : decode code 993 = .ok (.iconst 1, 1) := by decide +kernel
theorem d_L_law_994 : decode code 994 = .ok (.iadd, 1) := by decide +kernel
theorem d_L_law_995 : decode code 995 = .ok (.iaload, 1) := by decide +kernel
theorem d_L_law_996 : decode code 996 = .ok (.aload_n 0, 1) := by decide +kernel
theorem d_L_law_997 : decode code 997 = .ok (.iload_n 3, 1) := by decide +kernel
theorem d_L_law_998 : decode code 998 = .ok (.iconst 2, 1) := by decide +kernel
theorem d_L_law_999 : decode code 999 = .ok (.iadd, 1) := by decide +kernel
theorem d_L_law_1000 : decode code 1000 = .ok (.iaload, 1) := by decide +kernel
theorem d_L_law_1001 : decode code 1001 = .ok (.aload_n 0, 1) := by decide +kernel
theorem d_L_law_1002 : decode code 1002 = .ok (.iload_n 3, 1) := by decide +kernel
theorem d_L_law_1003 : decode code 1003 = .ok (.iconst 3, 1) := by decide +kernel
theorem d_L_law_1004 : decode code 1004 = .ok (.iadd, 1) := by decide +kernel
theorem d_L_law_1005 : decode code 1005 = .ok (.iaload, 1) := by decide +kernel
theorem d_L_law_1006 : decode code 1006 = .ok (.invokevirtual 124, 3) := by decide +kernel
theorem d_L_law_1009 : decode code 1009 = .ok (.if_icmp .eq 44, 3) := by decide +kernel
theorem d_L_law_1012 : decode code 1012 = .ok (.iconst 0, 1) := by decide +kernel
theorem d_L_law_1013 : decode code 1013 = .ok (.ireturn, 1) := by decide +kernel
theorem d_L_law_1014 : decode code 1014 = .ok (.aload_n 1, 1) := by decide +kernel
theorem d_L_law_1015 : decode code 1015 = .ok (.invokevirtual 125, 3) := by decide +kernel
theorem d_L_law_1018 : decode code 1018 = .ok (.aload_n 2, 1) := by decide +kernel
theorem d_L_law_1019 : decode code 1019 = .ok (.invokevirtual 129, 3) := by decide +kernel
theorem d_L_law_1022 : decode code 1022 = .ok (.if_icmp .eq 31, 3) := by decide +kernel
theorem d_L_law_1025 : decode code 1025 = .ok (.iconst 0, 1) := by decide +kernel
theorem d_L_law_1026 : decode code 1026 = .ok (.ireturn, 1) := by decide +kernel
theorem d_L_law_1027 : decode code 1027 = .ok (.aload_n 1, 1) := by decide +kernel
theorem d_L_law_1028 : decode code 1028 = .ok (.invokevirtual 130, 3) := by decide +kernel
theorem d_L_law_1031 : decode code 1031 = .ok (.aload_n 2, 1) := by decide +kernel
theorem d_L_law_1032 : decode code 1032 = .ok (.invokevirtual 133, 3) := by decide +kernel
theorem d_L_law_1035 : decode code 1035 = .ok (.if_icmp .eq 18, 3) := by decide +kernel
theorem d_L_law_1038 : decode code 1038 = .ok (.iconst 0, 1) := by decide +kernel
theorem d_L_law_1039 : decode code 1039 = .ok (.ireturn, 1) := by decide +kernel
theorem d_L_law_1040 : decode code 1040 = .ok (.aload_n 1, 1) := by decide +kernel
theorem d_L_law_1041 : decode code 1041 = .ok (.invokevirtual 134, 3) := by decide +kernel
theorem d_L_law_1044 : decode code 1044 = .ok (.aload_n 2, 1) := by decide +kernel
theorem d_L_law_1045 : decode code 1045 = .ok (.invokevirtual 137, 3) := by decide +kernel
theorem d_L_law_1048 : decode code 1048 = .ok (.if_icmp .eq 5, 3) := by decide +kernel
theorem d_L_law_1051 : decode code 1051 = .ok (.iconst 0, 1) := by decide +kernel
theorem d_L_law_1052 : decode code 1052 = .ok (.ireturn, 1) := by decide +kernel
theorem d_L_law_1053 : decode code 1053 = .ok (.iinc 3 5, 3) := by decide +kernel
theorem d_L_law_1056 : decode code 1056 = .ok (.goto (-1018), 3) := by decide +kernel
theorem d_L_law_1059 : decode code 1059 = .ok (.iconst 1, 1) := by decide +kernel
theorem d_L_law_1060 : decode code 1060 = .ok (.ireturn, 1) := by decide +kernel
