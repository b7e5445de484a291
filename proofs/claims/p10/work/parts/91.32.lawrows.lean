theorem dL_law_868 : decode cL_law 868 = .ok (.goto 683, 3) := qr_o167 2 171 rfl hN_cL_law hn_cL_law rfl rfl rfl rfl
theorem dL_law_871 : decode cL_law 871 = .ok (.aload_n 1, 1) := qr_o43 hN_cL_law hn_cL_law rfl rfl
theorem dL_law_872 : decode cL_law 872 = .ok (.aload_n 0, 1) := qr_o42 hN_cL_law hn_cL_law rfl rfl
theorem dL_law_873 : decode cL_law 873 = .ok (.iload_n 3, 1) := qr_o29 hN_cL_law hn_cL_law rfl rfl
theorem dL_law_874 : decode cL_law 874 = .ok (.iconst 1, 1) := qr_o4 hN_cL_law hn_cL_law rfl rfl
theorem dL_law_875 : decode cL_law 875 = .ok (.iadd, 1) := qr_o96 hN_cL_law hn_cL_law rfl rfl
theorem dL_law_876 : decode cL_law 876 = .ok (.iaload, 1) := qr_o46 hN_cL_law hn_cL_law rfl rfl
theorem dL_law_877 : decode cL_law 877 = .ok (.invokevirtual 82, 3) := qr_o182 0 82 hN_cL_law hn_cL_law rfl rfl rfl rfl
theorem dL_law_880 : decode cL_law 880 = .ok (.pop, 1) := qr_o87 hN_cL_law hn_cL_law rfl rfl
theorem dL_law_881 : decode cL_law 881 = .ok (.aload_n 2, 1) := qr_o44 hN_cL_law hn_cL_law rfl rfl
theorem dL_law_882 : decode cL_law 882 = .ok (.aload_n 0, 1) := qr_o42 hN_cL_law hn_cL_law rfl rfl
theorem dL_law_883 : decode cL_law 883 = .ok (.iload_n 3, 1) := qr_o29 hN_cL_law hn_cL_law rfl rfl
theorem dL_law_884 : decode cL_law 884 = .ok (.iconst 1, 1) := qr_o4 hN_cL_law hn_cL_law rfl rfl
theorem dL_law_885 : decode cL_law 885 = .ok (.iadd, 1) := qr_o96 hN_cL_law hn_cL_law rfl rfl
theorem dL_law_886 : decode cL_law 886 = .ok (.iaload, 1) := qr_o46 hN_cL_law hn_cL_law rfl rfl
theorem dL_law_887 : decode cL_law 887 = .ok (.invokevirtual 85, 3) := qr_o182 0 85 hN_cL_law hn_cL_law rfl rfl rfl rfl
theorem dL_law_890 : decode cL_law 890 = .ok (.pop, 1) := qr_o87 hN_cL_law hn_cL_law rfl rfl
theorem dL_law_891 : decode cL_law 891 = .ok (.goto 660, 3) := qr_o167 2 148 rfl hN_cL_law hn_cL_law rfl rfl rfl rfl
theorem dL_law_894 : decode cL_law 894 = .ok (.aload_n 1, 1) := qr_o43 hN_cL_law hn_cL_law rfl rfl
theorem dL_law_895 : decode cL_law 895 = .ok (.aload_n 0, 1) := qr_o42 hN_cL_law hn_cL_law rfl rfl
theorem dL_law_896 : decode cL_law 896 = .ok (.iload_n 3, 1) := qr_o29 hN_cL_law hn_cL_law rfl rfl
theorem dL_law_897 : decode cL_law 897 = .ok (.iconst 1, 1) := qr_o4 hN_cL_law hn_cL_law rfl rfl
theorem dL_law_898 : decode cL_law 898 = .ok (.iadd, 1) := qr_o96 hN_cL_law hn_cL_law rfl rfl
theorem dL_law_899 : decode cL_law 899 = .ok (.iaload, 1) := qr_o46 hN_cL_law hn_cL_law rfl rfl
theorem dL_law_900 : decode cL_law 900 = .ok (.invokevirtual 86, 3) := qr_o182 0 86 hN_cL_law hn_cL_law rfl rfl rfl rfl
theorem dL_law_903 : decode cL_law 903 = .ok (.pop, 1) := qr_o87 hN_cL_law hn_cL_law rfl rfl
theorem dL_law_904 : decode cL_law 904 = .ok (.aload_n 2, 1) := qr_o44 hN_cL_law hn_cL_law rfl rfl
theorem dL_law_905 : decode cL_law 905 = .ok (.aload_n 0, 1) := qr_o42 hN_cL_law hn_cL_law rfl rfl
theorem dL_law_906 : decode cL_law 906 = .ok (.iload_n 3, 1) := qr_o29 hN_cL_law hn_cL_law rfl rfl
theorem dL_law_907 : decode cL_law 907 = .ok (.iconst 1, 1) := qr_o4 hN_cL_law hn_cL_law rfl rfl
theorem dL_law_908 : decode cL_law 908 = .ok (.iadd, 1) := qr_o96 hN_cL_law hn_cL_law rfl rfl
theorem dL_law_909 : decode cL_law 909 = .ok (.iaload, 1) := qr_o46 hN_cL_law hn_cL_law rfl rfl
theorem dL_law_910 : decode cL_law 910 = .ok (.invokevirtual 89, 3) := qr_o182 0 89 hN_cL_law hn_cL_law rfl rfl rfl rfl
theorem dL_law_913 : decode cL_law 913 = .ok (.pop, 1) := qr_o87 hN_cL_law hn_cL_law rfl rfl
theorem dL_law_914 : decode cL_law 914 = .ok (.goto 637, 3) := qr_o167 2 125 rfl hN_cL_law hn_cL_law rfl rfl rfl rfl
theorem dL_law_917 : decode cL_law 917 = .ok (.aload_n 1, 1) := qr_o43 hN_cL_law hn_cL_law rfl rfl
theorem dL_law_918 : decode cL_law 918 = .ok (.aload_n 0, 1) := qr_o42 hN_cL_law hn_cL_law rfl rfl
theorem dL_law_919 : decode cL_law 919 = .ok (.iload_n 3, 1) := qr_o29 hN_cL_law hn_cL_law rfl rfl
theorem dL_law_920 : decode cL_law 920 = .ok (.iconst 1, 1) := qr_o4 hN_cL_law hn_cL_law rfl rfl
theorem dL_law_921 : decode cL_law 921 = .ok (.iadd, 1) := qr_o96 hN_cL_law hn_cL_law rfl rfl
theorem dL_law_922 : decode cL_law 922 = .ok (.iaload, 1) := qr_o46 hN_cL_law hn_cL_law rfl rfl
theorem dL_law_923 : decode cL_law 923 = .ok (.aload_n 0, 1) := qr_o42 hN_cL_law hn_cL_law rfl rfl
theorem dL_law_924 : decode cL_law 924 = .ok (.iload_n 3, 1) := qr_o29 hN_cL_law hn_cL_law rfl rfl
theorem dL_law_925 : decode cL_law 925 = .ok (.iconst 2, 1) := qr_o5 hN_cL_law hn_cL_law rfl rfl
theorem dL_law_926 : decode cL_law 926 = .ok (.iadd, 1) := qr_o96 hN_cL_law hn_cL_law rfl rfl
theorem dL_law_927 : decode cL_law 927 = .ok (.iaload, 1) := qr_o46 hN_cL_law hn_cL_law rfl rfl
theorem dL_law_928 : decode cL_law 928 = .ok (.invokevirtual 90, 3) := qr_o182 0 90 hN_cL_law hn_cL_law rfl rfl rfl rfl
theorem dL_law_931 : decode cL_law 931 = .ok (.pop, 1) := qr_o87 hN_cL_law hn_cL_law rfl rfl
theorem dL_law_932 : decode cL_law 932 = .ok (.aload_n 2, 1) := qr_o44 hN_cL_law hn_cL_law rfl rfl
theorem dL_law_933 : decode cL_law 933 = .ok (.aload_n 0, 1) := qr_o42 hN_cL_law hn_cL_law rfl rfl
theorem dL_law_934 : decode cL_law 934 = .ok (.iload_n 3, 1) := qr_o29 hN_cL_law hn_cL_law rfl rfl
theorem dL_law_935 : decode cL_law 935 = .ok (.iconst 1, 1) := qr_o4 hN_cL_law hn_cL_law rfl rfl
theorem dL_law_936 : decode cL_law 936 = .ok (.iadd, 1) := qr_o96 hN_cL_law hn_cL_law rfl rfl
theorem dL_law_937 : decode cL_law 937 = .ok (.iaload, 1) := qr_o46 hN_cL_law hn_cL_law rfl rfl
theorem dL_law_938 : decode cL_law 938 = .ok (.aload_n 0, 1) := qr_o42 hN_cL_law hn_cL_law rfl rfl
theorem dL_law_939 : decode cL_law 939 = .ok (.iload_n 3, 1) := qr_o29 hN_cL_law hn_cL_law rfl rfl
theorem dL_law_940 : decode cL_law 940 = .ok (.iconst 2, 1) := qr_o5 hN_cL_law hn_cL_law rfl rfl
theorem dL_law_941 : decode cL_law 941 = .ok (.iadd, 1) := qr_o96 hN_cL_law hn_cL_law rfl rfl
theorem dL_law_942 : decode cL_law 942 = .ok (.iaload, 1) := qr_o46 hN_cL_law hn_cL_law rfl rfl
theorem dL_law_943 : decode cL_law 943 = .ok (.invokevirtual 93, 3) := qr_o182 0 93 hN_cL_law hn_cL_law rfl rfl rfl rfl
theorem dL_law_946 : decode cL_law 946 = .ok (.pop, 1) := qr_o87 hN_cL_law hn_cL_law rfl rfl
theorem dL_law_947 : decode cL_law 947 = .ok (.goto 604, 3) := qr_o167 2 92 rfl hN_cL_law hn_cL_law rfl rfl rfl rfl
theorem dL_law_950 : decode cL_law 950 = .ok (.aload_n 1, 1) := qr_o43 hN_cL_law hn_cL_law rfl rfl
theorem dL_law_951 : decode cL_law 951 = .ok (.aload_n 0, 1) := qr_o42 hN_cL_law hn_cL_law rfl rfl
theorem dL_law_952 : decode cL_law 952 = .ok (.iload_n 3, 1) := qr_o29 hN_cL_law hn_cL_law rfl rfl
theorem dL_law_953 : decode cL_law 953 = .ok (.iconst 1, 1) := qr_o4 hN_cL_law hn_cL_law rfl rfl
theorem dL_law_954 : decode cL_law 954 = .ok (.iadd, 1) := qr_o96 hN_cL_law hn_cL_law rfl rfl
theorem dL_law_955 : decode cL_law 955 = .ok (.iaload, 1) := qr_o46 hN_cL_law hn_cL_law rfl rfl
theorem dL_law_956 : decode cL_law 956 = .ok (.aload_n 0, 1) := qr_o42 hN_cL_law hn_cL_law rfl rfl
theorem dL_law_957 : decode cL_law 957 = .ok (.iload_n 3, 1) := qr_o29 hN_cL_law hn_cL_law rfl rfl
theorem dL_law_958 : decode cL_law 958 = .ok (.iconst 2, 1) := qr_o5 hN_cL_law hn_cL_law rfl rfl
theorem dL_law_959 : decode cL_law 959 = .ok (.iadd, 1) := qr_o96 hN_cL_law hn_cL_law rfl rfl
theorem dL_law_960 : decode cL_law 960 = .ok (.iaload, 1) := qr_o46 hN_cL_law hn_cL_law rfl rfl
theorem dL_law_961 : decode cL_law 961 = .ok (.aload_n 0, 1) := qr_o42 hN_cL_law hn_cL_law rfl rfl
theorem dL_law_962 : decode cL_law 962 = .ok (.iload_n 3, 1) := qr_o29 hN_cL_law hn_cL_law rfl rfl
theorem dL_law_963 : decode cL_law 963 = .ok (.iconst 3, 1) := qr_o6 hN_cL_law hn_cL_law rfl rfl
theorem dL_law_964 : decode cL_law 964 = .ok (.iadd, 1) := qr_o96 hN_cL_law hn_cL_law rfl rfl
theorem dL_law_965 : decode cL_law 965 = .ok (.iaload, 1) := qr_o46 hN_cL_law hn_cL_law rfl rfl
theorem dL_law_966 : decode cL_law 966 = .ok (.invokevirtual 94, 3) := qr_o182 0 94 hN_cL_law hn_cL_law rfl rfl rfl rfl
theorem dL_law_969 : decode cL_law 969 = .ok (.pop, 1) := qr_o87 hN_cL_law hn_cL_law rfl rfl
theorem dL_law_970 : decode cL_law 970 = .ok (.aload_n 2, 1) := qr_o44 hN_cL_law hn_cL_law rfl rfl
theorem dL_law_971 : decode cL_law 971 = .ok (.aload_n 0, 1) := qr_o42 hN_cL_law hn_cL_law rfl rfl
theorem dL_law_972 : decode cL_law 972 = .ok (.iload_n 3, 1) := qr_o29 hN_cL_law hn_cL_law rfl rfl
theorem dL_law_973 : decode cL_law 973 = .ok (.iconst 1, 1) := qr_o4 hN_cL_law hn_cL_law rfl rfl
theorem dL_law_974 : decode cL_law 974 = .ok (.iadd, 1) := qr_o96 hN_cL_law hn_cL_law rfl rfl
theorem dL_law_975 : decode cL_law 975 = .ok (.iaload, 1) := qr_o46 hN_cL_law hn_cL_law rfl rfl
theorem dL_law_976 : decode cL_law 976 = .ok (.aload_n 0, 1) := qr_o42 hN_cL_law hn_cL_law rfl rfl
theorem dL_law_977 : decode cL_law 977 = .ok (.iload_n 3, 1) := qr_o29 hN_cL_law hn_cL_law rfl rfl
theorem dL_law_978 : decode cL_law 978 = .ok (.iconst 2, 1) := qr_o5 hN_cL_law hn_cL_law rfl rfl
theorem dL_law_979 : decode cL_law 979 = .ok (.iadd, 1) := qr_o96 hN_cL_law hn_cL_law rfl rfl
theorem dL_law_980 : decode cL_law 980 = .ok (.iaload, 1) := qr_o46 hN_cL_law hn_cL_law rfl rfl
theorem dL_law_981 : decode cL_law 981 = .ok (.aload_n 0, 1) := qr_o42 hN_cL_law hn_cL_law rfl rfl
theorem dL_law_982 : decode cL_law 982 = .ok (.iload_n 3, 1) := qr_o29 hN_cL_law hn_cL_law rfl rfl
theorem dL_law_983 : decode cL_law 983 = .ok (.iconst 3, 1) := qr_o6 hN_cL_law hn_cL_law rfl rfl
theorem dL_law_984 : decode cL_law 984 = .ok (.iadd, 1) := qr_o96 hN_cL_law hn_cL_law rfl rfl
theorem dL_law_985 : decode cL_law 985 = .ok (.iaload, 1) := qr_o46 hN_cL_law hn_cL_law rfl rfl
theorem dL_law_986 : decode cL_law 986 = .ok (.invokevirtual 97, 3) := qr_o182 0 97 hN_cL_law hn_cL_law rfl rfl rfl rfl
theorem dL_law_989 : decode cL_law 989 = .ok (.pop, 1) := qr_o87 hN_cL_law hn_cL_law rfl rfl
theorem dL_law_990 : decode cL_law 990 = .ok (.goto 561, 3) := qr_o167 2 49 rfl hN_cL_law hn_cL_law rfl rfl rfl rfl
theorem dL_law_993 : decode cL_law 993 = .ok (.aload_n 1, 1) := qr_o43 hN_cL_law hn_cL_law rfl rfl
theorem dL_law_994 : decode cL_law 994 = .ok (.aload_n 0, 1) := qr_o42 hN_cL_law hn_cL_law rfl rfl
theorem dL_law_995 : decode cL_law 995 = .ok (.iload_n 3, 1) := qr_o29 hN_cL_law hn_cL_law rfl rfl
theorem dL_law_996 : decode cL_law 996 = .ok (.iconst 1, 1) := qr_o4 hN_cL_law hn_cL_law rfl rfl
theorem dL_law_997 : decode cL_law 997 = .ok (.iadd, 1) := qr_o96 hN_cL_law hn_cL_law rfl rfl
theorem dL_law_998 : decode cL_law 998 = .ok (.iaload, 1) := qr_o46 hN_cL_law hn_cL_law rfl rfl
theorem dL_law_999 : decode cL_law 999 = .ok (.aload_n 0, 1) := qr_o42 hN_cL_law hn_cL_law rfl rfl
theorem dL_law_1000 : decode cL_law 1000 = .ok (.iload_n 3, 1) := qr_o29 hN_cL_law hn_cL_law rfl rfl
theorem dL_law_1001 : decode cL_law 1001 = .ok (.iconst 2, 1) := qr_o5 hN_cL_law hn_cL_law rfl rfl
theorem dL_law_1002 : decode cL_law 1002 = .ok (.iadd, 1) := qr_o96 hN_cL_law hn_cL_law rfl rfl
theorem dL_law_1003 : decode cL_law 1003 = .ok (.iaload, 1) := qr_o46 hN_cL_law hn_cL_law rfl rfl
theorem dL_law_1004 : decode cL_law 1004 = .ok (.invokevirtual 98, 3) := qr_o182 0 98 hN_cL_law hn_cL_law rfl rfl rfl rfl
theorem dL_law_1007 : decode cL_law 1007 = .ok (.pop, 1) := qr_o87 hN_cL_law hn_cL_law rfl rfl
theorem dL_law_1008 : decode cL_law 1008 = .ok (.aload_n 2, 1) := qr_o44 hN_cL_law hn_cL_law rfl rfl
theorem dL_law_1009 : decode cL_law 1009 = .ok (.aload_n 0, 1) := qr_o42 hN_cL_law hn_cL_law rfl rfl
theorem dL_law_1010 : decode cL_law 1010 = .ok (.iload_n 3, 1) := qr_o29 hN_cL_law hn_cL_law rfl rfl
theorem dL_law_1011 : decode cL_law 1011 = .ok (.iconst 1, 1) := qr_o4 hN_cL_law hn_cL_law rfl rfl
theorem dL_law_1012 : decode cL_law 1012 = .ok (.iadd, 1) := qr_o96 hN_cL_law hn_cL_law rfl rfl
theorem dL_law_1013 : decode cL_law 1013 = .ok (.iaload, 1) := qr_o46 hN_cL_law hn_cL_law rfl rfl
theorem dL_law_1014 : decode cL_law 1014 = .ok (.aload_n 0, 1) := qr_o42 hN_cL_law hn_cL_law rfl rfl
theorem dL_law_1015 : decode cL_law 1015 = .ok (.iload_n 3, 1) := qr_o29 hN_cL_law hn_cL_law rfl rfl
theorem dL_law_1016 : decode cL_law 1016 = .ok (.iconst 2, 1) := qr_o5 hN_cL_law hn_cL_law rfl rfl
theorem dL_law_1017 : decode cL_law 1017 = .ok (.iadd, 1) := qr_o96 hN_cL_law hn_cL_law rfl rfl
theorem dL_law_1018 : decode cL_law 1018 = .ok (.iaload, 1) := qr_o46 hN_cL_law hn_cL_law rfl rfl
theorem dL_law_1019 : decode cL_law 1019 = .ok (.invokevirtual 101, 3) := qr_o182 0 101 hN_cL_law hn_cL_law rfl rfl rfl rfl
theorem dL_law_1022 : decode cL_law 1022 = .ok (.pop, 1) := qr_o87 hN_cL_law hn_cL_law rfl rfl
theorem dL_law_1023 : decode cL_law 1023 = .ok (.goto 528, 3) := qr_o167 2 16 rfl hN_cL_law hn_cL_law rfl rfl rfl rfl
theorem dL_law_1026 : decode cL_law 1026 = .ok (.aload_n 1, 1) := qr_o43 hN_cL_law hn_cL_law rfl rfl
theorem dL_law_1027 : decode cL_law 1027 = .ok (.aload_n 0, 1) := qr_o42 hN_cL_law hn_cL_law rfl rfl
theorem dL_law_1028 : decode cL_law 1028 = .ok (.iload_n 3, 1) := qr_o29 hN_cL_law hn_cL_law rfl rfl
theorem dL_law_1029 : decode cL_law 1029 = .ok (.iconst 1, 1) := qr_o4 hN_cL_law hn_cL_law rfl rfl
theorem dL_law_1030 : decode cL_law 1030 = .ok (.iadd, 1) := qr_o96 hN_cL_law hn_cL_law rfl rfl
theorem dL_law_1031 : decode cL_law 1031 = .ok (.iaload, 1) := qr_o46 hN_cL_law hn_cL_law rfl rfl
theorem dL_law_1032 : decode cL_law 1032 = .ok (.invokevirtual 102, 3) := qr_o182 0 102 hN_cL_law hn_cL_law rfl rfl rfl rfl
theorem dL_law_1035 : decode cL_law 1035 = .ok (.pop, 1) := qr_o87 hN_cL_law hn_cL_law rfl rfl
theorem dL_law_1036 : decode cL_law 1036 = .ok (.aload_n 2, 1) := qr_o44 hN_cL_law hn_cL_law rfl rfl
theorem dL_law_1037 : decode cL_law 1037 = .ok (.aload_n 0, 1) := qr_o42 hN_cL_law hn_cL_law rfl rfl
theorem dL_law_1038 : decode cL_law 1038 = .ok (.iload_n 3, 1) := qr_o29 hN_cL_law hn_cL_law rfl rfl
theorem dL_law_1039 : decode cL_law 1039 = .ok (.iconst 1, 1) := qr_o4 hN_cL_law hn_cL_law rfl rfl
theorem dL_law_1040 : decode cL_law 1040 = .ok (.iadd, 1) := qr_o96 hN_cL_law hn_cL_law rfl rfl
theorem dL_law_1041 : decode cL_law 1041 = .ok (.iaload, 1) := qr_o46 hN_cL_law hn_cL_law rfl rfl
theorem dL_law_1042 : decode cL_law 1042 = .ok (.invokevirtual 105, 3) := qr_o182 0 105 hN_cL_law hn_cL_law rfl rfl rfl rfl
theorem dL_law_1045 : decode cL_law 1045 = .ok (.pop, 1) := qr_o87 hN_cL_law hn_cL_law rfl rfl
theorem dL_law_1046 : decode cL_law 1046 = .ok (.goto 505, 3) := qr_o167 1 249 rfl hN_cL_law hn_cL_law rfl rfl rfl rfl
theorem dL_law_1049 : decode cL_law 1049 = .ok (.aload_n 1, 1) := qr_o43 hN_cL_law hn_cL_law rfl rfl
theorem dL_law_1050 : decode cL_law 1050 = .ok (.aload_n 0, 1) := qr_o42 hN_cL_law hn_cL_law rfl rfl
theorem dL_law_1051 : decode cL_law 1051 = .ok (.iload_n 3, 1) := qr_o29 hN_cL_law hn_cL_law rfl rfl
theorem dL_law_1052 : decode cL_law 1052 = .ok (.iconst 1, 1) := qr_o4 hN_cL_law hn_cL_law rfl rfl
theorem dL_law_1053 : decode cL_law 1053 = .ok (.iadd, 1) := qr_o96 hN_cL_law hn_cL_law rfl rfl
theorem dL_law_1054 : decode cL_law 1054 = .ok (.iaload, 1) := qr_o46 hN_cL_law hn_cL_law rfl rfl
theorem dL_law_1055 : decode cL_law 1055 = .ok (.invokevirtual 106, 3) := qr_o182 0 106 hN_cL_law hn_cL_law rfl rfl rfl rfl
theorem dL_law_1058 : decode cL_law 1058 = .ok (.pop, 1) := qr_o87 hN_cL_law hn_cL_law rfl rfl
theorem dL_law_1059 : decode cL_law 1059 = .ok (.aload_n 2, 1) := qr_o44 hN_cL_law hn_cL_law rfl rfl
theorem dL_law_1060 : decode cL_law 1060 = .ok (.aload_n 0, 1) := qr_o42 hN_cL_law hn_cL_law rfl rfl
theorem dL_law_1061 : decode cL_law 1061 = .ok (.iload_n 3, 1) := qr_o29 hN_cL_law hn_cL_law rfl rfl
theorem dL_law_1062 : decode cL_law 1062 = .ok (.iconst 1, 1) := qr_o4 hN_cL_law hn_cL_law rfl rfl
theorem dL_law_1063 : decode cL_law 1063 = .ok (.iadd, 1) := qr_o96 hN_cL_law hn_cL_law rfl rfl
theorem dL_law_1064 : decode cL_law 1064 = .ok (.iaload, 1) := qr_o46 hN_cL_law hn_cL_law rfl rfl
theorem dL_law_1065 : decode cL_law 1065 = .ok (.invokevirtual 109, 3) := qr_o182 0 109 hN_cL_law hn_cL_law rfl rfl rfl rfl
theorem dL_law_1068 : decode cL_law 1068 = .ok (.pop, 1) := qr_o87 hN_cL_law hn_cL_law rfl rfl
theorem dL_law_1069 : decode cL_law 1069 = .ok (.goto 482, 3) := qr_o167 1 226 rfl hN_cL_law hn_cL_law rfl rfl rfl rfl
theorem dL_law_1072 : decode cL_law 1072 = .ok (.aload_n 1, 1) := qr_o43 hN_cL_law hn_cL_law rfl rfl
theorem dL_law_1073 : decode cL_law 1073 = .ok (.aload_n 0, 1) := qr_o42 hN_cL_law hn_cL_law rfl rfl
theorem dL_law_1074 : decode cL_law 1074 = .ok (.iload_n 3, 1) := qr_o29 hN_cL_law hn_cL_law rfl rfl
theorem dL_law_1075 : decode cL_law 1075 = .ok (.iconst 1, 1) := qr_o4 hN_cL_law hn_cL_law rfl rfl
theorem dL_law_1076 : decode cL_law 1076 = .ok (.iadd, 1) := qr_o96 hN_cL_law hn_cL_law rfl rfl
theorem dL_law_1077 : decode cL_law 1077 = .ok (.iaload, 1) := qr_o46 hN_cL_law hn_cL_law rfl rfl
theorem dL_law_1078 : decode cL_law 1078 = .ok (.aload_n 0, 1) := qr_o42 hN_cL_law hn_cL_law rfl rfl
theorem dL_law_1079 : decode cL_law 1079 = .ok (.iload_n 3, 1) := qr_o29 hN_cL_law hn_cL_law rfl rfl
theorem dL_law_1080 : decode cL_law 1080 = .ok (.iconst 2, 1) := qr_o5 hN_cL_law hn_cL_law rfl rfl
theorem dL_law_1081 : decode cL_law 1081 = .ok (.iadd, 1) := qr_o96 hN_cL_law hn_cL_law rfl rfl
theorem dL_law_1082 : decode cL_law 1082 = .ok (.iaload, 1) := qr_o46 hN_cL_law hn_cL_law rfl rfl
theorem dL_law_1083 : decode cL_law 1083 = .ok (.aload_n 0, 1) := qr_o42 hN_cL_law hn_cL_law rfl rfl
theorem dL_law_1084 : decode cL_law 1084 = .ok (.iload_n 3, 1) := qr_o29 hN_cL_law hn_cL_law rfl rfl
theorem dL_law_1085 : decode cL_law 1085 = .ok (.iconst 3, 1) := qr_o6 hN_cL_law hn_cL_law rfl rfl
theorem dL_law_1086 : decode cL_law 1086 = .ok (.iadd, 1) := qr_o96 hN_cL_law hn_cL_law rfl rfl
theorem dL_law_1087 : decode cL_law 1087 = .ok (.iaload, 1) := qr_o46 hN_cL_law hn_cL_law rfl rfl
theorem dL_law_1088 : decode cL_law 1088 = .ok (.invokevirtual 110, 3) := qr_o182 0 110 hN_cL_law hn_cL_law rfl rfl rfl rfl
theorem dL_law_1091 : decode cL_law 1091 = .ok (.pop, 1) := qr_o87 hN_cL_law hn_cL_law rfl rfl
theorem dL_law_1092 : decode cL_law 1092 = .ok (.aload_n 2, 1) := qr_o44 hN_cL_law hn_cL_law rfl rfl
theorem dL_law_1093 : decode cL_law 1093 = .ok (.aload_n 0, 1) := qr_o42 hN_cL_law hn_cL_law rfl rfl
theorem dL_law_1094 : decode cL_law 1094 = .ok (.iload_n 3, 1) := qr_o29 hN_cL_law hn_cL_law rfl rfl
theorem dL_law_1095 : decode cL_law 1095 = .ok (.iconst 1, 1) := qr_o4 hN_cL_law hn_cL_law rfl rfl
theorem dL_law_1096 : decode cL_law 1096 = .ok (.iadd, 1) := qr_o96 hN_cL_law hn_cL_law rfl rfl
theorem dL_law_1097 : decode cL_law 1097 = .ok (.iaload, 1) := qr_o46 hN_cL_law hn_cL_law rfl rfl
theorem dL_law_1098 : decode cL_law 1098 = .ok (.aload_n 0, 1) := qr_o42 hN_cL_law hn_cL_law rfl rfl
theorem dL_law_1099 : decode cL_law 1099 = .ok (.iload_n 3, 1) := qr_o29 hN_cL_law hn_cL_law rfl rfl
theorem dL_law_1100 : decode cL_law 1100 = .ok (.iconst 2, 1) := qr_o5 hN_cL_law hn_cL_law rfl rfl
theorem dL_law_1101 : decode cL_law 1101 = .ok (.iadd, 1) := qr_o96 hN_cL_law hn_cL_law rfl rfl
theorem dL_law_1102 : decode cL_law 1102 = .ok (.iaload, 1) := qr_o46 hN_cL_law hn_cL_law rfl rfl
theorem dL_law_1103 : decode cL_law 1103 = .ok (.aload_n 0, 1) := qr_o42 hN_cL_law hn_cL_law rfl rfl
theorem dL_law_1104 : decode cL_law 1104 = .ok (.iload_n 3, 1) := qr_o29 hN_cL_law hn_cL_law rfl rfl
theorem dL_law_1105 : decode cL_law 1105 = .ok (.iconst 3, 1) := qr_o6 hN_cL_law hn_cL_law rfl rfl
theorem dL_law_1106 : decode cL_law 1106 = .ok (.iadd, 1) := qr_o96 hN_cL_law hn_cL_law rfl rfl
theorem dL_law_1107 : decode cL_law 1107 = .ok (.iaload, 1) := qr_o46 hN_cL_law hn_cL_law rfl rfl
theorem dL_law_1108 : decode cL_law 1108 = .ok (.invokevirtual 113, 3) := qr_o182 0 113 hN_cL_law hn_cL_law rfl rfl rfl rfl
theorem dL_law_1111 : decode cL_law 1111 = .ok (.pop, 1) := qr_o87 hN_cL_law hn_cL_law rfl rfl
theorem dL_law_1112 : decode cL_law 1112 = .ok (.goto 439, 3) := qr_o167 1 183 rfl hN_cL_law hn_cL_law rfl rfl rfl rfl
theorem dL_law_1115 : decode cL_law 1115 = .ok (.aload_n 1, 1) := qr_o43 hN_cL_law hn_cL_law rfl rfl
theorem dL_law_1116 : decode cL_law 1116 = .ok (.aload_n 0, 1) := qr_o42 hN_cL_law hn_cL_law rfl rfl
theorem dL_law_1117 : decode cL_law 1117 = .ok (.iload_n 3, 1) := qr_o29 hN_cL_law hn_cL_law rfl rfl
theorem dL_law_1118 : decode cL_law 1118 = .ok (.iconst 1, 1) := qr_o4 hN_cL_law hn_cL_law rfl rfl
theorem dL_law_1119 : decode cL_law 1119 = .ok (.iadd, 1) := qr_o96 hN_cL_law hn_cL_law rfl rfl
theorem dL_law_1120 : decode cL_law 1120 = .ok (.iaload, 1) := qr_o46 hN_cL_law hn_cL_law rfl rfl
theorem dL_law_1121 : decode cL_law 1121 = .ok (.invokevirtual 114, 3) := qr_o182 0 114 hN_cL_law hn_cL_law rfl rfl rfl rfl
theorem dL_law_1124 : decode cL_law 1124 = .ok (.pop, 1) := qr_o87 hN_cL_law hn_cL_law rfl rfl
theorem dL_law_1125 : decode cL_law 1125 = .ok (.aload_n 2, 1) := qr_o44 hN_cL_law hn_cL_law rfl rfl
theorem dL_law_1126 : decode cL_law 1126 = .ok (.aload_n 0, 1) := qr_o42 hN_cL_law hn_cL_law rfl rfl
theorem dL_law_1127 : decode cL_law 1127 = .ok (.iload_n 3, 1) := qr_o29 hN_cL_law hn_cL_law rfl rfl
theorem dL_law_1128 : decode cL_law 1128 = .ok (.iconst 1, 1) := qr_o4 hN_cL_law hn_cL_law rfl rfl
theorem dL_law_1129 : decode cL_law 1129 = .ok (.iadd, 1) := qr_o96 hN_cL_law hn_cL_law rfl rfl
theorem dL_law_1130 : decode cL_law 1130 = .ok (.iaload, 1) := qr_o46 hN_cL_law hn_cL_law rfl rfl
theorem dL_law_1131 : decode cL_law 1131 = .ok (.invokevirtual 117, 3) := qr_o182 0 117 hN_cL_law hn_cL_law rfl rfl rfl rfl
theorem dL_law_1134 : decode cL_law 1134 = .ok (.pop, 1) := qr_o87 hN_cL_law hn_cL_law rfl rfl
theorem dL_law_1135 : decode cL_law 1135 = .ok (.goto 416, 3) := qr_o167 1 160 rfl hN_cL_law hn_cL_law rfl rfl rfl rfl
theorem dL_law_1138 : decode cL_law 1138 = .ok (.aload_n 1, 1) := qr_o43 hN_cL_law hn_cL_law rfl rfl
theorem dL_law_1139 : decode cL_law 1139 = .ok (.aload_n 0, 1) := qr_o42 hN_cL_law hn_cL_law rfl rfl
theorem dL_law_1140 : decode cL_law 1140 = .ok (.iload_n 3, 1) := qr_o29 hN_cL_law hn_cL_law rfl rfl
theorem dL_law_1141 : decode cL_law 1141 = .ok (.iconst 1, 1) := qr_o4 hN_cL_law hn_cL_law rfl rfl
theorem dL_law_1142 : decode cL_law 1142 = .ok (.iadd, 1) := qr_o96 hN_cL_law hn_cL_law rfl rfl
theorem dL_law_1143 : decode cL_law 1143 = .ok (.iaload, 1) := qr_o46 hN_cL_law hn_cL_law rfl rfl
theorem dL_law_1144 : decode cL_law 1144 = .ok (.aload_n 0, 1) := qr_o42 hN_cL_law hn_cL_law rfl rfl
theorem dL_law_1145 : decode cL_law 1145 = .ok (.iload_n 3, 1) := qr_o29 hN_cL_law hn_cL_law rfl rfl
theorem dL_law_1146 : decode cL_law 1146 = .ok (.iconst 2, 1) := qr_o5 hN_cL_law hn_cL_law rfl rfl
theorem dL_law_1147 : decode cL_law 1147 = .ok (.iadd, 1) := qr_o96 hN_cL_law hn_cL_law rfl rfl
theorem dL_law_1148 : decode cL_law 1148 = .ok (.iaload, 1) := qr_o46 hN_cL_law hn_cL_law rfl rfl
theorem dL_law_1149 : decode cL_law 1149 = .ok (.invokevirtual 118, 3) := qr_o182 0 118 hN_cL_law hn_cL_law rfl rfl rfl rfl
theorem dL_law_1152 : decode cL_law 1152 = .ok (.pop, 1) := qr_o87 hN_cL_law hn_cL_law rfl rfl
theorem dL_law_1153 : decode cL_law 1153 = .ok (.aload_n 2, 1) := qr_o44 hN_cL_law hn_cL_law rfl rfl
theorem dL_law_1154 : decode cL_law 1154 = .ok (.aload_n 0, 1) := qr_o42 hN_cL_law hn_cL_law rfl rfl
theorem dL_law_1155 : decode cL_law 1155 = .ok (.iload_n 3, 1) := qr_o29 hN_cL_law hn_cL_law rfl rfl
theorem dL_law_1156 : decode cL_law 1156 = .ok (.iconst 1, 1) := qr_o4 hN_cL_law hn_cL_law rfl rfl
theorem dL_law_1157 : decode cL_law 1157 = .ok (.iadd, 1) := qr_o96 hN_cL_law hn_cL_law rfl rfl
theorem dL_law_1158 : decode cL_law 1158 = .ok (.iaload, 1) := qr_o46 hN_cL_law hn_cL_law rfl rfl
theorem dL_law_1159 : decode cL_law 1159 = .ok (.aload_n 0, 1) := qr_o42 hN_cL_law hn_cL_law rfl rfl
theorem dL_law_1160 : decode cL_law 1160 = .ok (.iload_n 3, 1) := qr_o29 hN_cL_law hn_cL_law rfl rfl
theorem dL_law_1161 : decode cL_law 1161 = .ok (.iconst 2, 1) := qr_o5 hN_cL_law hn_cL_law rfl rfl
theorem dL_law_1162 : decode cL_law 1162 = .ok (.iadd, 1) := qr_o96 hN_cL_law hn_cL_law rfl rfl
theorem dL_law_1163 : decode cL_law 1163 = .ok (.iaload, 1) := qr_o46 hN_cL_law hn_cL_law rfl rfl
theorem dL_law_1164 : decode cL_law 1164 = .ok (.invokevirtual 121, 3) := qr_o182 0 121 hN_cL_law hn_cL_law rfl rfl rfl rfl
theorem dL_law_1167 : decode cL_law 1167 = .ok (.pop, 1) := qr_o87 hN_cL_law hn_cL_law rfl rfl
theorem dL_law_1168 : decode cL_law 1168 = .ok (.goto 383, 3) := qr_o167 1 127 rfl hN_cL_law hn_cL_law rfl rfl rfl rfl
theorem dL_law_1171 : decode cL_law 1171 = .ok (.aload_n 1, 1) := qr_o43 hN_cL_law hn_cL_law rfl rfl
theorem dL_law_1172 : decode cL_law 1172 = .ok (.aload_n 0, 1) := qr_o42 hN_cL_law hn_cL_law rfl rfl
theorem dL_law_1173 : decode cL_law 1173 = .ok (.iload_n 3, 1) := qr_o29 hN_cL_law hn_cL_law rfl rfl
theorem dL_law_1174 : decode cL_law 1174 = .ok (.iconst 1, 1) := qr_o4 hN_cL_law hn_cL_law rfl rfl
theorem dL_law_1175 : decode cL_law 1175 = .ok (.iadd, 1) := qr_o96 hN_cL_law hn_cL_law rfl rfl
theorem dL_law_1176 : decode cL_law 1176 = .ok (.iaload, 1) := qr_o46 hN_cL_law hn_cL_law rfl rfl
theorem dL_law_1177 : decode cL_law 1177 = .ok (.aload_n 0, 1) := qr_o42 hN_cL_law hn_cL_law rfl rfl
theorem dL_law_1178 : decode cL_law 1178 = .ok (.iload_n 3, 1) := qr_o29 hN_cL_law hn_cL_law rfl rfl
theorem dL_law_1179 : decode cL_law 1179 = .ok (.iconst 2, 1) := qr_o5 hN_cL_law hn_cL_law rfl rfl
theorem dL_law_1180 : decode cL_law 1180 = .ok (.iadd, 1) := qr_o96 hN_cL_law hn_cL_law rfl rfl
theorem dL_law_1181 : decode cL_law 1181 = .ok (.iaload, 1) := qr_o46 hN_cL_law hn_cL_law rfl rfl
theorem dL_law_1182 : decode cL_law 1182 = .ok (.aload_n 0, 1) := qr_o42 hN_cL_law hn_cL_law rfl rfl
theorem dL_law_1183 : decode cL_law 1183 = .ok (.iload_n 3, 1) := qr_o29 hN_cL_law hn_cL_law rfl rfl
theorem dL_law_1184 : decode cL_law 1184 = .ok (.iconst 3, 1) := qr_o6 hN_cL_law hn_cL_law rfl rfl
theorem dL_law_1185 : decode cL_law 1185 = .ok (.iadd, 1) := qr_o96 hN_cL_law hn_cL_law rfl rfl
theorem dL_law_1186 : decode cL_law 1186 = .ok (.iaload, 1) := qr_o46 hN_cL_law hn_cL_law rfl rfl
theorem dL_law_1187 : decode cL_law 1187 = .ok (.aload_n 0, 1) := qr_o42 hN_cL_law hn_cL_law rfl rfl
theorem dL_law_1188 : decode cL_law 1188 = .ok (.iload_n 3, 1) := qr_o29 hN_cL_law hn_cL_law rfl rfl
theorem dL_law_1189 : decode cL_law 1189 = .ok (.iconst 4, 1) := qr_o7 hN_cL_law hn_cL_law rfl rfl
theorem dL_law_1190 : decode cL_law 1190 = .ok (.iadd, 1) := qr_o96 hN_cL_law hn_cL_law rfl rfl
theorem dL_law_1191 : decode cL_law 1191 = .ok (.iaload, 1) := qr_o46 hN_cL_law hn_cL_law rfl rfl
theorem dL_law_1192 : decode cL_law 1192 = .ok (.invokevirtual 122, 3) := qr_o182 0 122 hN_cL_law hn_cL_law rfl rfl rfl rfl
theorem dL_law_1195 : decode cL_law 1195 = .ok (.pop, 1) := qr_o87 hN_cL_law hn_cL_law rfl rfl
theorem dL_law_1196 : decode cL_law 1196 = .ok (.aload_n 2, 1) := qr_o44 hN_cL_law hn_cL_law rfl rfl
theorem dL_law_1197 : decode cL_law 1197 = .ok (.aload_n 0, 1) := qr_o42 hN_cL_law hn_cL_law rfl rfl
theorem dL_law_1198 : decode cL_law 1198 = .ok (.iload_n 3, 1) := qr_o29 hN_cL_law hn_cL_law rfl rfl
theorem dL_law_1199 : decode cL_law 1199 = .ok (.iconst 1, 1) := qr_o4 hN_cL_law hn_cL_law rfl rfl
theorem dL_law_1200 : decode cL_law 1200 = .ok (.iadd, 1) := qr_o96 hN_cL_law hn_cL_law rfl rfl
theorem dL_law_1201 : decode cL_law 1201 = .ok (.iaload, 1) := qr_o46 hN_cL_law hn_cL_law rfl rfl
theorem dL_law_1202 : decode cL_law 1202 = .ok (.aload_n 0, 1) := qr_o42 hN_cL_law hn_cL_law rfl rfl
theorem dL_law_1203 : decode cL_law 1203 = .ok (.iload_n 3, 1) := qr_o29 hN_cL_law hn_cL_law rfl rfl
theorem dL_law_1204 : decode cL_law 1204 = .ok (.iconst 2, 1) := qr_o5 hN_cL_law hn_cL_law rfl rfl
theorem dL_law_1205 : decode cL_law 1205 = .ok (.iadd, 1) := qr_o96 hN_cL_law hn_cL_law rfl rfl
theorem dL_law_1206 : decode cL_law 1206 = .ok (.iaload, 1) := qr_o46 hN_cL_law hn_cL_law rfl rfl
theorem dL_law_1207 : decode cL_law 1207 = .ok (.aload_n 0, 1) := qr_o42 hN_cL_law hn_cL_law rfl rfl
theorem dL_law_1208 : decode cL_law 1208 = .ok (.iload_n 3, 1) := qr_o29 hN_cL_law hn_cL_law rfl rfl
theorem dL_law_1209 : decode cL_law 1209 = .ok (.iconst 3, 1) := qr_o6 hN_cL_law hn_cL_law rfl rfl
theorem dL_law_1210 : decode cL_law 1210 = .ok (.iadd, 1) := qr_o96 hN_cL_law hn_cL_law rfl rfl
theorem dL_law_1211 : decode cL_law 1211 = .ok (.iaload, 1) := qr_o46 hN_cL_law hn_cL_law rfl rfl
theorem dL_law_1212 : decode cL_law 1212 = .ok (.aload_n 0, 1) := qr_o42 hN_cL_law hn_cL_law rfl rfl
theorem dL_law_1213 : decode cL_law 1213 = .ok (.iload_n 3, 1) := qr_o29 hN_cL_law hn_cL_law rfl rfl
theorem dL_law_1214 : decode cL_law 1214 = .ok (.iconst 4, 1) := qr_o7 hN_cL_law hn_cL_law rfl rfl
theorem dL_law_1215 : decode cL_law 1215 = .ok (.iadd, 1) := qr_o96 hN_cL_law hn_cL_law rfl rfl
theorem dL_law_1216 : decode cL_law 1216 = .ok (.iaload, 1) := qr_o46 hN_cL_law hn_cL_law rfl rfl
theorem dL_law_1217 : decode cL_law 1217 = .ok (.invokevirtual 125, 3) := qr_o182 0 125 hN_cL_law hn_cL_law rfl rfl rfl rfl
theorem dL_law_1220 : decode cL_law 1220 = .ok (.pop, 1) := qr_o87 hN_cL_law hn_cL_law rfl rfl
theorem dL_law_1221 : decode cL_law 1221 = .ok (.goto 330, 3) := qr_o167 1 74 rfl hN_cL_law hn_cL_law rfl rfl rfl rfl
theorem dL_law_1224 : decode cL_law 1224 = .ok (.aload_n 1, 1) := qr_o43 hN_cL_law hn_cL_law rfl rfl
theorem dL_law_1225 : decode cL_law 1225 = .ok (.aload_n 0, 1) := qr_o42 hN_cL_law hn_cL_law rfl rfl
theorem dL_law_1226 : decode cL_law 1226 = .ok (.iload_n 3, 1) := qr_o29 hN_cL_law hn_cL_law rfl rfl
theorem dL_law_1227 : decode cL_law 1227 = .ok (.iconst 1, 1) := qr_o4 hN_cL_law hn_cL_law rfl rfl
theorem dL_law_1228 : decode cL_law 1228 = .ok (.iadd, 1) := qr_o96 hN_cL_law hn_cL_law rfl rfl
theorem dL_law_1229 : decode cL_law 1229 = .ok (.iaload, 1) := qr_o46 hN_cL_law hn_cL_law rfl rfl
theorem dL_law_1230 : decode cL_law 1230 = .ok (.aload_n 0, 1) := qr_o42 hN_cL_law hn_cL_law rfl rfl
theorem dL_law_1231 : decode cL_law 1231 = .ok (.iload_n 3, 1) := qr_o29 hN_cL_law hn_cL_law rfl rfl
theorem dL_law_1232 : decode cL_law 1232 = .ok (.iconst 2, 1) := qr_o5 hN_cL_law hn_cL_law rfl rfl
theorem dL_law_1233 : decode cL_law 1233 = .ok (.iadd, 1) := qr_o96 hN_cL_law hn_cL_law rfl rfl
theorem dL_law_1234 : decode cL_law 1234 = .ok (.iaload, 1) := qr_o46 hN_cL_law hn_cL_law rfl rfl
theorem dL_law_1235 : decode cL_law 1235 = .ok (.invokevirtual 126, 3) := qr_o182 0 126 hN_cL_law hn_cL_law rfl rfl rfl rfl
theorem dL_law_1238 : decode cL_law 1238 = .ok (.pop, 1) := qr_o87 hN_cL_law hn_cL_law rfl rfl
theorem dL_law_1239 : decode cL_law 1239 = .ok (.aload_n 2, 1) := qr_o44 hN_cL_law hn_cL_law rfl rfl
theorem dL_law_1240 : decode cL_law 1240 = .ok (.aload_n 0, 1) := qr_o42 hN_cL_law hn_cL_law rfl rfl
theorem dL_law_1241 : decode cL_law 1241 = .ok (.iload_n 3, 1) := qr_o29 hN_cL_law hn_cL_law rfl rfl
theorem dL_law_1242 : decode cL_law 1242 = .ok (.iconst 1, 1) := qr_o4 hN_cL_law hn_cL_law rfl rfl
theorem dL_law_1243 : decode cL_law 1243 = .ok (.iadd, 1) := qr_o96 hN_cL_law hn_cL_law rfl rfl
theorem dL_law_1244 : decode cL_law 1244 = .ok (.iaload, 1) := qr_o46 hN_cL_law hn_cL_law rfl rfl
theorem dL_law_1245 : decode cL_law 1245 = .ok (.aload_n 0, 1) := qr_o42 hN_cL_law hn_cL_law rfl rfl
theorem dL_law_1246 : decode cL_law 1246 = .ok (.iload_n 3, 1) := qr_o29 hN_cL_law hn_cL_law rfl rfl
theorem dL_law_1247 : decode cL_law 1247 = .ok (.iconst 2, 1) := qr_o5 hN_cL_law hn_cL_law rfl rfl
theorem dL_law_1248 : decode cL_law 1248 = .ok (.iadd, 1) := qr_o96 hN_cL_law hn_cL_law rfl rfl
theorem dL_law_1249 : decode cL_law 1249 = .ok (.iaload, 1) := qr_o46 hN_cL_law hn_cL_law rfl rfl
theorem dL_law_1250 : decode cL_law 1250 = .ok (.invokevirtual 129, 3) := qr_o182 0 129 hN_cL_law hn_cL_law rfl rfl rfl rfl
theorem dL_law_1253 : decode cL_law 1253 = .ok (.pop, 1) := qr_o87 hN_cL_law hn_cL_law rfl rfl
theorem dL_law_1254 : decode cL_law 1254 = .ok (.goto 297, 3) := qr_o167 1 41 rfl hN_cL_law hn_cL_law rfl rfl rfl rfl
theorem dL_law_1257 : decode cL_law 1257 = .ok (.aload_n 1, 1) := qr_o43 hN_cL_law hn_cL_law rfl rfl
theorem dL_law_1258 : decode cL_law 1258 = .ok (.aload_n 0, 1) := qr_o42 hN_cL_law hn_cL_law rfl rfl
theorem dL_law_1259 : decode cL_law 1259 = .ok (.iload_n 3, 1) := qr_o29 hN_cL_law hn_cL_law rfl rfl
theorem dL_law_1260 : decode cL_law 1260 = .ok (.iconst 1, 1) := qr_o4 hN_cL_law hn_cL_law rfl rfl
theorem dL_law_1261 : decode cL_law 1261 = .ok (.iadd, 1) := qr_o96 hN_cL_law hn_cL_law rfl rfl
theorem dL_law_1262 : decode cL_law 1262 = .ok (.iaload, 1) := qr_o46 hN_cL_law hn_cL_law rfl rfl
theorem dL_law_1263 : decode cL_law 1263 = .ok (.aload_n 0, 1) := qr_o42 hN_cL_law hn_cL_law rfl rfl
theorem dL_law_1264 : decode cL_law 1264 = .ok (.iload_n 3, 1) := qr_o29 hN_cL_law hn_cL_law rfl rfl
theorem dL_law_1265 : decode cL_law 1265 = .ok (.iconst 2, 1) := qr_o5 hN_cL_law hn_cL_law rfl rfl
theorem dL_law_1266 : decode cL_law 1266 = .ok (.iadd, 1) := qr_o96 hN_cL_law hn_cL_law rfl rfl
theorem dL_law_1267 : decode cL_law 1267 = .ok (.iaload, 1) := qr_o46 hN_cL_law hn_cL_law rfl rfl
theorem dL_law_1268 : decode cL_law 1268 = .ok (.aload_n 0, 1) := qr_o42 hN_cL_law hn_cL_law rfl rfl
theorem dL_law_1269 : decode cL_law 1269 = .ok (.iload_n 3, 1) := qr_o29 hN_cL_law hn_cL_law rfl rfl
theorem dL_law_1270 : decode cL_law 1270 = .ok (.iconst 3, 1) := qr_o6 hN_cL_law hn_cL_law rfl rfl
theorem dL_law_1271 : decode cL_law 1271 = .ok (.iadd, 1) := qr_o96 hN_cL_law hn_cL_law rfl rfl
theorem dL_law_1272 : decode cL_law 1272 = .ok (.iaload, 1) := qr_o46 hN_cL_law hn_cL_law rfl rfl
theorem dL_law_1273 : decode cL_law 1273 = .ok (.invokevirtual 130, 3) := qr_o182 0 130 hN_cL_law hn_cL_law rfl rfl rfl rfl
theorem dL_law_1276 : decode cL_law 1276 = .ok (.pop, 1) := qr_o87 hN_cL_law hn_cL_law rfl rfl
theorem dL_law_1277 : decode cL_law 1277 = .ok (.aload_n 2, 1) := qr_o44 hN_cL_law hn_cL_law rfl rfl
theorem dL_law_1278 : decode cL_law 1278 = .ok (.aload_n 0, 1) := qr_o42 hN_cL_law hn_cL_law rfl rfl
theorem dL_law_1279 : decode cL_law 1279 = .ok (.iload_n 3, 1) := qr_o29 hN_cL_law hn_cL_law rfl rfl
theorem dL_law_1280 : decode cL_law 1280 = .ok (.iconst 1, 1) := qr_o4 hN_cL_law hn_cL_law rfl rfl
theorem dL_law_1281 : decode cL_law 1281 = .ok (.iadd, 1) := qr_o96 hN_cL_law hn_cL_law rfl rfl
theorem dL_law_1282 : decode cL_law 1282 = .ok (.iaload, 1) := qr_o46 hN_cL_law hn_cL_law rfl rfl
theorem dL_law_1283 : decode cL_law 1283 = .ok (.aload_n 0, 1) := qr_o42 hN_cL_law hn_cL_law rfl rfl
theorem dL_law_1284 : decode cL_law 1284 = .ok (.iload_n 3, 1) := qr_o29 hN_cL_law hn_cL_law rfl rfl
theorem dL_law_1285 : decode cL_law 1285 = .ok (.iconst 2, 1) := qr_o5 hN_cL_law hn_cL_law rfl rfl
theorem dL_law_1286 : decode cL_law 1286 = .ok (.iadd, 1) := qr_o96 hN_cL_law hn_cL_law rfl rfl
theorem dL_law_1287 : decode cL_law 1287 = .ok (.iaload, 1) := qr_o46 hN_cL_law hn_cL_law rfl rfl
theorem dL_law_1288 : decode cL_law 1288 = .ok (.aload_n 0, 1) := qr_o42 hN_cL_law hn_cL_law rfl rfl
theorem dL_law_1289 : decode cL_law 1289 = .ok (.iload_n 3, 1) := qr_o29 hN_cL_law hn_cL_law rfl rfl
theorem dL_law_1290 : decode cL_law 1290 = .ok (.iconst 3, 1) := qr_o6 hN_cL_law hn_cL_law rfl rfl
theorem dL_law_1291 : decode cL_law 1291 = .ok (.iadd, 1) := qr_o96 hN_cL_law hn_cL_law rfl rfl
theorem dL_law_1292 : decode cL_law 1292 = .ok (.iaload, 1) := qr_o46 hN_cL_law hn_cL_law rfl rfl
theorem dL_law_1293 : decode cL_law 1293 = .ok (.invokevirtual 133, 3) := qr_o182 0 133 hN_cL_law hn_cL_law rfl rfl rfl rfl
theorem dL_law_1296 : decode cL_law 1296 = .ok (.pop, 1) := qr_o87 hN_cL_law hn_cL_law rfl rfl
theorem dL_law_1297 : decode cL_law 1297 = .ok (.goto 254, 3) := qr_o167 0 254 rfl hN_cL_law hn_cL_law rfl rfl rfl rfl
theorem dL_law_1300 : decode cL_law 1300 = .ok (.aload_n 1, 1) := qr_o43 hN_cL_law hn_cL_law rfl rfl
theorem dL_law_1301 : decode cL_law 1301 = .ok (.aload_n 0, 1) := qr_o42 hN_cL_law hn_cL_law rfl rfl
theorem dL_law_1302 : decode cL_law 1302 = .ok (.iload_n 3, 1) := qr_o29 hN_cL_law hn_cL_law rfl rfl
theorem dL_law_1303 : decode cL_law 1303 = .ok (.iconst 1, 1) := qr_o4 hN_cL_law hn_cL_law rfl rfl
theorem dL_law_1304 : decode cL_law 1304 = .ok (.iadd, 1) := qr_o96 hN_cL_law hn_cL_law rfl rfl
theorem dL_law_1305 : decode cL_law 1305 = .ok (.iaload, 1) := qr_o46 hN_cL_law hn_cL_law rfl rfl
theorem dL_law_1306 : decode cL_law 1306 = .ok (.aload_n 0, 1) := qr_o42 hN_cL_law hn_cL_law rfl rfl
theorem dL_law_1307 : decode cL_law 1307 = .ok (.iload_n 3, 1) := qr_o29 hN_cL_law hn_cL_law rfl rfl
theorem dL_law_1308 : decode cL_law 1308 = .ok (.iconst 2, 1) := qr_o5 hN_cL_law hn_cL_law rfl rfl
theorem dL_law_1309 : decode cL_law 1309 = .ok (.iadd, 1) := qr_o96 hN_cL_law hn_cL_law rfl rfl
theorem dL_law_1310 : decode cL_law 1310 = .ok (.iaload, 1) := qr_o46 hN_cL_law hn_cL_law rfl rfl
theorem dL_law_1311 : decode cL_law 1311 = .ok (.invokevirtual 134, 3) := qr_o182 0 134 hN_cL_law hn_cL_law rfl rfl rfl rfl
theorem dL_law_1314 : decode cL_law 1314 = .ok (.pop, 1) := qr_o87 hN_cL_law hn_cL_law rfl rfl
theorem dL_law_1315 : decode cL_law 1315 = .ok (.aload_n 2, 1) := qr_o44 hN_cL_law hn_cL_law rfl rfl
theorem dL_law_1316 : decode cL_law 1316 = .ok (.aload_n 0, 1) := qr_o42 hN_cL_law hn_cL_law rfl rfl
theorem dL_law_1317 : decode cL_law 1317 = .ok (.iload_n 3, 1) := qr_o29 hN_cL_law hn_cL_law rfl rfl
theorem dL_law_1318 : decode cL_law 1318 = .ok (.iconst 1, 1) := qr_o4 hN_cL_law hn_cL_law rfl rfl
theorem dL_law_1319 : decode cL_law 1319 = .ok (.iadd, 1) := qr_o96 hN_cL_law hn_cL_law rfl rfl
theorem dL_law_1320 : decode cL_law 1320 = .ok (.iaload, 1) := qr_o46 hN_cL_law hn_cL_law rfl rfl
theorem dL_law_1321 : decode cL_law 1321 = .ok (.aload_n 0, 1) := qr_o42 hN_cL_law hn_cL_law rfl rfl
theorem dL_law_1322 : decode cL_law 1322 = .ok (.iload_n 3, 1) := qr_o29 hN_cL_law hn_cL_law rfl rfl
theorem dL_law_1323 : decode cL_law 1323 = .ok (.iconst 2, 1) := qr_o5 hN_cL_law hn_cL_law rfl rfl
theorem dL_law_1324 : decode cL_law 1324 = .ok (.iadd, 1) := qr_o96 hN_cL_law hn_cL_law rfl rfl
theorem dL_law_1325 : decode cL_law 1325 = .ok (.iaload, 1) := qr_o46 hN_cL_law hn_cL_law rfl rfl
theorem dL_law_1326 : decode cL_law 1326 = .ok (.invokevirtual 137, 3) := qr_o182 0 137 hN_cL_law hn_cL_law rfl rfl rfl rfl
theorem dL_law_1329 : decode cL_law 1329 = .ok (.pop, 1) := qr_o87 hN_cL_law hn_cL_law rfl rfl
theorem dL_law_1330 : decode cL_law 1330 = .ok (.goto 221, 3) := qr_o167 0 221 rfl hN_cL_law hn_cL_law rfl rfl rfl rfl
theorem dL_law_1333 : decode cL_law 1333 = .ok (.aload_n 1, 1) := qr_o43 hN_cL_law hn_cL_law rfl rfl
theorem dL_law_1334 : decode cL_law 1334 = .ok (.aload_n 0, 1) := qr_o42 hN_cL_law hn_cL_law rfl rfl
theorem dL_law_1335 : decode cL_law 1335 = .ok (.iload_n 3, 1) := qr_o29 hN_cL_law hn_cL_law rfl rfl
theorem dL_law_1336 : decode cL_law 1336 = .ok (.iconst 1, 1) := qr_o4 hN_cL_law hn_cL_law rfl rfl
theorem dL_law_1337 : decode cL_law 1337 = .ok (.iadd, 1) := qr_o96 hN_cL_law hn_cL_law rfl rfl
theorem dL_law_1338 : decode cL_law 1338 = .ok (.iaload, 1) := qr_o46 hN_cL_law hn_cL_law rfl rfl
theorem dL_law_1339 : decode cL_law 1339 = .ok (.invokevirtual 138, 3) := qr_o182 0 138 hN_cL_law hn_cL_law rfl rfl rfl rfl
theorem dL_law_1342 : decode cL_law 1342 = .ok (.pop, 1) := qr_o87 hN_cL_law hn_cL_law rfl rfl
theorem dL_law_1343 : decode cL_law 1343 = .ok (.aload_n 2, 1) := qr_o44 hN_cL_law hn_cL_law rfl rfl
theorem dL_law_1344 : decode cL_law 1344 = .ok (.aload_n 0, 1) := qr_o42 hN_cL_law hn_cL_law rfl rfl
theorem dL_law_1345 : decode cL_law 1345 = .ok (.iload_n 3, 1) := qr_o29 hN_cL_law hn_cL_law rfl rfl
theorem dL_law_1346 : decode cL_law 1346 = .ok (.iconst 1, 1) := qr_o4 hN_cL_law hn_cL_law rfl rfl
theorem dL_law_1347 : decode cL_law 1347 = .ok (.iadd, 1) := qr_o96 hN_cL_law hn_cL_law rfl rfl
theorem dL_law_1348 : decode cL_law 1348 = .ok (.iaload, 1) := qr_o46 hN_cL_law hn_cL_law rfl rfl
theorem dL_law_1349 : decode cL_law 1349 = .ok (.invokevirtual 141, 3) := qr_o182 0 141 hN_cL_law hn_cL_law rfl rfl rfl rfl
theorem dL_law_1352 : decode cL_law 1352 = .ok (.pop, 1) := qr_o87 hN_cL_law hn_cL_law rfl rfl
theorem dL_law_1353 : decode cL_law 1353 = .ok (.goto 198, 3) := qr_o167 0 198 rfl hN_cL_law hn_cL_law rfl rfl rfl rfl
theorem dL_law_1356 : decode cL_law 1356 = .ok (.aload_n 1, 1) := qr_o43 hN_cL_law hn_cL_law rfl rfl
theorem dL_law_1357 : decode cL_law 1357 = .ok (.aload_n 0, 1) := qr_o42 hN_cL_law hn_cL_law rfl rfl
theorem dL_law_1358 : decode cL_law 1358 = .ok (.iload_n 3, 1) := qr_o29 hN_cL_law hn_cL_law rfl rfl
theorem dL_law_1359 : decode cL_law 1359 = .ok (.iconst 1, 1) := qr_o4 hN_cL_law hn_cL_law rfl rfl
theorem dL_law_1360 : decode cL_law 1360 = .ok (.iadd, 1) := qr_o96 hN_cL_law hn_cL_law rfl rfl
theorem dL_law_1361 : decode cL_law 1361 = .ok (.iaload, 1) := qr_o46 hN_cL_law hn_cL_law rfl rfl
theorem dL_law_1362 : decode cL_law 1362 = .ok (.invokevirtual 142, 3) := qr_o182 0 142 hN_cL_law hn_cL_law rfl rfl rfl rfl
theorem dL_law_1365 : decode cL_law 1365 = .ok (.pop, 1) := qr_o87 hN_cL_law hn_cL_law rfl rfl
theorem dL_law_1366 : decode cL_law 1366 = .ok (.aload_n 2, 1) := qr_o44 hN_cL_law hn_cL_law rfl rfl
theorem dL_law_1367 : decode cL_law 1367 = .ok (.aload_n 0, 1) := qr_o42 hN_cL_law hn_cL_law rfl rfl
theorem dL_law_1368 : decode cL_law 1368 = .ok (.iload_n 3, 1) := qr_o29 hN_cL_law hn_cL_law rfl rfl
theorem dL_law_1369 : decode cL_law 1369 = .ok (.iconst 1, 1) := qr_o4 hN_cL_law hn_cL_law rfl rfl
theorem dL_law_1370 : decode cL_law 1370 = .ok (.iadd, 1) := qr_o96 hN_cL_law hn_cL_law rfl rfl
theorem dL_law_1371 : decode cL_law 1371 = .ok (.iaload, 1) := qr_o46 hN_cL_law hn_cL_law rfl rfl
theorem dL_law_1372 : decode cL_law 1372 = .ok (.invokevirtual 145, 3) := qr_o182 0 145 hN_cL_law hn_cL_law rfl rfl rfl rfl
theorem dL_law_1375 : decode cL_law 1375 = .ok (.pop, 1) := qr_o87 hN_cL_law hn_cL_law rfl rfl
theorem dL_law_1376 : decode cL_law 1376 = .ok (.goto 175, 3) := qr_o167 0 175 rfl hN_cL_law hn_cL_law rfl rfl rfl rfl
theorem dL_law_1379 : decode cL_law 1379 = .ok (.aload_n 1, 1) := qr_o43 hN_cL_law hn_cL_law rfl rfl
theorem dL_law_1380 : decode cL_law 1380 = .ok (.aload_n 0, 1) := qr_o42 hN_cL_law hn_cL_law rfl rfl
theorem dL_law_1381 : decode cL_law 1381 = .ok (.iload_n 3, 1) := qr_o29 hN_cL_law hn_cL_law rfl rfl
theorem dL_law_1382 : decode cL_law 1382 = .ok (.iconst 1, 1) := qr_o4 hN_cL_law hn_cL_law rfl rfl
theorem dL_law_1383 : decode cL_law 1383 = .ok (.iadd, 1) := qr_o96 hN_cL_law hn_cL_law rfl rfl
theorem dL_law_1384 : decode cL_law 1384 = .ok (.iaload, 1) := qr_o46 hN_cL_law hn_cL_law rfl rfl
theorem dL_law_1385 : decode cL_law 1385 = .ok (.aload_n 0, 1) := qr_o42 hN_cL_law hn_cL_law rfl rfl
theorem dL_law_1386 : decode cL_law 1386 = .ok (.iload_n 3, 1) := qr_o29 hN_cL_law hn_cL_law rfl rfl
theorem dL_law_1387 : decode cL_law 1387 = .ok (.iconst 2, 1) := qr_o5 hN_cL_law hn_cL_law rfl rfl
theorem dL_law_1388 : decode cL_law 1388 = .ok (.iadd, 1) := qr_o96 hN_cL_law hn_cL_law rfl rfl
theorem dL_law_1389 : decode cL_law 1389 = .ok (.iaload, 1) := qr_o46 hN_cL_law hn_cL_law rfl rfl
theorem dL_law_1390 : decode cL_law 1390 = .ok (.aload_n 0, 1) := qr_o42 hN_cL_law hn_cL_law rfl rfl
theorem dL_law_1391 : decode cL_law 1391 = .ok (.iload_n 3, 1) := qr_o29 hN_cL_law hn_cL_law rfl rfl
theorem dL_law_1392 : decode cL_law 1392 = .ok (.iconst 3, 1) := qr_o6 hN_cL_law hn_cL_law rfl rfl
theorem dL_law_1393 : decode cL_law 1393 = .ok (.iadd, 1) := qr_o96 hN_cL_law hn_cL_law rfl rfl
theorem dL_law_1394 : decode cL_law 1394 = .ok (.iaload, 1) := qr_o46 hN_cL_law hn_cL_law rfl rfl
theorem dL_law_1395 : decode cL_law 1395 = .ok (.invokevirtual 146, 3) := qr_o182 0 146 hN_cL_law hn_cL_law rfl rfl rfl rfl
theorem dL_law_1398 : decode cL_law 1398 = .ok (.pop, 1) := qr_o87 hN_cL_law hn_cL_law rfl rfl
theorem dL_law_1399 : decode cL_law 1399 = .ok (.aload_n 2, 1) := qr_o44 hN_cL_law hn_cL_law rfl rfl
theorem dL_law_1400 : decode cL_law 1400 = .ok (.aload_n 0, 1) := qr_o42 hN_cL_law hn_cL_law rfl rfl
theorem dL_law_1401 : decode cL_law 1401 = .ok (.iload_n 3, 1) := qr_o29 hN_cL_law hn_cL_law rfl rfl
theorem dL_law_1402 : decode cL_law 1402 = .ok (.iconst 1, 1) := qr_o4 hN_cL_law hn_cL_law rfl rfl
theorem dL_law_1403 : decode cL_law 1403 = .ok (.iadd, 1) := qr_o96 hN_cL_law hn_cL_law rfl rfl
theorem dL_law_1404 : decode cL_law 1404 = .ok (.iaload, 1) := qr_o46 hN_cL_law hn_cL_law rfl rfl
theorem dL_law_1405 : decode cL_law 1405 = .ok (.aload_n 0, 1) := qr_o42 hN_cL_law hn_cL_law rfl rfl
theorem dL_law_1406 : decode cL_law 1406 = .ok (.iload_n 3, 1) := qr_o29 hN_cL_law hn_cL_law rfl rfl
theorem dL_law_1407 : decode cL_law 1407 = .ok (.iconst 2, 1) := qr_o5 hN_cL_law hn_cL_law rfl rfl
theorem dL_law_1408 : decode cL_law 1408 = .ok (.iadd, 1) := qr_o96 hN_cL_law hn_cL_law rfl rfl
theorem dL_law_1409 : decode cL_law 1409 = .ok (.iaload, 1) := qr_o46 hN_cL_law hn_cL_law rfl rfl
theorem dL_law_1410 : decode cL_law 1410 = .ok (.aload_n 0, 1) := qr_o42 hN_cL_law hn_cL_law rfl rfl
theorem dL_law_1411 : decode cL_law 1411 = .ok (.iload_n 3, 1) := qr_o29 hN_cL_law hn_cL_law rfl rfl
theorem dL_law_1412 : decode cL_law 1412 = .ok (.iconst 3, 1) := qr_o6 hN_cL_law hn_cL_law rfl rfl
theorem dL_law_1413 : decode cL_law 1413 = .ok (.iadd, 1) := qr_o96 hN_cL_law hn_cL_law rfl rfl
theorem dL_law_1414 : decode cL_law 1414 = .ok (.iaload, 1) := qr_o46 hN_cL_law hn_cL_law rfl rfl
theorem dL_law_1415 : decode cL_law 1415 = .ok (.invokevirtual 149, 3) := qr_o182 0 149 hN_cL_law hn_cL_law rfl rfl rfl rfl
theorem dL_law_1418 : decode cL_law 1418 = .ok (.pop, 1) := qr_o87 hN_cL_law hn_cL_law rfl rfl
theorem dL_law_1419 : decode cL_law 1419 = .ok (.goto 132, 3) := qr_o167 0 132 rfl hN_cL_law hn_cL_law rfl rfl rfl rfl
theorem dL_law_1422 : decode cL_law 1422 = .ok (.aload_n 1, 1) := qr_o43 hN_cL_law hn_cL_law rfl rfl
theorem dL_law_1423 : decode cL_law 1423 = .ok (.aload_n 0, 1) := qr_o42 hN_cL_law hn_cL_law rfl rfl
theorem dL_law_1424 : decode cL_law 1424 = .ok (.iload_n 3, 1) := qr_o29 hN_cL_law hn_cL_law rfl rfl
theorem dL_law_1425 : decode cL_law 1425 = .ok (.iconst 1, 1) := qr_o4 hN_cL_law hn_cL_law rfl rfl
theorem dL_law_1426 : decode cL_law 1426 = .ok (.iadd, 1) := qr_o96 hN_cL_law hn_cL_law rfl rfl
theorem dL_law_1427 : decode cL_law 1427 = .ok (.iaload, 1) := qr_o46 hN_cL_law hn_cL_law rfl rfl
theorem dL_law_1428 : decode cL_law 1428 = .ok (.invokevirtual 150, 3) := qr_o182 0 150 hN_cL_law hn_cL_law rfl rfl rfl rfl
theorem dL_law_1431 : decode cL_law 1431 = .ok (.pop, 1) := qr_o87 hN_cL_law hn_cL_law rfl rfl
theorem dL_law_1432 : decode cL_law 1432 = .ok (.aload_n 2, 1) := qr_o44 hN_cL_law hn_cL_law rfl rfl
theorem dL_law_1433 : decode cL_law 1433 = .ok (.aload_n 0, 1) := qr_o42 hN_cL_law hn_cL_law rfl rfl
theorem dL_law_1434 : decode cL_law 1434 = .ok (.iload_n 3, 1) := qr_o29 hN_cL_law hn_cL_law rfl rfl
theorem dL_law_1435 : decode cL_law 1435 = .ok (.iconst 1, 1) := qr_o4 hN_cL_law hn_cL_law rfl rfl
theorem dL_law_1436 : decode cL_law 1436 = .ok (.iadd, 1) := qr_o96 hN_cL_law hn_cL_law rfl rfl
theorem dL_law_1437 : decode cL_law 1437 = .ok (.iaload, 1) := qr_o46 hN_cL_law hn_cL_law rfl rfl
theorem dL_law_1438 : decode cL_law 1438 = .ok (.invokevirtual 153, 3) := qr_o182 0 153 hN_cL_law hn_cL_law rfl rfl rfl rfl
theorem dL_law_1441 : decode cL_law 1441 = .ok (.pop, 1) := qr_o87 hN_cL_law hn_cL_law rfl rfl
theorem dL_law_1442 : decode cL_law 1442 = .ok (.goto 109, 3) := qr_o167 0 109 rfl hN_cL_law hn_cL_law rfl rfl rfl rfl
theorem dL_law_1445 : decode cL_law 1445 = .ok (.aload_n 1, 1) := qr_o43 hN_cL_law hn_cL_law rfl rfl
theorem dL_law_1446 : decode cL_law 1446 = .ok (.aload_n 0, 1) := qr_o42 hN_cL_law hn_cL_law rfl rfl
theorem dL_law_1447 : decode cL_law 1447 = .ok (.iload_n 3, 1) := qr_o29 hN_cL_law hn_cL_law rfl rfl
theorem dL_law_1448 : decode cL_law 1448 = .ok (.iconst 1, 1) := qr_o4 hN_cL_law hn_cL_law rfl rfl
theorem dL_law_1449 : decode cL_law 1449 = .ok (.iadd, 1) := qr_o96 hN_cL_law hn_cL_law rfl rfl
theorem dL_law_1450 : decode cL_law 1450 = .ok (.iaload, 1) := qr_o46 hN_cL_law hn_cL_law rfl rfl
theorem dL_law_1451 : decode cL_law 1451 = .ok (.aload_n 0, 1) := qr_o42 hN_cL_law hn_cL_law rfl rfl
theorem dL_law_1452 : decode cL_law 1452 = .ok (.iload_n 3, 1) := qr_o29 hN_cL_law hn_cL_law rfl rfl
theorem dL_law_1453 : decode cL_law 1453 = .ok (.iconst 2, 1) := qr_o5 hN_cL_law hn_cL_law rfl rfl
theorem dL_law_1454 : decode cL_law 1454 = .ok (.iadd, 1) := qr_o96 hN_cL_law hn_cL_law rfl rfl
theorem dL_law_1455 : decode cL_law 1455 = .ok (.iaload, 1) := qr_o46 hN_cL_law hn_cL_law rfl rfl
theorem dL_law_1456 : decode cL_law 1456 = .ok (.aload_n 0, 1) := qr_o42 hN_cL_law hn_cL_law rfl rfl
theorem dL_law_1457 : decode cL_law 1457 = .ok (.iload_n 3, 1) := qr_o29 hN_cL_law hn_cL_law rfl rfl
theorem dL_law_1458 : decode cL_law 1458 = .ok (.iconst 3, 1) := qr_o6 hN_cL_law hn_cL_law rfl rfl
theorem dL_law_1459 : decode cL_law 1459 = .ok (.iadd, 1) := qr_o96 hN_cL_law hn_cL_law rfl rfl
theorem dL_law_1460 : decode cL_law 1460 = .ok (.iaload, 1) := qr_o46 hN_cL_law hn_cL_law rfl rfl
theorem dL_law_1461 : decode cL_law 1461 = .ok (.aload_n 0, 1) := qr_o42 hN_cL_law hn_cL_law rfl rfl
theorem dL_law_1462 : decode cL_law 1462 = .ok (.iload_n 3, 1) := qr_o29 hN_cL_law hn_cL_law rfl rfl
theorem dL_law_1463 : decode cL_law 1463 = .ok (.iconst 4, 1) := qr_o7 hN_cL_law hn_cL_law rfl rfl
theorem dL_law_1464 : decode cL_law 1464 = .ok (.iadd, 1) := qr_o96 hN_cL_law hn_cL_law rfl rfl
theorem dL_law_1465 : decode cL_law 1465 = .ok (.iaload, 1) := qr_o46 hN_cL_law hn_cL_law rfl rfl
theorem dL_law_1466 : decode cL_law 1466 = .ok (.invokevirtual 154, 3) := qr_o182 0 154 hN_cL_law hn_cL_law rfl rfl rfl rfl
theorem dL_law_1469 : decode cL_law 1469 = .ok (.pop, 1) := qr_o87 hN_cL_law hn_cL_law rfl rfl
theorem dL_law_1470 : decode cL_law 1470 = .ok (.aload_n 2, 1) := qr_o44 hN_cL_law hn_cL_law rfl rfl
theorem dL_law_1471 : decode cL_law 1471 = .ok (.aload_n 0, 1) := qr_o42 hN_cL_law hn_cL_law rfl rfl
theorem dL_law_1472 : decode cL_law 1472 = .ok (.iload_n 3, 1) := qr_o29 hN_cL_law hn_cL_law rfl rfl
theorem dL_law_1473 : decode cL_law 1473 = .ok (.iconst 1, 1) := qr_o4 hN_cL_law hn_cL_law rfl rfl
theorem dL_law_1474 : decode cL_law 1474 = .ok (.iadd, 1) := qr_o96 hN_cL_law hn_cL_law rfl rfl
theorem dL_law_1475 : decode cL_law 1475 = .ok (.iaload, 1) := qr_o46 hN_cL_law hn_cL_law rfl rfl
theorem dL_law_1476 : decode cL_law 1476 = .ok (.aload_n 0, 1) := qr_o42 hN_cL_law hn_cL_law rfl rfl
theorem dL_law_1477 : decode cL_law 1477 = .ok (.iload_n 3, 1) := qr_o29 hN_cL_law hn_cL_law rfl rfl
theorem dL_law_1478 : decode cL_law 1478 = .ok (.iconst 2, 1) := qr_o5 hN_cL_law hn_cL_law rfl rfl
theorem dL_law_1479 : decode cL_law 1479 = .ok (.iadd, 1) := qr_o96 hN_cL_law hn_cL_law rfl rfl
theorem dL_law_1480 : decode cL_law 1480 = .ok (.iaload, 1) := qr_o46 hN_cL_law hn_cL_law rfl rfl
theorem dL_law_1481 : decode cL_law 1481 = .ok (.aload_n 0, 1) := qr_o42 hN_cL_law hn_cL_law rfl rfl
theorem dL_law_1482 : decode cL_law 1482 = .ok (.iload_n 3, 1) := qr_o29 hN_cL_law hn_cL_law rfl rfl
theorem dL_law_1483 : decode cL_law 1483 = .ok (.iconst 3, 1) := qr_o6 hN_cL_law hn_cL_law rfl rfl
theorem dL_law_1484 : decode cL_law 1484 = .ok (.iadd, 1) := qr_o96 hN_cL_law hn_cL_law rfl rfl
theorem dL_law_1485 : decode cL_law 1485 = .ok (.iaload, 1) := qr_o46 hN_cL_law hn_cL_law rfl rfl
theorem dL_law_1486 : decode cL_law 1486 = .ok (.aload_n 0, 1) := qr_o42 hN_cL_law hn_cL_law rfl rfl
theorem dL_law_1487 : decode cL_law 1487 = .ok (.iload_n 3, 1) := qr_o29 hN_cL_law hn_cL_law rfl rfl
theorem dL_law_1488 : decode cL_law 1488 = .ok (.iconst 4, 1) := qr_o7 hN_cL_law hn_cL_law rfl rfl
theorem dL_law_1489 : decode cL_law 1489 = .ok (.iadd, 1) := qr_o96 hN_cL_law hn_cL_law rfl rfl
theorem dL_law_1490 : decode cL_law 1490 = .ok (.iaload, 1) := qr_o46 hN_cL_law hn_cL_law rfl rfl
theorem dL_law_1491 : decode cL_law 1491 = .ok (.invokevirtual 157, 3) := qr_o182 0 157 hN_cL_law hn_cL_law rfl rfl rfl rfl
theorem dL_law_1494 : decode cL_law 1494 = .ok (.pop, 1) := qr_o87 hN_cL_law hn_cL_law rfl rfl
theorem dL_law_1495 : decode cL_law 1495 = .ok (.goto 56, 3) := qr_o167 0 56 rfl hN_cL_law hn_cL_law rfl rfl rfl rfl
theorem dL_law_1498 : decode cL_law 1498 = .ok (.aload_n 1, 1) := qr_o43 hN_cL_law hn_cL_law rfl rfl
theorem dL_law_1499 : decode cL_law 1499 = .ok (.aload_n 0, 1) := qr_o42 hN_cL_law hn_cL_law rfl rfl
theorem dL_law_1500 : decode cL_law 1500 = .ok (.iload_n 3, 1) := qr_o29 hN_cL_law hn_cL_law rfl rfl
theorem dL_law_1501 : decode cL_law 1501 = .ok (.iconst 1, 1) := qr_o4 hN_cL_law hn_cL_law rfl rfl
theorem dL_law_1502 : decode cL_law 1502 = .ok (.iadd, 1) := qr_o96 hN_cL_law hn_cL_law rfl rfl
theorem dL_law_1503 : decode cL_law 1503 = .ok (.iaload, 1) := qr_o46 hN_cL_law hn_cL_law rfl rfl
theorem dL_law_1504 : decode cL_law 1504 = .ok (.aload_n 0, 1) := qr_o42 hN_cL_law hn_cL_law rfl rfl
theorem dL_law_1505 : decode cL_law 1505 = .ok (.iload_n 3, 1) := qr_o29 hN_cL_law hn_cL_law rfl rfl
theorem dL_law_1506 : decode cL_law 1506 = .ok (.iconst 2, 1) := qr_o5 hN_cL_law hn_cL_law rfl rfl
theorem dL_law_1507 : decode cL_law 1507 = .ok (.iadd, 1) := qr_o96 hN_cL_law hn_cL_law rfl rfl
theorem dL_law_1508 : decode cL_law 1508 = .ok (.iaload, 1) := qr_o46 hN_cL_law hn_cL_law rfl rfl
theorem dL_law_1509 : decode cL_law 1509 = .ok (.aload_n 0, 1) := qr_o42 hN_cL_law hn_cL_law rfl rfl
theorem dL_law_1510 : decode cL_law 1510 = .ok (.iload_n 3, 1) := qr_o29 hN_cL_law hn_cL_law rfl rfl
theorem dL_law_1511 : decode cL_law 1511 = .ok (.iconst 3, 1) := qr_o6 hN_cL_law hn_cL_law rfl rfl
theorem dL_law_1512 : decode cL_law 1512 = .ok (.iadd, 1) := qr_o96 hN_cL_law hn_cL_law rfl rfl
theorem dL_law_1513 : decode cL_law 1513 = .ok (.iaload, 1) := qr_o46 hN_cL_law hn_cL_law rfl rfl
theorem dL_law_1514 : decode cL_law 1514 = .ok (.aload_n 0, 1) := qr_o42 hN_cL_law hn_cL_law rfl rfl
theorem dL_law_1515 : decode cL_law 1515 = .ok (.iload_n 3, 1) := qr_o29 hN_cL_law hn_cL_law rfl rfl
theorem dL_law_1516 : decode cL_law 1516 = .ok (.iconst 4, 1) := qr_o7 hN_cL_law hn_cL_law rfl rfl
theorem dL_law_1517 : decode cL_law 1517 = .ok (.iadd, 1) := qr_o96 hN_cL_law hn_cL_law rfl rfl
theorem dL_law_1518 : decode cL_law 1518 = .ok (.iaload, 1) := qr_o46 hN_cL_law hn_cL_law rfl rfl
theorem dL_law_1519 : decode cL_law 1519 = .ok (.invokevirtual 158, 3) := qr_o182 0 158 hN_cL_law hn_cL_law rfl rfl rfl rfl
theorem dL_law_1522 : decode cL_law 1522 = .ok (.pop, 1) := qr_o87 hN_cL_law hn_cL_law rfl rfl
theorem dL_law_1523 : decode cL_law 1523 = .ok (.aload_n 2, 1) := qr_o44 hN_cL_law hn_cL_law rfl rfl
theorem dL_law_1524 : decode cL_law 1524 = .ok (.aload_n 0, 1) := qr_o42 hN_cL_law hn_cL_law rfl rfl
theorem dL_law_1525 : decode cL_law 1525 = .ok (.iload_n 3, 1) := qr_o29 hN_cL_law hn_cL_law rfl rfl
theorem dL_law_1526 : decode cL_law 1526 = .ok (.iconst 1, 1) := qr_o4 hN_cL_law hn_cL_law rfl rfl
theorem dL_law_1527 : decode cL_law 1527 = .ok (.iadd, 1) := qr_o96 hN_cL_law hn_cL_law rfl rfl
theorem dL_law_1528 : decode cL_law 1528 = .ok (.iaload, 1) := qr_o46 hN_cL_law hn_cL_law rfl rfl
theorem dL_law_1529 : decode cL_law 1529 = .ok (.aload_n 0, 1) := qr_o42 hN_cL_law hn_cL_law rfl rfl
theorem dL_law_1530 : decode cL_law 1530 = .ok (.iload_n 3, 1) := qr_o29 hN_cL_law hn_cL_law rfl rfl
theorem dL_law_1531 : decode cL_law 1531 = .ok (.iconst 2, 1) := qr_o5 hN_cL_law hn_cL_law rfl rfl
theorem dL_law_1532 : decode cL_law 1532 = .ok (.iadd, 1) := qr_o96 hN_cL_law hn_cL_law rfl rfl
theorem dL_law_1533 : decode cL_law 1533 = .ok (.iaload, 1) := qr_o46 hN_cL_law hn_cL_law rfl rfl
theorem dL_law_1534 : decode cL_law 1534 = .ok (.aload_n 0, 1) := qr_o42 hN_cL_law hn_cL_law rfl rfl
theorem dL_law_1535 : decode cL_law 1535 = .ok (.iload_n 3, 1) := qr_o29 hN_cL_law hn_cL_law rfl rfl
theorem dL_law_1536 : decode cL_law 1536 = .ok (.iconst 3, 1) := qr_o6 hN_cL_law hn_cL_law rfl rfl
theorem dL_law_1537 : decode cL_law 1537 = .ok (.iadd, 1) := qr_o96 hN_cL_law hn_cL_law rfl rfl
theorem dL_law_1538 : decode cL_law 1538 = .ok (.iaload, 1) := qr_o46 hN_cL_law hn_cL_law rfl rfl
theorem dL_law_1539 : decode cL_law 1539 = .ok (.aload_n 0, 1) := qr_o42 hN_cL_law hn_cL_law rfl rfl
theorem dL_law_1540 : decode cL_law 1540 = .ok (.iload_n 3, 1) := qr_o29 hN_cL_law hn_cL_law rfl rfl
theorem dL_law_1541 : decode cL_law 1541 = .ok (.iconst 4, 1) := qr_o7 hN_cL_law hn_cL_law rfl rfl
theorem dL_law_1542 : decode cL_law 1542 = .ok (.iadd, 1) := qr_o96 hN_cL_law hn_cL_law rfl rfl
theorem dL_law_1543 : decode cL_law 1543 = .ok (.iaload, 1) := qr_o46 hN_cL_law hn_cL_law rfl rfl
theorem dL_law_1544 : decode cL_law 1544 = .ok (.invokevirtual 161, 3) := qr_o182 0 161 hN_cL_law hn_cL_law rfl rfl rfl rfl
theorem dL_law_1547 : decode cL_law 1547 = .ok (.pop, 1) := qr_o87 hN_cL_law hn_cL_law rfl rfl
theorem dL_law_1548 : decode cL_law 1548 = .ok (.goto 3, 3) := qr_o167 0 3 rfl hN_cL_law hn_cL_law rfl rfl rfl rfl
theorem dL_law_1551 : decode cL_law 1551 = .ok (.iinc 3 7, 3) := qr_o132 3 7 rfl hN_cL_law hn_cL_law rfl rfl rfl rfl
theorem dL_law_1554 : decode cL_law 1554 = .ok (.goto (-1536), 3) := qr_w167 250 0 1536 rfl rfl hN_cL_law hn_cL_law rfl rfl rfl rfl
theorem dL_law_1557 : decode cL_law 1557 = .ok (.iconst 1, 1) := qr_o4 hN_cL_law hn_cL_law rfl rfl
theorem dL_law_1558 : decode cL_law 1558 = .ok (.ireturn, 1) := qr_o172 hN_cL_law hn_cL_law rfl rfl
