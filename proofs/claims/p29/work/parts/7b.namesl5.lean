theorem dL_same_810 : decode cL_same 810 = .ok (.iload 13, 2) := by decide +kernel
theorem dL_same_812 : decode cL_same 812 = .ok (.invokevirtual 152, 3) := by decide +kernel
theorem dL_same_815 : decode cL_same 815 = .ok (.iload 27, 2) := by decide +kernel
theorem dL_same_817 : decode cL_same 817 = .ok (.iload 13, 2) := by decide +kernel
theorem dL_same_819 : decode cL_same 819 = .ok (.iconst 5, 1) := by decide +kernel
theorem dL_same_820 : decode cL_same 820 = .ok (.iload 28, 2) := by decide +kernel
theorem dL_same_822 : decode cL_same 822 = .ok (.iadd, 1) := by decide +kernel
theorem dL_same_823 : decode cL_same 823 = .ok (.iconst 0, 1) := by decide +kernel
theorem dL_same_824 : decode cL_same 824 = .ok (.aload_n 2, 1) := by decide +kernel
theorem dL_same_825 : decode cL_same 825 = .ok (.aload_n 3, 1) := by decide +kernel
theorem dL_same_826 : decode cL_same 826 = .ok (.aload 4, 2) := by decide +kernel
theorem dL_same_828 : decode cL_same 828 = .ok (.aload 5, 2) := by decide +kernel
theorem dL_same_830 : decode cL_same 830 = .ok (.aload 6, 2) := by decide +kernel
theorem dL_same_832 : decode cL_same 832 = .ok (.aload 7, 2) := by decide +kernel
theorem dL_same_834 : decode cL_same 834 = .ok (.aload 8, 2) := by decide +kernel
theorem dL_same_836 : decode cL_same 836 = .ok (.invokestatic 59, 3) := by decide +kernel
theorem dL_same_839 : decode cL_same 839 = .ok (.ldc2_w 81, 3) := by decide +kernel
theorem dL_same_842 : decode cL_same 842 = .ok (.dcmp .l, 1) := by decide +kernel
theorem dL_same_843 : decode cL_same 843 = .ok (.ifCond .le 7, 3) := by decide +kernel
theorem dL_same_846 : decode cL_same 846 = .ok (.iconst 1, 1) := by decide +kernel
theorem dL_same_847 : decode cL_same 847 = .ok (.goto 4, 3) := by decide +kernel
theorem dL_same_850 : decode cL_same 850 = .ok (.iconst 0, 1) := by decide +kernel
theorem dL_same_851 : decode cL_same 851 = .ok (.if_icmp .ne 33, 3) := by decide +kernel
theorem dL_same_854 : decode cL_same 854 = .ok (.aload_n 0, 1) := by decide +kernel
theorem dL_same_855 : decode cL_same 855 = .ok (.iload 27, 2) := by decide +kernel
theorem dL_same_857 : decode cL_same 857 = .ok (.iconst 2, 1) := by decide +kernel
theorem dL_same_858 : decode cL_same 858 = .ok (.iload 13, 2) := by decide +kernel
theorem dL_same_860 : decode cL_same 860 = .ok (.invokevirtual 149, 3) := by decide +kernel
theorem dL_same_863 : decode cL_same 863 = .ok (.dconst 0, 1) := by decide +kernel
theorem dL_same_864 : decode cL_same 864 = .ok (.dcmp .l, 1) := by decide +kernel
theorem dL_same_865 : decode cL_same 865 = .ok (.ifCond .ne 19, 3) := by decide +kernel
theorem dL_same_868 : decode cL_same 868 = .ok (.aload_n 0, 1) := by decide +kernel
theorem dL_same_869 : decode cL_same 869 = .ok (.iload 27, 2) := by decide +kernel
theorem dL_same_871 : decode cL_same 871 = .ok (.iconst 2, 1) := by decide +kernel
theorem dL_same_872 : decode cL_same 872 = .ok (.iload 13, 2) := by decide +kernel
theorem dL_same_874 : decode cL_same 874 = .ok (.invokevirtual 152, 3) := by decide +kernel
theorem dL_same_877 : decode cL_same 877 = .ok (.ifCond .ne 7, 3) := by decide +kernel
theorem dL_same_880 : decode cL_same 880 = .ok (.iconst 1, 1) := by decide +kernel
theorem dL_same_881 : decode cL_same 881 = .ok (.goto 4, 3) := by decide +kernel
theorem dL_same_884 : decode cL_same 884 = .ok (.iconst 0, 1) := by decide +kernel
theorem dL_same_885 : decode cL_same 885 = .ok (.istore 12, 2) := by decide +kernel
theorem dL_same_887 : decode cL_same 887 = .ok (.iinc 27 1, 3) := by decide +kernel
theorem dL_same_890 : decode cL_same 890 = .ok (.goto (-244), 3) := by decide +kernel
theorem dL_same_893 : decode cL_same 893 = .ok (.iload 12, 2) := by decide +kernel
theorem dL_same_895 : decode cL_same 895 = .ok (.ifCond .eq 18, 3) := by decide +kernel
theorem dL_same_898 : decode cL_same 898 = .ok (.aload_n 0, 1) := by decide +kernel
theorem dL_same_899 : decode cL_same 899 = .ok (.iload 13, 2) := by decide +kernel
theorem dL_same_901 : decode cL_same 901 = .ok (.invokevirtual 156, 3) := by decide +kernel
theorem dL_same_904 : decode cL_same 904 = .ok (.iload 26, 2) := by decide +kernel
theorem dL_same_906 : decode cL_same 906 = .ok (.if_icmp .ne 7, 3) := by decide +kernel
theorem dL_same_909 : decode cL_same 909 = .ok (.iconst 1, 1) := by decide +kernel
theorem dL_same_910 : decode cL_same 910 = .ok (.goto 4, 3) := by decide +kernel
theorem dL_same_913 : decode cL_same 913 = .ok (.iconst 0, 1) := by decide +kernel
theorem dL_same_914 : decode cL_same 914 = .ok (.istore 12, 2) := by decide +kernel
theorem dL_same_916 : decode cL_same 916 = .ok (.iconst 0, 1) := by decide +kernel
theorem dL_same_917 : decode cL_same 917 = .ok (.istore 27, 2) := by decide +kernel
theorem dL_same_919 : decode cL_same 919 = .ok (.iload 27, 2) := by decide +kernel
theorem dL_same_921 : decode cL_same 921 = .ok (.aload 11, 2) := by decide +kernel
theorem dL_same_923 : decode cL_same 923 = .ok (.iconst 3, 1) := by decide +kernel
theorem dL_same_924 : decode cL_same 924 = .ok (.iaload, 1) := by decide +kernel
theorem dL_same_925 : decode cL_same 925 = .ok (.if_icmp .ge 149, 3) := by decide +kernel
theorem dL_same_928 : decode cL_same 928 = .ok (.iload 12, 2) := by decide +kernel
theorem dL_same_930 : decode cL_same 930 = .ok (.ifCond .eq 144, 3) := by decide +kernel
theorem dL_same_933 : decode cL_same 933 = .ok (.aload_n 0, 1) := by decide +kernel
theorem dL_same_934 : decode cL_same 934 = .ok (.iload 27, 2) := by decide +kernel
theorem dL_same_936 : decode cL_same 936 = .ok (.iconst 0, 1) := by decide +kernel
theorem dL_same_937 : decode cL_same 937 = .ok (.invokevirtual 159, 3) := by decide +kernel
theorem dL_same_940 : decode cL_same 940 = .ok (.aload 10, 2) := by decide +kernel
theorem dL_same_942 : decode cL_same 942 = .ok (.bipush 10, 2) := by decide +kernel
theorem dL_same_944 : decode cL_same 944 = .ok (.iload 27, 2) := by decide +kernel
theorem dL_same_946 : decode cL_same 946 = .ok (.imul, 1) := by decide +kernel
theorem dL_same_947 : decode cL_same 947 = .ok (.laload, 1) := by decide +kernel
theorem dL_same_948 : decode cL_same 948 = .ok (.lcmp, 1) := by decide +kernel
theorem dL_same_949 : decode cL_same 949 = .ok (.ifCond .ne 116, 3) := by decide +kernel
theorem dL_same_952 : decode cL_same 952 = .ok (.aload_n 0, 1) := by decide +kernel
theorem dL_same_953 : decode cL_same 953 = .ok (.iload 27, 2) := by decide +kernel
theorem dL_same_955 : decode cL_same 955 = .ok (.iconst 1, 1) := by decide +kernel
theorem dL_same_956 : decode cL_same 956 = .ok (.invokevirtual 159, 3) := by decide +kernel
theorem dL_same_959 : decode cL_same 959 = .ok (.aload 10, 2) := by decide +kernel
theorem dL_same_961 : decode cL_same 961 = .ok (.bipush 10, 2) := by decide +kernel
theorem dL_same_963 : decode cL_same 963 = .ok (.iload 27, 2) := by decide +kernel
theorem dL_same_965 : decode cL_same 965 = .ok (.imul, 1) := by decide +kernel
theorem dL_same_966 : decode cL_same 966 = .ok (.iconst 4, 1) := by decide +kernel
theorem dL_same_967 : decode cL_same 967 = .ok (.iadd, 1) := by decide +kernel
theorem dL_same_968 : decode cL_same 968 = .ok (.laload, 1) := by decide +kernel
theorem dL_same_969 : decode cL_same 969 = .ok (.lcmp, 1) := by decide +kernel
theorem dL_same_970 : decode cL_same 970 = .ok (.ifCond .ne 95, 3) := by decide +kernel
theorem dL_same_973 : decode cL_same 973 = .ok (.aload_n 0, 1) := by decide +kernel
theorem dL_same_974 : decode cL_same 974 = .ok (.iload 27, 2) := by decide +kernel
theorem dL_same_976 : decode cL_same 976 = .ok (.iconst 2, 1) := by decide +kernel
theorem dL_same_977 : decode cL_same 977 = .ok (.invokevirtual 159, 3) := by decide +kernel
theorem dL_same_980 : decode cL_same 980 = .ok (.aload 10, 2) := by decide +kernel
theorem dL_same_982 : decode cL_same 982 = .ok (.bipush 10, 2) := by decide +kernel
theorem dL_same_984 : decode cL_same 984 = .ok (.iload 27, 2) := by decide +kernel
theorem dL_same_986 : decode cL_same 986 = .ok (.imul, 1) := by decide +kernel
theorem dL_same_987 : decode cL_same 987 = .ok (.iconst 5, 1) := by decide +kernel
theorem dL_same_988 : decode cL_same 988 = .ok (.iadd, 1) := by decide +kernel
theorem dL_same_989 : decode cL_same 989 = .ok (.laload, 1) := by decide +kernel
theorem dL_same_990 : decode cL_same 990 = .ok (.lcmp, 1) := by decide +kernel
theorem dL_same_991 : decode cL_same 991 = .ok (.ifCond .ne 74, 3) := by decide +kernel
theorem dL_same_994 : decode cL_same 994 = .ok (.aload_n 0, 1) := by decide +kernel
theorem dL_same_995 : decode cL_same 995 = .ok (.iload 27, 2) := by decide +kernel
theorem dL_same_997 : decode cL_same 997 = .ok (.iconst 3, 1) := by decide +kernel
theorem dL_same_998 : decode cL_same 998 = .ok (.invokevirtual 159, 3) := by decide +kernel
theorem dL_same_1001 : decode cL_same 1001 = .ok (.aload 10, 2) := by decide +kernel
theorem dL_same_1003 : decode cL_same 1003 = .ok (.bipush 10, 2) := by decide +kernel
theorem dL_same_1005 : decode cL_same 1005 = .ok (.iload 27, 2) := by decide +kernel
theorem dL_same_1007 : decode cL_same 1007 = .ok (.imul, 1) := by decide +kernel
theorem dL_same_1008 : decode cL_same 1008 = .ok (.bipush 6, 2) := by decide +kernel
theorem dL_same_1010 : decode cL_same 1010 = .ok (.iadd, 1) := by decide +kernel
theorem dL_same_1011 : decode cL_same 1011 = .ok (.laload, 1) := by decide +kernel
theorem dL_same_1012 : decode cL_same 1012 = .ok (.lcmp, 1) := by decide +kernel
theorem dL_same_1013 : decode cL_same 1013 = .ok (.ifCond .ne 52, 3) := by decide +kernel
theorem dL_same_1016 : decode cL_same 1016 = .ok (.aload_n 0, 1) := by decide +kernel
theorem dL_same_1017 : decode cL_same 1017 = .ok (.iload 27, 2) := by decide +kernel
theorem dL_same_1019 : decode cL_same 1019 = .ok (.invokevirtual 163, 3) := by decide +kernel
theorem dL_same_1022 : decode cL_same 1022 = .ok (.iload 27, 2) := by decide +kernel
theorem dL_same_1024 : decode cL_same 1024 = .ok (.aload 10, 2) := by decide +kernel
theorem dL_same_1026 : decode cL_same 1026 = .ok (.aload_n 2, 1) := by decide +kernel
theorem dL_same_1027 : decode cL_same 1027 = .ok (.aload_n 3, 1) := by decide +kernel
theorem dL_same_1028 : decode cL_same 1028 = .ok (.aload 4, 2) := by decide +kernel
theorem dL_same_1030 : decode cL_same 1030 = .ok (.aload 5, 2) := by decide +kernel
theorem dL_same_1032 : decode cL_same 1032 = .ok (.aload 6, 2) := by decide +kernel
theorem dL_same_1034 : decode cL_same 1034 = .ok (.aload 7, 2) := by decide +kernel
theorem dL_same_1036 : decode cL_same 1036 = .ok (.aload 8, 2) := by decide +kernel
theorem dL_same_1038 : decode cL_same 1038 = .ok (.aload 9, 2) := by decide +kernel
theorem dL_same_1040 : decode cL_same 1040 = .ok (.aload 11, 2) := by decide +kernel
theorem dL_same_1042 : decode cL_same 1042 = .ok (.invokestatic 167, 3) := by decide +kernel
theorem dL_same_1045 : decode cL_same 1045 = .ok (.aload 10, 2) := by decide +kernel
theorem dL_same_1047 : decode cL_same 1047 = .ok (.bipush 10, 2) := by decide +kernel
theorem dL_same_1049 : decode cL_same 1049 = .ok (.iload 27, 2) := by decide +kernel
theorem dL_same_1051 : decode cL_same 1051 = .ok (.imul, 1) := by decide +kernel
theorem dL_same_1052 : decode cL_same 1052 = .ok (.bipush 6, 2) := by decide +kernel
theorem dL_same_1054 : decode cL_same 1054 = .ok (.iadd, 1) := by decide +kernel
theorem dL_same_1055 : decode cL_same 1055 = .ok (.laload, 1) := by decide +kernel
theorem dL_same_1056 : decode cL_same 1056 = .ok (.lsub, 1) := by decide +kernel
theorem dL_same_1057 : decode cL_same 1057 = .ok (.lcmp, 1) := by decide +kernel
theorem dL_same_1058 : decode cL_same 1058 = .ok (.ifCond .ne 7, 3) := by decide +kernel
theorem dL_same_1061 : decode cL_same 1061 = .ok (.iconst 1, 1) := by decide +kernel
theorem dL_same_1062 : decode cL_same 1062 = .ok (.goto 4, 3) := by decide +kernel
theorem dL_same_1065 : decode cL_same 1065 = .ok (.iconst 0, 1) := by decide +kernel
theorem dL_same_1066 : decode cL_same 1066 = .ok (.istore 12, 2) := by decide +kernel
theorem dL_same_1068 : decode cL_same 1068 = .ok (.iinc 27 1, 3) := by decide +kernel
theorem dL_same_1071 : decode cL_same 1071 = .ok (.goto (-152), 3) := by decide +kernel
theorem dL_same_1074 : decode cL_same 1074 = .ok (.iload 12, 2) := by decide +kernel
theorem dL_same_1076 : decode cL_same 1076 = .ok (.ireturn, 1) := by decide +kernel
set_option maxRecDepth 20000 in
theorem ggL_quotes_L_low : GoodIn wsL_quotes wsL_low := goodIn_r _ [5, 6] (by decide +kernel) (by decide +kernel)
set_option maxRecDepth 20000 in
theorem gL_quotes_L_low : GoodIn wsL_quotes (va_wsS RL 107 yL_low wsL_low) := goodIn_app (goodIn_of _ (by decide +kernel)) ggL_quotes_L_low
set_option maxRecDepth 20000 in
theorem ggL_quotes_L_outlet : GoodIn wsL_quotes wsL_outlet := goodIn_r _ [9] (by decide +kernel) (by decide +kernel)
set_option maxRecDepth 20000 in
theorem gL_quotes_L_outlet : GoodIn wsL_quotes (va_wsS RL 146 yL_outlet wsL_outlet) := goodIn_app (goodIn_of _ (by decide +kernel)) ggL_quotes_L_outlet
set_option maxRecDepth 20000 in
theorem ggL_quotes_L_calls : GoodIn wsL_quotes wsL_calls := goodIn_ca (goodIn_ca (goodIn_ca (goodIn_r _ [12, 13, 14, 15, 16, 17, 18, 19, 20, 21, 22, 23, 24, 25, 26, 27, 28, 29, 30, 31, 32, 33, 34, 35, 36, 37, 38, 39, 40, 41, 42, 43, 44, 45, 46, 47, 48, 49, 50, 51, 52, 53, 54, 55, 56, 57, 58, 59, 60, 61, 62, 63, 64, 65, 66, 67, 68, 69, 70, 71, 72, 73, 74, 75, 76, 77, 78, 79, 80, 81, 82, 83, 84, 85, 86, 87, 88, 89, 90, 91, 92, 93, 94, 95, 96, 97, 4, 98, 99, 100, 101, 102, 103, 104, 105, 106, 107, 108, 109, 110, 111, 112, 113, 114, 115, 116, 117, 118, 119, 120, 121, 122, 123, 124, 125, 126, 127, 128, 129, 130, 131, 132, 133, 134, 135, 136, 137, 138, 139, 140, 141, 142, 143, 144, 145, 146, 147, 148, 149, 150, 151, 152, 153, 154, 155, 156, 157, 158, 159, 160, 161, 162, 163, 164, 165, 166, 167, 168, 169, 170, 171, 172, 173, 174, 175, 176, 177, 178, 179, 180, 181, 182, 183, 184, 185, 186, 187, 188, 189, 190, 191, 192, 193, 194, 195, 196, 197, 198, 199, 200, 201, 202, 203, 204, 205, 206, 207, 208, 209, 210, 211, 212, 213, 214, 215, 216, 217, 218, 219, 220, 221, 222, 223, 224, 225, 226, 227, 228, 229, 230, 231, 232, 233, 234, 235, 236, 237, 238, 239, 240, 241] (by decide +kernel) (by decide +kernel)) (goodIn_sub (fun _ h => List.mem_cons_of_mem _ (List.mem_append_left _ (List.mem_append_left _ (List.mem_append_right _ h)))) (by decide +kernel))) (goodIn_sub (fun _ h => List.mem_cons_of_mem _ (List.mem_append_left _ (List.mem_append_right _ h))) (by decide +kernel))) (goodIn_sub (fun _ h => List.mem_cons_of_mem _ (List.mem_append_right _ h)) (by decide +kernel))
set_option maxRecDepth 20000 in
theorem gL_quotes_L_calls : GoodIn wsL_quotes (va_wsS RL 172 yL_calls wsL_calls) := goodIn_app (goodIn_of _ (by decide +kernel)) ggL_quotes_L_calls
theorem dL_quotes_0 : decode cL_quotes 0 = .ok (.iload_n 1, 1) := by decide +kernel
theorem dL_quotes_1 : decode cL_quotes 1 = .ok (.aload 9, 2) := by decide +kernel
theorem dL_quotes_3 : decode cL_quotes 3 = .ok (.iconst 0, 1) := by decide +kernel
theorem dL_quotes_4 : decode cL_quotes 4 = .ok (.iaload, 1) := by decide +kernel
theorem dL_quotes_5 : decode cL_quotes 5 = .ok (.invokestatic 107, 3) := by decide +kernel
theorem dL_quotes_8 : decode cL_quotes 8 = .ok (.istore 10, 2) := by decide +kernel
theorem dL_quotes_10 : decode cL_quotes 10 = .ok (.iload_n 1, 1) := by decide +kernel
theorem dL_quotes_11 : decode cL_quotes 11 = .ok (.iconst 3, 1) := by decide +kernel
theorem dL_quotes_12 : decode cL_quotes 12 = .ok (.ishr, 1) := by decide +kernel
theorem dL_quotes_13 : decode cL_quotes 13 = .ok (.iconst 3, 1) := by decide +kernel
theorem dL_quotes_14 : decode cL_quotes 14 = .ok (.invokestatic 107, 3) := by decide +kernel
theorem dL_quotes_17 : decode cL_quotes 17 = .ok (.istore 11, 2) := by decide +kernel
theorem dL_quotes_19 : decode cL_quotes 19 = .ok (.bipush 12, 2) := by decide +kernel
theorem dL_quotes_21 : decode cL_quotes 21 = .ok (.aload 9, 2) := by decide +kernel
theorem dL_quotes_23 : decode cL_quotes 23 = .ok (.iconst 1, 1) := by decide +kernel
theorem dL_quotes_24 : decode cL_quotes 24 = .ok (.iaload, 1) := by decide +kernel
theorem dL_quotes_25 : decode cL_quotes 25 = .ok (.imul, 1) := by decide +kernel
theorem dL_quotes_26 : decode cL_quotes 26 = .ok (.iconst 3, 1) := by decide +kernel
theorem dL_quotes_27 : decode cL_quotes 27 = .ok (.iload 10, 2) := by decide +kernel
theorem dL_quotes_29 : decode cL_quotes 29 = .ok (.imul, 1) := by decide +kernel
theorem dL_quotes_30 : decode cL_quotes 30 = .ok (.iadd, 1) := by decide +kernel
theorem dL_quotes_31 : decode cL_quotes 31 = .ok (.iload 11, 2) := by decide +kernel
theorem dL_quotes_33 : decode cL_quotes 33 = .ok (.iadd, 1) := by decide +kernel
theorem dL_quotes_34 : decode cL_quotes 34 = .ok (.istore 12, 2) := by decide +kernel
theorem dL_quotes_36 : decode cL_quotes 36 = .ok (.iload_n 2, 1) := by decide +kernel
theorem dL_quotes_37 : decode cL_quotes 37 = .ok (.bipush 6, 2) := by decide +kernel
theorem dL_quotes_39 : decode cL_quotes 39 = .ok (.invokestatic 107, 3) := by decide +kernel
theorem dL_quotes_42 : decode cL_quotes 42 = .ok (.ifCond .ne 16, 3) := by decide +kernel
theorem dL_quotes_45 : decode cL_quotes 45 = .ok (.iconst 1, 1) := by decide +kernel
theorem dL_quotes_46 : decode cL_quotes 46 = .ok (.iload_n 2, 1) := by decide +kernel
theorem dL_quotes_47 : decode cL_quotes 47 = .ok (.iconst 3, 1) := by decide +kernel
theorem dL_quotes_48 : decode cL_quotes 48 = .ok (.ishr, 1) := by decide +kernel
theorem dL_quotes_49 : decode cL_quotes 49 = .ok (.ldc 171, 2) := by decide +kernel
theorem dL_quotes_51 : decode cL_quotes 51 = .ok (.invokestatic 107, 3) := by decide +kernel
theorem dL_quotes_54 : decode cL_quotes 54 = .ok (.iadd, 1) := by decide +kernel
theorem dL_quotes_55 : decode cL_quotes 55 = .ok (.goto 14, 3) := by decide +kernel
theorem dL_quotes_58 : decode cL_quotes 58 = .ok (.bipush 80, 2) := by decide +kernel
theorem dL_quotes_60 : decode cL_quotes 60 = .ok (.iload_n 2, 1) := by decide +kernel
theorem dL_quotes_61 : decode cL_quotes 61 = .ok (.iconst 3, 1) := by decide +kernel
theorem dL_quotes_62 : decode cL_quotes 62 = .ok (.ishr, 1) := by decide +kernel
theorem dL_quotes_63 : decode cL_quotes 63 = .ok (.bipush 60, 2) := by decide +kernel
theorem dL_quotes_65 : decode cL_quotes 65 = .ok (.invokestatic 107, 3) := by decide +kernel
theorem dL_quotes_68 : decode cL_quotes 68 = .ok (.iadd, 1) := by decide +kernel
theorem dL_quotes_69 : decode cL_quotes 69 = .ok (.istore 13, 2) := by decide +kernel
theorem dL_quotes_71 : decode cL_quotes 71 = .ok (.iload_n 2, 1) := by decide +kernel
theorem dL_quotes_72 : decode cL_quotes 72 = .ok (.iconst 5, 1) := by decide +kernel
theorem dL_quotes_73 : decode cL_quotes 73 = .ok (.ishr, 1) := by decide +kernel
theorem dL_quotes_74 : decode cL_quotes 74 = .ok (.iconst 5, 1) := by decide +kernel
theorem dL_quotes_75 : decode cL_quotes 75 = .ok (.invokestatic 107, 3) := by decide +kernel
theorem dL_quotes_78 : decode cL_quotes 78 = .ok (.ifCond .ne 17, 3) := by decide +kernel
theorem dL_quotes_81 : decode cL_quotes 81 = .ok (.iconst 1, 1) := by decide +kernel
theorem dL_quotes_82 : decode cL_quotes 82 = .ok (.iload_n 2, 1) := by decide +kernel
theorem dL_quotes_83 : decode cL_quotes 83 = .ok (.iconst 2, 1) := by decide +kernel
theorem dL_quotes_84 : decode cL_quotes 84 = .ok (.ishr, 1) := by decide +kernel
theorem dL_quotes_85 : decode cL_quotes 85 = .ok (.sipush 10000, 3) := by decide +kernel
theorem dL_quotes_88 : decode cL_quotes 88 = .ok (.invokestatic 107, 3) := by decide +kernel
theorem dL_quotes_91 : decode cL_quotes 91 = .ok (.iadd, 1) := by decide +kernel
theorem dL_quotes_92 : decode cL_quotes 92 = .ok (.goto 5, 3) := by decide +kernel
theorem dL_quotes_95 : decode cL_quotes 95 = .ok (.bipush 100, 2) := by decide +kernel
theorem dL_quotes_97 : decode cL_quotes 97 = .ok (.istore 14, 2) := by decide +kernel
theorem dL_quotes_99 : decode cL_quotes 99 = .ok (.iload_n 2, 1) := by decide +kernel
theorem dL_quotes_100 : decode cL_quotes 100 = .ok (.bipush 6, 2) := by decide +kernel
theorem dL_quotes_102 : decode cL_quotes 102 = .ok (.ishr, 1) := by decide +kernel
theorem dL_quotes_103 : decode cL_quotes 103 = .ok (.bipush 7, 2) := by decide +kernel
theorem dL_quotes_105 : decode cL_quotes 105 = .ok (.invokestatic 107, 3) := by decide +kernel
theorem dL_quotes_108 : decode cL_quotes 108 = .ok (.ifCond .ne 82, 3) := by decide +kernel
theorem dL_quotes_111 : decode cL_quotes 111 = .ok (.aload 9, 2) := by decide +kernel
theorem dL_quotes_113 : decode cL_quotes 113 = .ok (.iconst 1, 1) := by decide +kernel
theorem dL_quotes_114 : decode cL_quotes 114 = .ok (.iaload, 1) := by decide +kernel
theorem dL_quotes_115 : decode cL_quotes 115 = .ok (.iconst 5, 1) := by decide +kernel
theorem dL_quotes_116 : decode cL_quotes 116 = .ok (.if_icmp .ge 15, 3) := by decide +kernel
theorem dL_quotes_119 : decode cL_quotes 119 = .ok (.aload 7, 2) := by decide +kernel
theorem dL_quotes_121 : decode cL_quotes 121 = .ok (.iload 12, 2) := by decide +kernel
theorem dL_quotes_123 : decode cL_quotes 123 = .ok (.iaload, 1) := by decide +kernel
theorem dL_quotes_124 : decode cL_quotes 124 = .ok (.ifCond .ne 7, 3) := by decide +kernel
theorem dL_quotes_127 : decode cL_quotes 127 = .ok (.iconst 1, 1) := by decide +kernel
theorem dL_quotes_128 : decode cL_quotes 128 = .ok (.goto 4, 3) := by decide +kernel
theorem dL_quotes_131 : decode cL_quotes 131 = .ok (.iconst 0, 1) := by decide +kernel
theorem dL_quotes_132 : decode cL_quotes 132 = .ok (.istore 15, 2) := by decide +kernel
theorem dL_quotes_134 : decode cL_quotes 134 = .ok (.iload 15, 2) := by decide +kernel
theorem dL_quotes_136 : decode cL_quotes 136 = .ok (.ifCond .eq 17, 3) := by decide +kernel
theorem dL_quotes_139 : decode cL_quotes 139 = .ok (.aload 7, 2) := by decide +kernel
theorem dL_quotes_141 : decode cL_quotes 141 = .ok (.iload 12, 2) := by decide +kernel
theorem dL_quotes_143 : decode cL_quotes 143 = .ok (.iload 13, 2) := by decide +kernel
theorem dL_quotes_145 : decode cL_quotes 145 = .ok (.iastore, 1) := by decide +kernel
theorem dL_quotes_146 : decode cL_quotes 146 = .ok (.aload 8, 2) := by decide +kernel
theorem dL_quotes_148 : decode cL_quotes 148 = .ok (.iload 12, 2) := by decide +kernel
theorem dL_quotes_150 : decode cL_quotes 150 = .ok (.iload 14, 2) := by decide +kernel
theorem dL_quotes_152 : decode cL_quotes 152 = .ok (.iastore, 1) := by decide +kernel
theorem dL_quotes_153 : decode cL_quotes 153 = .ok (.aload_n 0, 1) := by decide +kernel
theorem dL_quotes_154 : decode cL_quotes 154 = .ok (.iconst 2, 1) := by decide +kernel
theorem dL_quotes_155 : decode cL_quotes 155 = .ok (.iload 10, 2) := by decide +kernel
theorem dL_quotes_157 : decode cL_quotes 157 = .ok (.iload 11, 2) := by decide +kernel
theorem dL_quotes_159 : decode cL_quotes 159 = .ok (.invokestatic 146, 3) := by decide +kernel
theorem dL_quotes_162 : decode cL_quotes 162 = .ok (.iload 13, 2) := by decide +kernel
theorem dL_quotes_164 : decode cL_quotes 164 = .ok (.iload 14, 2) := by decide +kernel
theorem dL_quotes_166 : decode cL_quotes 166 = .ok (.invokestatic 172, 3) := by decide +kernel
theorem dL_quotes_169 : decode cL_quotes 169 = .ok (.iload 15, 2) := by decide +kernel
theorem dL_quotes_171 : decode cL_quotes 171 = .ok (.ifCond .eq 7, 3) := by decide +kernel
theorem dL_quotes_174 : decode cL_quotes 174 = .ok (.iconst 0, 1) := by decide +kernel
theorem dL_quotes_175 : decode cL_quotes 175 = .ok (.goto 6, 3) := by decide +kernel
theorem dL_quotes_178 : decode cL_quotes 178 = .ok (.sipush (-1003), 3) := by decide +kernel
theorem dL_quotes_181 : decode cL_quotes 181 = .ok (.if_icmp .ne 7, 3) := by decide +kernel
theorem dL_quotes_184 : decode cL_quotes 184 = .ok (.iconst 1, 1) := by decide +kernel
theorem dL_quotes_185 : decode cL_quotes 185 = .ok (.goto 4, 3) := by decide +kernel
theorem dL_quotes_188 : decode cL_quotes 188 = .ok (.iconst 0, 1) := by decide +kernel
theorem dL_quotes_189 : decode cL_quotes 189 = .ok (.ireturn, 1) := by decide +kernel
theorem dL_quotes_190 : decode cL_quotes 190 = .ok (.aload_n 3, 1) := by decide +kernel
theorem dL_quotes_191 : decode cL_quotes 191 = .ok (.iconst 3, 1) := by decide +kernel
theorem dL_quotes_192 : decode cL_quotes 192 = .ok (.iload 10, 2) := by decide +kernel
theorem dL_quotes_194 : decode cL_quotes 194 = .ok (.imul, 1) := by decide +kernel
theorem dL_quotes_195 : decode cL_quotes 195 = .ok (.iconst 2, 1) := by decide +kernel
theorem dL_quotes_196 : decode cL_quotes 196 = .ok (.iadd, 1) := by decide +kernel
theorem dL_quotes_197 : decode cL_quotes 197 = .ok (.iaload, 1) := by decide +kernel
theorem dL_quotes_198 : decode cL_quotes 198 = .ok (.aload 9, 2) := by decide +kernel
theorem dL_quotes_200 : decode cL_quotes 200 = .ok (.iconst 1, 1) := by decide +kernel
theorem dL_quotes_201 : decode cL_quotes 201 = .ok (.iaload, 1) := by decide +kernel
theorem dL_quotes_202 : decode cL_quotes 202 = .ok (.ishr, 1) := by decide +kernel
theorem dL_quotes_203 : decode cL_quotes 203 = .ok (.iconst 1, 1) := by decide +kernel
theorem dL_quotes_204 : decode cL_quotes 204 = .ok (.iand, 1) := by decide +kernel
theorem dL_quotes_205 : decode cL_quotes 205 = .ok (.iconst 1, 1) := by decide +kernel
theorem dL_quotes_206 : decode cL_quotes 206 = .ok (.if_icmp .ne 15, 3) := by decide +kernel
theorem dL_quotes_209 : decode cL_quotes 209 = .ok (.aload 4, 2) := by decide +kernel
theorem dL_quotes_211 : decode cL_quotes 211 = .ok (.iload 12, 2) := by decide +kernel
theorem dL_quotes_213 : decode cL_quotes 213 = .ok (.iaload, 1) := by decide +kernel
theorem dL_quotes_214 : decode cL_quotes 214 = .ok (.ifCond .ne 7, 3) := by decide +kernel
theorem dL_quotes_217 : decode cL_quotes 217 = .ok (.iconst 1, 1) := by decide +kernel
theorem dL_quotes_218 : decode cL_quotes 218 = .ok (.goto 4, 3) := by decide +kernel
theorem dL_quotes_221 : decode cL_quotes 221 = .ok (.iconst 0, 1) := by decide +kernel
theorem dL_quotes_222 : decode cL_quotes 222 = .ok (.istore 15, 2) := by decide +kernel
theorem dL_quotes_224 : decode cL_quotes 224 = .ok (.iload 15, 2) := by decide +kernel
theorem dL_quotes_226 : decode cL_quotes 226 = .ok (.ifCond .eq 25, 3) := by decide +kernel
theorem dL_quotes_229 : decode cL_quotes 229 = .ok (.aload 4, 2) := by decide +kernel
theorem dL_quotes_231 : decode cL_quotes 231 = .ok (.iload 12, 2) := by decide +kernel
theorem dL_quotes_233 : decode cL_quotes 233 = .ok (.iload 13, 2) := by decide +kernel
theorem dL_quotes_235 : decode cL_quotes 235 = .ok (.iastore, 1) := by decide +kernel
theorem dL_quotes_236 : decode cL_quotes 236 = .ok (.aload 5, 2) := by decide +kernel
theorem dL_quotes_238 : decode cL_quotes 238 = .ok (.iload 12, 2) := by decide +kernel
theorem dL_quotes_240 : decode cL_quotes 240 = .ok (.iload 14, 2) := by decide +kernel
theorem dL_quotes_242 : decode cL_quotes 242 = .ok (.iastore, 1) := by decide +kernel
theorem dL_quotes_243 : decode cL_quotes 243 = .ok (.aload 9, 2) := by decide +kernel
theorem dL_quotes_245 : decode cL_quotes 245 = .ok (.iconst 2, 1) := by decide +kernel
theorem dL_quotes_246 : decode cL_quotes 246 = .ok (.dup2, 1) := by decide +kernel
theorem dL_quotes_247 : decode cL_quotes 247 = .ok (.iaload, 1) := by decide +kernel
theorem dL_quotes_248 : decode cL_quotes 248 = .ok (.iconst 1, 1) := by decide +kernel
theorem dL_quotes_249 : decode cL_quotes 249 = .ok (.iadd, 1) := by decide +kernel
theorem dL_quotes_250 : decode cL_quotes 250 = .ok (.iastore, 1) := by decide +kernel
theorem dL_quotes_251 : decode cL_quotes 251 = .ok (.aload_n 0, 1) := by decide +kernel
theorem dL_quotes_252 : decode cL_quotes 252 = .ok (.iconst 0, 1) := by decide +kernel
theorem dL_quotes_253 : decode cL_quotes 253 = .ok (.iload 10, 2) := by decide +kernel
theorem dL_quotes_255 : decode cL_quotes 255 = .ok (.iload 11, 2) := by decide +kernel
theorem dL_quotes_257 : decode cL_quotes 257 = .ok (.invokestatic 146, 3) := by decide +kernel
theorem dL_quotes_260 : decode cL_quotes 260 = .ok (.iload 13, 2) := by decide +kernel
theorem dL_quotes_262 : decode cL_quotes 262 = .ok (.iload 14, 2) := by decide +kernel
theorem dL_quotes_264 : decode cL_quotes 264 = .ok (.invokestatic 172, 3) := by decide +kernel
theorem dL_quotes_267 : decode cL_quotes 267 = .ok (.iload 15, 2) := by decide +kernel
theorem dL_quotes_269 : decode cL_quotes 269 = .ok (.ifCond .eq 10, 3) := by decide +kernel
theorem dL_quotes_272 : decode cL_quotes 272 = .ok (.aload 9, 2) := by decide +kernel
theorem dL_quotes_274 : decode cL_quotes 274 = .ok (.iconst 2, 1) := by decide +kernel
theorem dL_quotes_275 : decode cL_quotes 275 = .ok (.iaload, 1) := by decide +kernel
theorem dL_quotes_276 : decode cL_quotes 276 = .ok (.goto 6, 3) := by decide +kernel
theorem dL_quotes_279 : decode cL_quotes 279 = .ok (.sipush (-1003), 3) := by decide +kernel
theorem dL_quotes_282 : decode cL_quotes 282 = .ok (.if_icmp .ne 7, 3) := by decide +kernel
theorem dL_quotes_285 : decode cL_quotes 285 = .ok (.iconst 1, 1) := by decide +kernel
theorem dL_quotes_286 : decode cL_quotes 286 = .ok (.goto 4, 3) := by decide +kernel
theorem dL_quotes_289 : decode cL_quotes 289 = .ok (.iconst 0, 1) := by decide +kernel
theorem dL_quotes_290 : decode cL_quotes 290 = .ok (.istore 16, 2) := by decide +kernel
theorem dL_quotes_292 : decode cL_quotes 292 = .ok (.iload 16, 2) := by decide +kernel
theorem dL_quotes_294 : decode cL_quotes 294 = .ok (.ifCond .eq 79, 3) := by decide +kernel
theorem dL_quotes_297 : decode cL_quotes 297 = .ok (.iload_n 2, 1) := by decide +kernel
theorem dL_quotes_298 : decode cL_quotes 298 = .ok (.bipush 7, 2) := by decide +kernel
theorem dL_quotes_300 : decode cL_quotes 300 = .ok (.ishr, 1) := by decide +kernel
theorem dL_quotes_301 : decode cL_quotes 301 = .ok (.iconst 3, 1) := by decide +kernel
theorem dL_quotes_302 : decode cL_quotes 302 = .ok (.invokestatic 107, 3) := by decide +kernel
theorem dL_quotes_305 : decode cL_quotes 305 = .ok (.ifCond .ne 68, 3) := by decide +kernel
theorem dL_quotes_308 : decode cL_quotes 308 = .ok (.aload 6, 2) := by decide +kernel
theorem dL_quotes_310 : decode cL_quotes 310 = .ok (.iload 12, 2) := by decide +kernel
theorem dL_quotes_312 : decode cL_quotes 312 = .ok (.iaload, 1) := by decide +kernel
theorem dL_quotes_313 : decode cL_quotes 313 = .ok (.istore 17, 2) := by decide +kernel
theorem dL_quotes_315 : decode cL_quotes 315 = .ok (.aload_n 0, 1) := by decide +kernel
theorem dL_quotes_316 : decode cL_quotes 316 = .ok (.iconst 1, 1) := by decide +kernel
theorem dL_quotes_317 : decode cL_quotes 317 = .ok (.iload 10, 2) := by decide +kernel
theorem dL_quotes_319 : decode cL_quotes 319 = .ok (.iload 11, 2) := by decide +kernel
theorem dL_quotes_321 : decode cL_quotes 321 = .ok (.invokestatic 146, 3) := by decide +kernel
theorem dL_quotes_324 : decode cL_quotes 324 = .ok (.iconst 0, 1) := by decide +kernel
theorem dL_quotes_325 : decode cL_quotes 325 = .ok (.iconst 0, 1) := by decide +kernel
theorem dL_quotes_326 : decode cL_quotes 326 = .ok (.invokestatic 172, 3) := by decide +kernel
theorem dL_quotes_329 : decode cL_quotes 329 = .ok (.aload 4, 2) := by decide +kernel
theorem dL_quotes_331 : decode cL_quotes 331 = .ok (.iload 12, 2) := by decide +kernel
theorem dL_quotes_333 : decode cL_quotes 333 = .ok (.iaload, 1) := by decide +kernel
theorem dL_quotes_334 : decode cL_quotes 334 = .ok (.ifCond .ne 9, 3) := by decide +kernel
theorem dL_quotes_337 : decode cL_quotes 337 = .ok (.sipush (-1003), 3) := by decide +kernel
theorem dL_quotes_340 : decode cL_quotes 340 = .ok (.goto 5, 3) := by decide +kernel
theorem dL_quotes_343 : decode cL_quotes 343 = .ok (.iload 17, 2) := by decide +kernel
theorem dL_quotes_345 : decode cL_quotes 345 = .ok (.if_icmp .ne 7, 3) := by decide +kernel
theorem dL_quotes_348 : decode cL_quotes 348 = .ok (.iconst 1, 1) := by decide +kernel
theorem dL_quotes_349 : decode cL_quotes 349 = .ok (.goto 4, 3) := by decide +kernel
theorem dL_quotes_352 : decode cL_quotes 352 = .ok (.iconst 0, 1) := by decide +kernel
theorem dL_quotes_353 : decode cL_quotes 353 = .ok (.istore 16, 2) := by decide +kernel
theorem dL_quotes_355 : decode cL_quotes 355 = .ok (.aload 6, 2) := by decide +kernel
theorem dL_quotes_357 : decode cL_quotes 357 = .ok (.iload 12, 2) := by decide +kernel
theorem dL_quotes_359 : decode cL_quotes 359 = .ok (.aload 4, 2) := by decide +kernel
theorem dL_quotes_361 : decode cL_quotes 361 = .ok (.iload 12, 2) := by decide +kernel
theorem dL_quotes_363 : decode cL_quotes 363 = .ok (.iaload, 1) := by decide +kernel
theorem dL_quotes_364 : decode cL_quotes 364 = .ok (.ifCond .ne 7, 3) := by decide +kernel
theorem dL_quotes_367 : decode cL_quotes 367 = .ok (.iconst 0, 1) := by decide +kernel
theorem dL_quotes_368 : decode cL_quotes 368 = .ok (.goto 4, 3) := by decide +kernel
theorem dL_quotes_371 : decode cL_quotes 371 = .ok (.iconst 1, 1) := by decide +kernel
theorem dL_quotes_372 : decode cL_quotes 372 = .ok (.iastore, 1) := by decide +kernel
theorem dL_quotes_373 : decode cL_quotes 373 = .ok (.iload 16, 2) := by decide +kernel
theorem dL_quotes_375 : decode cL_quotes 375 = .ok (.ireturn, 1) := by decide +kernel
set_option maxRecDepth 20000 in
theorem ggL_law_X6_init : GoodIn wsL_law wsX6_init := goodIn_r _ [10, 11, 12, 13, 14, 15, 16, 17, 18, 19, 20, 21, 22, 23, 24, 25, 26, 3, 27, 28, 29, 30, 31, 32, 33, 34, 35, 36, 37, 38, 39, 40, 41, 42, 43, 44, 45, 46, 47, 48, 49, 50, 51, 52, 53, 54, 55, 56, 57, 58, 59, 60, 61, 62, 63, 64, 65, 66, 67, 68, 69, 70, 71, 72, 73, 74, 75, 76, 77, 78, 79, 80, 81, 82, 83, 84, 85, 86, 617, 618, 619, 620, 621, 622, 623, 624, 625, 626, 609, 610, 611, 612, 613, 614, 615, 616, 627, 628, 629, 630, 631, 632, 633, 634, 635, 636, 637, 638, 639, 640, 641, 642, 643, 644, 645] (by decide +kernel) (by decide +kernel)
set_option maxRecDepth 20000 in
theorem gL_law_X6_init : GoodIn wsL_law (wsX6_init) := ggL_law_X6_init
set_option maxRecDepth 20000 in
theorem ggL_law_L_cell : GoodIn wsL_law wsL_cell := goodIn_r _ [90, 91, 92] (by decide +kernel) (by decide +kernel)
set_option maxRecDepth 20000 in
theorem gL_law_L_cell : GoodIn wsL_law (va_wsS RL 177 yL_cell wsL_cell) := goodIn_app (goodIn_of _ (by decide +kernel)) ggL_law_L_cell
set_option maxRecDepth 20000 in
theorem ggL_law_L_low : GoodIn wsL_law wsL_low := goodIn_r _ [95, 96] (by decide +kernel) (by decide +kernel)
set_option maxRecDepth 20000 in
theorem gL_law_L_low : GoodIn wsL_law (va_wsS RL 107 yL_low wsL_low) := goodIn_app (goodIn_of _ (by decide +kernel)) ggL_law_L_low
set_option maxRecDepth 20000 in
theorem ggL_law_X6_item : GoodIn wsL_law wsX6_item := goodIn_ca (goodIn_ca (goodIn_ca (goodIn_r _ [100, 101, 102, 17, 103, 104, 105, 106, 107, 2, 108, 109, 110, 111, 112, 113, 114, 115, 116, 117, 118, 31, 119, 120, 121, 122, 123, 124, 12, 13, 125, 126, 127, 128, 129, 130, 131, 132, 133, 51, 134, 135, 136, 137, 138, 139, 140, 141, 142, 143, 144, 145, 50, 146, 147, 148, 149, 150, 151, 152, 153, 154, 155, 156, 157, 158, 159, 160, 161, 162, 163, 164, 165, 166, 167, 168, 169, 170, 171, 172, 173, 174, 175, 176, 177, 178, 179, 609, 610, 611, 612, 613, 614, 615, 616, 617, 618, 619, 620, 621, 622, 623, 624, 625, 626, 646, 647, 648, 638, 639, 640] (by decide +kernel) (by decide +kernel)) (goodIn_sub (fun _ h => List.mem_append_left _ (List.mem_append_left _ (List.mem_append_right _ h))) (by decide +kernel))) (goodIn_sub (fun _ h => List.mem_append_left _ (List.mem_append_right _ h)) (by decide +kernel))) (goodIn_sub (fun _ h => List.mem_append_right _ h) (by decide +kernel))
set_option maxRecDepth 20000 in
theorem gL_law_X6_item : GoodIn wsL_law (wsV RL 181 RX6 yX6_item wsX6_item) := goodIn_app (goodIn_of _ (by decide +kernel)) ggL_law_X6_item
set_option maxRecDepth 20000 in
theorem ggL_law_L_quotes : GoodIn wsL_law wsL_quotes := goodIn_ca (goodIn_ca (goodIn_ca (goodIn_r _ [182, 5, 93, 94, 89, 95, 96, 183, 184, 185, 186, 187, 188, 189, 190, 191, 192, 2, 193, 101, 102, 194, 17, 195, 33, 196, 197, 198, 199, 109, 110, 116, 117, 118, 31, 119, 120, 200, 201, 202, 111, 112, 113, 114, 115, 203, 204, 205, 206, 207, 208, 209, 210, 211, 212, 213, 214, 215, 216, 217, 218, 219, 220, 221, 222, 51, 223, 224, 225, 105, 226, 127, 227, 228, 229, 230, 231, 232, 16, 233, 39, 234, 235, 236, 237, 43, 40, 238, 239, 240, 241, 242, 243, 244, 245, 246, 247, 248, 249, 250, 251, 252, 253, 254, 255, 256, 257, 45, 258, 259, 260, 261, 46, 262, 263, 264, 265, 266, 267, 268, 269, 270, 271, 272, 273, 44, 274, 275, 276, 277, 278, 279, 32, 280, 281, 282, 27, 283, 284, 285, 286, 12, 13, 287, 288, 289, 290, 291, 292, 293, 294, 295, 296, 297, 298, 299, 128, 129, 130, 131, 132, 133, 134, 135, 136, 137, 138, 139, 140, 141, 142, 143, 144, 145, 50, 146, 147, 148, 149, 150, 151, 152, 153, 154, 155, 156, 157, 158, 159, 160, 161, 162, 163, 164, 165, 166, 167, 168, 169, 170, 171, 172, 173, 174, 175, 176, 177, 178, 179, 609, 610, 611, 612, 613, 614, 615, 616, 617, 618, 619, 620, 621, 622, 623, 624, 625, 626, 638, 639, 640, 646, 647, 648, 649, 650, 651, 652, 653, 654, 655, 656, 657] (by decide +kernel) (by decide +kernel)) (goodIn_sub (fun _ h => List.mem_append_left _ (List.mem_append_left _ (List.mem_append_right _ h))) (by decide +kernel))) (goodIn_sub (fun _ h => List.mem_append_left _ (List.mem_append_right _ h)) (by decide +kernel))) (goodIn_sub (fun _ h => List.mem_append_right _ h) (by decide +kernel))
set_option maxRecDepth 20000 in
theorem gL_law_L_quotes : GoodIn wsL_law (va_wsS RL 185 yL_quotes wsL_quotes) := goodIn_app (goodIn_of _ (by decide +kernel)) ggL_law_L_quotes
set_option maxRecDepth 20000 in
theorem ggL_law_X6_spend : GoodIn wsL_law wsX6_spend := goodIn_ca (goodIn_ca (goodIn_r _ [303, 109, 110, 279, 21, 106, 107, 2, 108, 111, 112, 113, 114, 115, 304, 305, 306, 20, 307, 65, 609, 610, 611, 612, 613, 614, 615, 616, 627, 628, 629] (by decide +kernel) (by decide +kernel)) (goodIn_sub (fun _ h => List.mem_append_left _ (List.mem_append_right _ h)) (by decide +kernel))) (goodIn_sub (fun _ h => List.mem_append_right _ h) (by decide +kernel))
set_option maxRecDepth 20000 in
theorem gL_law_X6_spend : GoodIn wsL_law (wsV RL 189 RX6 yX6_spend wsX6_spend) := goodIn_app (goodIn_of _ (by decide +kernel)) ggL_law_X6_spend
set_option maxRecDepth 20000 in
theorem ggL_law_X6_adopt : GoodIn wsL_law wsX6_adopt := goodIn_r _ [311, 21, 312, 313, 314, 20, 315, 66, 65, 609, 610, 611, 612, 613, 614, 615, 616, 627, 628, 629] (by decide +kernel) (by decide +kernel)
set_option maxRecDepth 20000 in
theorem gL_law_X6_adopt : GoodIn wsL_law (wsV RL 192 RX6 yX6_adopt wsX6_adopt) := goodIn_app (goodIn_of _ (by decide +kernel)) ggL_law_X6_adopt
set_option maxRecDepth 20000 in
theorem ggL_law_L_published : GoodIn wsL_law wsL_published := goodIn_ca (goodIn_r _ [318, 319, 320, 89, 321, 322, 323, 324, 96, 325, 326, 327, 328, 329, 330, 331, 332, 333, 334, 335, 336, 337, 338, 339, 340, 341, 342, 343, 344, 345, 346, 347, 348, 349, 350, 351, 352, 353, 354, 355, 356, 357, 358, 359, 360, 361, 2, 362, 21, 33, 25, 27, 32, 363, 17, 203, 204, 205, 206, 101, 102, 364, 365, 366, 20, 367, 68, 368, 369, 370, 371, 66, 372, 373, 374, 375, 376, 377, 378, 379, 380, 381, 382, 383, 384, 385, 386, 387, 24, 388, 81, 79, 80, 389, 390, 117, 118, 31, 119, 120, 391, 392, 393, 394, 78, 77, 395, 396, 397, 398, 76, 399, 228, 229, 400, 401, 402, 75, 403, 404, 405, 406, 407, 408, 409, 410, 411, 412, 413, 414, 415, 416, 16, 417, 40, 43, 39, 418, 419, 420, 421, 422, 255, 256, 257, 45, 423, 424, 425, 426, 46, 427, 428, 429, 430, 431, 432, 433, 434, 435, 436, 437, 208, 209, 210, 211, 212, 213, 214, 215, 216, 217, 218, 219, 220, 221, 222, 51, 438, 439, 440, 441, 442, 443, 444, 445, 446, 447, 448, 449, 450, 451, 452, 453, 454, 455, 456, 457, 458, 459, 460, 461, 82, 462, 463, 464, 465, 466, 467, 468, 469, 470, 471, 472, 473, 474, 475, 476, 477, 116, 207, 478, 479, 480, 282, 481, 288, 298, 296, 297, 482, 483, 484, 148, 485, 299, 486, 487, 488, 489, 490, 289, 290, 609, 610, 611, 612, 613, 614, 615, 616, 617, 618, 619, 620, 621, 622, 623, 624, 625, 626, 627, 628, 629, 630, 631, 632, 633, 634, 635, 636, 637, 638, 639, 640, 646, 647, 648, 641, 642, 643, 644, 645, 649, 650, 651, 652, 653, 654, 655, 656, 657] rfl (by decide +kernel)) (goodIn_sub (fun _ h => List.mem_append_left _ (List.mem_append_left _ (List.mem_append_right _ h))) (by decide +kernel))
set_option maxRecDepth 20000 in
theorem gL_law_L_published : GoodIn wsL_law (va_wsS RL 196 yL_published wsL_published) := goodIn_app (goodIn_of _ (by decide +kernel)) ggL_law_L_published
set_option maxRecDepth 20000 in
theorem ggL_law_L_outlet : GoodIn wsL_law wsL_outlet := goodIn_r _ [185] (by decide +kernel) (by decide +kernel)
set_option maxRecDepth 20000 in
theorem gL_law_L_outlet : GoodIn wsL_law (va_wsS RL 146 yL_outlet wsL_outlet) := goodIn_app (goodIn_of _ (by decide +kernel)) ggL_law_L_outlet
set_option maxRecDepth 20000 in
theorem ggL_law_L_calls : GoodIn wsL_law wsL_calls := goodIn_ca (goodIn_ca (goodIn_ca (goodIn_r _ [188, 189, 190, 191, 192, 2, 193, 101, 102, 194, 17, 195, 33, 196, 197, 198, 199, 109, 110, 116, 117, 118, 31, 119, 120, 200, 201, 202, 111, 112, 113, 114, 115, 203, 204, 205, 206, 207, 208, 209, 210, 211, 212, 213, 214, 215, 216, 217, 218, 219, 220, 221, 222, 51, 223, 224, 225, 105, 226, 127, 227, 228, 229, 230, 231, 232, 16, 233, 39, 234, 235, 236, 237, 43, 40, 238, 239, 240, 241, 242, 243, 244, 245, 246, 247, 248, 89, 249, 250, 251, 252, 253, 254, 255, 256, 257, 45, 258, 259, 260, 261, 46, 262, 263, 264, 265, 266, 267, 268, 269, 270, 271, 272, 273, 44, 274, 275, 276, 277, 278, 279, 32, 280, 281, 282, 27, 283, 284, 285, 286, 12, 13, 287, 288, 289, 290, 291, 292, 293, 294, 295, 296, 297, 298, 299, 128, 129, 130, 131, 132, 133, 134, 135, 136, 137, 138, 139, 140, 141, 142, 143, 144, 145, 50, 146, 147, 148, 149, 150, 151, 152, 153, 154, 155, 156, 157, 158, 159, 160, 161, 162, 163, 164, 165, 166, 167, 168, 169, 170, 171, 172, 173, 174, 175, 176, 177, 178, 179, 609, 610, 611, 612, 613, 614, 615, 616, 617, 618, 619, 620, 621, 622, 623, 624, 625, 626, 638, 639, 640, 646, 647, 648, 649, 650, 651, 652, 653, 654, 655, 656, 657] (by decide +kernel) (by decide +kernel)) (goodIn_sub (fun _ h => List.mem_append_left _ (List.mem_append_left _ (List.mem_append_right _ h))) (by decide +kernel))) (goodIn_sub (fun _ h => List.mem_append_left _ (List.mem_append_right _ h)) (by decide +kernel))) (goodIn_sub (fun _ h => List.mem_append_right _ h) (by decide +kernel))
set_option maxRecDepth 20000 in
theorem gL_law_L_calls : GoodIn wsL_law (va_wsS RL 172 yL_calls wsL_calls) := goodIn_app (goodIn_of _ (by decide +kernel)) ggL_law_L_calls
set_option maxRecDepth 20000 in
theorem ggL_law_L_number : GoodIn wsL_law wsL_number := goodIn_r _ [321, 322, 323, 324, 96, 325, 326, 89, 327, 328, 329, 330, 331, 332, 333, 334, 335, 336, 337, 338, 339, 340, 341, 342, 343, 344, 345, 346, 347, 348, 349, 350, 351, 352] rfl (by decide +kernel)
set_option maxRecDepth 20000 in
theorem gL_law_L_number : GoodIn wsL_law (va_wsS RL 91 yL_number wsL_number) := goodIn_app (goodIn_of _ (by decide +kernel)) ggL_law_L_number
set_option maxRecDepth 20000 in
theorem ggL_law_L_same : GoodIn wsL_law wsL_same := goodIn_ca (goodIn_r _ [493, 494, 328, 495, 323, 496, 497, 498, 2, 499, 109, 110, 17, 33, 32, 116, 117, 118, 31, 119, 120, 93, 94, 89, 95, 96, 500, 501, 502, 503, 25, 504, 505, 506, 266, 267, 268, 269, 470, 455, 456, 24, 457, 80, 325, 326, 327, 329, 330, 331, 332, 333, 334, 335, 336, 337, 338, 339, 340, 341, 342, 343, 344, 345, 346, 347, 348, 349, 350, 351, 352, 507, 508, 509, 510, 26, 511, 512, 513, 514, 413, 515, 386, 387, 388, 81, 79, 389, 390, 391, 392, 393, 394, 78, 77, 395, 396, 397, 398, 76, 399, 228, 229, 400, 401, 402, 75, 403, 404, 405, 406, 407, 408, 409, 410, 411, 412, 414, 415, 416, 16, 417, 40, 43, 39, 418, 419, 420, 421, 422, 255, 256, 257, 45, 423, 424, 425, 426, 46, 427, 428, 429, 430, 431, 432, 433, 434, 435, 436, 437, 208, 209, 210, 211, 212, 213, 214, 215, 216, 217, 218, 219, 220, 221, 222, 51, 438, 439, 440, 441, 442, 443, 444, 445, 446, 447, 448, 449, 450, 451, 452, 453, 454, 458, 459, 460, 461, 82, 462, 463, 464, 20, 465, 68, 466, 467, 468, 469, 516, 517, 518, 519, 520, 521, 522, 523, 27, 319, 320, 321, 322, 324, 524, 525, 526, 527, 21, 106, 107, 108, 528, 529, 530, 531, 532, 533, 534, 535, 536, 537, 538, 539, 540, 541, 542, 543, 544, 545, 546, 547, 548, 549, 550, 551, 552, 553, 554, 196, 197, 198, 199, 555, 556, 557, 558, 559, 560, 561, 562, 563, 183, 184, 185, 564, 565, 566, 567, 200, 201, 202, 227, 568, 569, 570, 571, 572, 573, 574, 575, 576, 577, 578, 579, 580, 581, 582, 583, 584, 231, 232, 233, 585, 586, 587, 588, 589, 363, 590, 591, 592, 593, 207, 594, 595, 596, 597, 28, 471, 472, 473, 474, 475, 476, 477, 598, 599, 600, 282, 601, 602, 281, 287, 288, 289, 290, 295, 299, 603, 284, 285, 286, 12, 13, 604, 292, 293, 294, 296, 297, 298, 605, 479, 480, 481, 482, 483, 484, 148, 485, 486, 487, 488, 489, 490, 606, 607, 608, 353, 354, 355, 356, 357, 358, 609, 610, 611, 612, 613, 614, 615, 616, 617, 618, 619, 620, 621, 622, 623, 624, 625, 626, 638, 639, 640, 630, 631, 632, 633, 634, 635, 636, 637, 646, 647, 648, 641, 642, 643, 644, 645, 627, 628, 629, 649, 650, 651, 652, 653, 654, 655, 656, 657] rfl (by decide +kernel)) (goodIn_sub (fun _ h => List.mem_append_left _ (List.mem_append_right _ h)) (by decide +kernel))
set_option maxRecDepth 20000 in
theorem gL_law_L_same : GoodIn wsL_law (va_wsS RL 201 yL_same wsL_same) := goodIn_app (goodIn_of _ (by decide +kernel)) ggL_law_L_same
theorem dL_law_0 : decode cL_law 0 = .ok (.new 11, 3) := by decide +kernel
theorem dL_law_3 : decode cL_law 3 = .ok (.dup, 1) := by decide +kernel
theorem dL_law_4 : decode cL_law 4 = .ok (.invokespecial 176, 3) := by decide +kernel
theorem dL_law_7 : decode cL_law 7 = .ok (.astore_n 1, 1) := by decide +kernel
theorem dL_law_8 : decode cL_law 8 = .ok (.bipush 12, 2) := by decide +kernel
theorem dL_law_10 : decode cL_law 10 = .ok (.newarray .int, 2) := by decide +kernel
theorem dL_law_12 : decode cL_law 12 = .ok (.astore_n 2, 1) := by decide +kernel
theorem dL_law_13 : decode cL_law 13 = .ok (.bipush 60, 2) := by decide +kernel
theorem dL_law_15 : decode cL_law 15 = .ok (.newarray .int, 2) := by decide +kernel
theorem dL_law_17 : decode cL_law 17 = .ok (.astore_n 3, 1) := by decide +kernel
theorem dL_law_18 : decode cL_law 18 = .ok (.bipush 60, 2) := by decide +kernel
theorem dL_law_20 : decode cL_law 20 = .ok (.newarray .int, 2) := by decide +kernel
theorem dL_law_22 : decode cL_law 22 = .ok (.astore 4, 2) := by decide +kernel
theorem dL_law_24 : decode cL_law 24 = .ok (.bipush 60, 2) := by decide +kernel
theorem dL_law_26 : decode cL_law 26 = .ok (.newarray .int, 2) := by decide +kernel
theorem dL_law_28 : decode cL_law 28 = .ok (.astore 5, 2) := by decide +kernel
theorem dL_law_30 : decode cL_law 30 = .ok (.bipush 60, 2) := by decide +kernel
theorem dL_law_32 : decode cL_law 32 = .ok (.newarray .int, 2) := by decide +kernel
theorem dL_law_34 : decode cL_law 34 = .ok (.astore 6, 2) := by decide +kernel
theorem dL_law_36 : decode cL_law 36 = .ok (.bipush 60, 2) := by decide +kernel
theorem dL_law_38 : decode cL_law 38 = .ok (.newarray .int, 2) := by decide +kernel
theorem dL_law_40 : decode cL_law 40 = .ok (.astore 7, 2) := by decide +kernel
theorem dL_law_42 : decode cL_law 42 = .ok (.bipush 60, 2) := by decide +kernel
theorem dL_law_44 : decode cL_law 44 = .ok (.newarray .int, 2) := by decide +kernel
theorem dL_law_46 : decode cL_law 46 = .ok (.astore 8, 2) := by decide +kernel
theorem dL_law_48 : decode cL_law 48 = .ok (.bipush 60, 2) := by decide +kernel
theorem dL_law_50 : decode cL_law 50 = .ok (.newarray .int, 2) := by decide +kernel
theorem dL_law_52 : decode cL_law 52 = .ok (.astore 9, 2) := by decide +kernel
theorem dL_law_54 : decode cL_law 54 = .ok (.bipush 12, 2) := by decide +kernel
theorem dL_law_56 : decode cL_law 56 = .ok (.newarray .int, 2) := by decide +kernel
theorem dL_law_58 : decode cL_law 58 = .ok (.astore 10, 2) := by decide +kernel
theorem dL_law_60 : decode cL_law 60 = .ok (.bipush 12, 2) := by decide +kernel
theorem dL_law_62 : decode cL_law 62 = .ok (.newarray .int, 2) := by decide +kernel
theorem dL_law_64 : decode cL_law 64 = .ok (.astore 11, 2) := by decide +kernel
theorem dL_law_66 : decode cL_law 66 = .ok (.bipush 30, 2) := by decide +kernel
theorem dL_law_68 : decode cL_law 68 = .ok (.newarray .long, 2) := by decide +kernel
theorem dL_law_70 : decode cL_law 70 = .ok (.astore 12, 2) := by decide +kernel
theorem dL_law_72 : decode cL_law 72 = .ok (.iconst 5, 1) := by decide +kernel
theorem dL_law_73 : decode cL_law 73 = .ok (.newarray .int, 2) := by decide +kernel
theorem dL_law_75 : decode cL_law 75 = .ok (.astore 13, 2) := by decide +kernel
theorem dL_law_77 : decode cL_law 77 = .ok (.iconst 1, 1) := by decide +kernel
theorem dL_law_78 : decode cL_law 78 = .ok (.istore 14, 2) := by decide +kernel
theorem dL_law_80 : decode cL_law 80 = .ok (.iconst 0, 1) := by decide +kernel
theorem dL_law_81 : decode cL_law 81 = .ok (.istore 15, 2) := by decide +kernel
theorem dL_law_83 : decode cL_law 83 = .ok (.iload 15, 2) := by decide +kernel
theorem dL_law_85 : decode cL_law 85 = .ok (.bipush 70, 2) := by decide +kernel
theorem dL_law_87 : decode cL_law 87 = .ok (.if_icmp .ge 984, 3) := by decide +kernel
theorem dL_law_90 : decode cL_law 90 = .ok (.iload 14, 2) := by decide +kernel
theorem dL_law_92 : decode cL_law 92 = .ok (.ifCond .eq 979, 3) := by decide +kernel
theorem dL_law_95 : decode cL_law 95 = .ok (.aload_n 0, 1) := by decide +kernel
theorem dL_law_96 : decode cL_law 96 = .ok (.iload 15, 2) := by decide +kernel
theorem dL_law_98 : decode cL_law 98 = .ok (.invokestatic 177, 3) := by decide +kernel
theorem dL_law_101 : decode cL_law 101 = .ok (.istore 16, 2) := by decide +kernel
theorem dL_law_103 : decode cL_law 103 = .ok (.aload_n 0, 1) := by decide +kernel
theorem dL_law_104 : decode cL_law 104 = .ok (.iload 15, 2) := by decide +kernel
theorem dL_law_106 : decode cL_law 106 = .ok (.sipush 200, 3) := by decide +kernel
theorem dL_law_109 : decode cL_law 109 = .ok (.iadd, 1) := by decide +kernel
theorem dL_law_110 : decode cL_law 110 = .ok (.invokestatic 177, 3) := by decide +kernel
theorem dL_law_113 : decode cL_law 113 = .ok (.istore 17, 2) := by decide +kernel
theorem dL_law_115 : decode cL_law 115 = .ok (.iload 16, 2) := by decide +kernel
theorem dL_law_117 : decode cL_law 117 = .ok (.bipush 32, 2) := by decide +kernel
theorem dL_law_119 : decode cL_law 119 = .ok (.invokestatic 107, 3) := by decide +kernel
theorem dL_law_122 : decode cL_law 122 = .ok (.istore 18, 2) := by decide +kernel
