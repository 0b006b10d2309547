theorem dL_law_905 : decode cL_law 905 = .ok (.aload 13, 2) := by decide +kernel
theorem dL_law_907 : decode cL_law 907 = .ok (.iconst 1, 1) := by decide +kernel
theorem dL_law_908 : decode cL_law 908 = .ok (.iaload, 1) := by decide +kernel
theorem dL_law_909 : decode cL_law 909 = .ok (.iconst 1, 1) := by decide +kernel
theorem dL_law_910 : decode cL_law 910 = .ok (.isub, 1) := by decide +kernel
theorem dL_law_911 : decode cL_law 911 = .ok (.iconst 0, 1) := by decide +kernel
theorem dL_law_912 : decode cL_law 912 = .ok (.aload_n 2, 1) := by decide +kernel
theorem dL_law_913 : decode cL_law 913 = .ok (.aload_n 3, 1) := by decide +kernel
theorem dL_law_914 : decode cL_law 914 = .ok (.aload 4, 2) := by decide +kernel
theorem dL_law_916 : decode cL_law 916 = .ok (.aload 5, 2) := by decide +kernel
theorem dL_law_918 : decode cL_law 918 = .ok (.aload 6, 2) := by decide +kernel
theorem dL_law_920 : decode cL_law 920 = .ok (.aload 7, 2) := by decide +kernel
theorem dL_law_922 : decode cL_law 922 = .ok (.aload 8, 2) := by decide +kernel
theorem dL_law_924 : decode cL_law 924 = .ok (.aload 9, 2) := by decide +kernel
theorem dL_law_926 : decode cL_law 926 = .ok (.aload 13, 2) := by decide +kernel
theorem dL_law_928 : decode cL_law 928 = .ok (.invokestatic 91, 3) := by decide +kernel
theorem dL_law_931 : decode cL_law 931 = .ok (.i2l, 1) := by decide +kernel
theorem dL_law_932 : decode cL_law 932 = .ok (.lastore, 1) := by decide +kernel
theorem dL_law_933 : decode cL_law 933 = .ok (.aload 12, 2) := by decide +kernel
theorem dL_law_935 : decode cL_law 935 = .ok (.iload 25, 2) := by decide +kernel
theorem dL_law_937 : decode cL_law 937 = .ok (.iconst 5, 1) := by decide +kernel
theorem dL_law_938 : decode cL_law 938 = .ok (.iadd, 1) := by decide +kernel
theorem dL_law_939 : decode cL_law 939 = .ok (.aload 13, 2) := by decide +kernel
theorem dL_law_941 : decode cL_law 941 = .ok (.iconst 1, 1) := by decide +kernel
theorem dL_law_942 : decode cL_law 942 = .ok (.iaload, 1) := by decide +kernel
theorem dL_law_943 : decode cL_law 943 = .ok (.iconst 1, 1) := by decide +kernel
theorem dL_law_944 : decode cL_law 944 = .ok (.isub, 1) := by decide +kernel
theorem dL_law_945 : decode cL_law 945 = .ok (.i2l, 1) := by decide +kernel
theorem dL_law_946 : decode cL_law 946 = .ok (.lastore, 1) := by decide +kernel
theorem dL_law_947 : decode cL_law 947 = .ok (.aload 12, 2) := by decide +kernel
theorem dL_law_949 : decode cL_law 949 = .ok (.iload 25, 2) := by decide +kernel
theorem dL_law_951 : decode cL_law 951 = .ok (.bipush 7, 2) := by decide +kernel
theorem dL_law_953 : decode cL_law 953 = .ok (.iadd, 1) := by decide +kernel
theorem dL_law_954 : decode cL_law 954 = .ok (.iload 21, 2) := by decide +kernel
theorem dL_law_956 : decode cL_law 956 = .ok (.i2l, 1) := by decide +kernel
theorem dL_law_957 : decode cL_law 957 = .ok (.lastore, 1) := by decide +kernel
theorem dL_law_958 : decode cL_law 958 = .ok (.aload 12, 2) := by decide +kernel
theorem dL_law_960 : decode cL_law 960 = .ok (.iload 25, 2) := by decide +kernel
theorem dL_law_962 : decode cL_law 962 = .ok (.bipush 8, 2) := by decide +kernel
theorem dL_law_964 : decode cL_law 964 = .ok (.iadd, 1) := by decide +kernel
theorem dL_law_965 : decode cL_law 965 = .ok (.aload 13, 2) := by decide +kernel
theorem dL_law_967 : decode cL_law 967 = .ok (.iconst 1, 1) := by decide +kernel
theorem dL_law_968 : decode cL_law 968 = .ok (.iaload, 1) := by decide +kernel
theorem dL_law_969 : decode cL_law 969 = .ok (.iconst 1, 1) := by decide +kernel
theorem dL_law_970 : decode cL_law 970 = .ok (.isub, 1) := by decide +kernel
theorem dL_law_971 : decode cL_law 971 = .ok (.i2l, 1) := by decide +kernel
theorem dL_law_972 : decode cL_law 972 = .ok (.lastore, 1) := by decide +kernel
theorem dL_law_973 : decode cL_law 973 = .ok (.aload 13, 2) := by decide +kernel
theorem dL_law_975 : decode cL_law 975 = .ok (.iconst 3, 1) := by decide +kernel
theorem dL_law_976 : decode cL_law 976 = .ok (.dup2, 1) := by decide +kernel
theorem dL_law_977 : decode cL_law 977 = .ok (.iaload, 1) := by decide +kernel
theorem dL_law_978 : decode cL_law 978 = .ok (.iconst 1, 1) := by decide +kernel
theorem dL_law_979 : decode cL_law 979 = .ok (.iadd, 1) := by decide +kernel
theorem dL_law_980 : decode cL_law 980 = .ok (.iastore, 1) := by decide +kernel
theorem dL_law_981 : decode cL_law 981 = .ok (.aload_n 1, 1) := by decide +kernel
theorem dL_law_982 : decode cL_law 982 = .ok (.iconst 4, 1) := by decide +kernel
theorem dL_law_983 : decode cL_law 983 = .ok (.iload 21, 2) := by decide +kernel
theorem dL_law_985 : decode cL_law 985 = .ok (.iload 22, 2) := by decide +kernel
theorem dL_law_987 : decode cL_law 987 = .ok (.iload 23, 2) := by decide +kernel
theorem dL_law_989 : decode cL_law 989 = .ok (.iload 24, 2) := by decide +kernel
theorem dL_law_991 : decode cL_law 991 = .ok (.invokestatic 172, 3) := by decide +kernel
theorem dL_law_994 : decode cL_law 994 = .ok (.iload 20, 2) := by decide +kernel
theorem dL_law_996 : decode cL_law 996 = .ok (.ifCond .eq 12, 3) := by decide +kernel
theorem dL_law_999 : decode cL_law 999 = .ok (.aload 13, 2) := by decide +kernel
theorem dL_law_1001 : decode cL_law 1001 = .ok (.iconst 3, 1) := by decide +kernel
theorem dL_law_1002 : decode cL_law 1002 = .ok (.iaload, 1) := by decide +kernel
theorem dL_law_1003 : decode cL_law 1003 = .ok (.iconst 1, 1) := by decide +kernel
theorem dL_law_1004 : decode cL_law 1004 = .ok (.isub, 1) := by decide +kernel
theorem dL_law_1005 : decode cL_law 1005 = .ok (.goto 6, 3) := by decide +kernel
theorem dL_law_1008 : decode cL_law 1008 = .ok (.sipush (-1003), 3) := by decide +kernel
theorem dL_law_1011 : decode cL_law 1011 = .ok (.if_icmp .ne 7, 3) := by decide +kernel
theorem dL_law_1014 : decode cL_law 1014 = .ok (.iconst 1, 1) := by decide +kernel
theorem dL_law_1015 : decode cL_law 1015 = .ok (.goto 4, 3) := by decide +kernel
theorem dL_law_1018 : decode cL_law 1018 = .ok (.iconst 0, 1) := by decide +kernel
theorem dL_law_1019 : decode cL_law 1019 = .ok (.istore 14, 2) := by decide +kernel
theorem dL_law_1021 : decode cL_law 1021 = .ok (.iload 14, 2) := by decide +kernel
theorem dL_law_1023 : decode cL_law 1023 = .ok (.ifCond .eq 39, 3) := by decide +kernel
theorem dL_law_1026 : decode cL_law 1026 = .ok (.aload_n 1, 1) := by decide +kernel
theorem dL_law_1027 : decode cL_law 1027 = .ok (.iload 19, 2) := by decide +kernel
theorem dL_law_1029 : decode cL_law 1029 = .ok (.iconst 1, 1) := by decide +kernel
theorem dL_law_1030 : decode cL_law 1030 = .ok (.ishr, 1) := by decide +kernel
theorem dL_law_1031 : decode cL_law 1031 = .ok (.ldc 200, 2) := by decide +kernel
theorem dL_law_1033 : decode cL_law 1033 = .ok (.iand, 1) := by decide +kernel
theorem dL_law_1034 : decode cL_law 1034 = .ok (.aload_n 2, 1) := by decide +kernel
theorem dL_law_1035 : decode cL_law 1035 = .ok (.aload_n 3, 1) := by decide +kernel
theorem dL_law_1036 : decode cL_law 1036 = .ok (.aload 4, 2) := by decide +kernel
theorem dL_law_1038 : decode cL_law 1038 = .ok (.aload 5, 2) := by decide +kernel
theorem dL_law_1040 : decode cL_law 1040 = .ok (.aload 6, 2) := by decide +kernel
theorem dL_law_1042 : decode cL_law 1042 = .ok (.aload 7, 2) := by decide +kernel
theorem dL_law_1044 : decode cL_law 1044 = .ok (.aload 8, 2) := by decide +kernel
theorem dL_law_1046 : decode cL_law 1046 = .ok (.aload 9, 2) := by decide +kernel
theorem dL_law_1048 : decode cL_law 1048 = .ok (.aload 12, 2) := by decide +kernel
theorem dL_law_1050 : decode cL_law 1050 = .ok (.aload 13, 2) := by decide +kernel
theorem dL_law_1052 : decode cL_law 1052 = .ok (.invokestatic 201, 3) := by decide +kernel
theorem dL_law_1055 : decode cL_law 1055 = .ok (.ifCond .eq 7, 3) := by decide +kernel
theorem dL_law_1058 : decode cL_law 1058 = .ok (.iconst 1, 1) := by decide +kernel
theorem dL_law_1059 : decode cL_law 1059 = .ok (.goto 4, 3) := by decide +kernel
theorem dL_law_1062 : decode cL_law 1062 = .ok (.iconst 0, 1) := by decide +kernel
theorem dL_law_1063 : decode cL_law 1063 = .ok (.istore 14, 2) := by decide +kernel
theorem dL_law_1065 : decode cL_law 1065 = .ok (.iinc 15 1, 3) := by decide +kernel
theorem dL_law_1068 : decode cL_law 1068 = .ok (.goto (-985), 3) := by decide +kernel
theorem dL_law_1071 : decode cL_law 1071 = .ok (.iload 14, 2) := by decide +kernel
theorem dL_law_1073 : decode cL_law 1073 = .ok (.ireturn, 1) := by decide +kernel
