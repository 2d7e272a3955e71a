theorem dLAW_941 : decode code 941 = .ok (.iload 5, 2) := by decide +kernel
theorem dLAW_943 : decode code 943 = .ok (.if_icmp .eq 5, 3) := by decide +kernel
theorem dLAW_946 : decode code 946 = .ok (.iconst 0, 1) := by decide +kernel
theorem dLAW_947 : decode code 947 = .ok (.ireturn, 1) := by decide +kernel
theorem dLAW_948 : decode code 948 = .ok (.iload 5, 2) := by decide +kernel
theorem dLAW_950 : decode code 950 = .ok (.ifCond .ne 15, 3) := by decide +kernel
theorem dLAW_953 : decode code 953 = .ok (.aload_n 3, 1) := by decide +kernel
theorem dLAW_954 : decode code 954 = .ok (.iconst 0, 1) := by decide +kernel
theorem dLAW_955 : decode code 955 = .ok (.laload, 1) := by decide +kernel
theorem dLAW_956 : decode code 956 = .ok (.iload 6, 2) := by decide +kernel
theorem dLAW_958 : decode code 958 = .ok (.i2l, 1) := by decide +kernel
theorem dLAW_959 : decode code 959 = .ok (.lcmp, 1) := by decide +kernel
theorem dLAW_960 : decode code 960 = .ok (.ifCond .eq 5, 3) := by decide +kernel
theorem dLAW_963 : decode code 963 = .ok (.iconst 0, 1) := by decide +kernel
theorem dLAW_964 : decode code 964 = .ok (.ireturn, 1) := by decide +kernel
theorem dLAW_965 : decode code 965 = .ok (.goto 96, 3) := by decide +kernel
theorem dLAW_968 : decode code 968 = .ok (.aload_n 1, 1) := by decide +kernel
theorem dLAW_969 : decode code 969 = .ok (.invokevirtual 123, 3) := by decide +kernel
theorem dLAW_972 : decode code 972 = .ok (.aload_n 2, 1) := by decide +kernel
theorem dLAW_973 : decode code 973 = .ok (.invokevirtual 126, 3) := by decide +kernel
theorem dLAW_976 : decode code 976 = .ok (.if_icmp .eq 85, 3) := by decide +kernel
theorem dLAW_979 : decode code 979 = .ok (.iconst 0, 1) := by decide +kernel
theorem dLAW_980 : decode code 980 = .ok (.ireturn, 1) := by decide +kernel
theorem dLAW_981 : decode code 981 = .ok (.aload_n 1, 1) := by decide +kernel
theorem dLAW_982 : decode code 982 = .ok (.aload_n 0, 1) := by decide +kernel
theorem dLAW_983 : decode code 983 = .ok (.iload 4, 2) := by decide +kernel
theorem dLAW_985 : decode code 985 = .ok (.iconst 1, 1) := by decide +kernel
theorem dLAW_986 : decode code 986 = .ok (.iadd, 1) := by decide +kernel
theorem dLAW_987 : decode code 987 = .ok (.iaload, 1) := by decide +kernel
theorem dLAW_988 : decode code 988 = .ok (.aload_n 0, 1) := by decide +kernel
theorem dLAW_989 : decode code 989 = .ok (.iload 4, 2) := by decide +kernel
theorem dLAW_991 : decode code 991 = .ok (.iconst 2, 1) := by decide +kernel
theorem dLAW_992 : decode code 992 = .ok (.iadd, 1) := by decide +kernel
theorem dLAW_993 : decode code 993 = .ok (.iaload, 1) := by decide +kernel
theorem dLAW_994 : decode code 994 = .ok (.aload_n 0, 1) := by decide +kernel
theorem dLAW_995 : decode code 995 = .ok (.iload 4, 2) := by decide +kernel
theorem dLAW_997 : decode code 997 = .ok (.iconst 3, 1) := by decide +kernel
theorem dLAW_998 : decode code 998 = .ok (.iadd, 1) := by decide +kernel
theorem dLAW_999 : decode code 999 = .ok (.iaload, 1) := by decide +kernel
theorem dLAW_1000 : decode code 1000 = .ok (.aload_n 3, 1) := by decide +kernel
theorem dLAW_1001 : decode code 1001 = .ok (.invokestatic 127, 3) := by decide +kernel
theorem dLAW_1004 : decode code 1004 = .ok (.istore 5, 2) := by decide +kernel
theorem dLAW_1006 : decode code 1006 = .ok (.aload_n 2, 1) := by decide +kernel
theorem dLAW_1007 : decode code 1007 = .ok (.aload_n 0, 1) := by decide +kernel
theorem dLAW_1008 : decode code 1008 = .ok (.iload 4, 2) := by decide +kernel
theorem dLAW_1010 : decode code 1010 = .ok (.iconst 1, 1) := by decide +kernel
theorem dLAW_1011 : decode code 1011 = .ok (.iadd, 1) := by decide +kernel
theorem dLAW_1012 : decode code 1012 = .ok (.iaload, 1) := by decide +kernel
theorem dLAW_1013 : decode code 1013 = .ok (.aload_n 0, 1) := by decide +kernel
theorem dLAW_1014 : decode code 1014 = .ok (.iload 4, 2) := by decide +kernel
theorem dLAW_1016 : decode code 1016 = .ok (.iconst 2, 1) := by decide +kernel
theorem dLAW_1017 : decode code 1017 = .ok (.iadd, 1) := by decide +kernel
theorem dLAW_1018 : decode code 1018 = .ok (.iaload, 1) := by decide +kernel
theorem dLAW_1019 : decode code 1019 = .ok (.aload_n 0, 1) := by decide +kernel
theorem dLAW_1020 : decode code 1020 = .ok (.iload 4, 2) := by decide +kernel
theorem dLAW_1022 : decode code 1022 = .ok (.iconst 3, 1) := by decide +kernel
theorem dLAW_1023 : decode code 1023 = .ok (.iadd, 1) := by decide +kernel
theorem dLAW_1024 : decode code 1024 = .ok (.iaload, 1) := by decide +kernel
theorem dLAW_1025 : decode code 1025 = .ok (.invokevirtual 130, 3) := by decide +kernel
theorem dLAW_1028 : decode code 1028 = .ok (.istore 6, 2) := by decide +kernel
theorem dLAW_1030 : decode code 1030 = .ok (.aload_n 2, 1) := by decide +kernel
theorem dLAW_1031 : decode code 1031 = .ok (.invokevirtual 69, 3) := by decide +kernel
theorem dLAW_1034 : decode code 1034 = .ok (.iload 5, 2) := by decide +kernel
theorem dLAW_1036 : decode code 1036 = .ok (.if_icmp .eq 5, 3) := by decide +kernel
theorem dLAW_1039 : decode code 1039 = .ok (.iconst 0, 1) := by decide +kernel
theorem dLAW_1040 : decode code 1040 = .ok (.ireturn, 1) := by decide +kernel
theorem dLAW_1041 : decode code 1041 = .ok (.iload 5, 2) := by decide +kernel
theorem dLAW_1043 : decode code 1043 = .ok (.ifCond .ne 15, 3) := by decide +kernel
theorem dLAW_1046 : decode code 1046 = .ok (.aload_n 3, 1) := by decide +kernel
theorem dLAW_1047 : decode code 1047 = .ok (.iconst 0, 1) := by decide +kernel
theorem dLAW_1048 : decode code 1048 = .ok (.laload, 1) := by decide +kernel
theorem dLAW_1049 : decode code 1049 = .ok (.iload 6, 2) := by decide +kernel
theorem dLAW_1051 : decode code 1051 = .ok (.i2l, 1) := by decide +kernel
theorem dLAW_1052 : decode code 1052 = .ok (.lcmp, 1) := by decide +kernel
theorem dLAW_1053 : decode code 1053 = .ok (.ifCond .eq 5, 3) := by decide +kernel
theorem dLAW_1056 : decode code 1056 = .ok (.iconst 0, 1) := by decide +kernel
theorem dLAW_1057 : decode code 1057 = .ok (.ireturn, 1) := by decide +kernel
theorem dLAW_1058 : decode code 1058 = .ok (.goto 3, 3) := by decide +kernel
theorem dLAW_1061 : decode code 1061 = .ok (.iinc 4 5, 3) := by decide +kernel
theorem dLAW_1064 : decode code 1064 = .ok (.goto (-1041), 3) := by decide +kernel
theorem dLAW_1067 : decode code 1067 = .ok (.iconst 1, 1) := by decide +kernel
theorem dLAW_1068 : decode code 1068 = .ok (.ireturn, 1) := by decide +kernel
