theorem d_law_978 : decode code 978 = .ok (.istore 5, 2) := by decide +kernel
theorem d_law_980 : decode code 980 = .ok (.aload_n 2, 1) := by decide +kernel
theorem d_law_981 : decode code 981 = .ok (.aload_n 0, 1) := by decide +kernel
theorem d_law_982 : decode code 982 = .ok (.iload 4, 2) := by decide +kernel
theorem d_law_984 : decode code 984 = .ok (.iconst 1, 1) := by decide +kernel
theorem d_law_985 : decode code 985 = .ok (.iadd, 1) := by decide +kernel
theorem d_law_986 : decode code 986 = .ok (.iaload, 1) := by decide +kernel
theorem d_law_987 : decode code 987 = .ok (.aload_n 0, 1) := by decide +kernel
theorem d_law_988 : decode code 988 = .ok (.iload 4, 2) := by decide +kernel
theorem d_law_990 : decode code 990 = .ok (.iconst 2, 1) := by decide +kernel
theorem d_law_991 : decode code 991 = .ok (.iadd, 1) := by decide +kernel
theorem d_law_992 : decode code 992 = .ok (.iaload, 1) := by decide +kernel
theorem d_law_993 : decode code 993 = .ok (.invokevirtual 122, 3) := by decide +kernel
theorem d_law_996 : decode code 996 = .ok (.istore 6, 2) := by decide +kernel
theorem d_law_998 : decode code 998 = .ok (.aload_n 2, 1) := by decide +kernel
theorem d_law_999 : decode code 999 = .ok (.invokevirtual 82, 3) := by decide +kernel
theorem d_law_1002 : decode code 1002 = .ok (.iload 5, 2) := by decide +kernel
theorem d_law_1004 : decode code 1004 = .ok (.if_icmp .eq 5, 3) := by decide +kernel
theorem d_law_1007 : decode code 1007 = .ok (.iconst 0, 1) := by decide +kernel
theorem d_law_1008 : decode code 1008 = .ok (.ireturn, 1) := by decide +kernel
theorem d_law_1009 : decode code 1009 = .ok (.iload 5, 2) := by decide +kernel
theorem d_law_1011 : decode code 1011 = .ok (.ifCond .ne 15, 3) := by decide +kernel
theorem d_law_1014 : decode code 1014 = .ok (.aload_n 3, 1) := by decide +kernel
theorem d_law_1015 : decode code 1015 = .ok (.iconst 0, 1) := by decide +kernel
theorem d_law_1016 : decode code 1016 = .ok (.laload, 1) := by decide +kernel
theorem d_law_1017 : decode code 1017 = .ok (.iload 6, 2) := by decide +kernel
theorem d_law_1019 : decode code 1019 = .ok (.i2l, 1) := by decide +kernel
theorem d_law_1020 : decode code 1020 = .ok (.lcmp, 1) := by decide +kernel
theorem d_law_1021 : decode code 1021 = .ok (.ifCond .eq 5, 3) := by decide +kernel
theorem d_law_1024 : decode code 1024 = .ok (.iconst 0, 1) := by decide +kernel
theorem d_law_1025 : decode code 1025 = .ok (.ireturn, 1) := by decide +kernel
theorem d_law_1026 : decode code 1026 = .ok (.goto 207, 3) := by decide +kernel
theorem d_law_1029 : decode code 1029 = .ok (.aload_n 1, 1) := by decide +kernel
theorem d_law_1030 : decode code 1030 = .ok (.aload_n 0, 1) := by decide +kernel
theorem d_law_1031 : decode code 1031 = .ok (.iload 4, 2) := by decide +kernel
theorem d_law_1033 : decode code 1033 = .ok (.iconst 1, 1) := by decide +kernel
theorem d_law_1034 : decode code 1034 = .ok (.iadd, 1) := by decide +kernel
theorem d_law_1035 : decode code 1035 = .ok (.iaload, 1) := by decide +kernel
theorem d_law_1036 : decode code 1036 = .ok (.aload_n 0, 1) := by decide +kernel
theorem d_law_1037 : decode code 1037 = .ok (.iload 4, 2) := by decide +kernel
theorem d_law_1039 : decode code 1039 = .ok (.iconst 2, 1) := by decide +kernel
theorem d_law_1040 : decode code 1040 = .ok (.iadd, 1) := by decide +kernel
theorem d_law_1041 : decode code 1041 = .ok (.iaload, 1) := by decide +kernel
theorem d_law_1042 : decode code 1042 = .ok (.aload_n 3, 1) := by decide +kernel
theorem d_law_1043 : decode code 1043 = .ok (.invokestatic 123, 3) := by decide +kernel
theorem d_law_1046 : decode code 1046 = .ok (.istore 5, 2) := by decide +kernel
theorem d_law_1048 : decode code 1048 = .ok (.aload_n 2, 1) := by decide +kernel
theorem d_law_1049 : decode code 1049 = .ok (.aload_n 0, 1) := by decide +kernel
theorem d_law_1050 : decode code 1050 = .ok (.iload 4, 2) := by decide +kernel
theorem d_law_1052 : decode code 1052 = .ok (.iconst 1, 1) := by decide +kernel
theorem d_law_1053 : decode code 1053 = .ok (.iadd, 1) := by decide +kernel
theorem d_law_1054 : decode code 1054 = .ok (.iaload, 1) := by decide +kernel
theorem d_law_1055 : decode code 1055 = .ok (.aload_n 0, 1) := by decide +kernel
theorem d_law_1056 : decode code 1056 = .ok (.iload 4, 2) := by decide +kernel
theorem d_law_1058 : decode code 1058 = .ok (.iconst 2, 1) := by decide +kernel
theorem d_law_1059 : decode code 1059 = .ok (.iadd, 1) := by decide +kernel
theorem d_law_1060 : decode code 1060 = .ok (.iaload, 1) := by decide +kernel
theorem d_law_1061 : decode code 1061 = .ok (.invokevirtual 125, 3) := by decide +kernel
theorem d_law_1064 : decode code 1064 = .ok (.istore 6, 2) := by decide +kernel
theorem d_law_1066 : decode code 1066 = .ok (.aload_n 2, 1) := by decide +kernel
