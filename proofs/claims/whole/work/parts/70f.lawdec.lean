theorem d_Law_law_966 : decode m_Law_law.2.1 966 = .ok (.goto 496, 3) := by decide +kernel
theorem d_Law_law_969 : decode m_Law_law.2.1 969 = .ok (.aload_n 1, 1) := by decide +kernel
theorem d_Law_law_970 : decode m_Law_law.2.1 970 = .ok (.invokevirtual 109, 3) := by decide +kernel
theorem d_Law_law_973 : decode m_Law_law.2.1 973 = .ok (.aload_n 2, 1) := by decide +kernel
theorem d_Law_law_974 : decode m_Law_law.2.1 974 = .ok (.invokevirtual 112, 3) := by decide +kernel
theorem d_Law_law_977 : decode m_Law_law.2.1 977 = .ok (.goto 485, 3) := by decide +kernel
theorem d_Law_law_980 : decode m_Law_law.2.1 980 = .ok (.aload_n 1, 1) := by decide +kernel
theorem d_Law_law_981 : decode m_Law_law.2.1 981 = .ok (.aload_n 0, 1) := by decide +kernel
theorem d_Law_law_982 : decode m_Law_law.2.1 982 = .ok (.iload 4, 2) := by decide +kernel
theorem d_Law_law_984 : decode m_Law_law.2.1 984 = .ok (.iconst 1, 1) := by decide +kernel
theorem d_Law_law_985 : decode m_Law_law.2.1 985 = .ok (.iadd, 1) := by decide +kernel
theorem d_Law_law_986 : decode m_Law_law.2.1 986 = .ok (.iaload, 1) := by decide +kernel
theorem d_Law_law_987 : decode m_Law_law.2.1 987 = .ok (.aload_n 0, 1) := by decide +kernel
theorem d_Law_law_988 : decode m_Law_law.2.1 988 = .ok (.iload 4, 2) := by decide +kernel
theorem d_Law_law_990 : decode m_Law_law.2.1 990 = .ok (.iconst 2, 1) := by decide +kernel
theorem d_Law_law_991 : decode m_Law_law.2.1 991 = .ok (.iadd, 1) := by decide +kernel
theorem d_Law_law_992 : decode m_Law_law.2.1 992 = .ok (.iaload, 1) := by decide +kernel
theorem d_Law_law_993 : decode m_Law_law.2.1 993 = .ok (.aload_n 3, 1) := by decide +kernel
theorem d_Law_law_994 : decode m_Law_law.2.1 994 = .ok (.invokestatic 113, 3) := by decide +kernel
theorem d_Law_law_997 : decode m_Law_law.2.1 997 = .ok (.istore 5, 2) := by decide +kernel
theorem d_Law_law_999 : decode m_Law_law.2.1 999 = .ok (.aload_n 2, 1) := by decide +kernel
theorem d_Law_law_1000 : decode m_Law_law.2.1 1000 = .ok (.aload_n 0, 1) := by decide +kernel
theorem d_Law_law_1001 : decode m_Law_law.2.1 1001 = .ok (.iload 4, 2) := by decide +kernel
theorem d_Law_law_1003 : decode m_Law_law.2.1 1003 = .ok (.iconst 1, 1) := by decide +kernel
theorem d_Law_law_1004 : decode m_Law_law.2.1 1004 = .ok (.iadd, 1) := by decide +kernel
theorem d_Law_law_1005 : decode m_Law_law.2.1 1005 = .ok (.iaload, 1) := by decide +kernel
theorem d_Law_law_1006 : decode m_Law_law.2.1 1006 = .ok (.aload_n 0, 1) := by decide +kernel
theorem d_Law_law_1007 : decode m_Law_law.2.1 1007 = .ok (.iload 4, 2) := by decide +kernel
theorem d_Law_law_1009 : decode m_Law_law.2.1 1009 = .ok (.iconst 2, 1) := by decide +kernel
theorem d_Law_law_1010 : decode m_Law_law.2.1 1010 = .ok (.iadd, 1) := by decide +kernel
theorem d_Law_law_1011 : decode m_Law_law.2.1 1011 = .ok (.iaload, 1) := by decide +kernel
theorem d_Law_law_1012 : decode m_Law_law.2.1 1012 = .ok (.invokevirtual 116, 3) := by decide +kernel
theorem d_Law_law_1015 : decode m_Law_law.2.1 1015 = .ok (.istore 6, 2) := by decide +kernel
theorem d_Law_law_1017 : decode m_Law_law.2.1 1017 = .ok (.aload_n 2, 1) := by decide +kernel
theorem d_Law_law_1018 : decode m_Law_law.2.1 1018 = .ok (.invokevirtual 73, 3) := by decide +kernel
theorem d_Law_law_1021 : decode m_Law_law.2.1 1021 = .ok (.iload 5, 2) := by decide +kernel
theorem d_Law_law_1023 : decode m_Law_law.2.1 1023 = .ok (.if_icmp .eq 5, 3) := by decide +kernel
theorem d_Law_law_1026 : decode m_Law_law.2.1 1026 = .ok (.iconst 0, 1) := by decide +kernel
theorem d_Law_law_1027 : decode m_Law_law.2.1 1027 = .ok (.ireturn, 1) := by decide +kernel
theorem d_Law_law_1028 : decode m_Law_law.2.1 1028 = .ok (.iload 5, 2) := by decide +kernel
theorem d_Law_law_1030 : decode m_Law_law.2.1 1030 = .ok (.ifCond .ne 15, 3) := by decide +kernel
theorem d_Law_law_1033 : decode m_Law_law.2.1 1033 = .ok (.aload_n 3, 1) := by decide +kernel
theorem d_Law_law_1034 : decode m_Law_law.2.1 1034 = .ok (.iconst 0, 1) := by decide +kernel
theorem d_Law_law_1035 : decode m_Law_law.2.1 1035 = .ok (.laload, 1) := by decide +kernel
theorem d_Law_law_1036 : decode m_Law_law.2.1 1036 = .ok (.iload 6, 2) := by decide +kernel
theorem d_Law_law_1038 : decode m_Law_law.2.1 1038 = .ok (.i2l, 1) := by decide +kernel
theorem d_Law_law_1039 : decode m_Law_law.2.1 1039 = .ok (.lcmp, 1) := by decide +kernel
theorem d_Law_law_1040 : decode m_Law_law.2.1 1040 = .ok (.ifCond .eq 5, 3) := by decide +kernel
theorem d_Law_law_1043 : decode m_Law_law.2.1 1043 = .ok (.iconst 0, 1) := by decide +kernel
theorem d_Law_law_1044 : decode m_Law_law.2.1 1044 = .ok (.ireturn, 1) := by decide +kernel
theorem d_Law_law_1045 : decode m_Law_law.2.1 1045 = .ok (.goto 417, 3) := by decide +kernel
theorem d_Law_law_1048 : decode m_Law_law.2.1 1048 = .ok (.aload_n 1, 1) := by decide +kernel
theorem d_Law_law_1049 : decode m_Law_law.2.1 1049 = .ok (.aload_n 0, 1) := by decide +kernel
theorem d_Law_law_1050 : decode m_Law_law.2.1 1050 = .ok (.iload 4, 2) := by decide +kernel
theorem d_Law_law_1052 : decode m_Law_law.2.1 1052 = .ok (.iconst 1, 1) := by decide +kernel
theorem d_Law_law_1053 : decode m_Law_law.2.1 1053 = .ok (.iadd, 1) := by decide +kernel
theorem d_Law_law_1054 : decode m_Law_law.2.1 1054 = .ok (.iaload, 1) := by decide +kernel
theorem d_Law_law_1055 : decode m_Law_law.2.1 1055 = .ok (.aload_n 3, 1) := by decide +kernel
theorem d_Law_law_1056 : decode m_Law_law.2.1 1056 = .ok (.invokestatic 117, 3) := by decide +kernel
theorem d_Law_law_1059 : decode m_Law_law.2.1 1059 = .ok (.istore 5, 2) := by decide +kernel
theorem d_Law_law_1061 : decode m_Law_law.2.1 1061 = .ok (.aload_n 2, 1) := by decide +kernel
theorem d_Law_law_1062 : decode m_Law_law.2.1 1062 = .ok (.aload_n 0, 1) := by decide +kernel
theorem d_Law_law_1063 : decode m_Law_law.2.1 1063 = .ok (.iload 4, 2) := by decide +kernel
theorem d_Law_law_1065 : decode m_Law_law.2.1 1065 = .ok (.iconst 1, 1) := by decide +kernel
theorem d_Law_law_1066 : decode m_Law_law.2.1 1066 = .ok (.iadd, 1) := by decide +kernel
theorem d_Law_law_1067 : decode m_Law_law.2.1 1067 = .ok (.iaload, 1) := by decide +kernel
theorem d_Law_law_1068 : decode m_Law_law.2.1 1068 = .ok (.invokevirtual 119, 3) := by decide +kernel
theorem d_Law_law_1071 : decode m_Law_law.2.1 1071 = .ok (.istore 6, 2) := by decide +kernel
theorem d_Law_law_1073 : decode m_Law_law.2.1 1073 = .ok (.aload_n 2, 1) := by decide +kernel
theorem d_Law_law_1074 : decode m_Law_law.2.1 1074 = .ok (.invokevirtual 73, 3) := by decide +kernel
theorem d_Law_law_1077 : decode m_Law_law.2.1 1077 = .ok (.iload 5, 2) := by decide +kernel
theorem d_Law_law_1079 : decode m_Law_law.2.1 1079 = .ok (.if_icmp .eq 5, 3) := by decide +kernel
theorem d_Law_law_1082 : decode m_Law_law.2.1 1082 = .ok (.iconst 0, 1) := by decide +kernel
theorem d_Law_law_1083 : decode m_Law_law.2.1 1083 = .ok (.ireturn, 1) := by decide +kernel
theorem d_Law_law_1084 : decode m_Law_law.2.1 1084 = .ok (.iload 5, 2) := by decide +kernel
theorem d_Law_law_1086 : decode m_Law_law.2.1 1086 = .ok (.ifCond .ne 15, 3) := by decide +kernel
theorem d_Law_law_1089 : decode m_Law_law.2.1 1089 = .ok (.aload_n 3, 1) := by decide +kernel
theorem d_Law_law_1090 : decode m_Law_law.2.1 1090 = .ok (.iconst 0, 1) := by decide +kernel
theorem d_Law_law_1091 : decode m_Law_law.2.1 1091 = .ok (.laload, 1) := by decide +kernel
theorem d_Law_law_1092 : decode m_Law_law.2.1 1092 = .ok (.iload 6, 2) := by decide +kernel
theorem d_Law_law_1094 : decode m_Law_law.2.1 1094 = .ok (.i2l, 1) := by decide +kernel
theorem d_Law_law_1095 : decode m_Law_law.2.1 1095 = .ok (.lcmp, 1) := by decide +kernel
theorem d_Law_law_1096 : decode m_Law_law.2.1 1096 = .ok (.ifCond .eq 5, 3) := by decide +kernel
theorem d_Law_law_1099 : decode m_Law_law.2.1 1099 = .ok (.iconst 0, 1) := by decide +kernel
theorem d_Law_law_1100 : decode m_Law_law.2.1 1100 = .ok (.ireturn, 1) := by decide +kernel
theorem d_Law_law_1101 : decode m_Law_law.2.1 1101 = .ok (.goto 361, 3) := by decide +kernel
theorem d_Law_law_1104 : decode m_Law_law.2.1 1104 = .ok (.aload_n 1, 1) := by decide +kernel
theorem d_Law_law_1105 : decode m_Law_law.2.1 1105 = .ok (.aload_n 0, 1) := by decide +kernel
theorem d_Law_law_1106 : decode m_Law_law.2.1 1106 = .ok (.iload 4, 2) := by decide +kernel
theorem d_Law_law_1108 : decode m_Law_law.2.1 1108 = .ok (.iconst 1, 1) := by decide +kernel
theorem d_Law_law_1109 : decode m_Law_law.2.1 1109 = .ok (.iadd, 1) := by decide +kernel
theorem d_Law_law_1110 : decode m_Law_law.2.1 1110 = .ok (.iaload, 1) := by decide +kernel
theorem d_Law_law_1111 : decode m_Law_law.2.1 1111 = .ok (.aload_n 0, 1) := by decide +kernel
theorem d_Law_law_1112 : decode m_Law_law.2.1 1112 = .ok (.iload 4, 2) := by decide +kernel
theorem d_Law_law_1114 : decode m_Law_law.2.1 1114 = .ok (.iconst 2, 1) := by decide +kernel
theorem d_Law_law_1115 : decode m_Law_law.2.1 1115 = .ok (.iadd, 1) := by decide +kernel
theorem d_Law_law_1116 : decode m_Law_law.2.1 1116 = .ok (.iaload, 1) := by decide +kernel
theorem d_Law_law_1117 : decode m_Law_law.2.1 1117 = .ok (.aload_n 3, 1) := by decide +kernel
theorem d_Law_law_1118 : decode m_Law_law.2.1 1118 = .ok (.invokestatic 120, 3) := by decide +kernel
theorem d_Law_law_1121 : decode m_Law_law.2.1 1121 = .ok (.istore 5, 2) := by decide +kernel
theorem d_Law_law_1123 : decode m_Law_law.2.1 1123 = .ok (.aload_n 2, 1) := by decide +kernel
theorem d_Law_law_1124 : decode m_Law_law.2.1 1124 = .ok (.aload_n 0, 1) := by decide +kernel
theorem d_Law_law_1125 : decode m_Law_law.2.1 1125 = .ok (.iload 4, 2) := by decide +kernel
theorem d_Law_law_1127 : decode m_Law_law.2.1 1127 = .ok (.iconst 1, 1) := by decide +kernel
theorem d_Law_law_1128 : decode m_Law_law.2.1 1128 = .ok (.iadd, 1) := by decide +kernel
theorem d_Law_law_1129 : decode m_Law_law.2.1 1129 = .ok (.iaload, 1) := by decide +kernel
theorem d_Law_law_1130 : decode m_Law_law.2.1 1130 = .ok (.aload_n 0, 1) := by decide +kernel
theorem d_Law_law_1131 : decode m_Law_law.2.1 1131 = .ok (.iload 4, 2) := by decide +kernel
theorem d_Law_law_1133 : decode m_Law_law.2.1 1133 = .ok (.iconst 2, 1) := by decide +kernel
theorem d_Law_law_1134 : decode m_Law_law.2.1 1134 = .ok (.iadd, 1) := by decide +kernel
theorem d_Law_law_1135 : decode m_Law_law.2.1 1135 = .ok (.iaload, 1) := by decide +kernel
theorem d_Law_law_1136 : decode m_Law_law.2.1 1136 = .ok (.invokevirtual 122, 3) := by decide +kernel
theorem d_Law_law_1139 : decode m_Law_law.2.1 1139 = .ok (.lstore 6, 2) := by decide +kernel
theorem d_Law_law_1141 : decode m_Law_law.2.1 1141 = .ok (.aload_n 2, 1) := by decide +kernel
theorem d_Law_law_1142 : decode m_Law_law.2.1 1142 = .ok (.invokevirtual 73, 3) := by decide +kernel
theorem d_Law_law_1145 : decode m_Law_law.2.1 1145 = .ok (.iload 5, 2) := by decide +kernel
theorem d_Law_law_1147 : decode m_Law_law.2.1 1147 = .ok (.if_icmp .eq 5, 3) := by decide +kernel
theorem d_Law_law_1150 : decode m_Law_law.2.1 1150 = .ok (.iconst 0, 1) := by decide +kernel
theorem d_Law_law_1151 : decode m_Law_law.2.1 1151 = .ok (.ireturn, 1) := by decide +kernel
theorem d_Law_law_1152 : decode m_Law_law.2.1 1152 = .ok (.iload 5, 2) := by decide +kernel
