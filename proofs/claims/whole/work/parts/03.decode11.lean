theorem d_la_law_1023 : decode code 1023 = .ok (.invokevirtual 87, 3) := by decide +kernel
theorem d_la_law_1026 : decode code 1026 = .ok (.iload 5, 2) := by decide +kernel
theorem d_la_law_1028 : decode code 1028 = .ok (.if_icmp .eq 5, 3) := by decide +kernel
theorem d_la_law_1031 : decode code 1031 = .ok (.iconst 0, 1) := by decide +kernel
theorem d_la_law_1032 : decode code 1032 = .ok (.ireturn, 1) := by decide +kernel
theorem d_la_law_1033 : decode code 1033 = .ok (.iload 5, 2) := by decide +kernel
theorem d_la_law_1035 : decode code 1035 = .ok (.ifCond .ne 22, 3) := by decide +kernel
theorem d_la_law_1038 : decode code 1038 = .ok (.aload_n 3, 1) := by decide +kernel
theorem d_la_law_1039 : decode code 1039 = .ok (.iconst 0, 1) := by decide +kernel
theorem d_la_law_1040 : decode code 1040 = .ok (.laload, 1) := by decide +kernel
theorem d_la_law_1041 : decode code 1041 = .ok (.iload 6, 2) := by decide +kernel
theorem d_la_law_1043 : decode code 1043 = .ok (.ifCond .eq 7, 3) := by decide +kernel
theorem d_la_law_1046 : decode code 1046 = .ok (.lconst 1, 1) := by decide +kernel
theorem d_la_law_1047 : decode code 1047 = .ok (.goto 4, 3) := by decide +kernel
theorem d_la_law_1050 : decode code 1050 = .ok (.lconst 0, 1) := by decide +kernel
theorem d_la_law_1051 : decode code 1051 = .ok (.lcmp, 1) := by decide +kernel
theorem d_la_law_1052 : decode code 1052 = .ok (.ifCond .eq 5, 3) := by decide +kernel
theorem d_la_law_1055 : decode code 1055 = .ok (.iconst 0, 1) := by decide +kernel
theorem d_la_law_1056 : decode code 1056 = .ok (.ireturn, 1) := by decide +kernel
theorem d_la_law_1057 : decode code 1057 = .ok (.goto 114, 3) := by decide +kernel
theorem d_la_law_1060 : decode code 1060 = .ok (.aload_n 1, 1) := by decide +kernel
theorem d_la_law_1061 : decode code 1061 = .ok (.aload_n 0, 1) := by decide +kernel
theorem d_la_law_1062 : decode code 1062 = .ok (.iload 4, 2) := by decide +kernel
theorem d_la_law_1064 : decode code 1064 = .ok (.iconst 1, 1) := by decide +kernel
theorem d_la_law_1065 : decode code 1065 = .ok (.iadd, 1) := by decide +kernel
theorem d_la_law_1066 : decode code 1066 = .ok (.iaload, 1) := by decide +kernel
theorem d_la_law_1067 : decode code 1067 = .ok (.aload_n 3, 1) := by decide +kernel
theorem d_la_law_1068 : decode code 1068 = .ok (.invokestatic 145, 3) := by decide +kernel
theorem d_la_law_1071 : decode code 1071 = .ok (.istore 5, 2) := by decide +kernel
theorem d_la_law_1073 : decode code 1073 = .ok (.aload_n 2, 1) := by decide +kernel
theorem d_la_law_1074 : decode code 1074 = .ok (.aload_n 0, 1) := by decide +kernel
theorem d_la_law_1075 : decode code 1075 = .ok (.iload 4, 2) := by decide +kernel
theorem d_la_law_1077 : decode code 1077 = .ok (.iconst 1, 1) := by decide +kernel
theorem d_la_law_1078 : decode code 1078 = .ok (.iadd, 1) := by decide +kernel
theorem d_la_law_1079 : decode code 1079 = .ok (.iaload, 1) := by decide +kernel
theorem d_la_law_1080 : decode code 1080 = .ok (.invokevirtual 147, 3) := by decide +kernel
theorem d_la_law_1083 : decode code 1083 = .ok (.lstore 6, 2) := by decide +kernel
theorem d_la_law_1085 : decode code 1085 = .ok (.aload_n 2, 1) := by decide +kernel
theorem d_la_law_1086 : decode code 1086 = .ok (.invokevirtual 87, 3) := by decide +kernel
theorem d_la_law_1089 : decode code 1089 = .ok (.iload 5, 2) := by decide +kernel
theorem d_la_law_1091 : decode code 1091 = .ok (.if_icmp .eq 5, 3) := by decide +kernel
theorem d_la_law_1094 : decode code 1094 = .ok (.iconst 0, 1) := by decide +kernel
theorem d_la_law_1095 : decode code 1095 = .ok (.ireturn, 1) := by decide +kernel
theorem d_la_law_1096 : decode code 1096 = .ok (.iload 5, 2) := by decide +kernel
theorem d_la_law_1098 : decode code 1098 = .ok (.ifCond .ne 14, 3) := by decide +kernel
theorem d_la_law_1101 : decode code 1101 = .ok (.aload_n 3, 1) := by decide +kernel
theorem d_la_law_1102 : decode code 1102 = .ok (.iconst 0, 1) := by decide +kernel
theorem d_la_law_1103 : decode code 1103 = .ok (.laload, 1) := by decide +kernel
theorem d_la_law_1104 : decode code 1104 = .ok (.lload 6, 2) := by decide +kernel
theorem d_la_law_1106 : decode code 1106 = .ok (.lcmp, 1) := by decide +kernel
theorem d_la_law_1107 : decode code 1107 = .ok (.ifCond .eq 5, 3) := by decide +kernel
theorem d_la_law_1110 : decode code 1110 = .ok (.iconst 0, 1) := by decide +kernel
theorem d_la_law_1111 : decode code 1111 = .ok (.ireturn, 1) := by decide +kernel
theorem d_la_law_1112 : decode code 1112 = .ok (.goto 59, 3) := by decide +kernel
theorem d_la_law_1115 : decode code 1115 = .ok (.aload_n 1, 1) := by decide +kernel
theorem d_la_law_1116 : decode code 1116 = .ok (.aload_n 0, 1) := by decide +kernel
theorem d_la_law_1117 : decode code 1117 = .ok (.iload 4, 2) := by decide +kernel
theorem d_la_law_1119 : decode code 1119 = .ok (.iconst 1, 1) := by decide +kernel
theorem d_la_law_1120 : decode code 1120 = .ok (.iadd, 1) := by decide +kernel
theorem d_la_law_1121 : decode code 1121 = .ok (.iaload, 1) := by decide +kernel
theorem d_la_law_1122 : decode code 1122 = .ok (.aload_n 3, 1) := by decide +kernel
theorem d_la_law_1123 : decode code 1123 = .ok (.invokestatic 148, 3) := by decide +kernel
theorem d_la_law_1126 : decode code 1126 = .ok (.istore 5, 2) := by decide +kernel
theorem d_la_law_1128 : decode code 1128 = .ok (.aload_n 2, 1) := by decide +kernel
theorem d_la_law_1129 : decode code 1129 = .ok (.aload_n 0, 1) := by decide +kernel
theorem d_la_law_1130 : decode code 1130 = .ok (.iload 4, 2) := by decide +kernel
theorem d_la_law_1132 : decode code 1132 = .ok (.iconst 1, 1) := by decide +kernel
theorem d_la_law_1133 : decode code 1133 = .ok (.iadd, 1) := by decide +kernel
theorem d_la_law_1134 : decode code 1134 = .ok (.iaload, 1) := by decide +kernel
theorem d_la_law_1135 : decode code 1135 = .ok (.invokevirtual 150, 3) := by decide +kernel
theorem d_la_law_1138 : decode code 1138 = .ok (.istore 6, 2) := by decide +kernel
theorem d_la_law_1140 : decode code 1140 = .ok (.aload_n 2, 1) := by decide +kernel
theorem d_la_law_1141 : decode code 1141 = .ok (.invokevirtual 87, 3) := by decide +kernel
theorem d_la_law_1144 : decode code 1144 = .ok (.iload 5, 2) := by decide +kernel
theorem d_la_law_1146 : decode code 1146 = .ok (.if_icmp .eq 5, 3) := by decide +kernel
theorem d_la_law_1149 : decode code 1149 = .ok (.iconst 0, 1) := by decide +kernel
theorem d_la_law_1150 : decode code 1150 = .ok (.ireturn, 1) := by decide +kernel
theorem d_la_law_1151 : decode code 1151 = .ok (.iload 5, 2) := by decide +kernel
theorem d_la_law_1153 : decode code 1153 = .ok (.ifCond .ne 15, 3) := by decide +kernel
theorem d_la_law_1156 : decode code 1156 = .ok (.aload_n 3, 1) := by decide +kernel
theorem d_la_law_1157 : decode code 1157 = .ok (.iconst 0, 1) := by decide +kernel
theorem d_la_law_1158 : decode code 1158 = .ok (.laload, 1) := by decide +kernel
theorem d_la_law_1159 : decode code 1159 = .ok (.iload 6, 2) := by decide +kernel
theorem d_la_law_1161 : decode code 1161 = .ok (.i2l, 1) := by decide +kernel
theorem d_la_law_1162 : decode code 1162 = .ok (.lcmp, 1) := by decide +kernel
theorem d_la_law_1163 : decode code 1163 = .ok (.ifCond .eq 5, 3) := by decide +kernel
theorem d_la_law_1166 : decode code 1166 = .ok (.iconst 0, 1) := by decide +kernel
theorem d_la_law_1167 : decode code 1167 = .ok (.ireturn, 1) := by decide +kernel
theorem d_la_law_1168 : decode code 1168 = .ok (.goto 3, 3) := by decide +kernel
theorem d_la_law_1171 : decode code 1171 = .ok (.iinc 4 5, 3) := by decide +kernel
theorem d_la_law_1174 : decode code 1174 = .ok (.goto (-1131), 3) := by decide +kernel
theorem d_la_law_1177 : decode code 1177 = .ok (.iconst 1, 1) := by decide +kernel
theorem d_la_law_1178 : decode code 1178 = .ok (.ireturn, 1) := by decide +kernel
theorem d_in_bitCount_0 : decode b_in_bitCount 0 = .ok (.iload_n 0, 1) := by decide +kernel
theorem d_in_bitCount_1 : decode b_in_bitCount 1 = .ok (.iload_n 0, 1) := by decide +kernel
theorem d_in_bitCount_2 : decode b_in_bitCount 2 = .ok (.iconst 1, 1) := by decide +kernel
theorem d_in_bitCount_3 : decode b_in_bitCount 3 = .ok (.iushr, 1) := by decide +kernel
theorem d_in_bitCount_4 : decode b_in_bitCount 4 = .ok (.ldc_w 265, 3) := by decide +kernel
theorem d_in_bitCount_7 : decode b_in_bitCount 7 = .ok (.iand, 1) := by decide +kernel
theorem d_in_bitCount_8 : decode b_in_bitCount 8 = .ok (.isub, 1) := by decide +kernel
theorem d_in_bitCount_9 : decode b_in_bitCount 9 = .ok (.istore_n 0, 1) := by decide +kernel
theorem d_in_bitCount_10 : decode b_in_bitCount 10 = .ok (.iload_n 0, 1) := by decide +kernel
theorem d_in_bitCount_11 : decode b_in_bitCount 11 = .ok (.ldc_w 266, 3) := by decide +kernel
theorem d_in_bitCount_14 : decode b_in_bitCount 14 = .ok (.iand, 1) := by decide +kernel
theorem d_in_bitCount_15 : decode b_in_bitCount 15 = .ok (.iload_n 0, 1) := by decide +kernel
theorem d_in_bitCount_16 : decode b_in_bitCount 16 = .ok (.iconst 2, 1) := by decide +kernel
theorem d_in_bitCount_17 : decode b_in_bitCount 17 = .ok (.iushr, 1) := by decide +kernel
theorem d_in_bitCount_18 : decode b_in_bitCount 18 = .ok (.ldc_w 266, 3) := by decide +kernel
theorem d_in_bitCount_21 : decode b_in_bitCount 21 = .ok (.iand, 1) := by decide +kernel
theorem d_in_bitCount_22 : decode b_in_bitCount 22 = .ok (.iadd, 1) := by decide +kernel
theorem d_in_bitCount_23 : decode b_in_bitCount 23 = .ok (.istore_n 0, 1) := by decide +kernel
theorem d_in_bitCount_24 : decode b_in_bitCount 24 = .ok (.iload_n 0, 1) := by decide +kernel
theorem d_in_bitCount_25 : decode b_in_bitCount 25 = .ok (.iload_n 0, 1) := by decide +kernel
theorem d_in_bitCount_26 : decode b_in_bitCount 26 = .ok (.iconst 4, 1) := by decide +kernel
theorem d_in_bitCount_27 : decode b_in_bitCount 27 = .ok (.iushr, 1) := by decide +kernel
theorem d_in_bitCount_28 : decode b_in_bitCount 28 = .ok (.iadd, 1) := by decide +kernel
theorem d_in_bitCount_29 : decode b_in_bitCount 29 = .ok (.ldc_w 267, 3) := by decide +kernel
theorem d_in_bitCount_32 : decode b_in_bitCount 32 = .ok (.iand, 1) := by decide +kernel
theorem d_in_bitCount_33 : decode b_in_bitCount 33 = .ok (.istore_n 0, 1) := by decide +kernel
theorem d_in_bitCount_34 : decode b_in_bitCount 34 = .ok (.iload_n 0, 1) := by decide +kernel
theorem d_in_bitCount_35 : decode b_in_bitCount 35 = .ok (.iload_n 0, 1) := by decide +kernel
theorem d_in_bitCount_36 : decode b_in_bitCount 36 = .ok (.bipush 8, 2) := by decide +kernel
theorem d_in_bitCount_38 : decode b_in_bitCount 38 = .ok (.iushr, 1) := by decide +kernel
theorem d_in_bitCount_39 : decode b_in_bitCount 39 = .ok (.iadd, 1) := by decide +kernel
theorem d_in_bitCount_40 : decode b_in_bitCount 40 = .ok (.istore_n 0, 1) := by decide +kernel
theorem d_in_bitCount_41 : decode b_in_bitCount 41 = .ok (.iload_n 0, 1) := by decide +kernel
theorem d_in_bitCount_42 : decode b_in_bitCount 42 = .ok (.iload_n 0, 1) := by decide +kernel
theorem d_in_bitCount_43 : decode b_in_bitCount 43 = .ok (.bipush 16, 2) := by decide +kernel
theorem d_in_bitCount_45 : decode b_in_bitCount 45 = .ok (.iushr, 1) := by decide +kernel
theorem d_in_bitCount_46 : decode b_in_bitCount 46 = .ok (.iadd, 1) := by decide +kernel
theorem d_in_bitCount_47 : decode b_in_bitCount 47 = .ok (.istore_n 0, 1) := by decide +kernel
theorem d_in_bitCount_48 : decode b_in_bitCount 48 = .ok (.iload_n 0, 1) := by decide +kernel
theorem d_in_bitCount_49 : decode b_in_bitCount 49 = .ok (.bipush 63, 2) := by decide +kernel
theorem d_in_bitCount_51 : decode b_in_bitCount 51 = .ok (.iand, 1) := by decide +kernel
theorem d_in_bitCount_52 : decode b_in_bitCount 52 = .ok (.ireturn, 1) := by decide +kernel
