theorem dL_acts_961 : decode cL_acts 961 = .ok (.if_icmp .ne 21, 3) := by decide +kernel
theorem dL_acts_964 : decode cL_acts 964 = .ok (.aload 4, 2) := by decide +kernel
theorem dL_acts_966 : decode cL_acts 966 = .ok (.iconst 4, 1) := by decide +kernel
theorem dL_acts_967 : decode cL_acts 967 = .ok (.iload 14, 2) := by decide +kernel
theorem dL_acts_969 : decode cL_acts 969 = .ok (.imul, 1) := by decide +kernel
theorem dL_acts_970 : decode cL_acts 970 = .ok (.iconst 1, 1) := by decide +kernel
theorem dL_acts_971 : decode cL_acts 971 = .ok (.iadd, 1) := by decide +kernel
theorem dL_acts_972 : decode cL_acts 972 = .ok (.iaload, 1) := by decide +kernel
theorem dL_acts_973 : decode cL_acts 973 = .ok (.iload 12, 2) := by decide +kernel
theorem dL_acts_975 : decode cL_acts 975 = .ok (.if_icmp .ne 7, 3) := by decide +kernel
theorem dL_acts_978 : decode cL_acts 978 = .ok (.iconst 1, 1) := by decide +kernel
theorem dL_acts_979 : decode cL_acts 979 = .ok (.goto 4, 3) := by decide +kernel
theorem dL_acts_982 : decode cL_acts 982 = .ok (.iconst 0, 1) := by decide +kernel
theorem dL_acts_983 : decode cL_acts 983 = .ok (.istore 15, 2) := by decide +kernel
theorem dL_acts_985 : decode cL_acts 985 = .ok (.aload 4, 2) := by decide +kernel
theorem dL_acts_987 : decode cL_acts 987 = .ok (.iconst 4, 1) := by decide +kernel
theorem dL_acts_988 : decode cL_acts 988 = .ok (.iload 14, 2) := by decide +kernel
theorem dL_acts_990 : decode cL_acts 990 = .ok (.imul, 1) := by decide +kernel
theorem dL_acts_991 : decode cL_acts 991 = .ok (.iconst 2, 1) := by decide +kernel
theorem dL_acts_992 : decode cL_acts 992 = .ok (.iadd, 1) := by decide +kernel
theorem dL_acts_993 : decode cL_acts 993 = .ok (.dup2, 1) := by decide +kernel
theorem dL_acts_994 : decode cL_acts 994 = .ok (.iaload, 1) := by decide +kernel
theorem dL_acts_995 : decode cL_acts 995 = .ok (.iload 15, 2) := by decide +kernel
theorem dL_acts_997 : decode cL_acts 997 = .ok (.ifCond .eq 7, 3) := by decide +kernel
theorem dL_acts_1000 : decode cL_acts 1000 = .ok (.iconst 1, 1) := by decide +kernel
theorem dL_acts_1001 : decode cL_acts 1001 = .ok (.goto 4, 3) := by decide +kernel
theorem dL_acts_1004 : decode cL_acts 1004 = .ok (.iconst 0, 1) := by decide +kernel
theorem dL_acts_1005 : decode cL_acts 1005 = .ok (.ior, 1) := by decide +kernel
theorem dL_acts_1006 : decode cL_acts 1006 = .ok (.iastore, 1) := by decide +kernel
theorem dL_acts_1007 : decode cL_acts 1007 = .ok (.aload 4, 2) := by decide +kernel
theorem dL_acts_1009 : decode cL_acts 1009 = .ok (.iconst 4, 1) := by decide +kernel
theorem dL_acts_1010 : decode cL_acts 1010 = .ok (.iload 13, 2) := by decide +kernel
theorem dL_acts_1012 : decode cL_acts 1012 = .ok (.imul, 1) := by decide +kernel
theorem dL_acts_1013 : decode cL_acts 1013 = .ok (.iconst 2, 1) := by decide +kernel
theorem dL_acts_1014 : decode cL_acts 1014 = .ok (.iadd, 1) := by decide +kernel
theorem dL_acts_1015 : decode cL_acts 1015 = .ok (.dup2, 1) := by decide +kernel
theorem dL_acts_1016 : decode cL_acts 1016 = .ok (.iaload, 1) := by decide +kernel
theorem dL_acts_1017 : decode cL_acts 1017 = .ok (.iload 15, 2) := by decide +kernel
theorem dL_acts_1019 : decode cL_acts 1019 = .ok (.ifCond .eq 7, 3) := by decide +kernel
theorem dL_acts_1022 : decode cL_acts 1022 = .ok (.iconst 1, 1) := by decide +kernel
theorem dL_acts_1023 : decode cL_acts 1023 = .ok (.goto 4, 3) := by decide +kernel
theorem dL_acts_1026 : decode cL_acts 1026 = .ok (.iconst 0, 1) := by decide +kernel
theorem dL_acts_1027 : decode cL_acts 1027 = .ok (.ior, 1) := by decide +kernel
theorem dL_acts_1028 : decode cL_acts 1028 = .ok (.iastore, 1) := by decide +kernel
theorem dL_acts_1029 : decode cL_acts 1029 = .ok (.iinc 14 1, 3) := by decide +kernel
theorem dL_acts_1032 : decode cL_acts 1032 = .ok (.goto (-87), 3) := by decide +kernel
theorem dL_acts_1035 : decode cL_acts 1035 = .ok (.aload 5, 2) := by decide +kernel
theorem dL_acts_1037 : decode cL_acts 1037 = .ok (.iconst 2, 1) := by decide +kernel
theorem dL_acts_1038 : decode cL_acts 1038 = .ok (.dup2, 1) := by decide +kernel
theorem dL_acts_1039 : decode cL_acts 1039 = .ok (.iaload, 1) := by decide +kernel
theorem dL_acts_1040 : decode cL_acts 1040 = .ok (.iconst 1, 1) := by decide +kernel
theorem dL_acts_1041 : decode cL_acts 1041 = .ok (.iadd, 1) := by decide +kernel
theorem dL_acts_1042 : decode cL_acts 1042 = .ok (.iastore, 1) := by decide +kernel
theorem dL_acts_1043 : decode cL_acts 1043 = .ok (.aload_n 0, 1) := by decide +kernel
theorem dL_acts_1044 : decode cL_acts 1044 = .ok (.iload 9, 2) := by decide +kernel
theorem dL_acts_1046 : decode cL_acts 1046 = .ok (.iload 12, 2) := by decide +kernel
theorem dL_acts_1048 : decode cL_acts 1048 = .ok (.invokestatic 140, 3) := by decide +kernel
theorem dL_acts_1051 : decode cL_acts 1051 = .ok (.iload 13, 2) := by decide +kernel
theorem dL_acts_1053 : decode cL_acts 1053 = .ok (.if_icmp .ne 44, 3) := by decide +kernel
theorem dL_acts_1056 : decode cL_acts 1056 = .ok (.aload_n 1, 1) := by decide +kernel
theorem dL_acts_1057 : decode cL_acts 1057 = .ok (.iload 9, 2) := by decide +kernel
theorem dL_acts_1059 : decode cL_acts 1059 = .ok (.iload 12, 2) := by decide +kernel
theorem dL_acts_1061 : decode cL_acts 1061 = .ok (.invokestatic 140, 3) := by decide +kernel
theorem dL_acts_1064 : decode cL_acts 1064 = .ok (.iload 13, 2) := by decide +kernel
theorem dL_acts_1066 : decode cL_acts 1066 = .ok (.if_icmp .ne 31, 3) := by decide +kernel
theorem dL_acts_1069 : decode cL_acts 1069 = .ok (.aload_n 0, 1) := by decide +kernel
theorem dL_acts_1070 : decode cL_acts 1070 = .ok (.iload 9, 2) := by decide +kernel
theorem dL_acts_1072 : decode cL_acts 1072 = .ok (.bipush 6, 2) := by decide +kernel
theorem dL_acts_1074 : decode cL_acts 1074 = .ok (.invokestatic 140, 3) := by decide +kernel
theorem dL_acts_1077 : decode cL_acts 1077 = .ok (.ldc 18, 2) := by decide +kernel
theorem dL_acts_1079 : decode cL_acts 1079 = .ok (.if_icmp .ne 18, 3) := by decide +kernel
theorem dL_acts_1082 : decode cL_acts 1082 = .ok (.aload_n 0, 1) := by decide +kernel
theorem dL_acts_1083 : decode cL_acts 1083 = .ok (.iconst (-1), 1) := by decide +kernel
theorem dL_acts_1084 : decode cL_acts 1084 = .ok (.iconst 0, 1) := by decide +kernel
theorem dL_acts_1085 : decode cL_acts 1085 = .ok (.invokestatic 140, 3) := by decide +kernel
theorem dL_acts_1088 : decode cL_acts 1088 = .ok (.ldc 32, 2) := by decide +kernel
theorem dL_acts_1090 : decode cL_acts 1090 = .ok (.if_icmp .ne 7, 3) := by decide +kernel
theorem dL_acts_1093 : decode cL_acts 1093 = .ok (.iconst 1, 1) := by decide +kernel
theorem dL_acts_1094 : decode cL_acts 1094 = .ok (.goto 4, 3) := by decide +kernel
theorem dL_acts_1097 : decode cL_acts 1097 = .ok (.iconst 0, 1) := by decide +kernel
theorem dL_acts_1098 : decode cL_acts 1098 = .ok (.ireturn, 1) := by decide +kernel
theorem dL_acts_1099 : decode cL_acts 1099 = .ok (.iload 8, 2) := by decide +kernel
theorem dL_acts_1101 : decode cL_acts 1101 = .ok (.bipush 20, 2) := by decide +kernel
theorem dL_acts_1103 : decode cL_acts 1103 = .ok (.if_icmp .ge 445, 3) := by decide +kernel
theorem dL_acts_1106 : decode cL_acts 1106 = .ok (.iload 6, 2) := by decide +kernel
theorem dL_acts_1108 : decode cL_acts 1108 = .ok (.bipush 7, 2) := by decide +kernel
theorem dL_acts_1110 : decode cL_acts 1110 = .ok (.ishr, 1) := by decide +kernel
theorem dL_acts_1111 : decode cL_acts 1111 = .ok (.aload 5, 2) := by decide +kernel
theorem dL_acts_1113 : decode cL_acts 1113 = .ok (.iconst 2, 1) := by decide +kernel
theorem dL_acts_1114 : decode cL_acts 1114 = .ok (.iaload, 1) := by decide +kernel
theorem dL_acts_1115 : decode cL_acts 1115 = .ok (.invokestatic 123, 3) := by decide +kernel
theorem dL_acts_1118 : decode cL_acts 1118 = .ok (.istore 12, 2) := by decide +kernel
theorem dL_acts_1120 : decode cL_acts 1120 = .ok (.iload 7, 2) := by decide +kernel
theorem dL_acts_1122 : decode cL_acts 1122 = .ok (.iconst 3, 1) := by decide +kernel
theorem dL_acts_1123 : decode cL_acts 1123 = .ok (.invokestatic 123, 3) := by decide +kernel
theorem dL_acts_1126 : decode cL_acts 1126 = .ok (.ifCond .ne 7, 3) := by decide +kernel
theorem dL_acts_1129 : decode cL_acts 1129 = .ok (.iconst 1, 1) := by decide +kernel
theorem dL_acts_1130 : decode cL_acts 1130 = .ok (.goto 4, 3) := by decide +kernel
theorem dL_acts_1133 : decode cL_acts 1133 = .ok (.iconst 0, 1) := by decide +kernel
theorem dL_acts_1134 : decode cL_acts 1134 = .ok (.istore 13, 2) := by decide +kernel
theorem dL_acts_1136 : decode cL_acts 1136 = .ok (.iload 7, 2) := by decide +kernel
theorem dL_acts_1138 : decode cL_acts 1138 = .ok (.iconst 2, 1) := by decide +kernel
theorem dL_acts_1139 : decode cL_acts 1139 = .ok (.ishr, 1) := by decide +kernel
theorem dL_acts_1140 : decode cL_acts 1140 = .ok (.iconst 4, 1) := by decide +kernel
theorem dL_acts_1141 : decode cL_acts 1141 = .ok (.invokestatic 123, 3) := by decide +kernel
theorem dL_acts_1144 : decode cL_acts 1144 = .ok (.ifCond .ne 8, 3) := by decide +kernel
theorem dL_acts_1147 : decode cL_acts 1147 = .ok (.ldc 107, 2) := by decide +kernel
theorem dL_acts_1149 : decode cL_acts 1149 = .ok (.goto 41, 3) := by decide +kernel
theorem dL_acts_1152 : decode cL_acts 1152 = .ok (.aload_n 2, 1) := by decide +kernel
theorem dL_acts_1153 : decode cL_acts 1153 = .ok (.bipush 16, 2) := by decide +kernel
theorem dL_acts_1155 : decode cL_acts 1155 = .ok (.aload 4, 2) := by decide +kernel
theorem dL_acts_1157 : decode cL_acts 1157 = .ok (.iconst 4, 1) := by decide +kernel
theorem dL_acts_1158 : decode cL_acts 1158 = .ok (.iload 12, 2) := by decide +kernel
theorem dL_acts_1160 : decode cL_acts 1160 = .ok (.imul, 1) := by decide +kernel
theorem dL_acts_1161 : decode cL_acts 1161 = .ok (.iaload, 1) := by decide +kernel
theorem dL_acts_1162 : decode cL_acts 1162 = .ok (.iadd, 1) := by decide +kernel
theorem dL_acts_1163 : decode cL_acts 1163 = .ok (.iaload, 1) := by decide +kernel
theorem dL_acts_1164 : decode cL_acts 1164 = .ok (.ifCond .ge 18, 3) := by decide +kernel
theorem dL_acts_1167 : decode cL_acts 1167 = .ok (.iload 7, 2) := by decide +kernel
theorem dL_acts_1169 : decode cL_acts 1169 = .ok (.iconst 4, 1) := by decide +kernel
theorem dL_acts_1170 : decode cL_acts 1170 = .ok (.ishr, 1) := by decide +kernel
theorem dL_acts_1171 : decode cL_acts 1171 = .ok (.bipush 41, 2) := by decide +kernel
theorem dL_acts_1173 : decode cL_acts 1173 = .ok (.invokestatic 123, 3) := by decide +kernel
theorem dL_acts_1176 : decode cL_acts 1176 = .ok (.bipush 20, 2) := by decide +kernel
theorem dL_acts_1178 : decode cL_acts 1178 = .ok (.isub, 1) := by decide +kernel
theorem dL_acts_1179 : decode cL_acts 1179 = .ok (.goto 11, 3) := by decide +kernel
theorem dL_acts_1182 : decode cL_acts 1182 = .ok (.iload 7, 2) := by decide +kernel
theorem dL_acts_1184 : decode cL_acts 1184 = .ok (.iconst 4, 1) := by decide +kernel
theorem dL_acts_1185 : decode cL_acts 1185 = .ok (.ishr, 1) := by decide +kernel
theorem dL_acts_1186 : decode cL_acts 1186 = .ok (.iconst 2, 1) := by decide +kernel
theorem dL_acts_1187 : decode cL_acts 1187 = .ok (.invokestatic 123, 3) := by decide +kernel
theorem dL_acts_1190 : decode cL_acts 1190 = .ok (.istore 14, 2) := by decide +kernel
theorem dL_acts_1192 : decode cL_acts 1192 = .ok (.iload 7, 2) := by decide +kernel
theorem dL_acts_1194 : decode cL_acts 1194 = .ok (.bipush 10, 2) := by decide +kernel
theorem dL_acts_1196 : decode cL_acts 1196 = .ok (.ishr, 1) := by decide +kernel
theorem dL_acts_1197 : decode cL_acts 1197 = .ok (.iconst 3, 1) := by decide +kernel
theorem dL_acts_1198 : decode cL_acts 1198 = .ok (.invokestatic 123, 3) := by decide +kernel
theorem dL_acts_1201 : decode cL_acts 1201 = .ok (.ifCond .le 34, 3) := by decide +kernel
theorem dL_acts_1204 : decode cL_acts 1204 = .ok (.aload_n 0, 1) := by decide +kernel
theorem dL_acts_1205 : decode cL_acts 1205 = .ok (.invokevirtual 81, 3) := by decide +kernel
theorem dL_acts_1208 : decode cL_acts 1208 = .ok (.sipush 1440, 3) := by decide +kernel
theorem dL_acts_1211 : decode cL_acts 1211 = .ok (.irem, 1) := by decide +kernel
theorem dL_acts_1212 : decode cL_acts 1212 = .ok (.iload 7, 2) := by decide +kernel
theorem dL_acts_1214 : decode cL_acts 1214 = .ok (.bipush 12, 2) := by decide +kernel
theorem dL_acts_1216 : decode cL_acts 1216 = .ok (.ishr, 1) := by decide +kernel
theorem dL_acts_1217 : decode cL_acts 1217 = .ok (.bipush 40, 2) := by decide +kernel
theorem dL_acts_1219 : decode cL_acts 1219 = .ok (.invokestatic 123, 3) := by decide +kernel
theorem dL_acts_1222 : decode cL_acts 1222 = .ok (.iadd, 1) := by decide +kernel
theorem dL_acts_1223 : decode cL_acts 1223 = .ok (.bipush 10, 2) := by decide +kernel
theorem dL_acts_1225 : decode cL_acts 1225 = .ok (.isub, 1) := by decide +kernel
theorem dL_acts_1226 : decode cL_acts 1226 = .ok (.sipush 1440, 3) := by decide +kernel
theorem dL_acts_1229 : decode cL_acts 1229 = .ok (.invokestatic 123, 3) := by decide +kernel
theorem dL_acts_1232 : decode cL_acts 1232 = .ok (.goto 14, 3) := by decide +kernel
theorem dL_acts_1235 : decode cL_acts 1235 = .ok (.iload 7, 2) := by decide +kernel
theorem dL_acts_1237 : decode cL_acts 1237 = .ok (.bipush 10, 2) := by decide +kernel
theorem dL_acts_1239 : decode cL_acts 1239 = .ok (.ishr, 1) := by decide +kernel
theorem dL_acts_1240 : decode cL_acts 1240 = .ok (.sipush 1440, 3) := by decide +kernel
theorem dL_acts_1243 : decode cL_acts 1243 = .ok (.invokestatic 123, 3) := by decide +kernel
theorem dL_acts_1246 : decode cL_acts 1246 = .ok (.istore 15, 2) := by decide +kernel
theorem dL_acts_1248 : decode cL_acts 1248 = .ok (.iload 13, 2) := by decide +kernel
theorem dL_acts_1250 : decode cL_acts 1250 = .ok (.ifCond .eq 24, 3) := by decide +kernel
theorem dL_acts_1253 : decode cL_acts 1253 = .ok (.aload_n 0, 1) := by decide +kernel
theorem dL_acts_1254 : decode cL_acts 1254 = .ok (.invokevirtual 81, 3) := by decide +kernel
theorem dL_acts_1257 : decode cL_acts 1257 = .ok (.sipush 1440, 3) := by decide +kernel
theorem dL_acts_1260 : decode cL_acts 1260 = .ok (.idiv, 1) := by decide +kernel
theorem dL_acts_1261 : decode cL_acts 1261 = .ok (.iload 7, 2) := by decide +kernel
theorem dL_acts_1263 : decode cL_acts 1263 = .ok (.bipush 22, 2) := by decide +kernel
theorem dL_acts_1265 : decode cL_acts 1265 = .ok (.ishr, 1) := by decide +kernel
theorem dL_acts_1266 : decode cL_acts 1266 = .ok (.iconst 2, 1) := by decide +kernel
theorem dL_acts_1267 : decode cL_acts 1267 = .ok (.invokestatic 123, 3) := by decide +kernel
