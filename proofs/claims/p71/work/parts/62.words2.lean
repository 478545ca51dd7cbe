theorem dL_law_972 : decode cL_law 972 = .ok (.aload_n 1, 1) := by decide +kernel
theorem dL_law_973 : decode cL_law 973 = .ok (.aload_n 0, 1) := by decide +kernel
theorem dL_law_974 : decode cL_law 974 = .ok (.iload_n 3, 1) := by decide +kernel
theorem dL_law_975 : decode cL_law 975 = .ok (.iconst 1, 1) := by decide +kernel
theorem dL_law_976 : decode cL_law 976 = .ok (.iadd, 1) := by decide +kernel
theorem dL_law_977 : decode cL_law 977 = .ok (.iaload, 1) := by decide +kernel
theorem dL_law_978 : decode cL_law 978 = .ok (.invokevirtual 129, 3) := by decide +kernel
theorem dL_law_981 : decode cL_law 981 = .ok (.pop, 1) := by decide +kernel
theorem dL_law_982 : decode cL_law 982 = .ok (.aload_n 2, 1) := by decide +kernel
theorem dL_law_983 : decode cL_law 983 = .ok (.aload_n 0, 1) := by decide +kernel
theorem dL_law_984 : decode cL_law 984 = .ok (.iload_n 3, 1) := by decide +kernel
theorem dL_law_985 : decode cL_law 985 = .ok (.iconst 1, 1) := by decide +kernel
theorem dL_law_986 : decode cL_law 986 = .ok (.iadd, 1) := by decide +kernel
theorem dL_law_987 : decode cL_law 987 = .ok (.iaload, 1) := by decide +kernel
theorem dL_law_988 : decode cL_law 988 = .ok (.invokevirtual 132, 3) := by decide +kernel
theorem dL_law_991 : decode cL_law 991 = .ok (.pop, 1) := by decide +kernel
theorem dL_law_992 : decode cL_law 992 = .ok (.goto 1126, 3) := by decide +kernel
theorem dL_law_995 : decode cL_law 995 = .ok (.aload_n 1, 1) := by decide +kernel
theorem dL_law_996 : decode cL_law 996 = .ok (.aload_n 0, 1) := by decide +kernel
theorem dL_law_997 : decode cL_law 997 = .ok (.iload_n 3, 1) := by decide +kernel
theorem dL_law_998 : decode cL_law 998 = .ok (.iconst 1, 1) := by decide +kernel
theorem dL_law_999 : decode cL_law 999 = .ok (.iadd, 1) := by decide +kernel
theorem dL_law_1000 : decode cL_law 1000 = .ok (.iaload, 1) := by decide +kernel
theorem dL_law_1001 : decode cL_law 1001 = .ok (.invokevirtual 133, 3) := by decide +kernel
theorem dL_law_1004 : decode cL_law 1004 = .ok (.pop, 1) := by decide +kernel
theorem dL_law_1005 : decode cL_law 1005 = .ok (.aload_n 2, 1) := by decide +kernel
theorem dL_law_1006 : decode cL_law 1006 = .ok (.aload_n 0, 1) := by decide +kernel
theorem dL_law_1007 : decode cL_law 1007 = .ok (.iload_n 3, 1) := by decide +kernel
theorem dL_law_1008 : decode cL_law 1008 = .ok (.iconst 1, 1) := by decide +kernel
theorem dL_law_1009 : decode cL_law 1009 = .ok (.iadd, 1) := by decide +kernel
theorem dL_law_1010 : decode cL_law 1010 = .ok (.iaload, 1) := by decide +kernel
theorem dL_law_1011 : decode cL_law 1011 = .ok (.invokevirtual 136, 3) := by decide +kernel
theorem dL_law_1014 : decode cL_law 1014 = .ok (.pop, 1) := by decide +kernel
theorem dL_law_1015 : decode cL_law 1015 = .ok (.goto 1103, 3) := by decide +kernel
theorem dL_law_1018 : decode cL_law 1018 = .ok (.aload_n 1, 1) := by decide +kernel
theorem dL_law_1019 : decode cL_law 1019 = .ok (.aload_n 0, 1) := by decide +kernel
theorem dL_law_1020 : decode cL_law 1020 = .ok (.iload_n 3, 1) := by decide +kernel
theorem dL_law_1021 : decode cL_law 1021 = .ok (.iconst 1, 1) := by decide +kernel
theorem dL_law_1022 : decode cL_law 1022 = .ok (.iadd, 1) := by decide +kernel
theorem dL_law_1023 : decode cL_law 1023 = .ok (.iaload, 1) := by decide +kernel
theorem dL_law_1024 : decode cL_law 1024 = .ok (.invokevirtual 137, 3) := by decide +kernel
theorem dL_law_1027 : decode cL_law 1027 = .ok (.pop, 1) := by decide +kernel
theorem dL_law_1028 : decode cL_law 1028 = .ok (.aload_n 2, 1) := by decide +kernel
theorem dL_law_1029 : decode cL_law 1029 = .ok (.aload_n 0, 1) := by decide +kernel
theorem dL_law_1030 : decode cL_law 1030 = .ok (.iload_n 3, 1) := by decide +kernel
theorem dL_law_1031 : decode cL_law 1031 = .ok (.iconst 1, 1) := by decide +kernel
theorem dL_law_1032 : decode cL_law 1032 = .ok (.iadd, 1) := by decide +kernel
theorem dL_law_1033 : decode cL_law 1033 = .ok (.iaload, 1) := by decide +kernel
theorem dL_law_1034 : decode cL_law 1034 = .ok (.invokevirtual 140, 3) := by decide +kernel
theorem dL_law_1037 : decode cL_law 1037 = .ok (.pop, 1) := by decide +kernel
theorem dL_law_1038 : decode cL_law 1038 = .ok (.goto 1080, 3) := by decide +kernel
theorem dL_law_1041 : decode cL_law 1041 = .ok (.aload_n 1, 1) := by decide +kernel
theorem dL_law_1042 : decode cL_law 1042 = .ok (.aload_n 0, 1) := by decide +kernel
theorem dL_law_1043 : decode cL_law 1043 = .ok (.iload_n 3, 1) := by decide +kernel
theorem dL_law_1044 : decode cL_law 1044 = .ok (.iconst 1, 1) := by decide +kernel
theorem dL_law_1045 : decode cL_law 1045 = .ok (.iadd, 1) := by decide +kernel
theorem dL_law_1046 : decode cL_law 1046 = .ok (.iaload, 1) := by decide +kernel
theorem dL_law_1047 : decode cL_law 1047 = .ok (.invokevirtual 141, 3) := by decide +kernel
theorem dL_law_1050 : decode cL_law 1050 = .ok (.pop, 1) := by decide +kernel
theorem dL_law_1051 : decode cL_law 1051 = .ok (.aload_n 2, 1) := by decide +kernel
theorem dL_law_1052 : decode cL_law 1052 = .ok (.aload_n 0, 1) := by decide +kernel
theorem dL_law_1053 : decode cL_law 1053 = .ok (.iload_n 3, 1) := by decide +kernel
theorem dL_law_1054 : decode cL_law 1054 = .ok (.iconst 1, 1) := by decide +kernel
theorem dL_law_1055 : decode cL_law 1055 = .ok (.iadd, 1) := by decide +kernel
theorem dL_law_1056 : decode cL_law 1056 = .ok (.iaload, 1) := by decide +kernel
theorem dL_law_1057 : decode cL_law 1057 = .ok (.invokevirtual 144, 3) := by decide +kernel
theorem dL_law_1060 : decode cL_law 1060 = .ok (.pop, 1) := by decide +kernel
theorem dL_law_1061 : decode cL_law 1061 = .ok (.goto 1057, 3) := by decide +kernel
theorem dL_law_1064 : decode cL_law 1064 = .ok (.aload_n 1, 1) := by decide +kernel
theorem dL_law_1065 : decode cL_law 1065 = .ok (.aload_n 0, 1) := by decide +kernel
theorem dL_law_1066 : decode cL_law 1066 = .ok (.iload_n 3, 1) := by decide +kernel
theorem dL_law_1067 : decode cL_law 1067 = .ok (.iconst 1, 1) := by decide +kernel
theorem dL_law_1068 : decode cL_law 1068 = .ok (.iadd, 1) := by decide +kernel
theorem dL_law_1069 : decode cL_law 1069 = .ok (.iaload, 1) := by decide +kernel
theorem dL_law_1070 : decode cL_law 1070 = .ok (.invokevirtual 145, 3) := by decide +kernel
theorem dL_law_1073 : decode cL_law 1073 = .ok (.pop, 1) := by decide +kernel
theorem dL_law_1074 : decode cL_law 1074 = .ok (.aload_n 2, 1) := by decide +kernel
theorem dL_law_1075 : decode cL_law 1075 = .ok (.aload_n 0, 1) := by decide +kernel
theorem dL_law_1076 : decode cL_law 1076 = .ok (.iload_n 3, 1) := by decide +kernel
theorem dL_law_1077 : decode cL_law 1077 = .ok (.iconst 1, 1) := by decide +kernel
theorem dL_law_1078 : decode cL_law 1078 = .ok (.iadd, 1) := by decide +kernel
theorem dL_law_1079 : decode cL_law 1079 = .ok (.iaload, 1) := by decide +kernel
theorem dL_law_1080 : decode cL_law 1080 = .ok (.invokevirtual 148, 3) := by decide +kernel
theorem dL_law_1083 : decode cL_law 1083 = .ok (.pop, 1) := by decide +kernel
theorem dL_law_1084 : decode cL_law 1084 = .ok (.goto 1034, 3) := by decide +kernel
theorem dL_law_1087 : decode cL_law 1087 = .ok (.aload_n 1, 1) := by decide +kernel
theorem dL_law_1088 : decode cL_law 1088 = .ok (.aload_n 0, 1) := by decide +kernel
theorem dL_law_1089 : decode cL_law 1089 = .ok (.iload_n 3, 1) := by decide +kernel
theorem dL_law_1090 : decode cL_law 1090 = .ok (.iconst 1, 1) := by decide +kernel
theorem dL_law_1091 : decode cL_law 1091 = .ok (.iadd, 1) := by decide +kernel
theorem dL_law_1092 : decode cL_law 1092 = .ok (.iaload, 1) := by decide +kernel
theorem dL_law_1093 : decode cL_law 1093 = .ok (.invokevirtual 149, 3) := by decide +kernel
theorem dL_law_1096 : decode cL_law 1096 = .ok (.pop, 1) := by decide +kernel
theorem dL_law_1097 : decode cL_law 1097 = .ok (.aload_n 2, 1) := by decide +kernel
theorem dL_law_1098 : decode cL_law 1098 = .ok (.aload_n 0, 1) := by decide +kernel
theorem dL_law_1099 : decode cL_law 1099 = .ok (.iload_n 3, 1) := by decide +kernel
theorem dL_law_1100 : decode cL_law 1100 = .ok (.iconst 1, 1) := by decide +kernel
theorem dL_law_1101 : decode cL_law 1101 = .ok (.iadd, 1) := by decide +kernel
theorem dL_law_1102 : decode cL_law 1102 = .ok (.iaload, 1) := by decide +kernel
theorem dL_law_1103 : decode cL_law 1103 = .ok (.invokevirtual 152, 3) := by decide +kernel
theorem dL_law_1106 : decode cL_law 1106 = .ok (.pop, 1) := by decide +kernel
theorem dL_law_1107 : decode cL_law 1107 = .ok (.goto 1011, 3) := by decide +kernel
theorem dL_law_1110 : decode cL_law 1110 = .ok (.aload_n 1, 1) := by decide +kernel
theorem dL_law_1111 : decode cL_law 1111 = .ok (.aload_n 0, 1) := by decide +kernel
theorem dL_law_1112 : decode cL_law 1112 = .ok (.iload_n 3, 1) := by decide +kernel
theorem dL_law_1113 : decode cL_law 1113 = .ok (.iconst 1, 1) := by decide +kernel
theorem dL_law_1114 : decode cL_law 1114 = .ok (.iadd, 1) := by decide +kernel
theorem dL_law_1115 : decode cL_law 1115 = .ok (.iaload, 1) := by decide +kernel
theorem dL_law_1116 : decode cL_law 1116 = .ok (.invokevirtual 153, 3) := by decide +kernel
theorem dL_law_1119 : decode cL_law 1119 = .ok (.pop, 1) := by decide +kernel
theorem dL_law_1120 : decode cL_law 1120 = .ok (.aload_n 2, 1) := by decide +kernel
theorem dL_law_1121 : decode cL_law 1121 = .ok (.aload_n 0, 1) := by decide +kernel
theorem dL_law_1122 : decode cL_law 1122 = .ok (.iload_n 3, 1) := by decide +kernel
theorem dL_law_1123 : decode cL_law 1123 = .ok (.iconst 1, 1) := by decide +kernel
theorem dL_law_1124 : decode cL_law 1124 = .ok (.iadd, 1) := by decide +kernel
theorem dL_law_1125 : decode cL_law 1125 = .ok (.iaload, 1) := by decide +kernel
theorem dL_law_1126 : decode cL_law 1126 = .ok (.invokevirtual 156, 3) := by decide +kernel
theorem dL_law_1129 : decode cL_law 1129 = .ok (.pop, 1) := by decide +kernel
theorem dL_law_1130 : decode cL_law 1130 = .ok (.goto 988, 3) := by decide +kernel
theorem dL_law_1133 : decode cL_law 1133 = .ok (.aload_n 1, 1) := by decide +kernel
theorem dL_law_1134 : decode cL_law 1134 = .ok (.invokevirtual 157, 3) := by decide +kernel
theorem dL_law_1137 : decode cL_law 1137 = .ok (.pop, 1) := by decide +kernel
theorem dL_law_1138 : decode cL_law 1138 = .ok (.aload_n 2, 1) := by decide +kernel
theorem dL_law_1139 : decode cL_law 1139 = .ok (.invokevirtual 160, 3) := by decide +kernel
theorem dL_law_1142 : decode cL_law 1142 = .ok (.pop, 1) := by decide +kernel
theorem dL_law_1143 : decode cL_law 1143 = .ok (.goto 975, 3) := by decide +kernel
theorem dL_law_1146 : decode cL_law 1146 = .ok (.aload_n 1, 1) := by decide +kernel
theorem dL_law_1147 : decode cL_law 1147 = .ok (.invokevirtual 161, 3) := by decide +kernel
theorem dL_law_1150 : decode cL_law 1150 = .ok (.pop, 1) := by decide +kernel
theorem dL_law_1151 : decode cL_law 1151 = .ok (.aload_n 2, 1) := by decide +kernel
theorem dL_law_1152 : decode cL_law 1152 = .ok (.invokevirtual 164, 3) := by decide +kernel
theorem dL_law_1155 : decode cL_law 1155 = .ok (.pop, 1) := by decide +kernel
theorem dL_law_1156 : decode cL_law 1156 = .ok (.goto 962, 3) := by decide +kernel
theorem dL_law_1159 : decode cL_law 1159 = .ok (.aload_n 1, 1) := by decide +kernel
theorem dL_law_1160 : decode cL_law 1160 = .ok (.aload_n 0, 1) := by decide +kernel
theorem dL_law_1161 : decode cL_law 1161 = .ok (.iload_n 3, 1) := by decide +kernel
theorem dL_law_1162 : decode cL_law 1162 = .ok (.iconst 1, 1) := by decide +kernel
theorem dL_law_1163 : decode cL_law 1163 = .ok (.iadd, 1) := by decide +kernel
theorem dL_law_1164 : decode cL_law 1164 = .ok (.iaload, 1) := by decide +kernel
theorem dL_law_1165 : decode cL_law 1165 = .ok (.invokevirtual 165, 3) := by decide +kernel
theorem dL_law_1168 : decode cL_law 1168 = .ok (.pop, 1) := by decide +kernel
theorem dL_law_1169 : decode cL_law 1169 = .ok (.aload_n 2, 1) := by decide +kernel
theorem dL_law_1170 : decode cL_law 1170 = .ok (.aload_n 0, 1) := by decide +kernel
theorem dL_law_1171 : decode cL_law 1171 = .ok (.iload_n 3, 1) := by decide +kernel
theorem dL_law_1172 : decode cL_law 1172 = .ok (.iconst 1, 1) := by decide +kernel
theorem dL_law_1173 : decode cL_law 1173 = .ok (.iadd, 1) := by decide +kernel
theorem dL_law_1174 : decode cL_law 1174 = .ok (.iaload, 1) := by decide +kernel
theorem dL_law_1175 : decode cL_law 1175 = .ok (.invokevirtual 168, 3) := by decide +kernel
theorem dL_law_1178 : decode cL_law 1178 = .ok (.pop, 1) := by decide +kernel
theorem dL_law_1179 : decode cL_law 1179 = .ok (.goto 939, 3) := by decide +kernel
theorem dL_law_1182 : decode cL_law 1182 = .ok (.aload_n 1, 1) := by decide +kernel
theorem dL_law_1183 : decode cL_law 1183 = .ok (.invokevirtual 169, 3) := by decide +kernel
theorem dL_law_1186 : decode cL_law 1186 = .ok (.pop, 1) := by decide +kernel
theorem dL_law_1187 : decode cL_law 1187 = .ok (.aload_n 2, 1) := by decide +kernel
theorem dL_law_1188 : decode cL_law 1188 = .ok (.invokevirtual 172, 3) := by decide +kernel
theorem dL_law_1191 : decode cL_law 1191 = .ok (.pop, 1) := by decide +kernel
theorem dL_law_1192 : decode cL_law 1192 = .ok (.goto 926, 3) := by decide +kernel
theorem dL_law_1195 : decode cL_law 1195 = .ok (.aload_n 1, 1) := by decide +kernel
theorem dL_law_1196 : decode cL_law 1196 = .ok (.aload_n 0, 1) := by decide +kernel
theorem dL_law_1197 : decode cL_law 1197 = .ok (.iload_n 3, 1) := by decide +kernel
theorem dL_law_1198 : decode cL_law 1198 = .ok (.iconst 1, 1) := by decide +kernel
theorem dL_law_1199 : decode cL_law 1199 = .ok (.iadd, 1) := by decide +kernel
theorem dL_law_1200 : decode cL_law 1200 = .ok (.iaload, 1) := by decide +kernel
theorem dL_law_1201 : decode cL_law 1201 = .ok (.invokevirtual 173, 3) := by decide +kernel
theorem dL_law_1204 : decode cL_law 1204 = .ok (.pop, 1) := by decide +kernel
theorem dL_law_1205 : decode cL_law 1205 = .ok (.aload_n 2, 1) := by decide +kernel
theorem dL_law_1206 : decode cL_law 1206 = .ok (.aload_n 0, 1) := by decide +kernel
theorem dL_law_1207 : decode cL_law 1207 = .ok (.iload_n 3, 1) := by decide +kernel
theorem dL_law_1208 : decode cL_law 1208 = .ok (.iconst 1, 1) := by decide +kernel
theorem dL_law_1209 : decode cL_law 1209 = .ok (.iadd, 1) := by decide +kernel
theorem dL_law_1210 : decode cL_law 1210 = .ok (.iaload, 1) := by decide +kernel
theorem dL_law_1211 : decode cL_law 1211 = .ok (.invokevirtual 176, 3) := by decide +kernel
theorem dL_law_1214 : decode cL_law 1214 = .ok (.pop, 1) := by decide +kernel
theorem dL_law_1215 : decode cL_law 1215 = .ok (.goto 903, 3) := by decide +kernel
theorem dL_law_1218 : decode cL_law 1218 = .ok (.aload_n 1, 1) := by decide +kernel
theorem dL_law_1219 : decode cL_law 1219 = .ok (.aload_n 0, 1) := by decide +kernel
theorem dL_law_1220 : decode cL_law 1220 = .ok (.iload_n 3, 1) := by decide +kernel
theorem dL_law_1221 : decode cL_law 1221 = .ok (.iconst 1, 1) := by decide +kernel
theorem dL_law_1222 : decode cL_law 1222 = .ok (.iadd, 1) := by decide +kernel
theorem dL_law_1223 : decode cL_law 1223 = .ok (.iaload, 1) := by decide +kernel
theorem dL_law_1224 : decode cL_law 1224 = .ok (.invokevirtual 177, 3) := by decide +kernel
theorem dL_law_1227 : decode cL_law 1227 = .ok (.pop, 1) := by decide +kernel
theorem dL_law_1228 : decode cL_law 1228 = .ok (.aload_n 2, 1) := by decide +kernel
theorem dL_law_1229 : decode cL_law 1229 = .ok (.aload_n 0, 1) := by decide +kernel
theorem dL_law_1230 : decode cL_law 1230 = .ok (.iload_n 3, 1) := by decide +kernel
theorem dL_law_1231 : decode cL_law 1231 = .ok (.iconst 1, 1) := by decide +kernel
theorem dL_law_1232 : decode cL_law 1232 = .ok (.iadd, 1) := by decide +kernel
theorem dL_law_1233 : decode cL_law 1233 = .ok (.iaload, 1) := by decide +kernel
theorem dL_law_1234 : decode cL_law 1234 = .ok (.invokevirtual 180, 3) := by decide +kernel
theorem dL_law_1237 : decode cL_law 1237 = .ok (.pop, 1) := by decide +kernel
theorem dL_law_1238 : decode cL_law 1238 = .ok (.goto 880, 3) := by decide +kernel
theorem dL_law_1241 : decode cL_law 1241 = .ok (.aload_n 1, 1) := by decide +kernel
theorem dL_law_1242 : decode cL_law 1242 = .ok (.aload_n 0, 1) := by decide +kernel
theorem dL_law_1243 : decode cL_law 1243 = .ok (.iload_n 3, 1) := by decide +kernel
theorem dL_law_1244 : decode cL_law 1244 = .ok (.iconst 1, 1) := by decide +kernel
theorem dL_law_1245 : decode cL_law 1245 = .ok (.iadd, 1) := by decide +kernel
theorem dL_law_1246 : decode cL_law 1246 = .ok (.iaload, 1) := by decide +kernel
theorem dL_law_1247 : decode cL_law 1247 = .ok (.invokevirtual 181, 3) := by decide +kernel
theorem dL_law_1250 : decode cL_law 1250 = .ok (.pop, 1) := by decide +kernel
theorem dL_law_1251 : decode cL_law 1251 = .ok (.aload_n 2, 1) := by decide +kernel
theorem dL_law_1252 : decode cL_law 1252 = .ok (.aload_n 0, 1) := by decide +kernel
theorem dL_law_1253 : decode cL_law 1253 = .ok (.iload_n 3, 1) := by decide +kernel
theorem dL_law_1254 : decode cL_law 1254 = .ok (.iconst 1, 1) := by decide +kernel
theorem dL_law_1255 : decode cL_law 1255 = .ok (.iadd, 1) := by decide +kernel
theorem dL_law_1256 : decode cL_law 1256 = .ok (.iaload, 1) := by decide +kernel
theorem dL_law_1257 : decode cL_law 1257 = .ok (.invokevirtual 184, 3) := by decide +kernel
theorem dL_law_1260 : decode cL_law 1260 = .ok (.pop, 1) := by decide +kernel
theorem dL_law_1261 : decode cL_law 1261 = .ok (.goto 857, 3) := by decide +kernel
theorem wd1454 : Cond.instanceMethod yX9_calls ∈ gW := gm (tm_4 63 (by decide +kernel)) rfl
theorem wd1455 : Cond.selects RX9 yX9_calls yX9_calls ∈ gW := gm (tm_4 64 (by decide +kernel)) rfl
theorem wd1456 : Cond.code yX9_calls cX9_calls 2 (some .int) ∈ gW := gm (tm_4 65 (by decide +kernel)) rfl
theorem wd1457 : Cond.methodLink RL 129 yX9_calls ∈ gW := gm (tm_4 62 (by decide +kernel)) rfl
theorem wd1458 : Cond.instanceMethod yX10_calls ∈ gW := gm (tm_8 109 (by decide +kernel)) rfl
theorem wd1459 : Cond.selects RX10 yX10_calls yX10_calls ∈ gW := gm (tm_8 110 (by decide +kernel)) rfl
theorem wd1460 : Cond.code yX10_calls cX10_calls 4 (some .int) ∈ gW := gm (tm_8 111 (by decide +kernel)) rfl
theorem wd1461 : Cond.methodLink RL 132 yX10_calls ∈ gW := gm (tm_8 108 (by decide +kernel)) rfl
theorem wd1462 : Cond.instanceMethod yX9_farthest ∈ gW := gm (tm_4 71 (by decide +kernel)) rfl
theorem wd1463 : Cond.selects RX9 yX9_farthest yX9_farthest ∈ gW := gm (tm_4 72 (by decide +kernel)) rfl
theorem wd1464 : Cond.code yX9_farthest cX9_farthest 6 (some .int) ∈ gW := gm (tm_4 73 (by decide +kernel)) rfl
theorem wd1465 : Cond.methodLink RL 133 yX9_farthest ∈ gW := gm (tm_4 70 (by decide +kernel)) rfl
theorem wd1466 : Cond.instanceMethod yX10_farthest ∈ gW := gm (tm_8 113 (by decide +kernel)) rfl
theorem wd1467 : Cond.selects RX10 yX10_farthest yX10_farthest ∈ gW := gm (tm_8 114 (by decide +kernel)) rfl
theorem wd1468 : Cond.code yX10_farthest cX10_farthest 4 (some .int) ∈ gW := gm (tm_8 115 (by decide +kernel)) rfl
theorem wd1469 : Cond.methodLink RL 136 yX10_farthest ∈ gW := gm (tm_8 112 (by decide +kernel)) rfl
theorem wd1470 : Cond.instanceMethod yX9_fewest ∈ gW := gm (tm_4 76 (by decide +kernel)) rfl
theorem wd1471 : Cond.selects RX9 yX9_fewest yX9_fewest ∈ gW := gm (tm_4 77 (by decide +kernel)) rfl
theorem wd1472 : Cond.code yX9_fewest cX9_fewest 3 (some .int) ∈ gW := gm (tm_4 78 (by decide +kernel)) rfl
theorem wd1473 : Cond.methodLink RL 137 yX9_fewest ∈ gW := gm (tm_4 75 (by decide +kernel)) rfl
theorem wd1474 : Cond.instanceMethod yX10_fewest ∈ gW := gm (tm_8 117 (by decide +kernel)) rfl
theorem wd1475 : Cond.selects RX10 yX10_fewest yX10_fewest ∈ gW := gm (tm_8 118 (by decide +kernel)) rfl
theorem wd1476 : Cond.code yX10_fewest cX10_fewest 2 (some .int) ∈ gW := gm (tm_8 119 (by decide +kernel)) rfl
theorem wd1477 : Cond.methodLink RL 140 yX10_fewest ∈ gW := gm (tm_8 116 (by decide +kernel)) rfl
theorem wd1478 : Cond.instanceMethod yX9_lights ∈ gW := gm (tm_4 107 (by decide +kernel)) rfl
theorem wd1479 : Cond.selects RX9 yX9_lights yX9_lights ∈ gW := gm (tm_4 108 (by decide +kernel)) rfl
theorem wd1480 : Cond.code yX9_lights cX9_lights 3 (some .int) ∈ gW := gm (tm_4 109 (by decide +kernel)) rfl
theorem wd1481 : Cond.methodLink RL 141 yX9_lights ∈ gW := gm (tm_4 106 (by decide +kernel)) rfl
theorem wd1482 : Cond.instanceMethod yX10_lights ∈ gW := gm (tm_8 140 (by decide +kernel)) rfl
theorem wd1483 : Cond.selects RX10 yX10_lights yX10_lights ∈ gW := gm (tm_8 141 (by decide +kernel)) rfl
theorem wd1484 : Cond.code yX10_lights cX10_lights 2 (some .int) ∈ gW := gm (tm_8 142 (by decide +kernel)) rfl
theorem wd1485 : Cond.methodLink RL 144 yX10_lights ∈ gW := gm (tm_8 139 (by decide +kernel)) rfl
theorem wd1486 : Cond.instanceMethod yX9_best ∈ gW := gm (tm_4 111 (by decide +kernel)) rfl
theorem wd1487 : Cond.selects RX9 yX9_best yX9_best ∈ gW := gm (tm_4 112 (by decide +kernel)) rfl
theorem wd1488 : Cond.code yX9_best cX9_best 2 (some .int) ∈ gW := gm (tm_4 113 (by decide +kernel)) rfl
theorem wd1489 : Cond.methodLink RL 145 yX9_best ∈ gW := gm (tm_4 110 (by decide +kernel)) rfl
theorem wd1490 : Cond.instanceMethod yX10_best ∈ gW := gm (tm_8 144 (by decide +kernel)) rfl
theorem wd1491 : Cond.selects RX10 yX10_best yX10_best ∈ gW := gm (tm_8 145 (by decide +kernel)) rfl
theorem wd1492 : Cond.code yX10_best cX10_best 2 (some .int) ∈ gW := gm (tm_8 146 (by decide +kernel)) rfl
theorem wd1493 : Cond.methodLink RL 148 yX10_best ∈ gW := gm (tm_8 143 (by decide +kernel)) rfl
theorem wd1494 : Cond.instanceMethod yX9_bests ∈ gW := gm (tm_4 130 (by decide +kernel)) rfl
theorem wd1495 : Cond.selects RX9 yX9_bests yX9_bests ∈ gW := gm (tm_4 131 (by decide +kernel)) rfl
theorem wd1496 : Cond.code yX9_bests cX9_bests 2 (some .int) ∈ gW := gm (tm_4 132 (by decide +kernel)) rfl
theorem wd1497 : Cond.methodLink RL 149 yX9_bests ∈ gW := gm (tm_4 129 (by decide +kernel)) rfl
theorem wd1498 : Cond.instanceMethod yX10_bests ∈ gW := gm (tm_8 152 (by decide +kernel)) rfl
theorem wd1499 : Cond.selects RX10 yX10_bests yX10_bests ∈ gW := gm (tm_8 153 (by decide +kernel)) rfl
theorem wd1500 : Cond.code yX10_bests cX10_bests 2 (some .int) ∈ gW := gm (tm_8 154 (by decide +kernel)) rfl
theorem wd1501 : Cond.methodLink RL 152 yX10_bests ∈ gW := gm (tm_8 151 (by decide +kernel)) rfl
theorem wd1502 : Cond.instanceMethod yX9_most ∈ gW := gm (tm_4 134 (by decide +kernel)) rfl
theorem wd1503 : Cond.selects RX9 yX9_most yX9_most ∈ gW := gm (tm_4 135 (by decide +kernel)) rfl
theorem wd1504 : Cond.code yX9_most cX9_most 2 (some .int) ∈ gW := gm (tm_4 136 (by decide +kernel)) rfl
theorem wd1505 : Cond.methodLink RL 153 yX9_most ∈ gW := gm (tm_4 133 (by decide +kernel)) rfl
theorem wd1506 : Cond.instanceMethod yX10_most ∈ gW := gm (tm_8 156 (by decide +kernel)) rfl
theorem wd1507 : Cond.selects RX10 yX10_most yX10_most ∈ gW := gm (tm_8 157 (by decide +kernel)) rfl
theorem wd1508 : Cond.code yX10_most cX10_most 2 (some .int) ∈ gW := gm (tm_8 158 (by decide +kernel)) rfl
theorem wd1509 : Cond.methodLink RL 156 yX10_most ∈ gW := gm (tm_8 155 (by decide +kernel)) rfl
theorem wd1510 : Cond.instanceMethod yX9_more ∈ gW := gm (tm_4 148 (by decide +kernel)) rfl
theorem wd1511 : Cond.selects RX9 yX9_more yX9_more ∈ gW := gm (tm_4 149 (by decide +kernel)) rfl
theorem wd1512 : Cond.code yX9_more cX9_more 1 (some .int) ∈ gW := gm (tm_4 150 (by decide +kernel)) rfl
theorem wd1513 : Cond.methodLink RL 157 yX9_more ∈ gW := gm (tm_4 147 (by decide +kernel)) rfl
theorem wd1514 : Cond.instanceMethod yX10_more ∈ gW := gm (tm_8 160 (by decide +kernel)) rfl
theorem wd1515 : Cond.selects RX10 yX10_more yX10_more ∈ gW := gm (tm_8 161 (by decide +kernel)) rfl
theorem wd1516 : Cond.code yX10_more cX10_more 1 (some .int) ∈ gW := gm (tm_8 162 (by decide +kernel)) rfl
theorem wd1517 : Cond.methodLink RL 160 yX10_more ∈ gW := gm (tm_8 159 (by decide +kernel)) rfl
theorem wd1518 : Cond.instanceMethod yX9_less ∈ gW := gm (tm_4 156 (by decide +kernel)) rfl
theorem wd1519 : Cond.selects RX9 yX9_less yX9_less ∈ gW := gm (tm_4 157 (by decide +kernel)) rfl
theorem wd1520 : Cond.code yX9_less cX9_less 1 (some .int) ∈ gW := gm (tm_4 158 (by decide +kernel)) rfl
theorem wd1521 : Cond.methodLink RL 161 yX9_less ∈ gW := gm (tm_4 155 (by decide +kernel)) rfl
theorem wd1522 : Cond.instanceMethod yX10_less ∈ gW := gm (tm_8 168 (by decide +kernel)) rfl
theorem wd1523 : Cond.selects RX10 yX10_less yX10_less ∈ gW := gm (tm_8 169 (by decide +kernel)) rfl
theorem wd1524 : Cond.code yX10_less cX10_less 1 (some .int) ∈ gW := gm (tm_8 170 (by decide +kernel)) rfl
theorem wd1525 : Cond.methodLink RL 164 yX10_less ∈ gW := gm (tm_8 167 (by decide +kernel)) rfl
theorem wd1526 : Cond.instanceMethod yX9_by ∈ gW := gm (tm_4 160 (by decide +kernel)) rfl
theorem wd1527 : Cond.selects RX9 yX9_by yX9_by ∈ gW := gm (tm_4 161 (by decide +kernel)) rfl
theorem wd1528 : Cond.code yX9_by cX9_by 2 (some .int) ∈ gW := gm (tm_4 162 (by decide +kernel)) rfl
theorem wd1529 : Cond.methodLink RL 165 yX9_by ∈ gW := gm (tm_4 159 (by decide +kernel)) rfl
theorem wd1530 : Cond.instanceMethod yX10_by ∈ gW := gm (tm_8 172 (by decide +kernel)) rfl
theorem wd1531 : Cond.selects RX10 yX10_by yX10_by ∈ gW := gm (tm_8 173 (by decide +kernel)) rfl
theorem wd1532 : Cond.code yX10_by cX10_by 2 (some .int) ∈ gW := gm (tm_8 174 (by decide +kernel)) rfl
theorem wd1533 : Cond.methodLink RL 168 yX10_by ∈ gW := gm (tm_8 171 (by decide +kernel)) rfl
theorem wd1534 : Cond.instanceMethod yX9_law ∈ gW := gm (tm_4 164 (by decide +kernel)) rfl
theorem wd1535 : Cond.selects RX9 yX9_law yX9_law ∈ gW := gm (tm_4 165 (by decide +kernel)) rfl
theorem wd1536 : Cond.code yX9_law cX9_law 5 (some .int) ∈ gW := gm (tm_4 166 (by decide +kernel)) rfl
theorem wd1537 : Cond.methodLink RL 169 yX9_law ∈ gW := gm (tm_4 163 (by decide +kernel)) rfl
theorem wd1538 : Cond.instanceMethod yX10_law ∈ gW := gm (tm_8 184 (by decide +kernel)) rfl
theorem wd1539 : Cond.selects RX10 yX10_law yX10_law ∈ gW := gm (tm_8 185 (by decide +kernel)) rfl
theorem wd1540 : Cond.code yX10_law cX10_law 3 (some .int) ∈ gW := gm (tm_8 186 (by decide +kernel)) rfl
theorem wd1541 : Cond.methodLink RL 172 yX10_law ∈ gW := gm (tm_8 183 (by decide +kernel)) rfl
theorem wd1542 : Cond.instanceMethod yX9_laws ∈ gW := gm (tm_4 168 (by decide +kernel)) rfl
theorem wd1543 : Cond.selects RX9 yX9_laws yX9_laws ∈ gW := gm (tm_4 169 (by decide +kernel)) rfl
theorem wd1544 : Cond.code yX9_laws cX9_laws 3 (some .int) ∈ gW := gm (tm_4 170 (by decide +kernel)) rfl
theorem wd1545 : Cond.methodLink RL 173 yX9_laws ∈ gW := gm (tm_4 167 (by decide +kernel)) rfl
theorem wd1546 : Cond.instanceMethod yX10_laws ∈ gW := gm (tm_8 188 (by decide +kernel)) rfl
theorem wd1547 : Cond.selects RX10 yX10_laws yX10_laws ∈ gW := gm (tm_8 189 (by decide +kernel)) rfl
theorem wd1548 : Cond.code yX10_laws cX10_laws 3 (some .int) ∈ gW := gm (tm_8 190 (by decide +kernel)) rfl
theorem wd1549 : Cond.methodLink RL 176 yX10_laws ∈ gW := gm (tm_8 187 (by decide +kernel)) rfl
theorem wd1550 : Cond.instanceMethod yX9_ask ∈ gW := gm (tm_4 206 (by decide +kernel)) rfl
theorem wd1551 : Cond.selects RX9 yX9_ask yX9_ask ∈ gW := gm (tm_4 207 (by decide +kernel)) rfl
theorem wd1552 : Cond.code yX9_ask cX9_ask 3 (some .int) ∈ gW := gm (tm_4 208 (by decide +kernel)) rfl
theorem wd1553 : Cond.methodLink RL 177 yX9_ask ∈ gW := gm (tm_4 205 (by decide +kernel)) rfl
theorem wd1554 : Cond.instanceMethod yX10_ask ∈ gW := gm (tm_8 204 (by decide +kernel)) rfl
theorem wd1555 : Cond.selects RX10 yX10_ask yX10_ask ∈ gW := gm (tm_8 205 (by decide +kernel)) rfl
theorem wd1556 : Cond.code yX10_ask cX10_ask 10 (some .int) ∈ gW := gm (tm_8 206 (by decide +kernel)) rfl
theorem wd1557 : Cond.methodLink RL 180 yX10_ask ∈ gW := gm (tm_8 203 (by decide +kernel)) rfl
theorem wd1558 : Cond.instanceMethod yX9_began ∈ gW := gm (tm_4 222 (by decide +kernel)) rfl
theorem wd1559 : Cond.selects RX9 yX9_began yX9_began ∈ gW := gm (tm_4 223 (by decide +kernel)) rfl
theorem wd1560 : Cond.code yX9_began cX9_began 3 (some .int) ∈ gW := gm (tm_4 224 (by decide +kernel)) rfl
theorem wd1561 : Cond.methodLink RL 181 yX9_began ∈ gW := gm (tm_4 221 (by decide +kernel)) rfl
theorem wd1562 : Cond.instanceMethod yX10_began ∈ gW := gm (tm_8 208 (by decide +kernel)) rfl
theorem wd1563 : Cond.selects RX10 yX10_began yX10_began ∈ gW := gm (tm_8 209 (by decide +kernel)) rfl
theorem wd1564 : Cond.code yX10_began cX10_began 3 (some .int) ∈ gW := gm (tm_8 210 (by decide +kernel)) rfl
theorem wd1565 : Cond.methodLink RL 184 yX10_began ∈ gW := gm (tm_8 207 (by decide +kernel)) rfl
theorem my_X9_calls : gWV RX9 yX9_calls cX9_calls 2 (some .int) 1 := ⟨⟨wd1454, wd1455, wd2, wd1456⟩, ⟨rfl, by decide +kernel, by decide +kernel, by decide +kernel⟩⟩
theorem my_X10_calls : gWV RX10 yX10_calls cX10_calls 4 (some .int) 1 := ⟨⟨wd1458, wd1459, wd742, wd1460⟩, ⟨rfl, by decide +kernel, by decide +kernel, by decide +kernel⟩⟩
theorem my_X9_farthest : gWV RX9 yX9_farthest cX9_farthest 6 (some .int) 1 := ⟨⟨wd1462, wd1463, wd2, wd1464⟩, ⟨rfl, by decide +kernel, by decide +kernel, by decide +kernel⟩⟩
theorem my_X10_farthest : gWV RX10 yX10_farthest cX10_farthest 4 (some .int) 1 := ⟨⟨wd1466, wd1467, wd742, wd1468⟩, ⟨rfl, by decide +kernel, by decide +kernel, by decide +kernel⟩⟩
theorem my_X9_fewest : gWV RX9 yX9_fewest cX9_fewest 3 (some .int) 1 := ⟨⟨wd1470, wd1471, wd2, wd1472⟩, ⟨rfl, by decide +kernel, by decide +kernel, by decide +kernel⟩⟩
theorem my_X10_fewest : gWV RX10 yX10_fewest cX10_fewest 2 (some .int) 1 := ⟨⟨wd1474, wd1475, wd742, wd1476⟩, ⟨rfl, by decide +kernel, by decide +kernel, by decide +kernel⟩⟩
theorem my_X9_lights : gWV RX9 yX9_lights cX9_lights 3 (some .int) 1 := ⟨⟨wd1478, wd1479, wd2, wd1480⟩, ⟨rfl, by decide +kernel, by decide +kernel, by decide +kernel⟩⟩
theorem my_X10_lights : gWV RX10 yX10_lights cX10_lights 2 (some .int) 1 := ⟨⟨wd1482, wd1483, wd742, wd1484⟩, ⟨rfl, by decide +kernel, by decide +kernel, by decide +kernel⟩⟩
theorem my_X9_best : gWV RX9 yX9_best cX9_best 2 (some .int) 1 := ⟨⟨wd1486, wd1487, wd2, wd1488⟩, ⟨rfl, by decide +kernel, by decide +kernel, by decide +kernel⟩⟩
theorem my_X10_best : gWV RX10 yX10_best cX10_best 2 (some .int) 1 := ⟨⟨wd1490, wd1491, wd742, wd1492⟩, ⟨rfl, by decide +kernel, by decide +kernel, by decide +kernel⟩⟩
theorem my_X9_bests : gWV RX9 yX9_bests cX9_bests 2 (some .int) 1 := ⟨⟨wd1494, wd1495, wd2, wd1496⟩, ⟨rfl, by decide +kernel, by decide +kernel, by decide +kernel⟩⟩
theorem my_X10_bests : gWV RX10 yX10_bests cX10_bests 2 (some .int) 1 := ⟨⟨wd1498, wd1499, wd742, wd1500⟩, ⟨rfl, by decide +kernel, by decide +kernel, by decide +kernel⟩⟩
theorem my_X9_most : gWV RX9 yX9_most cX9_most 2 (some .int) 1 := ⟨⟨wd1502, wd1503, wd2, wd1504⟩, ⟨rfl, by decide +kernel, by decide +kernel, by decide +kernel⟩⟩
theorem my_X10_most : gWV RX10 yX10_most cX10_most 2 (some .int) 1 := ⟨⟨wd1506, wd1507, wd742, wd1508⟩, ⟨rfl, by decide +kernel, by decide +kernel, by decide +kernel⟩⟩
theorem my_X9_more : gWV RX9 yX9_more cX9_more 1 (some .int) 0 := ⟨⟨wd1510, wd1511, wd2, wd1512⟩, ⟨rfl, by decide +kernel, by decide +kernel, by decide +kernel⟩⟩
theorem my_X10_more : gWV RX10 yX10_more cX10_more 1 (some .int) 0 := ⟨⟨wd1514, wd1515, wd742, wd1516⟩, ⟨rfl, by decide +kernel, by decide +kernel, by decide +kernel⟩⟩
theorem my_X9_less : gWV RX9 yX9_less cX9_less 1 (some .int) 0 := ⟨⟨wd1518, wd1519, wd2, wd1520⟩, ⟨rfl, by decide +kernel, by decide +kernel, by decide +kernel⟩⟩
theorem my_X10_less : gWV RX10 yX10_less cX10_less 1 (some .int) 0 := ⟨⟨wd1522, wd1523, wd742, wd1524⟩, ⟨rfl, by decide +kernel, by decide +kernel, by decide +kernel⟩⟩
theorem my_X9_by : gWV RX9 yX9_by cX9_by 2 (some .int) 1 := ⟨⟨wd1526, wd1527, wd2, wd1528⟩, ⟨rfl, by decide +kernel, by decide +kernel, by decide +kernel⟩⟩
theorem my_X10_by : gWV RX10 yX10_by cX10_by 2 (some .int) 1 := ⟨⟨wd1530, wd1531, wd742, wd1532⟩, ⟨rfl, by decide +kernel, by decide +kernel, by decide +kernel⟩⟩
theorem my_X9_law : gWV RX9 yX9_law cX9_law 5 (some .int) 0 := ⟨⟨wd1534, wd1535, wd2, wd1536⟩, ⟨rfl, by decide +kernel, by decide +kernel, by decide +kernel⟩⟩
theorem my_X10_law : gWV RX10 yX10_law cX10_law 3 (some .int) 0 := ⟨⟨wd1538, wd1539, wd742, wd1540⟩, ⟨rfl, by decide +kernel, by decide +kernel, by decide +kernel⟩⟩
theorem my_X9_laws : gWV RX9 yX9_laws cX9_laws 3 (some .int) 1 := ⟨⟨wd1542, wd1543, wd2, wd1544⟩, ⟨rfl, by decide +kernel, by decide +kernel, by decide +kernel⟩⟩
theorem my_X10_laws : gWV RX10 yX10_laws cX10_laws 3 (some .int) 1 := ⟨⟨wd1546, wd1547, wd742, wd1548⟩, ⟨rfl, by decide +kernel, by decide +kernel, by decide +kernel⟩⟩
theorem my_X9_ask : gWV RX9 yX9_ask cX9_ask 3 (some .int) 1 := ⟨⟨wd1550, wd1551, wd2, wd1552⟩, ⟨rfl, by decide +kernel, by decide +kernel, by decide +kernel⟩⟩
theorem my_X10_ask : gWV RX10 yX10_ask cX10_ask 10 (some .int) 1 := ⟨⟨wd1554, wd1555, wd742, wd1556⟩, ⟨rfl, by decide +kernel, by decide +kernel, by decide +kernel⟩⟩
theorem my_X9_began : gWV RX9 yX9_began cX9_began 3 (some .int) 1 := ⟨⟨wd1558, wd1559, wd2, wd1560⟩, ⟨rfl, by decide +kernel, by decide +kernel, by decide +kernel⟩⟩
theorem my_X10_began : gWV RX10 yX10_began cX10_began 3 (some .int) 1 := ⟨⟨wd1562, wd1563, wd742, wd1564⟩, ⟨rfl, by decide +kernel, by decide +kernel, by decide +kernel⟩⟩
