theorem dL_law__1040 : decode cL_law_ 1040 = .ok (.laload, 1) := by decide +kernel
theorem dL_law__1041 : decode cL_law_ 1041 = .ok (.iload 6, 2) := by decide +kernel
theorem dL_law__1043 : decode cL_law_ 1043 = .ok (.i2l, 1) := by decide +kernel
theorem dL_law__1044 : decode cL_law_ 1044 = .ok (.lcmp, 1) := by decide +kernel
theorem dL_law__1045 : decode cL_law_ 1045 = .ok (.ifCond .eq 5, 3) := by decide +kernel
theorem dL_law__1048 : decode cL_law_ 1048 = .ok (.iconst 0, 1) := by decide +kernel
theorem dL_law__1049 : decode cL_law_ 1049 = .ok (.ireturn, 1) := by decide +kernel
theorem dL_law__1050 : decode cL_law_ 1050 = .ok (.goto 1589, 3) := by decide +kernel
theorem dL_law__1053 : decode cL_law_ 1053 = .ok (.aload_n 1, 1) := by decide +kernel
theorem dL_law__1054 : decode cL_law_ 1054 = .ok (.aload_n 0, 1) := by decide +kernel
theorem dL_law__1055 : decode cL_law_ 1055 = .ok (.iload 4, 2) := by decide +kernel
theorem dL_law__1057 : decode cL_law_ 1057 = .ok (.iconst 1, 1) := by decide +kernel
theorem dL_law__1058 : decode cL_law_ 1058 = .ok (.iadd, 1) := by decide +kernel
theorem dL_law__1059 : decode cL_law_ 1059 = .ok (.iaload, 1) := by decide +kernel
theorem dL_law__1060 : decode cL_law_ 1060 = .ok (.aload_n 0, 1) := by decide +kernel
theorem dL_law__1061 : decode cL_law_ 1061 = .ok (.iload 4, 2) := by decide +kernel
theorem dL_law__1063 : decode cL_law_ 1063 = .ok (.iconst 2, 1) := by decide +kernel
theorem dL_law__1064 : decode cL_law_ 1064 = .ok (.iadd, 1) := by decide +kernel
theorem dL_law__1065 : decode cL_law_ 1065 = .ok (.iaload, 1) := by decide +kernel
theorem dL_law__1066 : decode cL_law_ 1066 = .ok (.aload_n 0, 1) := by decide +kernel
theorem dL_law__1067 : decode cL_law_ 1067 = .ok (.iload 4, 2) := by decide +kernel
theorem dL_law__1069 : decode cL_law_ 1069 = .ok (.iconst 3, 1) := by decide +kernel
theorem dL_law__1070 : decode cL_law_ 1070 = .ok (.iadd, 1) := by decide +kernel
theorem dL_law__1071 : decode cL_law_ 1071 = .ok (.iaload, 1) := by decide +kernel
theorem dL_law__1072 : decode cL_law_ 1072 = .ok (.aload_n 0, 1) := by decide +kernel
theorem dL_law__1073 : decode cL_law_ 1073 = .ok (.iload 4, 2) := by decide +kernel
theorem dL_law__1075 : decode cL_law_ 1075 = .ok (.iconst 4, 1) := by decide +kernel
theorem dL_law__1076 : decode cL_law_ 1076 = .ok (.iadd, 1) := by decide +kernel
theorem dL_law__1077 : decode cL_law_ 1077 = .ok (.iaload, 1) := by decide +kernel
theorem dL_law__1078 : decode cL_law_ 1078 = .ok (.aload_n 3, 1) := by decide +kernel
theorem dL_law__1079 : decode cL_law_ 1079 = .ok (.invokestatic 164, 3) := by decide +kernel
theorem dL_law__1082 : decode cL_law_ 1082 = .ok (.istore 5, 2) := by decide +kernel
theorem dL_law__1084 : decode cL_law_ 1084 = .ok (.aload_n 2, 1) := by decide +kernel
theorem dL_law__1085 : decode cL_law_ 1085 = .ok (.aload_n 0, 1) := by decide +kernel
theorem dL_law__1086 : decode cL_law_ 1086 = .ok (.iload 4, 2) := by decide +kernel
theorem dL_law__1088 : decode cL_law_ 1088 = .ok (.iconst 1, 1) := by decide +kernel
theorem dL_law__1089 : decode cL_law_ 1089 = .ok (.iadd, 1) := by decide +kernel
theorem dL_law__1090 : decode cL_law_ 1090 = .ok (.iaload, 1) := by decide +kernel
theorem dL_law__1091 : decode cL_law_ 1091 = .ok (.aload_n 0, 1) := by decide +kernel
theorem dL_law__1092 : decode cL_law_ 1092 = .ok (.iload 4, 2) := by decide +kernel
theorem dL_law__1094 : decode cL_law_ 1094 = .ok (.iconst 2, 1) := by decide +kernel
theorem dL_law__1095 : decode cL_law_ 1095 = .ok (.iadd, 1) := by decide +kernel
theorem dL_law__1096 : decode cL_law_ 1096 = .ok (.iaload, 1) := by decide +kernel
theorem dL_law__1097 : decode cL_law_ 1097 = .ok (.aload_n 0, 1) := by decide +kernel
theorem dL_law__1098 : decode cL_law_ 1098 = .ok (.iload 4, 2) := by decide +kernel
theorem dL_law__1100 : decode cL_law_ 1100 = .ok (.iconst 3, 1) := by decide +kernel
theorem dL_law__1101 : decode cL_law_ 1101 = .ok (.iadd, 1) := by decide +kernel
theorem dL_law__1102 : decode cL_law_ 1102 = .ok (.iaload, 1) := by decide +kernel
theorem dL_law__1103 : decode cL_law_ 1103 = .ok (.aload_n 0, 1) := by decide +kernel
theorem dL_law__1104 : decode cL_law_ 1104 = .ok (.iload 4, 2) := by decide +kernel
theorem dL_law__1106 : decode cL_law_ 1106 = .ok (.iconst 4, 1) := by decide +kernel
theorem dL_law__1107 : decode cL_law_ 1107 = .ok (.iadd, 1) := by decide +kernel
theorem dL_law__1108 : decode cL_law_ 1108 = .ok (.iaload, 1) := by decide +kernel
theorem dL_law__1109 : decode cL_law_ 1109 = .ok (.invokevirtual 166, 3) := by decide +kernel
theorem dL_law__1112 : decode cL_law_ 1112 = .ok (.istore 6, 2) := by decide +kernel
theorem dL_law__1114 : decode cL_law_ 1114 = .ok (.aload_n 2, 1) := by decide +kernel
theorem dL_law__1115 : decode cL_law_ 1115 = .ok (.invokevirtual 124, 3) := by decide +kernel
theorem dL_law__1118 : decode cL_law_ 1118 = .ok (.iload 5, 2) := by decide +kernel
theorem dL_law__1120 : decode cL_law_ 1120 = .ok (.if_icmp .eq 5, 3) := by decide +kernel
theorem dL_law__1123 : decode cL_law_ 1123 = .ok (.iconst 0, 1) := by decide +kernel
theorem dL_law__1124 : decode cL_law_ 1124 = .ok (.ireturn, 1) := by decide +kernel
theorem dL_law__1125 : decode cL_law_ 1125 = .ok (.iload 5, 2) := by decide +kernel
theorem dL_law__1127 : decode cL_law_ 1127 = .ok (.ifCond .ne 15, 3) := by decide +kernel
theorem dL_law__1130 : decode cL_law_ 1130 = .ok (.aload_n 3, 1) := by decide +kernel
theorem dL_law__1131 : decode cL_law_ 1131 = .ok (.iconst 0, 1) := by decide +kernel
theorem dL_law__1132 : decode cL_law_ 1132 = .ok (.laload, 1) := by decide +kernel
theorem dL_law__1133 : decode cL_law_ 1133 = .ok (.iload 6, 2) := by decide +kernel
theorem dL_law__1135 : decode cL_law_ 1135 = .ok (.i2l, 1) := by decide +kernel
theorem dL_law__1136 : decode cL_law_ 1136 = .ok (.lcmp, 1) := by decide +kernel
theorem dL_law__1137 : decode cL_law_ 1137 = .ok (.ifCond .eq 5, 3) := by decide +kernel
theorem dL_law__1140 : decode cL_law_ 1140 = .ok (.iconst 0, 1) := by decide +kernel
theorem dL_law__1141 : decode cL_law_ 1141 = .ok (.ireturn, 1) := by decide +kernel
theorem dL_law__1142 : decode cL_law_ 1142 = .ok (.goto 1497, 3) := by decide +kernel
theorem dL_law__1145 : decode cL_law_ 1145 = .ok (.aload_n 1, 1) := by decide +kernel
theorem dL_law__1146 : decode cL_law_ 1146 = .ok (.aload_n 0, 1) := by decide +kernel
theorem dL_law__1147 : decode cL_law_ 1147 = .ok (.iload 4, 2) := by decide +kernel
theorem dL_law__1149 : decode cL_law_ 1149 = .ok (.iconst 1, 1) := by decide +kernel
theorem dL_law__1150 : decode cL_law_ 1150 = .ok (.iadd, 1) := by decide +kernel
theorem dL_law__1151 : decode cL_law_ 1151 = .ok (.iaload, 1) := by decide +kernel
theorem dL_law__1152 : decode cL_law_ 1152 = .ok (.aload_n 0, 1) := by decide +kernel
theorem dL_law__1153 : decode cL_law_ 1153 = .ok (.iload 4, 2) := by decide +kernel
theorem dL_law__1155 : decode cL_law_ 1155 = .ok (.iconst 2, 1) := by decide +kernel
theorem dL_law__1156 : decode cL_law_ 1156 = .ok (.iadd, 1) := by decide +kernel
theorem dL_law__1157 : decode cL_law_ 1157 = .ok (.iaload, 1) := by decide +kernel
theorem dL_law__1158 : decode cL_law_ 1158 = .ok (.aload_n 0, 1) := by decide +kernel
theorem dL_law__1159 : decode cL_law_ 1159 = .ok (.iload 4, 2) := by decide +kernel
theorem dL_law__1161 : decode cL_law_ 1161 = .ok (.iconst 3, 1) := by decide +kernel
theorem dL_law__1162 : decode cL_law_ 1162 = .ok (.iadd, 1) := by decide +kernel
theorem dL_law__1163 : decode cL_law_ 1163 = .ok (.iaload, 1) := by decide +kernel
theorem dL_law__1164 : decode cL_law_ 1164 = .ok (.aload_n 0, 1) := by decide +kernel
theorem dL_law__1165 : decode cL_law_ 1165 = .ok (.iload 4, 2) := by decide +kernel
theorem dL_law__1167 : decode cL_law_ 1167 = .ok (.iconst 4, 1) := by decide +kernel
theorem dL_law__1168 : decode cL_law_ 1168 = .ok (.iadd, 1) := by decide +kernel
theorem dL_law__1169 : decode cL_law_ 1169 = .ok (.iaload, 1) := by decide +kernel
theorem dL_law__1170 : decode cL_law_ 1170 = .ok (.aload_n 0, 1) := by decide +kernel
theorem dL_law__1171 : decode cL_law_ 1171 = .ok (.iload 4, 2) := by decide +kernel
theorem dL_law__1173 : decode cL_law_ 1173 = .ok (.iconst 5, 1) := by decide +kernel
theorem dL_law__1174 : decode cL_law_ 1174 = .ok (.iadd, 1) := by decide +kernel
theorem dL_law__1175 : decode cL_law_ 1175 = .ok (.iaload, 1) := by decide +kernel
theorem dL_law__1176 : decode cL_law_ 1176 = .ok (.ifCond .eq 7, 3) := by decide +kernel
theorem dL_law__1179 : decode cL_law_ 1179 = .ok (.iconst 1, 1) := by decide +kernel
theorem dL_law__1180 : decode cL_law_ 1180 = .ok (.goto 4, 3) := by decide +kernel
theorem dL_law__1183 : decode cL_law_ 1183 = .ok (.iconst 0, 1) := by decide +kernel
theorem dL_law__1184 : decode cL_law_ 1184 = .ok (.aload_n 3, 1) := by decide +kernel
theorem dL_law__1185 : decode cL_law_ 1185 = .ok (.invokestatic 167, 3) := by decide +kernel
theorem dL_law__1188 : decode cL_law_ 1188 = .ok (.istore 5, 2) := by decide +kernel
theorem dL_law__1190 : decode cL_law_ 1190 = .ok (.aload_n 2, 1) := by decide +kernel
theorem dL_law__1191 : decode cL_law_ 1191 = .ok (.aload_n 0, 1) := by decide +kernel
theorem dL_law__1192 : decode cL_law_ 1192 = .ok (.iload 4, 2) := by decide +kernel
theorem dL_law__1194 : decode cL_law_ 1194 = .ok (.iconst 1, 1) := by decide +kernel
theorem dL_law__1195 : decode cL_law_ 1195 = .ok (.iadd, 1) := by decide +kernel
theorem dL_law__1196 : decode cL_law_ 1196 = .ok (.iaload, 1) := by decide +kernel
theorem dL_law__1197 : decode cL_law_ 1197 = .ok (.aload_n 0, 1) := by decide +kernel
theorem dL_law__1198 : decode cL_law_ 1198 = .ok (.iload 4, 2) := by decide +kernel
theorem dL_law__1200 : decode cL_law_ 1200 = .ok (.iconst 2, 1) := by decide +kernel
theorem dL_law__1201 : decode cL_law_ 1201 = .ok (.iadd, 1) := by decide +kernel
theorem dL_law__1202 : decode cL_law_ 1202 = .ok (.iaload, 1) := by decide +kernel
theorem dL_law__1203 : decode cL_law_ 1203 = .ok (.aload_n 0, 1) := by decide +kernel
theorem dL_law__1204 : decode cL_law_ 1204 = .ok (.iload 4, 2) := by decide +kernel
theorem dL_law__1206 : decode cL_law_ 1206 = .ok (.iconst 3, 1) := by decide +kernel
theorem dL_law__1207 : decode cL_law_ 1207 = .ok (.iadd, 1) := by decide +kernel
theorem dL_law__1208 : decode cL_law_ 1208 = .ok (.iaload, 1) := by decide +kernel
theorem dL_law__1209 : decode cL_law_ 1209 = .ok (.aload_n 0, 1) := by decide +kernel
theorem dL_law__1210 : decode cL_law_ 1210 = .ok (.iload 4, 2) := by decide +kernel
theorem dL_law__1212 : decode cL_law_ 1212 = .ok (.iconst 4, 1) := by decide +kernel
theorem dL_law__1213 : decode cL_law_ 1213 = .ok (.iadd, 1) := by decide +kernel
theorem dL_law__1214 : decode cL_law_ 1214 = .ok (.iaload, 1) := by decide +kernel
theorem dL_law__1215 : decode cL_law_ 1215 = .ok (.aload_n 0, 1) := by decide +kernel
theorem dL_law__1216 : decode cL_law_ 1216 = .ok (.iload 4, 2) := by decide +kernel
theorem dL_law__1218 : decode cL_law_ 1218 = .ok (.iconst 5, 1) := by decide +kernel
theorem dL_law__1219 : decode cL_law_ 1219 = .ok (.iadd, 1) := by decide +kernel
theorem dL_law__1220 : decode cL_law_ 1220 = .ok (.iaload, 1) := by decide +kernel
theorem dL_law__1221 : decode cL_law_ 1221 = .ok (.ifCond .eq 7, 3) := by decide +kernel
theorem dL_law__1224 : decode cL_law_ 1224 = .ok (.iconst 1, 1) := by decide +kernel
theorem dL_law__1225 : decode cL_law_ 1225 = .ok (.goto 4, 3) := by decide +kernel
theorem dL_law__1228 : decode cL_law_ 1228 = .ok (.iconst 0, 1) := by decide +kernel
theorem dL_law__1229 : decode cL_law_ 1229 = .ok (.invokevirtual 170, 3) := by decide +kernel
theorem dL_law__1232 : decode cL_law_ 1232 = .ok (.istore 6, 2) := by decide +kernel
theorem dL_law__1234 : decode cL_law_ 1234 = .ok (.aload_n 2, 1) := by decide +kernel
theorem dL_law__1235 : decode cL_law_ 1235 = .ok (.invokevirtual 124, 3) := by decide +kernel
theorem dL_law__1238 : decode cL_law_ 1238 = .ok (.iload 5, 2) := by decide +kernel
theorem dL_law__1240 : decode cL_law_ 1240 = .ok (.if_icmp .eq 5, 3) := by decide +kernel
theorem dL_law__1243 : decode cL_law_ 1243 = .ok (.iconst 0, 1) := by decide +kernel
theorem dL_law__1244 : decode cL_law_ 1244 = .ok (.ireturn, 1) := by decide +kernel
theorem dL_law__1245 : decode cL_law_ 1245 = .ok (.iload 5, 2) := by decide +kernel
theorem dL_law__1247 : decode cL_law_ 1247 = .ok (.ifCond .ne 15, 3) := by decide +kernel
theorem dL_law__1250 : decode cL_law_ 1250 = .ok (.aload_n 3, 1) := by decide +kernel
theorem dL_law__1251 : decode cL_law_ 1251 = .ok (.iconst 0, 1) := by decide +kernel
theorem dL_law__1252 : decode cL_law_ 1252 = .ok (.laload, 1) := by decide +kernel
theorem dL_law__1253 : decode cL_law_ 1253 = .ok (.iload 6, 2) := by decide +kernel
theorem dL_law__1255 : decode cL_law_ 1255 = .ok (.i2l, 1) := by decide +kernel
theorem dL_law__1256 : decode cL_law_ 1256 = .ok (.lcmp, 1) := by decide +kernel
theorem dL_law__1257 : decode cL_law_ 1257 = .ok (.ifCond .eq 5, 3) := by decide +kernel
theorem dL_law__1260 : decode cL_law_ 1260 = .ok (.iconst 0, 1) := by decide +kernel
theorem dL_law__1261 : decode cL_law_ 1261 = .ok (.ireturn, 1) := by decide +kernel
theorem dL_law__1262 : decode cL_law_ 1262 = .ok (.goto 1377, 3) := by decide +kernel
theorem dL_law__1265 : decode cL_law_ 1265 = .ok (.aload_n 1, 1) := by decide +kernel
theorem dL_law__1266 : decode cL_law_ 1266 = .ok (.aload_n 0, 1) := by decide +kernel
theorem dL_law__1267 : decode cL_law_ 1267 = .ok (.iload 4, 2) := by decide +kernel
theorem dL_law__1269 : decode cL_law_ 1269 = .ok (.iconst 1, 1) := by decide +kernel
theorem dL_law__1270 : decode cL_law_ 1270 = .ok (.iadd, 1) := by decide +kernel
theorem dL_law__1271 : decode cL_law_ 1271 = .ok (.iaload, 1) := by decide +kernel
theorem dL_law__1272 : decode cL_law_ 1272 = .ok (.aload_n 0, 1) := by decide +kernel
theorem dL_law__1273 : decode cL_law_ 1273 = .ok (.iload 4, 2) := by decide +kernel
theorem dL_law__1275 : decode cL_law_ 1275 = .ok (.iconst 2, 1) := by decide +kernel
theorem dL_law__1276 : decode cL_law_ 1276 = .ok (.iadd, 1) := by decide +kernel
theorem dL_law__1277 : decode cL_law_ 1277 = .ok (.iaload, 1) := by decide +kernel
theorem dL_law__1278 : decode cL_law_ 1278 = .ok (.aload_n 0, 1) := by decide +kernel
theorem dL_law__1279 : decode cL_law_ 1279 = .ok (.iload 4, 2) := by decide +kernel
theorem dL_law__1281 : decode cL_law_ 1281 = .ok (.iconst 3, 1) := by decide +kernel
theorem dL_law__1282 : decode cL_law_ 1282 = .ok (.iadd, 1) := by decide +kernel
theorem dL_law__1283 : decode cL_law_ 1283 = .ok (.iaload, 1) := by decide +kernel
theorem dL_law__1284 : decode cL_law_ 1284 = .ok (.aload_n 0, 1) := by decide +kernel
theorem dL_law__1285 : decode cL_law_ 1285 = .ok (.iload 4, 2) := by decide +kernel
theorem dL_law__1287 : decode cL_law_ 1287 = .ok (.iconst 4, 1) := by decide +kernel
theorem dL_law__1288 : decode cL_law_ 1288 = .ok (.iadd, 1) := by decide +kernel
theorem dL_law__1289 : decode cL_law_ 1289 = .ok (.iaload, 1) := by decide +kernel
theorem dL_law__1290 : decode cL_law_ 1290 = .ok (.aload_n 0, 1) := by decide +kernel
theorem dL_law__1291 : decode cL_law_ 1291 = .ok (.iload 4, 2) := by decide +kernel
theorem dL_law__1293 : decode cL_law_ 1293 = .ok (.iconst 5, 1) := by decide +kernel
theorem dL_law__1294 : decode cL_law_ 1294 = .ok (.iadd, 1) := by decide +kernel
theorem dL_law__1295 : decode cL_law_ 1295 = .ok (.iaload, 1) := by decide +kernel
theorem dL_law__1296 : decode cL_law_ 1296 = .ok (.ifCond .eq 7, 3) := by decide +kernel
theorem dL_law__1299 : decode cL_law_ 1299 = .ok (.iconst 1, 1) := by decide +kernel
theorem dL_law__1300 : decode cL_law_ 1300 = .ok (.goto 4, 3) := by decide +kernel
theorem dL_law__1303 : decode cL_law_ 1303 = .ok (.iconst 0, 1) := by decide +kernel
theorem dL_law__1304 : decode cL_law_ 1304 = .ok (.aload_n 3, 1) := by decide +kernel
theorem dL_law__1305 : decode cL_law_ 1305 = .ok (.invokestatic 171, 3) := by decide +kernel
theorem dL_law__1308 : decode cL_law_ 1308 = .ok (.istore 5, 2) := by decide +kernel
theorem dL_law__1310 : decode cL_law_ 1310 = .ok (.aload_n 2, 1) := by decide +kernel
theorem dL_law__1311 : decode cL_law_ 1311 = .ok (.aload_n 0, 1) := by decide +kernel
theorem dL_law__1312 : decode cL_law_ 1312 = .ok (.iload 4, 2) := by decide +kernel
theorem dL_law__1314 : decode cL_law_ 1314 = .ok (.iconst 1, 1) := by decide +kernel
theorem dL_law__1315 : decode cL_law_ 1315 = .ok (.iadd, 1) := by decide +kernel
theorem dL_law__1316 : decode cL_law_ 1316 = .ok (.iaload, 1) := by decide +kernel
theorem dL_law__1317 : decode cL_law_ 1317 = .ok (.aload_n 0, 1) := by decide +kernel
theorem dL_law__1318 : decode cL_law_ 1318 = .ok (.iload 4, 2) := by decide +kernel
theorem dL_law__1320 : decode cL_law_ 1320 = .ok (.iconst 2, 1) := by decide +kernel
theorem dL_law__1321 : decode cL_law_ 1321 = .ok (.iadd, 1) := by decide +kernel
theorem dL_law__1322 : decode cL_law_ 1322 = .ok (.iaload, 1) := by decide +kernel
theorem dL_law__1323 : decode cL_law_ 1323 = .ok (.aload_n 0, 1) := by decide +kernel
theorem dL_law__1324 : decode cL_law_ 1324 = .ok (.iload 4, 2) := by decide +kernel
theorem dL_law__1326 : decode cL_law_ 1326 = .ok (.iconst 3, 1) := by decide +kernel
theorem dL_law__1327 : decode cL_law_ 1327 = .ok (.iadd, 1) := by decide +kernel
theorem dL_law__1328 : decode cL_law_ 1328 = .ok (.iaload, 1) := by decide +kernel
theorem dL_law__1329 : decode cL_law_ 1329 = .ok (.aload_n 0, 1) := by decide +kernel
theorem dL_law__1330 : decode cL_law_ 1330 = .ok (.iload 4, 2) := by decide +kernel
theorem dL_law__1332 : decode cL_law_ 1332 = .ok (.iconst 4, 1) := by decide +kernel
theorem dL_law__1333 : decode cL_law_ 1333 = .ok (.iadd, 1) := by decide +kernel
theorem dL_law__1334 : decode cL_law_ 1334 = .ok (.iaload, 1) := by decide +kernel
theorem dL_law__1335 : decode cL_law_ 1335 = .ok (.aload_n 0, 1) := by decide +kernel
theorem dL_law__1336 : decode cL_law_ 1336 = .ok (.iload 4, 2) := by decide +kernel
theorem dL_law__1338 : decode cL_law_ 1338 = .ok (.iconst 5, 1) := by decide +kernel
theorem dL_law__1339 : decode cL_law_ 1339 = .ok (.iadd, 1) := by decide +kernel
theorem dL_law__1340 : decode cL_law_ 1340 = .ok (.iaload, 1) := by decide +kernel
theorem dL_law__1341 : decode cL_law_ 1341 = .ok (.ifCond .eq 7, 3) := by decide +kernel
theorem dL_law__1344 : decode cL_law_ 1344 = .ok (.iconst 1, 1) := by decide +kernel
theorem dL_law__1345 : decode cL_law_ 1345 = .ok (.goto 4, 3) := by decide +kernel
theorem dL_law__1348 : decode cL_law_ 1348 = .ok (.iconst 0, 1) := by decide +kernel
theorem dL_law__1349 : decode cL_law_ 1349 = .ok (.invokevirtual 173, 3) := by decide +kernel
theorem dL_law__1352 : decode cL_law_ 1352 = .ok (.istore 6, 2) := by decide +kernel
theorem dL_law__1354 : decode cL_law_ 1354 = .ok (.aload_n 2, 1) := by decide +kernel
theorem dL_law__1355 : decode cL_law_ 1355 = .ok (.invokevirtual 124, 3) := by decide +kernel
theorem dL_law__1358 : decode cL_law_ 1358 = .ok (.iload 5, 2) := by decide +kernel
theorem dL_law__1360 : decode cL_law_ 1360 = .ok (.if_icmp .eq 5, 3) := by decide +kernel
theorem dL_law__1363 : decode cL_law_ 1363 = .ok (.iconst 0, 1) := by decide +kernel
theorem dL_law__1364 : decode cL_law_ 1364 = .ok (.ireturn, 1) := by decide +kernel
theorem dL_law__1365 : decode cL_law_ 1365 = .ok (.iload 5, 2) := by decide +kernel
theorem dL_law__1367 : decode cL_law_ 1367 = .ok (.ifCond .ne 15, 3) := by decide +kernel
theorem dL_law__1370 : decode cL_law_ 1370 = .ok (.aload_n 3, 1) := by decide +kernel
theorem dL_law__1371 : decode cL_law_ 1371 = .ok (.iconst 0, 1) := by decide +kernel
theorem dL_law__1372 : decode cL_law_ 1372 = .ok (.laload, 1) := by decide +kernel
theorem dL_law__1373 : decode cL_law_ 1373 = .ok (.iload 6, 2) := by decide +kernel
theorem dL_law__1375 : decode cL_law_ 1375 = .ok (.i2l, 1) := by decide +kernel
theorem dL_law__1376 : decode cL_law_ 1376 = .ok (.lcmp, 1) := by decide +kernel
theorem dL_law__1377 : decode cL_law_ 1377 = .ok (.ifCond .eq 5, 3) := by decide +kernel
theorem dL_law__1380 : decode cL_law_ 1380 = .ok (.iconst 0, 1) := by decide +kernel
theorem dL_law__1381 : decode cL_law_ 1381 = .ok (.ireturn, 1) := by decide +kernel
theorem dL_law__1382 : decode cL_law_ 1382 = .ok (.goto 1257, 3) := by decide +kernel
theorem dL_law__1385 : decode cL_law_ 1385 = .ok (.aload_n 1, 1) := by decide +kernel
theorem dL_law__1386 : decode cL_law_ 1386 = .ok (.aload_n 0, 1) := by decide +kernel
theorem dL_law__1387 : decode cL_law_ 1387 = .ok (.iload 4, 2) := by decide +kernel
theorem dL_law__1389 : decode cL_law_ 1389 = .ok (.iconst 1, 1) := by decide +kernel
theorem dL_law__1390 : decode cL_law_ 1390 = .ok (.iadd, 1) := by decide +kernel
theorem dL_law__1391 : decode cL_law_ 1391 = .ok (.iaload, 1) := by decide +kernel
theorem dL_law__1392 : decode cL_law_ 1392 = .ok (.aload_n 0, 1) := by decide +kernel
theorem dL_law__1393 : decode cL_law_ 1393 = .ok (.iload 4, 2) := by decide +kernel
theorem dL_law__1395 : decode cL_law_ 1395 = .ok (.iconst 2, 1) := by decide +kernel
theorem dL_law__1396 : decode cL_law_ 1396 = .ok (.iadd, 1) := by decide +kernel
theorem dL_law__1397 : decode cL_law_ 1397 = .ok (.iaload, 1) := by decide +kernel
theorem dL_law__1398 : decode cL_law_ 1398 = .ok (.aload_n 0, 1) := by decide +kernel
theorem dL_law__1399 : decode cL_law_ 1399 = .ok (.iload 4, 2) := by decide +kernel
theorem dL_law__1401 : decode cL_law_ 1401 = .ok (.iconst 3, 1) := by decide +kernel
theorem dL_law__1402 : decode cL_law_ 1402 = .ok (.iadd, 1) := by decide +kernel
theorem dL_law__1403 : decode cL_law_ 1403 = .ok (.iaload, 1) := by decide +kernel
theorem dL_law__1404 : decode cL_law_ 1404 = .ok (.aload_n 3, 1) := by decide +kernel
theorem dL_law__1405 : decode cL_law_ 1405 = .ok (.invokestatic 174, 3) := by decide +kernel
theorem dL_law__1408 : decode cL_law_ 1408 = .ok (.istore 5, 2) := by decide +kernel
theorem dL_law__1410 : decode cL_law_ 1410 = .ok (.aload_n 2, 1) := by decide +kernel
theorem dL_law__1411 : decode cL_law_ 1411 = .ok (.aload_n 0, 1) := by decide +kernel
theorem dL_law__1412 : decode cL_law_ 1412 = .ok (.iload 4, 2) := by decide +kernel
theorem dL_law__1414 : decode cL_law_ 1414 = .ok (.iconst 1, 1) := by decide +kernel
theorem dL_law__1415 : decode cL_law_ 1415 = .ok (.iadd, 1) := by decide +kernel
theorem dL_law__1416 : decode cL_law_ 1416 = .ok (.iaload, 1) := by decide +kernel
theorem dL_law__1417 : decode cL_law_ 1417 = .ok (.aload_n 0, 1) := by decide +kernel
theorem dL_law__1418 : decode cL_law_ 1418 = .ok (.iload 4, 2) := by decide +kernel
theorem dL_law__1420 : decode cL_law_ 1420 = .ok (.iconst 2, 1) := by decide +kernel
theorem dL_law__1421 : decode cL_law_ 1421 = .ok (.iadd, 1) := by decide +kernel
theorem dL_law__1422 : decode cL_law_ 1422 = .ok (.iaload, 1) := by decide +kernel
theorem dL_law__1423 : decode cL_law_ 1423 = .ok (.aload_n 0, 1) := by decide +kernel
theorem dL_law__1424 : decode cL_law_ 1424 = .ok (.iload 4, 2) := by decide +kernel
theorem dL_law__1426 : decode cL_law_ 1426 = .ok (.iconst 3, 1) := by decide +kernel
theorem dL_law__1427 : decode cL_law_ 1427 = .ok (.iadd, 1) := by decide +kernel
theorem dL_law__1428 : decode cL_law_ 1428 = .ok (.iaload, 1) := by decide +kernel
theorem dL_law__1429 : decode cL_law_ 1429 = .ok (.invokevirtual 176, 3) := by decide +kernel
theorem dL_law__1432 : decode cL_law_ 1432 = .ok (.istore 6, 2) := by decide +kernel
theorem dL_law__1434 : decode cL_law_ 1434 = .ok (.aload_n 2, 1) := by decide +kernel
theorem dL_law__1435 : decode cL_law_ 1435 = .ok (.invokevirtual 124, 3) := by decide +kernel
theorem dL_law__1438 : decode cL_law_ 1438 = .ok (.iload 5, 2) := by decide +kernel
theorem dL_law__1440 : decode cL_law_ 1440 = .ok (.if_icmp .eq 5, 3) := by decide +kernel
theorem dL_law__1443 : decode cL_law_ 1443 = .ok (.iconst 0, 1) := by decide +kernel
theorem dL_law__1444 : decode cL_law_ 1444 = .ok (.ireturn, 1) := by decide +kernel
theorem dL_law__1445 : decode cL_law_ 1445 = .ok (.iload 5, 2) := by decide +kernel
theorem dL_law__1447 : decode cL_law_ 1447 = .ok (.ifCond .ne 15, 3) := by decide +kernel
theorem dL_law__1450 : decode cL_law_ 1450 = .ok (.aload_n 3, 1) := by decide +kernel
theorem dL_law__1451 : decode cL_law_ 1451 = .ok (.iconst 0, 1) := by decide +kernel
theorem dL_law__1452 : decode cL_law_ 1452 = .ok (.laload, 1) := by decide +kernel
theorem dL_law__1453 : decode cL_law_ 1453 = .ok (.iload 6, 2) := by decide +kernel
theorem dL_law__1455 : decode cL_law_ 1455 = .ok (.i2l, 1) := by decide +kernel
theorem dL_law__1456 : decode cL_law_ 1456 = .ok (.lcmp, 1) := by decide +kernel
theorem dL_law__1457 : decode cL_law_ 1457 = .ok (.ifCond .eq 5, 3) := by decide +kernel
theorem dL_law__1460 : decode cL_law_ 1460 = .ok (.iconst 0, 1) := by decide +kernel
theorem dL_law__1461 : decode cL_law_ 1461 = .ok (.ireturn, 1) := by decide +kernel
theorem dL_law__1462 : decode cL_law_ 1462 = .ok (.goto 1177, 3) := by decide +kernel
theorem dL_law__1465 : decode cL_law_ 1465 = .ok (.aload_n 1, 1) := by decide +kernel
theorem dL_law__1466 : decode cL_law_ 1466 = .ok (.aload_n 0, 1) := by decide +kernel
theorem dL_law__1467 : decode cL_law_ 1467 = .ok (.iload 4, 2) := by decide +kernel
theorem dL_law__1469 : decode cL_law_ 1469 = .ok (.iconst 1, 1) := by decide +kernel
theorem dL_law__1470 : decode cL_law_ 1470 = .ok (.iadd, 1) := by decide +kernel
theorem dL_law__1471 : decode cL_law_ 1471 = .ok (.iaload, 1) := by decide +kernel
