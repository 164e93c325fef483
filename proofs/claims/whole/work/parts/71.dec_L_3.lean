theorem dL_law_1060 : decode code 1060 = .ok (.iconst 1, 1) := by decide +kernel
theorem dL_law_1061 : decode code 1061 = .ok (.iadd, 1) := by decide +kernel
theorem dL_law_1062 : decode code 1062 = .ok (.iaload, 1) := by decide +kernel
theorem dL_law_1063 : decode code 1063 = .ok (.aload_n 0, 1) := by decide +kernel
theorem dL_law_1064 : decode code 1064 = .ok (.iload_n 3, 1) := by decide +kernel
theorem dL_law_1065 : decode code 1065 = .ok (.iconst 2, 1) := by decide +kernel
theorem dL_law_1066 : decode code 1066 = .ok (.iadd, 1) := by decide +kernel
theorem dL_law_1067 : decode code 1067 = .ok (.iaload, 1) := by decide +kernel
theorem dL_law_1068 : decode code 1068 = .ok (.invokevirtual 137, 3) := by decide +kernel
theorem dL_law_1071 : decode code 1071 = .ok (.if_icmp .eq 284, 3) := by decide +kernel
theorem dL_law_1074 : decode code 1074 = .ok (.iconst 0, 1) := by decide +kernel
theorem dL_law_1075 : decode code 1075 = .ok (.ireturn, 1) := by decide +kernel
theorem dL_law_1076 : decode code 1076 = .ok (.aload_n 1, 1) := by decide +kernel
theorem dL_law_1077 : decode code 1077 = .ok (.aload_n 0, 1) := by decide +kernel
theorem dL_law_1078 : decode code 1078 = .ok (.iload_n 3, 1) := by decide +kernel
theorem dL_law_1079 : decode code 1079 = .ok (.iconst 1, 1) := by decide +kernel
theorem dL_law_1080 : decode code 1080 = .ok (.iadd, 1) := by decide +kernel
theorem dL_law_1081 : decode code 1081 = .ok (.iaload, 1) := by decide +kernel
theorem dL_law_1082 : decode code 1082 = .ok (.aload_n 0, 1) := by decide +kernel
theorem dL_law_1083 : decode code 1083 = .ok (.iload_n 3, 1) := by decide +kernel
theorem dL_law_1084 : decode code 1084 = .ok (.iconst 2, 1) := by decide +kernel
theorem dL_law_1085 : decode code 1085 = .ok (.iadd, 1) := by decide +kernel
theorem dL_law_1086 : decode code 1086 = .ok (.iaload, 1) := by decide +kernel
theorem dL_law_1087 : decode code 1087 = .ok (.invokevirtual 138, 3) := by decide +kernel
theorem dL_law_1090 : decode code 1090 = .ok (.aload_n 2, 1) := by decide +kernel
theorem dL_law_1091 : decode code 1091 = .ok (.aload_n 0, 1) := by decide +kernel
theorem dL_law_1092 : decode code 1092 = .ok (.iload_n 3, 1) := by decide +kernel
theorem dL_law_1093 : decode code 1093 = .ok (.iconst 1, 1) := by decide +kernel
theorem dL_law_1094 : decode code 1094 = .ok (.iadd, 1) := by decide +kernel
theorem dL_law_1095 : decode code 1095 = .ok (.iaload, 1) := by decide +kernel
theorem dL_law_1096 : decode code 1096 = .ok (.aload_n 0, 1) := by decide +kernel
theorem dL_law_1097 : decode code 1097 = .ok (.iload_n 3, 1) := by decide +kernel
theorem dL_law_1098 : decode code 1098 = .ok (.iconst 2, 1) := by decide +kernel
theorem dL_law_1099 : decode code 1099 = .ok (.iadd, 1) := by decide +kernel
theorem dL_law_1100 : decode code 1100 = .ok (.iaload, 1) := by decide +kernel
theorem dL_law_1101 : decode code 1101 = .ok (.invokevirtual 141, 3) := by decide +kernel
theorem dL_law_1104 : decode code 1104 = .ok (.if_icmp .eq 251, 3) := by decide +kernel
theorem dL_law_1107 : decode code 1107 = .ok (.iconst 0, 1) := by decide +kernel
theorem dL_law_1108 : decode code 1108 = .ok (.ireturn, 1) := by decide +kernel
theorem dL_law_1109 : decode code 1109 = .ok (.aload_n 1, 1) := by decide +kernel
theorem dL_law_1110 : decode code 1110 = .ok (.aload_n 0, 1) := by decide +kernel
theorem dL_law_1111 : decode code 1111 = .ok (.iload_n 3, 1) := by decide +kernel
theorem dL_law_1112 : decode code 1112 = .ok (.iconst 1, 1) := by decide +kernel
theorem dL_law_1113 : decode code 1113 = .ok (.iadd, 1) := by decide +kernel
theorem dL_law_1114 : decode code 1114 = .ok (.iaload, 1) := by decide +kernel
theorem dL_law_1115 : decode code 1115 = .ok (.invokevirtual 142, 3) := by decide +kernel
theorem dL_law_1118 : decode code 1118 = .ok (.aload_n 2, 1) := by decide +kernel
theorem dL_law_1119 : decode code 1119 = .ok (.aload_n 0, 1) := by decide +kernel
theorem dL_law_1120 : decode code 1120 = .ok (.iload_n 3, 1) := by decide +kernel
theorem dL_law_1121 : decode code 1121 = .ok (.iconst 1, 1) := by decide +kernel
theorem dL_law_1122 : decode code 1122 = .ok (.iadd, 1) := by decide +kernel
theorem dL_law_1123 : decode code 1123 = .ok (.iaload, 1) := by decide +kernel
theorem dL_law_1124 : decode code 1124 = .ok (.invokevirtual 145, 3) := by decide +kernel
theorem dL_law_1127 : decode code 1127 = .ok (.if_icmp .eq 228, 3) := by decide +kernel
theorem dL_law_1130 : decode code 1130 = .ok (.iconst 0, 1) := by decide +kernel
theorem dL_law_1131 : decode code 1131 = .ok (.ireturn, 1) := by decide +kernel
theorem dL_law_1132 : decode code 1132 = .ok (.aload_n 1, 1) := by decide +kernel
theorem dL_law_1133 : decode code 1133 = .ok (.aload_n 0, 1) := by decide +kernel
theorem dL_law_1134 : decode code 1134 = .ok (.iload_n 3, 1) := by decide +kernel
theorem dL_law_1135 : decode code 1135 = .ok (.iconst 1, 1) := by decide +kernel
theorem dL_law_1136 : decode code 1136 = .ok (.iadd, 1) := by decide +kernel
theorem dL_law_1137 : decode code 1137 = .ok (.iaload, 1) := by decide +kernel
theorem dL_law_1138 : decode code 1138 = .ok (.aload_n 0, 1) := by decide +kernel
theorem dL_law_1139 : decode code 1139 = .ok (.iload_n 3, 1) := by decide +kernel
theorem dL_law_1140 : decode code 1140 = .ok (.iconst 2, 1) := by decide +kernel
theorem dL_law_1141 : decode code 1141 = .ok (.iadd, 1) := by decide +kernel
theorem dL_law_1142 : decode code 1142 = .ok (.iaload, 1) := by decide +kernel
theorem dL_law_1143 : decode code 1143 = .ok (.aload_n 0, 1) := by decide +kernel
theorem dL_law_1144 : decode code 1144 = .ok (.iload_n 3, 1) := by decide +kernel
theorem dL_law_1145 : decode code 1145 = .ok (.iconst 3, 1) := by decide +kernel
theorem dL_law_1146 : decode code 1146 = .ok (.iadd, 1) := by decide +kernel
theorem dL_law_1147 : decode code 1147 = .ok (.iaload, 1) := by decide +kernel
theorem dL_law_1148 : decode code 1148 = .ok (.invokevirtual 146, 3) := by decide +kernel
theorem dL_law_1151 : decode code 1151 = .ok (.aload_n 2, 1) := by decide +kernel
theorem dL_law_1152 : decode code 1152 = .ok (.aload_n 0, 1) := by decide +kernel
theorem dL_law_1153 : decode code 1153 = .ok (.iload_n 3, 1) := by decide +kernel
theorem dL_law_1154 : decode code 1154 = .ok (.iconst 1, 1) := by decide +kernel
theorem dL_law_1155 : decode code 1155 = .ok (.iadd, 1) := by decide +kernel
theorem dL_law_1156 : decode code 1156 = .ok (.iaload, 1) := by decide +kernel
theorem dL_law_1157 : decode code 1157 = .ok (.aload_n 0, 1) := by decide +kernel
theorem dL_law_1158 : decode code 1158 = .ok (.iload_n 3, 1) := by decide +kernel
theorem dL_law_1159 : decode code 1159 = .ok (.iconst 2, 1) := by decide +kernel
theorem dL_law_1160 : decode code 1160 = .ok (.iadd, 1) := by decide +kernel
theorem dL_law_1161 : decode code 1161 = .ok (.iaload, 1) := by decide +kernel
theorem dL_law_1162 : decode code 1162 = .ok (.aload_n 0, 1) := by decide +kernel
theorem dL_law_1163 : decode code 1163 = .ok (.iload_n 3, 1) := by decide +kernel
theorem dL_law_1164 : decode code 1164 = .ok (.iconst 3, 1) := by decide +kernel
theorem dL_law_1165 : decode code 1165 = .ok (.iadd, 1) := by decide +kernel
theorem dL_law_1166 : decode code 1166 = .ok (.iaload, 1) := by decide +kernel
theorem dL_law_1167 : decode code 1167 = .ok (.invokevirtual 149, 3) := by decide +kernel
theorem dL_law_1170 : decode code 1170 = .ok (.if_icmp .eq 185, 3) := by decide +kernel
theorem dL_law_1173 : decode code 1173 = .ok (.iconst 0, 1) := by decide +kernel
theorem dL_law_1174 : decode code 1174 = .ok (.ireturn, 1) := by decide +kernel
theorem dL_law_1175 : decode code 1175 = .ok (.aload_n 1, 1) := by decide +kernel
theorem dL_law_1176 : decode code 1176 = .ok (.aload_n 0, 1) := by decide +kernel
theorem dL_law_1177 : decode code 1177 = .ok (.iload_n 3, 1) := by decide +kernel
theorem dL_law_1178 : decode code 1178 = .ok (.iconst 1, 1) := by decide +kernel
theorem dL_law_1179 : decode code 1179 = .ok (.iadd, 1) := by decide +kernel
theorem dL_law_1180 : decode code 1180 = .ok (.iaload, 1) := by decide +kernel
theorem dL_law_1181 : decode code 1181 = .ok (.aload_n 0, 1) := by decide +kernel
theorem dL_law_1182 : decode code 1182 = .ok (.iload_n 3, 1) := by decide +kernel
theorem dL_law_1183 : decode code 1183 = .ok (.iconst 2, 1) := by decide +kernel
theorem dL_law_1184 : decode code 1184 = .ok (.iadd, 1) := by decide +kernel
theorem dL_law_1185 : decode code 1185 = .ok (.iaload, 1) := by decide +kernel
theorem dL_law_1186 : decode code 1186 = .ok (.invokevirtual 150, 3) := by decide +kernel
theorem dL_law_1189 : decode code 1189 = .ok (.aload_n 2, 1) := by decide +kernel
theorem dL_law_1190 : decode code 1190 = .ok (.aload_n 0, 1) := by decide +kernel
theorem dL_law_1191 : decode code 1191 = .ok (.iload_n 3, 1) := by decide +kernel
theorem dL_law_1192 : decode code 1192 = .ok (.iconst 1, 1) := by decide +kernel
theorem dL_law_1193 : decode code 1193 = .ok (.iadd, 1) := by decide +kernel
theorem dL_law_1194 : decode code 1194 = .ok (.iaload, 1) := by decide +kernel
theorem dL_law_1195 : decode code 1195 = .ok (.aload_n 0, 1) := by decide +kernel
theorem dL_law_1196 : decode code 1196 = .ok (.iload_n 3, 1) := by decide +kernel
theorem dL_law_1197 : decode code 1197 = .ok (.iconst 2, 1) := by decide +kernel
theorem dL_law_1198 : decode code 1198 = .ok (.iadd, 1) := by decide +kernel
theorem dL_law_1199 : decode code 1199 = .ok (.iaload, 1) := by decide +kernel
theorem dL_law_1200 : decode code 1200 = .ok (.invokevirtual 153, 3) := by decide +kernel
theorem dL_law_1203 : decode code 1203 = .ok (.if_icmp .eq 152, 3) := by decide +kernel
theorem dL_law_1206 : decode code 1206 = .ok (.iconst 0, 1) := by decide +kernel
theorem dL_law_1207 : decode code 1207 = .ok (.ireturn, 1) := by decide +kernel
theorem dL_law_1208 : decode code 1208 = .ok (.aload_n 1, 1) := by decide +kernel
theorem dL_law_1209 : decode code 1209 = .ok (.aload_n 0, 1) := by decide +kernel
theorem dL_law_1210 : decode code 1210 = .ok (.iload_n 3, 1) := by decide +kernel
theorem dL_law_1211 : decode code 1211 = .ok (.iconst 1, 1) := by decide +kernel
theorem dL_law_1212 : decode code 1212 = .ok (.iadd, 1) := by decide +kernel
theorem dL_law_1213 : decode code 1213 = .ok (.iaload, 1) := by decide +kernel
theorem dL_law_1214 : decode code 1214 = .ok (.aload_n 0, 1) := by decide +kernel
theorem dL_law_1215 : decode code 1215 = .ok (.iload_n 3, 1) := by decide +kernel
theorem dL_law_1216 : decode code 1216 = .ok (.iconst 2, 1) := by decide +kernel
theorem dL_law_1217 : decode code 1217 = .ok (.iadd, 1) := by decide +kernel
theorem dL_law_1218 : decode code 1218 = .ok (.iaload, 1) := by decide +kernel
theorem dL_law_1219 : decode code 1219 = .ok (.invokevirtual 154, 3) := by decide +kernel
theorem dL_law_1222 : decode code 1222 = .ok (.aload_n 2, 1) := by decide +kernel
theorem dL_law_1223 : decode code 1223 = .ok (.aload_n 0, 1) := by decide +kernel
theorem dL_law_1224 : decode code 1224 = .ok (.iload_n 3, 1) := by decide +kernel
theorem dL_law_1225 : decode code 1225 = .ok (.iconst 1, 1) := by decide +kernel
theorem dL_law_1226 : decode code 1226 = .ok (.iadd, 1) := by decide +kernel
theorem dL_law_1227 : decode code 1227 = .ok (.iaload, 1) := by decide +kernel
theorem dL_law_1228 : decode code 1228 = .ok (.aload_n 0, 1) := by decide +kernel
theorem dL_law_1229 : decode code 1229 = .ok (.iload_n 3, 1) := by decide +kernel
theorem dL_law_1230 : decode code 1230 = .ok (.iconst 2, 1) := by decide +kernel
theorem dL_law_1231 : decode code 1231 = .ok (.iadd, 1) := by decide +kernel
theorem dL_law_1232 : decode code 1232 = .ok (.iaload, 1) := by decide +kernel
theorem dL_law_1233 : decode code 1233 = .ok (.invokevirtual 157, 3) := by decide +kernel
theorem dL_law_1236 : decode code 1236 = .ok (.if_icmp .eq 119, 3) := by decide +kernel
theorem dL_law_1239 : decode code 1239 = .ok (.iconst 0, 1) := by decide +kernel
theorem dL_law_1240 : decode code 1240 = .ok (.ireturn, 1) := by decide +kernel
theorem dL_law_1241 : decode code 1241 = .ok (.aload_n 1, 1) := by decide +kernel
theorem dL_law_1242 : decode code 1242 = .ok (.invokevirtual 158, 3) := by decide +kernel
theorem dL_law_1245 : decode code 1245 = .ok (.aload_n 2, 1) := by decide +kernel
theorem dL_law_1246 : decode code 1246 = .ok (.invokevirtual 161, 3) := by decide +kernel
theorem dL_law_1249 : decode code 1249 = .ok (.if_icmp .eq 106, 3) := by decide +kernel
theorem dL_law_1252 : decode code 1252 = .ok (.iconst 0, 1) := by decide +kernel
theorem dL_law_1253 : decode code 1253 = .ok (.ireturn, 1) := by decide +kernel
theorem dL_law_1254 : decode code 1254 = .ok (.aload_n 1, 1) := by decide +kernel
theorem dL_law_1255 : decode code 1255 = .ok (.invokevirtual 162, 3) := by decide +kernel
theorem dL_law_1258 : decode code 1258 = .ok (.aload_n 2, 1) := by decide +kernel
theorem dL_law_1259 : decode code 1259 = .ok (.invokevirtual 166, 3) := by decide +kernel
theorem dL_law_1262 : decode code 1262 = .ok (.lcmp, 1) := by decide +kernel
theorem dL_law_1263 : decode code 1263 = .ok (.ifCond .eq 92, 3) := by decide +kernel
theorem dL_law_1266 : decode code 1266 = .ok (.iconst 0, 1) := by decide +kernel
theorem dL_law_1267 : decode code 1267 = .ok (.ireturn, 1) := by decide +kernel
theorem dL_law_1268 : decode code 1268 = .ok (.aload_n 1, 1) := by decide +kernel
theorem dL_law_1269 : decode code 1269 = .ok (.invokevirtual 167, 3) := by decide +kernel
theorem dL_law_1272 : decode code 1272 = .ok (.aload_n 2, 1) := by decide +kernel
theorem dL_law_1273 : decode code 1273 = .ok (.invokevirtual 170, 3) := by decide +kernel
theorem dL_law_1276 : decode code 1276 = .ok (.lcmp, 1) := by decide +kernel
theorem dL_law_1277 : decode code 1277 = .ok (.ifCond .eq 78, 3) := by decide +kernel
theorem dL_law_1280 : decode code 1280 = .ok (.iconst 0, 1) := by decide +kernel
theorem dL_law_1281 : decode code 1281 = .ok (.ireturn, 1) := by decide +kernel
theorem dL_law_1282 : decode code 1282 = .ok (.aload_n 1, 1) := by decide +kernel
theorem dL_law_1283 : decode code 1283 = .ok (.aload_n 0, 1) := by decide +kernel
theorem dL_law_1284 : decode code 1284 = .ok (.iload_n 3, 1) := by decide +kernel
theorem dL_law_1285 : decode code 1285 = .ok (.iconst 1, 1) := by decide +kernel
theorem dL_law_1286 : decode code 1286 = .ok (.iadd, 1) := by decide +kernel
theorem dL_law_1287 : decode code 1287 = .ok (.iaload, 1) := by decide +kernel
theorem dL_law_1288 : decode code 1288 = .ok (.invokevirtual 171, 3) := by decide +kernel
theorem dL_law_1291 : decode code 1291 = .ok (.aload_n 2, 1) := by decide +kernel
theorem dL_law_1292 : decode code 1292 = .ok (.aload_n 0, 1) := by decide +kernel
theorem dL_law_1293 : decode code 1293 = .ok (.iload_n 3, 1) := by decide +kernel
theorem dL_law_1294 : decode code 1294 = .ok (.iconst 1, 1) := by decide +kernel
theorem dL_law_1295 : decode code 1295 = .ok (.iadd, 1) := by decide +kernel
theorem dL_law_1296 : decode code 1296 = .ok (.iaload, 1) := by decide +kernel
theorem dL_law_1297 : decode code 1297 = .ok (.invokevirtual 174, 3) := by decide +kernel
theorem dL_law_1300 : decode code 1300 = .ok (.if_icmp .eq 55, 3) := by decide +kernel
theorem dL_law_1303 : decode code 1303 = .ok (.iconst 0, 1) := by decide +kernel
theorem dL_law_1304 : decode code 1304 = .ok (.ireturn, 1) := by decide +kernel
theorem dL_law_1305 : decode code 1305 = .ok (.aload_n 1, 1) := by decide +kernel
theorem dL_law_1306 : decode code 1306 = .ok (.invokevirtual 175, 3) := by decide +kernel
theorem dL_law_1309 : decode code 1309 = .ok (.aload_n 2, 1) := by decide +kernel
theorem dL_law_1310 : decode code 1310 = .ok (.invokevirtual 178, 3) := by decide +kernel
theorem dL_law_1313 : decode code 1313 = .ok (.if_icmp .eq 42, 3) := by decide +kernel
theorem dL_law_1316 : decode code 1316 = .ok (.iconst 0, 1) := by decide +kernel
theorem dL_law_1317 : decode code 1317 = .ok (.ireturn, 1) := by decide +kernel
theorem dL_law_1318 : decode code 1318 = .ok (.aload_n 1, 1) := by decide +kernel
theorem dL_law_1319 : decode code 1319 = .ok (.aload_n 0, 1) := by decide +kernel
theorem dL_law_1320 : decode code 1320 = .ok (.iload_n 3, 1) := by decide +kernel
theorem dL_law_1321 : decode code 1321 = .ok (.iconst 1, 1) := by decide +kernel
theorem dL_law_1322 : decode code 1322 = .ok (.iadd, 1) := by decide +kernel
theorem dL_law_1323 : decode code 1323 = .ok (.iaload, 1) := by decide +kernel
theorem dL_law_1324 : decode code 1324 = .ok (.invokevirtual 179, 3) := by decide +kernel
theorem dL_law_1327 : decode code 1327 = .ok (.aload_n 2, 1) := by decide +kernel
theorem dL_law_1328 : decode code 1328 = .ok (.aload_n 0, 1) := by decide +kernel
theorem dL_law_1329 : decode code 1329 = .ok (.iload_n 3, 1) := by decide +kernel
theorem dL_law_1330 : decode code 1330 = .ok (.iconst 1, 1) := by decide +kernel
theorem dL_law_1331 : decode code 1331 = .ok (.iadd, 1) := by decide +kernel
theorem dL_law_1332 : decode code 1332 = .ok (.iaload, 1) := by decide +kernel
theorem dL_law_1333 : decode code 1333 = .ok (.invokevirtual 182, 3) := by decide +kernel
theorem dL_law_1336 : decode code 1336 = .ok (.if_icmp .eq 19, 3) := by decide +kernel
theorem dL_law_1339 : decode code 1339 = .ok (.iconst 0, 1) := by decide +kernel
theorem dL_law_1340 : decode code 1340 = .ok (.ireturn, 1) := by decide +kernel
theorem dL_law_1341 : decode code 1341 = .ok (.aload_n 1, 1) := by decide +kernel
theorem dL_law_1342 : decode code 1342 = .ok (.invokevirtual 183, 3) := by decide +kernel
theorem dL_law_1345 : decode code 1345 = .ok (.aload_n 2, 1) := by decide +kernel
theorem dL_law_1346 : decode code 1346 = .ok (.invokevirtual 186, 3) := by decide +kernel
theorem dL_law_1349 : decode code 1349 = .ok (.lcmp, 1) := by decide +kernel
theorem dL_law_1350 : decode code 1350 = .ok (.ifCond .eq 5, 3) := by decide +kernel
theorem dL_law_1353 : decode code 1353 = .ok (.iconst 0, 1) := by decide +kernel
theorem dL_law_1354 : decode code 1354 = .ok (.ireturn, 1) := by decide +kernel
theorem dL_law_1355 : decode code 1355 = .ok (.iinc 3 6, 3) := by decide +kernel
theorem dL_law_1358 : decode code 1358 = .ok (.goto (-1340), 3) := by decide +kernel
theorem dL_law_1361 : decode code 1361 = .ok (.iconst 1, 1) := by decide +kernel
theorem dL_law_1362 : decode code 1362 = .ok (.ireturn, 1) := by decide +kernel
