theorem dlw_D_0 : zdal code [(1182, (.iadd, 1)), (1183, (.iaload, 1)), (1184, (.aload_n 0, 1)), (1185, (.iload_n 3, 1)), (1186, (.iconst 2, 1)), (1187, (.iadd, 1)), (1188, (.iaload, 1)), (1189, (.invokevirtual 147, 3)), (1192, (.pop, 1)), (1193, (.aload_n 2, 1)), (1194, (.aload_n 0, 1)), (1195, (.iload_n 3, 1)), (1196, (.iconst 1, 1)), (1197, (.iadd, 1)), (1198, (.iaload, 1)), (1199, (.aload_n 0, 1)), (1200, (.iload_n 3, 1)), (1201, (.iconst 2, 1)), (1202, (.iadd, 1)), (1203, (.iaload, 1)), (1204, (.invokevirtual 150, 3)), (1207, (.pop, 1)), (1208, (.goto 303, 3)), (1211, (.aload_n 1, 1)), (1212, (.aload_n 0, 1)), (1213, (.iload_n 3, 1)), (1214, (.iconst 1, 1)), (1215, (.iadd, 1)), (1216, (.iaload, 1)), (1217, (.aload_n 0, 1)), (1218, (.iload_n 3, 1)), (1219, (.iconst 2, 1)), (1220, (.iadd, 1)), (1221, (.iaload, 1)), (1222, (.invokevirtual 151, 3)), (1225, (.pop2, 1)), (1226, (.aload_n 2, 1)), (1227, (.aload_n 0, 1)), (1228, (.iload_n 3, 1)), (1229, (.iconst 1, 1)), (1230, (.iadd, 1)), (1231, (.iaload, 1)), (1232, (.aload_n 0, 1)), (1233, (.iload_n 3, 1)), (1234, (.iconst 2, 1)), (1235, (.iadd, 1)), (1236, (.iaload, 1)), (1237, (.invokevirtual 155, 3)), (1240, (.pop2, 1)), (1241, (.goto 270, 3)), (1244, (.aload_n 1, 1)), (1245, (.aload_n 0, 1)), (1246, (.iload_n 3, 1)), (1247, (.iconst 1, 1)), (1248, (.iadd, 1)), (1249, (.iaload, 1)), (1250, (.invokevirtual 156, 3)), (1253, (.aload_n 2, 1)), (1254, (.aload_n 0, 1)), (1255, (.iload_n 3, 1)), (1256, (.iconst 1, 1)), (1257, (.iadd, 1)), (1258, (.iaload, 1)), (1259, (.invokevirtual 160, 3))] = true := by decide +kernel
theorem d_Law_1182 : decode code 1182 = .ok (.iadd, 1) := zdal_p dlw_D_0 (i := 0) rfl
theorem d_Law_1183 : decode code 1183 = .ok (.iaload, 1) := zdal_p dlw_D_0 (i := 1) rfl
theorem d_Law_1184 : decode code 1184 = .ok (.aload_n 0, 1) := zdal_p dlw_D_0 (i := 2) rfl
theorem d_Law_1185 : decode code 1185 = .ok (.iload_n 3, 1) := zdal_p dlw_D_0 (i := 3) rfl
theorem d_Law_1186 : decode code 1186 = .ok (.iconst 2, 1) := zdal_p dlw_D_0 (i := 4) rfl
theorem d_Law_1187 : decode code 1187 = .ok (.iadd, 1) := zdal_p dlw_D_0 (i := 5) rfl
theorem d_Law_1188 : decode code 1188 = .ok (.iaload, 1) := zdal_p dlw_D_0 (i := 6) rfl
theorem d_Law_1189 : decode code 1189 = .ok (.invokevirtual 147, 3) := zdal_p dlw_D_0 (i := 7) rfl
theorem d_Law_1192 : decode code 1192 = .ok (.pop, 1) := zdal_p dlw_D_0 (i := 8) rfl
theorem d_Law_1193 : decode code 1193 = .ok (.aload_n 2, 1) := zdal_p dlw_D_0 (i := 9) rfl
theorem d_Law_1194 : decode code 1194 = .ok (.aload_n 0, 1) := zdal_p dlw_D_0 (i := 10) rfl
theorem d_Law_1195 : decode code 1195 = .ok (.iload_n 3, 1) := zdal_p dlw_D_0 (i := 11) rfl
theorem d_Law_1196 : decode code 1196 = .ok (.iconst 1, 1) := zdal_p dlw_D_0 (i := 12) rfl
theorem d_Law_1197 : decode code 1197 = .ok (.iadd, 1) := zdal_p dlw_D_0 (i := 13) rfl
theorem d_Law_1198 : decode code 1198 = .ok (.iaload, 1) := zdal_p dlw_D_0 (i := 14) rfl
theorem d_Law_1199 : decode code 1199 = .ok (.aload_n 0, 1) := zdal_p dlw_D_0 (i := 15) rfl
theorem d_Law_1200 : decode code 1200 = .ok (.iload_n 3, 1) := zdal_p dlw_D_0 (i := 16) rfl
theorem d_Law_1201 : decode code 1201 = .ok (.iconst 2, 1) := zdal_p dlw_D_0 (i := 17) rfl
theorem d_Law_1202 : decode code 1202 = .ok (.iadd, 1) := zdal_p dlw_D_0 (i := 18) rfl
theorem d_Law_1203 : decode code 1203 = .ok (.iaload, 1) := zdal_p dlw_D_0 (i := 19) rfl
theorem d_Law_1204 : decode code 1204 = .ok (.invokevirtual 150, 3) := zdal_p dlw_D_0 (i := 20) rfl
theorem d_Law_1207 : decode code 1207 = .ok (.pop, 1) := zdal_p dlw_D_0 (i := 21) rfl
theorem d_Law_1208 : decode code 1208 = .ok (.goto 303, 3) := zdal_p dlw_D_0 (i := 22) rfl
theorem d_Law_1211 : decode code 1211 = .ok (.aload_n 1, 1) := zdal_p dlw_D_0 (i := 23) rfl
theorem d_Law_1212 : decode code 1212 = .ok (.aload_n 0, 1) := zdal_p dlw_D_0 (i := 24) rfl
theorem d_Law_1213 : decode code 1213 = .ok (.iload_n 3, 1) := zdal_p dlw_D_0 (i := 25) rfl
theorem d_Law_1214 : decode code 1214 = .ok (.iconst 1, 1) := zdal_p dlw_D_0 (i := 26) rfl
theorem d_Law_1215 : decode code 1215 = .ok (.iadd, 1) := zdal_p dlw_D_0 (i := 27) rfl
theorem d_Law_1216 : decode code 1216 = .ok (.iaload, 1) := zdal_p dlw_D_0 (i := 28) rfl
theorem d_Law_1217 : decode code 1217 = .ok (.aload_n 0, 1) := zdal_p dlw_D_0 (i := 29) rfl
theorem d_Law_1218 : decode code 1218 = .ok (.iload_n 3, 1) := zdal_p dlw_D_0 (i := 30) rfl
theorem d_Law_1219 : decode code 1219 = .ok (.iconst 2, 1) := zdal_p dlw_D_0 (i := 31) rfl
theorem d_Law_1220 : decode code 1220 = .ok (.iadd, 1) := zdal_p dlw_D_0 (i := 32) rfl
theorem d_Law_1221 : decode code 1221 = .ok (.iaload, 1) := zdal_p dlw_D_0 (i := 33) rfl
theorem d_Law_1222 : decode code 1222 = .ok (.invokevirtual 151, 3) := zdal_p dlw_D_0 (i := 34) rfl
theorem d_Law_1225 : decode code 1225 = .ok (.pop2, 1) := zdal_p dlw_D_0 (i := 35) rfl
theorem d_Law_1226 : decode code 1226 = .ok (.aload_n 2, 1) := zdal_p dlw_D_0 (i := 36) rfl
theorem d_Law_1227 : decode code 1227 = .ok (.aload_n 0, 1) := zdal_p dlw_D_0 (i := 37) rfl
theorem d_Law_1228 : decode code 1228 = .ok (.iload_n 3, 1) := zdal_p dlw_D_0 (i := 38) rfl
theorem d_Law_1229 : decode code 1229 = .ok (.iconst 1, 1) := zdal_p dlw_D_0 (i := 39) rfl
theorem d_Law_1230 : decode code 1230 = .ok (.iadd, 1) := zdal_p dlw_D_0 (i := 40) rfl
theorem d_Law_1231 : decode code 1231 = .ok (.iaload, 1) := zdal_p dlw_D_0 (i := 41) rfl
theorem d_Law_1232 : decode code 1232 = .ok (.aload_n 0, 1) := zdal_p dlw_D_0 (i := 42) rfl
theorem d_Law_1233 : decode code 1233 = .ok (.iload_n 3, 1) := zdal_p dlw_D_0 (i := 43) rfl
theorem d_Law_1234 : decode code 1234 = .ok (.iconst 2, 1) := zdal_p dlw_D_0 (i := 44) rfl
theorem d_Law_1235 : decode code 1235 = .ok (.iadd, 1) := zdal_p dlw_D_0 (i := 45) rfl
theorem d_Law_1236 : decode code 1236 = .ok (.iaload, 1) := zdal_p dlw_D_0 (i := 46) rfl
theorem d_Law_1237 : decode code 1237 = .ok (.invokevirtual 155, 3) := zdal_p dlw_D_0 (i := 47) rfl
theorem d_Law_1240 : decode code 1240 = .ok (.pop2, 1) := zdal_p dlw_D_0 (i := 48) rfl
theorem d_Law_1241 : decode code 1241 = .ok (.goto 270, 3) := zdal_p dlw_D_0 (i := 49) rfl
theorem d_Law_1244 : decode code 1244 = .ok (.aload_n 1, 1) := zdal_p dlw_D_0 (i := 50) rfl
theorem d_Law_1245 : decode code 1245 = .ok (.aload_n 0, 1) := zdal_p dlw_D_0 (i := 51) rfl
theorem d_Law_1246 : decode code 1246 = .ok (.iload_n 3, 1) := zdal_p dlw_D_0 (i := 52) rfl
theorem d_Law_1247 : decode code 1247 = .ok (.iconst 1, 1) := zdal_p dlw_D_0 (i := 53) rfl
theorem d_Law_1248 : decode code 1248 = .ok (.iadd, 1) := zdal_p dlw_D_0 (i := 54) rfl
theorem d_Law_1249 : decode code 1249 = .ok (.iaload, 1) := zdal_p dlw_D_0 (i := 55) rfl
theorem d_Law_1250 : decode code 1250 = .ok (.invokevirtual 156, 3) := zdal_p dlw_D_0 (i := 56) rfl
theorem d_Law_1253 : decode code 1253 = .ok (.aload_n 2, 1) := zdal_p dlw_D_0 (i := 57) rfl
theorem d_Law_1254 : decode code 1254 = .ok (.aload_n 0, 1) := zdal_p dlw_D_0 (i := 58) rfl
theorem d_Law_1255 : decode code 1255 = .ok (.iload_n 3, 1) := zdal_p dlw_D_0 (i := 59) rfl
theorem d_Law_1256 : decode code 1256 = .ok (.iconst 1, 1) := zdal_p dlw_D_0 (i := 60) rfl
theorem d_Law_1257 : decode code 1257 = .ok (.iadd, 1) := zdal_p dlw_D_0 (i := 61) rfl
theorem d_Law_1258 : decode code 1258 = .ok (.iaload, 1) := zdal_p dlw_D_0 (i := 62) rfl
theorem d_Law_1259 : decode code 1259 = .ok (.invokevirtual 160, 3) := zdal_p dlw_D_0 (i := 63) rfl
theorem dlw_D_1 : zdal code [(1262, (.lcmp, 1)), (1263, (.ifCond .eq 248, 3)), (1266, (.iconst 0, 1)), (1267, (.ireturn, 1)), (1268, (.aload_n 1, 1)), (1269, (.aload_n 0, 1)), (1270, (.iload_n 3, 1)), (1271, (.iconst 1, 1)), (1272, (.iadd, 1)), (1273, (.iaload, 1)), (1274, (.invokevirtual 161, 3)), (1277, (.pop2, 1)), (1278, (.aload_n 2, 1)), (1279, (.aload_n 0, 1)), (1280, (.iload_n 3, 1)), (1281, (.iconst 1, 1)), (1282, (.iadd, 1)), (1283, (.iaload, 1)), (1284, (.invokevirtual 164, 3)), (1287, (.pop2, 1)), (1288, (.goto 223, 3)), (1291, (.aload_n 1, 1)), (1292, (.aload_n 0, 1)), (1293, (.iload_n 3, 1)), (1294, (.iconst 1, 1)), (1295, (.iadd, 1)), (1296, (.iaload, 1)), (1297, (.invokevirtual 165, 3)), (1300, (.pop2, 1)), (1301, (.aload_n 2, 1)), (1302, (.aload_n 0, 1)), (1303, (.iload_n 3, 1)), (1304, (.iconst 1, 1)), (1305, (.iadd, 1)), (1306, (.iaload, 1)), (1307, (.invokevirtual 168, 3)), (1310, (.pop2, 1)), (1311, (.goto 200, 3)), (1314, (.aload_n 1, 1)), (1315, (.invokevirtual 169, 3)), (1318, (.pop, 1)), (1319, (.aload_n 2, 1)), (1320, (.invokevirtual 172, 3)), (1323, (.pop, 1)), (1324, (.goto 187, 3)), (1327, (.aload_n 1, 1)), (1328, (.aload_n 0, 1)), (1329, (.iload_n 3, 1)), (1330, (.iconst 1, 1)), (1331, (.iadd, 1)), (1332, (.iaload, 1)), (1333, (.invokevirtual 173, 3)), (1336, (.pop2, 1)), (1337, (.aload_n 2, 1)), (1338, (.aload_n 0, 1)), (1339, (.iload_n 3, 1)), (1340, (.iconst 1, 1)), (1341, (.iadd, 1)), (1342, (.iaload, 1)), (1343, (.invokevirtual 176, 3)), (1346, (.pop2, 1)), (1347, (.goto 164, 3)), (1350, (.aload_n 1, 1)), (1351, (.aload_n 0, 1))] = true := by decide +kernel
theorem d_Law_1262 : decode code 1262 = .ok (.lcmp, 1) := zdal_p dlw_D_1 (i := 0) rfl
theorem d_Law_1263 : decode code 1263 = .ok (.ifCond .eq 248, 3) := zdal_p dlw_D_1 (i := 1) rfl
theorem d_Law_1268 : decode code 1268 = .ok (.aload_n 1, 1) := zdal_p dlw_D_1 (i := 4) rfl
theorem d_Law_1269 : decode code 1269 = .ok (.aload_n 0, 1) := zdal_p dlw_D_1 (i := 5) rfl
theorem d_Law_1270 : decode code 1270 = .ok (.iload_n 3, 1) := zdal_p dlw_D_1 (i := 6) rfl
theorem d_Law_1271 : decode code 1271 = .ok (.iconst 1, 1) := zdal_p dlw_D_1 (i := 7) rfl
theorem d_Law_1272 : decode code 1272 = .ok (.iadd, 1) := zdal_p dlw_D_1 (i := 8) rfl
theorem d_Law_1273 : decode code 1273 = .ok (.iaload, 1) := zdal_p dlw_D_1 (i := 9) rfl
theorem d_Law_1274 : decode code 1274 = .ok (.invokevirtual 161, 3) := zdal_p dlw_D_1 (i := 10) rfl
theorem d_Law_1277 : decode code 1277 = .ok (.pop2, 1) := zdal_p dlw_D_1 (i := 11) rfl
theorem d_Law_1278 : decode code 1278 = .ok (.aload_n 2, 1) := zdal_p dlw_D_1 (i := 12) rfl
theorem d_Law_1279 : decode code 1279 = .ok (.aload_n 0, 1) := zdal_p dlw_D_1 (i := 13) rfl
theorem d_Law_1280 : decode code 1280 = .ok (.iload_n 3, 1) := zdal_p dlw_D_1 (i := 14) rfl
theorem d_Law_1281 : decode code 1281 = .ok (.iconst 1, 1) := zdal_p dlw_D_1 (i := 15) rfl
theorem d_Law_1282 : decode code 1282 = .ok (.iadd, 1) := zdal_p dlw_D_1 (i := 16) rfl
theorem d_Law_1283 : decode code 1283 = .ok (.iaload, 1) := zdal_p dlw_D_1 (i := 17) rfl
theorem d_Law_1284 : decode code 1284 = .ok (.invokevirtual 164, 3) := zdal_p dlw_D_1 (i := 18) rfl
theorem d_Law_1287 : decode code 1287 = .ok (.pop2, 1) := zdal_p dlw_D_1 (i := 19) rfl
theorem d_Law_1288 : decode code 1288 = .ok (.goto 223, 3) := zdal_p dlw_D_1 (i := 20) rfl
theorem d_Law_1291 : decode code 1291 = .ok (.aload_n 1, 1) := zdal_p dlw_D_1 (i := 21) rfl
theorem d_Law_1292 : decode code 1292 = .ok (.aload_n 0, 1) := zdal_p dlw_D_1 (i := 22) rfl
theorem d_Law_1293 : decode code 1293 = .ok (.iload_n 3, 1) := zdal_p dlw_D_1 (i := 23) rfl
theorem d_Law_1294 : decode code 1294 = .ok (.iconst 1, 1) := zdal_p dlw_D_1 (i := 24) rfl
theorem d_Law_1295 : decode code 1295 = .ok (.iadd, 1) := zdal_p dlw_D_1 (i := 25) rfl
theorem d_Law_1296 : decode code 1296 = .ok (.iaload, 1) := zdal_p dlw_D_1 (i := 26) rfl
theorem d_Law_1297 : decode code 1297 = .ok (.invokevirtual 165, 3) := zdal_p dlw_D_1 (i := 27) rfl
theorem d_Law_1300 : decode code 1300 = .ok (.pop2, 1) := zdal_p dlw_D_1 (i := 28) rfl
theorem d_Law_1301 : decode code 1301 = .ok (.aload_n 2, 1) := zdal_p dlw_D_1 (i := 29) rfl
theorem d_Law_1302 : decode code 1302 = .ok (.aload_n 0, 1) := zdal_p dlw_D_1 (i := 30) rfl
theorem d_Law_1303 : decode code 1303 = .ok (.iload_n 3, 1) := zdal_p dlw_D_1 (i := 31) rfl
theorem d_Law_1304 : decode code 1304 = .ok (.iconst 1, 1) := zdal_p dlw_D_1 (i := 32) rfl
theorem d_Law_1305 : decode code 1305 = .ok (.iadd, 1) := zdal_p dlw_D_1 (i := 33) rfl
theorem d_Law_1306 : decode code 1306 = .ok (.iaload, 1) := zdal_p dlw_D_1 (i := 34) rfl
theorem d_Law_1307 : decode code 1307 = .ok (.invokevirtual 168, 3) := zdal_p dlw_D_1 (i := 35) rfl
theorem d_Law_1310 : decode code 1310 = .ok (.pop2, 1) := zdal_p dlw_D_1 (i := 36) rfl
theorem d_Law_1311 : decode code 1311 = .ok (.goto 200, 3) := zdal_p dlw_D_1 (i := 37) rfl
theorem d_Law_1314 : decode code 1314 = .ok (.aload_n 1, 1) := zdal_p dlw_D_1 (i := 38) rfl
theorem d_Law_1315 : decode code 1315 = .ok (.invokevirtual 169, 3) := zdal_p dlw_D_1 (i := 39) rfl
theorem d_Law_1318 : decode code 1318 = .ok (.pop, 1) := zdal_p dlw_D_1 (i := 40) rfl
theorem d_Law_1319 : decode code 1319 = .ok (.aload_n 2, 1) := zdal_p dlw_D_1 (i := 41) rfl
theorem d_Law_1320 : decode code 1320 = .ok (.invokevirtual 172, 3) := zdal_p dlw_D_1 (i := 42) rfl
theorem d_Law_1323 : decode code 1323 = .ok (.pop, 1) := zdal_p dlw_D_1 (i := 43) rfl
theorem d_Law_1324 : decode code 1324 = .ok (.goto 187, 3) := zdal_p dlw_D_1 (i := 44) rfl
theorem d_Law_1327 : decode code 1327 = .ok (.aload_n 1, 1) := zdal_p dlw_D_1 (i := 45) rfl
theorem d_Law_1328 : decode code 1328 = .ok (.aload_n 0, 1) := zdal_p dlw_D_1 (i := 46) rfl
theorem d_Law_1329 : decode code 1329 = .ok (.iload_n 3, 1) := zdal_p dlw_D_1 (i := 47) rfl
theorem d_Law_1330 : decode code 1330 = .ok (.iconst 1, 1) := zdal_p dlw_D_1 (i := 48) rfl
theorem d_Law_1331 : decode code 1331 = .ok (.iadd, 1) := zdal_p dlw_D_1 (i := 49) rfl
theorem d_Law_1332 : decode code 1332 = .ok (.iaload, 1) := zdal_p dlw_D_1 (i := 50) rfl
theorem d_Law_1333 : decode code 1333 = .ok (.invokevirtual 173, 3) := zdal_p dlw_D_1 (i := 51) rfl
theorem d_Law_1336 : decode code 1336 = .ok (.pop2, 1) := zdal_p dlw_D_1 (i := 52) rfl
theorem d_Law_1337 : decode code 1337 = .ok (.aload_n 2, 1) := zdal_p dlw_D_1 (i := 53) rfl
theorem d_Law_1338 : decode code 1338 = .ok (.aload_n 0, 1) := zdal_p dlw_D_1 (i := 54) rfl
theorem d_Law_1339 : decode code 1339 = .ok (.iload_n 3, 1) := zdal_p dlw_D_1 (i := 55) rfl
theorem d_Law_1340 : decode code 1340 = .ok (.iconst 1, 1) := zdal_p dlw_D_1 (i := 56) rfl
theorem d_Law_1341 : decode code 1341 = .ok (.iadd, 1) := zdal_p dlw_D_1 (i := 57) rfl
theorem d_Law_1342 : decode code 1342 = .ok (.iaload, 1) := zdal_p dlw_D_1 (i := 58) rfl
theorem d_Law_1343 : decode code 1343 = .ok (.invokevirtual 176, 3) := zdal_p dlw_D_1 (i := 59) rfl
theorem d_Law_1346 : decode code 1346 = .ok (.pop2, 1) := zdal_p dlw_D_1 (i := 60) rfl
theorem d_Law_1347 : decode code 1347 = .ok (.goto 164, 3) := zdal_p dlw_D_1 (i := 61) rfl
theorem d_Law_1350 : decode code 1350 = .ok (.aload_n 1, 1) := zdal_p dlw_D_1 (i := 62) rfl
theorem d_Law_1351 : decode code 1351 = .ok (.aload_n 0, 1) := zdal_p dlw_D_1 (i := 63) rfl
theorem dlw_D_2 : zdal code [(1352, (.iload_n 3, 1)), (1353, (.iconst 1, 1)), (1354, (.iadd, 1)), (1355, (.iaload, 1)), (1356, (.invokevirtual 177, 3)), (1359, (.pop, 1)), (1360, (.aload_n 2, 1)), (1361, (.aload_n 0, 1)), (1362, (.iload_n 3, 1)), (1363, (.iconst 1, 1)), (1364, (.iadd, 1)), (1365, (.iaload, 1)), (1366, (.invokevirtual 180, 3)), (1369, (.pop, 1)), (1370, (.goto 141, 3)), (1373, (.aload_n 1, 1)), (1374, (.invokevirtual 181, 3)), (1377, (.pop, 1)), (1378, (.aload_n 2, 1)), (1379, (.invokevirtual 184, 3)), (1382, (.pop, 1)), (1383, (.goto 128, 3)), (1386, (.aload_n 1, 1)), (1387, (.aload_n 0, 1)), (1388, (.iload_n 3, 1)), (1389, (.iconst 1, 1)), (1390, (.iadd, 1)), (1391, (.iaload, 1)), (1392, (.aload_n 0, 1)), (1393, (.iload_n 3, 1)), (1394, (.iconst 2, 1)), (1395, (.iadd, 1)), (1396, (.iaload, 1)), (1397, (.invokevirtual 185, 3)), (1400, (.pop, 1)), (1401, (.aload_n 2, 1)), (1402, (.aload_n 0, 1)), (1403, (.iload_n 3, 1)), (1404, (.iconst 1, 1)), (1405, (.iadd, 1)), (1406, (.iaload, 1)), (1407, (.aload_n 0, 1)), (1408, (.iload_n 3, 1)), (1409, (.iconst 2, 1)), (1410, (.iadd, 1)), (1411, (.iaload, 1)), (1412, (.invokevirtual 188, 3)), (1415, (.pop, 1)), (1416, (.goto 95, 3)), (1419, (.aload_n 1, 1)), (1420, (.invokevirtual 189, 3)), (1423, (.pop, 1)), (1424, (.aload_n 2, 1)), (1425, (.invokevirtual 192, 3)), (1428, (.pop, 1)), (1429, (.goto 82, 3)), (1432, (.aload_n 1, 1)), (1433, (.aload_n 0, 1)), (1434, (.iload_n 3, 1)), (1435, (.iconst 1, 1)), (1436, (.iadd, 1)), (1437, (.iaload, 1)), (1438, (.invokevirtual 193, 3)), (1441, (.pop, 1))] = true := by decide +kernel
theorem d_Law_1352 : decode code 1352 = .ok (.iload_n 3, 1) := zdal_p dlw_D_2 (i := 0) rfl
theorem d_Law_1353 : decode code 1353 = .ok (.iconst 1, 1) := zdal_p dlw_D_2 (i := 1) rfl
theorem d_Law_1354 : decode code 1354 = .ok (.iadd, 1) := zdal_p dlw_D_2 (i := 2) rfl
theorem d_Law_1355 : decode code 1355 = .ok (.iaload, 1) := zdal_p dlw_D_2 (i := 3) rfl
theorem d_Law_1356 : decode code 1356 = .ok (.invokevirtual 177, 3) := zdal_p dlw_D_2 (i := 4) rfl
theorem d_Law_1359 : decode code 1359 = .ok (.pop, 1) := zdal_p dlw_D_2 (i := 5) rfl
theorem d_Law_1360 : decode code 1360 = .ok (.aload_n 2, 1) := zdal_p dlw_D_2 (i := 6) rfl
theorem d_Law_1361 : decode code 1361 = .ok (.aload_n 0, 1) := zdal_p dlw_D_2 (i := 7) rfl
theorem d_Law_1362 : decode code 1362 = .ok (.iload_n 3, 1) := zdal_p dlw_D_2 (i := 8) rfl
theorem d_Law_1363 : decode code 1363 = .ok (.iconst 1, 1) := zdal_p dlw_D_2 (i := 9) rfl
theorem d_Law_1364 : decode code 1364 = .ok (.iadd, 1) := zdal_p dlw_D_2 (i := 10) rfl
theorem d_Law_1365 : decode code 1365 = .ok (.iaload, 1) := zdal_p dlw_D_2 (i := 11) rfl
theorem d_Law_1366 : decode code 1366 = .ok (.invokevirtual 180, 3) := zdal_p dlw_D_2 (i := 12) rfl
theorem d_Law_1369 : decode code 1369 = .ok (.pop, 1) := zdal_p dlw_D_2 (i := 13) rfl
theorem d_Law_1370 : decode code 1370 = .ok (.goto 141, 3) := zdal_p dlw_D_2 (i := 14) rfl
theorem d_Law_1373 : decode code 1373 = .ok (.aload_n 1, 1) := zdal_p dlw_D_2 (i := 15) rfl
theorem d_Law_1374 : decode code 1374 = .ok (.invokevirtual 181, 3) := zdal_p dlw_D_2 (i := 16) rfl
theorem d_Law_1377 : decode code 1377 = .ok (.pop, 1) := zdal_p dlw_D_2 (i := 17) rfl
theorem d_Law_1378 : decode code 1378 = .ok (.aload_n 2, 1) := zdal_p dlw_D_2 (i := 18) rfl
theorem d_Law_1379 : decode code 1379 = .ok (.invokevirtual 184, 3) := zdal_p dlw_D_2 (i := 19) rfl
theorem d_Law_1382 : decode code 1382 = .ok (.pop, 1) := zdal_p dlw_D_2 (i := 20) rfl
theorem d_Law_1383 : decode code 1383 = .ok (.goto 128, 3) := zdal_p dlw_D_2 (i := 21) rfl
theorem d_Law_1386 : decode code 1386 = .ok (.aload_n 1, 1) := zdal_p dlw_D_2 (i := 22) rfl
theorem d_Law_1387 : decode code 1387 = .ok (.aload_n 0, 1) := zdal_p dlw_D_2 (i := 23) rfl
theorem d_Law_1388 : decode code 1388 = .ok (.iload_n 3, 1) := zdal_p dlw_D_2 (i := 24) rfl
theorem d_Law_1389 : decode code 1389 = .ok (.iconst 1, 1) := zdal_p dlw_D_2 (i := 25) rfl
theorem d_Law_1390 : decode code 1390 = .ok (.iadd, 1) := zdal_p dlw_D_2 (i := 26) rfl
theorem d_Law_1391 : decode code 1391 = .ok (.iaload, 1) := zdal_p dlw_D_2 (i := 27) rfl
theorem d_Law_1392 : decode code 1392 = .ok (.aload_n 0, 1) := zdal_p dlw_D_2 (i := 28) rfl
theorem d_Law_1393 : decode code 1393 = .ok (.iload_n 3, 1) := zdal_p dlw_D_2 (i := 29) rfl
theorem d_Law_1394 : decode code 1394 = .ok (.iconst 2, 1) := zdal_p dlw_D_2 (i := 30) rfl
theorem d_Law_1395 : decode code 1395 = .ok (.iadd, 1) := zdal_p dlw_D_2 (i := 31) rfl
theorem d_Law_1396 : decode code 1396 = .ok (.iaload, 1) := zdal_p dlw_D_2 (i := 32) rfl
theorem d_Law_1397 : decode code 1397 = .ok (.invokevirtual 185, 3) := zdal_p dlw_D_2 (i := 33) rfl
theorem d_Law_1400 : decode code 1400 = .ok (.pop, 1) := zdal_p dlw_D_2 (i := 34) rfl
theorem d_Law_1401 : decode code 1401 = .ok (.aload_n 2, 1) := zdal_p dlw_D_2 (i := 35) rfl
theorem d_Law_1402 : decode code 1402 = .ok (.aload_n 0, 1) := zdal_p dlw_D_2 (i := 36) rfl
theorem d_Law_1403 : decode code 1403 = .ok (.iload_n 3, 1) := zdal_p dlw_D_2 (i := 37) rfl
theorem d_Law_1404 : decode code 1404 = .ok (.iconst 1, 1) := zdal_p dlw_D_2 (i := 38) rfl
theorem d_Law_1405 : decode code 1405 = .ok (.iadd, 1) := zdal_p dlw_D_2 (i := 39) rfl
theorem d_Law_1406 : decode code 1406 = .ok (.iaload, 1) := zdal_p dlw_D_2 (i := 40) rfl
theorem d_Law_1407 : decode code 1407 = .ok (.aload_n 0, 1) := zdal_p dlw_D_2 (i := 41) rfl
theorem d_Law_1408 : decode code 1408 = .ok (.iload_n 3, 1) := zdal_p dlw_D_2 (i := 42) rfl
theorem d_Law_1409 : decode code 1409 = .ok (.iconst 2, 1) := zdal_p dlw_D_2 (i := 43) rfl
theorem d_Law_1410 : decode code 1410 = .ok (.iadd, 1) := zdal_p dlw_D_2 (i := 44) rfl
theorem d_Law_1411 : decode code 1411 = .ok (.iaload, 1) := zdal_p dlw_D_2 (i := 45) rfl
theorem d_Law_1412 : decode code 1412 = .ok (.invokevirtual 188, 3) := zdal_p dlw_D_2 (i := 46) rfl
theorem d_Law_1415 : decode code 1415 = .ok (.pop, 1) := zdal_p dlw_D_2 (i := 47) rfl
theorem d_Law_1416 : decode code 1416 = .ok (.goto 95, 3) := zdal_p dlw_D_2 (i := 48) rfl
theorem d_Law_1419 : decode code 1419 = .ok (.aload_n 1, 1) := zdal_p dlw_D_2 (i := 49) rfl
theorem d_Law_1420 : decode code 1420 = .ok (.invokevirtual 189, 3) := zdal_p dlw_D_2 (i := 50) rfl
theorem d_Law_1423 : decode code 1423 = .ok (.pop, 1) := zdal_p dlw_D_2 (i := 51) rfl
theorem d_Law_1424 : decode code 1424 = .ok (.aload_n 2, 1) := zdal_p dlw_D_2 (i := 52) rfl
theorem d_Law_1425 : decode code 1425 = .ok (.invokevirtual 192, 3) := zdal_p dlw_D_2 (i := 53) rfl
theorem d_Law_1428 : decode code 1428 = .ok (.pop, 1) := zdal_p dlw_D_2 (i := 54) rfl
theorem d_Law_1429 : decode code 1429 = .ok (.goto 82, 3) := zdal_p dlw_D_2 (i := 55) rfl
theorem d_Law_1432 : decode code 1432 = .ok (.aload_n 1, 1) := zdal_p dlw_D_2 (i := 56) rfl
theorem d_Law_1433 : decode code 1433 = .ok (.aload_n 0, 1) := zdal_p dlw_D_2 (i := 57) rfl
theorem d_Law_1434 : decode code 1434 = .ok (.iload_n 3, 1) := zdal_p dlw_D_2 (i := 58) rfl
theorem d_Law_1435 : decode code 1435 = .ok (.iconst 1, 1) := zdal_p dlw_D_2 (i := 59) rfl
theorem d_Law_1436 : decode code 1436 = .ok (.iadd, 1) := zdal_p dlw_D_2 (i := 60) rfl
theorem d_Law_1437 : decode code 1437 = .ok (.iaload, 1) := zdal_p dlw_D_2 (i := 61) rfl
theorem d_Law_1438 : decode code 1438 = .ok (.invokevirtual 193, 3) := zdal_p dlw_D_2 (i := 62) rfl
theorem d_Law_1441 : decode code 1441 = .ok (.pop, 1) := zdal_p dlw_D_2 (i := 63) rfl
theorem dlw_D_3 : zdal code [(1442, (.aload_n 2, 1)), (1443, (.aload_n 0, 1)), (1444, (.iload_n 3, 1)), (1445, (.iconst 1, 1)), (1446, (.iadd, 1)), (1447, (.iaload, 1)), (1448, (.invokevirtual 196, 3)), (1451, (.pop, 1)), (1452, (.goto 59, 3)), (1455, (.aload_n 1, 1)), (1456, (.aload_n 0, 1)), (1457, (.iload_n 3, 1)), (1458, (.iconst 1, 1)), (1459, (.iadd, 1)), (1460, (.iaload, 1)), (1461, (.aload_n 0, 1)), (1462, (.iload_n 3, 1)), (1463, (.iconst 2, 1)), (1464, (.iadd, 1)), (1465, (.iaload, 1)), (1466, (.aload_n 0, 1)), (1467, (.iload_n 3, 1)), (1468, (.iconst 3, 1)), (1469, (.iadd, 1)), (1470, (.iaload, 1)), (1471, (.invokevirtual 197, 3)), (1474, (.pop2, 1)), (1475, (.aload_n 2, 1)), (1476, (.aload_n 0, 1)), (1477, (.iload_n 3, 1)), (1478, (.iconst 1, 1)), (1479, (.iadd, 1)), (1480, (.iaload, 1)), (1481, (.aload_n 0, 1)), (1482, (.iload_n 3, 1)), (1483, (.iconst 2, 1)), (1484, (.iadd, 1)), (1485, (.iaload, 1)), (1486, (.aload_n 0, 1)), (1487, (.iload_n 3, 1)), (1488, (.iconst 3, 1)), (1489, (.iadd, 1)), (1490, (.iaload, 1)), (1491, (.invokevirtual 201, 3)), (1494, (.pop2, 1)), (1495, (.goto 16, 3)), (1498, (.aload_n 1, 1)), (1499, (.invokevirtual 202, 3)), (1502, (.pop, 1)), (1503, (.aload_n 2, 1)), (1504, (.invokevirtual 205, 3)), (1507, (.pop, 1)), (1508, (.goto 3, 3)), (1511, (.iinc 3 6, 3)), (1514, (.goto (-1496), 3)), (1517, (.iconst 1, 1)), (1518, (.ireturn, 1))] = true := by decide +kernel
theorem d_Law_1442 : decode code 1442 = .ok (.aload_n 2, 1) := zdal_p dlw_D_3 (i := 0) rfl
theorem d_Law_1443 : decode code 1443 = .ok (.aload_n 0, 1) := zdal_p dlw_D_3 (i := 1) rfl
theorem d_Law_1444 : decode code 1444 = .ok (.iload_n 3, 1) := zdal_p dlw_D_3 (i := 2) rfl
theorem d_Law_1445 : decode code 1445 = .ok (.iconst 1, 1) := zdal_p dlw_D_3 (i := 3) rfl
theorem d_Law_1446 : decode code 1446 = .ok (.iadd, 1) := zdal_p dlw_D_3 (i := 4) rfl
theorem d_Law_1447 : decode code 1447 = .ok (.iaload, 1) := zdal_p dlw_D_3 (i := 5) rfl
theorem d_Law_1448 : decode code 1448 = .ok (.invokevirtual 196, 3) := zdal_p dlw_D_3 (i := 6) rfl
theorem d_Law_1451 : decode code 1451 = .ok (.pop, 1) := zdal_p dlw_D_3 (i := 7) rfl
theorem d_Law_1452 : decode code 1452 = .ok (.goto 59, 3) := zdal_p dlw_D_3 (i := 8) rfl
theorem d_Law_1455 : decode code 1455 = .ok (.aload_n 1, 1) := zdal_p dlw_D_3 (i := 9) rfl
theorem d_Law_1456 : decode code 1456 = .ok (.aload_n 0, 1) := zdal_p dlw_D_3 (i := 10) rfl
theorem d_Law_1457 : decode code 1457 = .ok (.iload_n 3, 1) := zdal_p dlw_D_3 (i := 11) rfl
theorem d_Law_1458 : decode code 1458 = .ok (.iconst 1, 1) := zdal_p dlw_D_3 (i := 12) rfl
theorem d_Law_1459 : decode code 1459 = .ok (.iadd, 1) := zdal_p dlw_D_3 (i := 13) rfl
theorem d_Law_1460 : decode code 1460 = .ok (.iaload, 1) := zdal_p dlw_D_3 (i := 14) rfl
theorem d_Law_1461 : decode code 1461 = .ok (.aload_n 0, 1) := zdal_p dlw_D_3 (i := 15) rfl
theorem d_Law_1462 : decode code 1462 = .ok (.iload_n 3, 1) := zdal_p dlw_D_3 (i := 16) rfl
theorem d_Law_1463 : decode code 1463 = .ok (.iconst 2, 1) := zdal_p dlw_D_3 (i := 17) rfl
theorem d_Law_1464 : decode code 1464 = .ok (.iadd, 1) := zdal_p dlw_D_3 (i := 18) rfl
theorem d_Law_1465 : decode code 1465 = .ok (.iaload, 1) := zdal_p dlw_D_3 (i := 19) rfl
theorem d_Law_1466 : decode code 1466 = .ok (.aload_n 0, 1) := zdal_p dlw_D_3 (i := 20) rfl
theorem d_Law_1467 : decode code 1467 = .ok (.iload_n 3, 1) := zdal_p dlw_D_3 (i := 21) rfl
theorem d_Law_1468 : decode code 1468 = .ok (.iconst 3, 1) := zdal_p dlw_D_3 (i := 22) rfl
theorem d_Law_1469 : decode code 1469 = .ok (.iadd, 1) := zdal_p dlw_D_3 (i := 23) rfl
theorem d_Law_1470 : decode code 1470 = .ok (.iaload, 1) := zdal_p dlw_D_3 (i := 24) rfl
theorem d_Law_1471 : decode code 1471 = .ok (.invokevirtual 197, 3) := zdal_p dlw_D_3 (i := 25) rfl
theorem d_Law_1474 : decode code 1474 = .ok (.pop2, 1) := zdal_p dlw_D_3 (i := 26) rfl
theorem d_Law_1475 : decode code 1475 = .ok (.aload_n 2, 1) := zdal_p dlw_D_3 (i := 27) rfl
theorem d_Law_1476 : decode code 1476 = .ok (.aload_n 0, 1) := zdal_p dlw_D_3 (i := 28) rfl
theorem d_Law_1477 : decode code 1477 = .ok (.iload_n 3, 1) := zdal_p dlw_D_3 (i := 29) rfl
theorem d_Law_1478 : decode code 1478 = .ok (.iconst 1, 1) := zdal_p dlw_D_3 (i := 30) rfl
theorem d_Law_1479 : decode code 1479 = .ok (.iadd, 1) := zdal_p dlw_D_3 (i := 31) rfl
theorem d_Law_1480 : decode code 1480 = .ok (.iaload, 1) := zdal_p dlw_D_3 (i := 32) rfl
theorem d_Law_1481 : decode code 1481 = .ok (.aload_n 0, 1) := zdal_p dlw_D_3 (i := 33) rfl
theorem d_Law_1482 : decode code 1482 = .ok (.iload_n 3, 1) := zdal_p dlw_D_3 (i := 34) rfl
theorem d_Law_1483 : decode code 1483 = .ok (.iconst 2, 1) := zdal_p dlw_D_3 (i := 35) rfl
theorem d_Law_1484 : decode code 1484 = .ok (.iadd, 1) := zdal_p dlw_D_3 (i := 36) rfl
theorem d_Law_1485 : decode code 1485 = .ok (.iaload, 1) := zdal_p dlw_D_3 (i := 37) rfl
theorem d_Law_1486 : decode code 1486 = .ok (.aload_n 0, 1) := zdal_p dlw_D_3 (i := 38) rfl
theorem d_Law_1487 : decode code 1487 = .ok (.iload_n 3, 1) := zdal_p dlw_D_3 (i := 39) rfl
theorem d_Law_1488 : decode code 1488 = .ok (.iconst 3, 1) := zdal_p dlw_D_3 (i := 40) rfl
theorem d_Law_1489 : decode code 1489 = .ok (.iadd, 1) := zdal_p dlw_D_3 (i := 41) rfl
theorem d_Law_1490 : decode code 1490 = .ok (.iaload, 1) := zdal_p dlw_D_3 (i := 42) rfl
theorem d_Law_1491 : decode code 1491 = .ok (.invokevirtual 201, 3) := zdal_p dlw_D_3 (i := 43) rfl
theorem d_Law_1494 : decode code 1494 = .ok (.pop2, 1) := zdal_p dlw_D_3 (i := 44) rfl
theorem d_Law_1495 : decode code 1495 = .ok (.goto 16, 3) := zdal_p dlw_D_3 (i := 45) rfl
theorem d_Law_1498 : decode code 1498 = .ok (.aload_n 1, 1) := zdal_p dlw_D_3 (i := 46) rfl
theorem d_Law_1499 : decode code 1499 = .ok (.invokevirtual 202, 3) := zdal_p dlw_D_3 (i := 47) rfl
theorem d_Law_1502 : decode code 1502 = .ok (.pop, 1) := zdal_p dlw_D_3 (i := 48) rfl
theorem d_Law_1503 : decode code 1503 = .ok (.aload_n 2, 1) := zdal_p dlw_D_3 (i := 49) rfl
theorem d_Law_1504 : decode code 1504 = .ok (.invokevirtual 205, 3) := zdal_p dlw_D_3 (i := 50) rfl
theorem d_Law_1507 : decode code 1507 = .ok (.pop, 1) := zdal_p dlw_D_3 (i := 51) rfl
theorem d_Law_1508 : decode code 1508 = .ok (.goto 3, 3) := zdal_p dlw_D_3 (i := 52) rfl
theorem d_Law_1511 : decode code 1511 = .ok (.iinc 3 6, 3) := zdal_p dlw_D_3 (i := 53) rfl
theorem d_Law_1514 : decode code 1514 = .ok (.goto (-1496), 3) := zdal_p dlw_D_3 (i := 54) rfl
theorem d_Law_1517 : decode code 1517 = .ok (.iconst 1, 1) := zdal_p dlw_D_3 (i := 55) rfl
theorem d_Law_1518 : decode code 1518 = .ok (.ireturn, 1) := zdal_p dlw_D_3 (i := 56) rfl
