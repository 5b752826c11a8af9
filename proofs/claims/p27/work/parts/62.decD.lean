theorem dlw_D_0 : zdal code [(1182, (.iadd, 1)), (1183, (.iaload, 1)), (1184, (.aload_n 0, 1)), (1185, (.iload_n 3, 1)), (1186, (.iconst 2, 1)), (1187, (.iadd, 1)), (1188, (.iaload, 1)), (1189, (.invokevirtual 147, 3)), (1192, (.pop, 1)), (1193, (.aload_n 2, 1)), (1194, (.aload_n 0, 1)), (1195, (.iload_n 3, 1)), (1196, (.iconst 1, 1)), (1197, (.iadd, 1)), (1198, (.iaload, 1)), (1199, (.aload_n 0, 1)), (1200, (.iload_n 3, 1)), (1201, (.iconst 2, 1)), (1202, (.iadd, 1)), (1203, (.iaload, 1)), (1204, (.invokevirtual 150, 3)), (1207, (.pop, 1)), (1208, (.goto 302, 3)), (1211, (.aload_n 1, 1)), (1212, (.aload_n 0, 1)), (1213, (.iload_n 3, 1)), (1214, (.iconst 1, 1)), (1215, (.iadd, 1)), (1216, (.iaload, 1)), (1217, (.aload_n 0, 1)), (1218, (.iload_n 3, 1)), (1219, (.iconst 2, 1)), (1220, (.iadd, 1)), (1221, (.iaload, 1)), (1222, (.invokevirtual 151, 3)), (1225, (.pop2, 1)), (1226, (.aload_n 2, 1)), (1227, (.aload_n 0, 1)), (1228, (.iload_n 3, 1)), (1229, (.iconst 1, 1)), (1230, (.iadd, 1)), (1231, (.iaload, 1)), (1232, (.aload_n 0, 1)), (1233, (.iload_n 3, 1)), (1234, (.iconst 2, 1)), (1235, (.iadd, 1)), (1236, (.iaload, 1)), (1237, (.invokevirtual 155, 3)), (1240, (.pop2, 1)), (1241, (.goto 269, 3)), (1244, (.aload_n 1, 1)), (1245, (.aload_n 0, 1)), (1246, (.iload_n 3, 1)), (1247, (.iconst 1, 1)), (1248, (.iadd, 1)), (1249, (.iaload, 1)), (1250, (.invokevirtual 156, 3)), (1253, (.pop2, 1)), (1254, (.aload_n 2, 1)), (1255, (.aload_n 0, 1)), (1256, (.iload_n 3, 1)), (1257, (.iconst 1, 1)), (1258, (.iadd, 1)), (1259, (.iaload, 1))] = true := zDs 1182 (by decide +kernel)
theorem d_Law_1182 : decode code 1182 = .ok (.iadd, 1) := zdal_p dlw_D_0 (i := 0) rfl
theorem d_Law_1183 : decode code 1183 = .ok (.iaload, 1) := zdal_p dlw_D_0 (i := 1) rfl
theorem d_Law_1184 : decode code 1184 = .ok (.aload_n 0, 1) := zdal_p dlw_D_0 (i := 2) rfl
theorem d_Law_1185 : decode code 1185 = .ok (.iload_n 3, 1) := zdal_p dlw_D_0 (i := 3) rfl
theorem d_Law_1186 : decode code 1186 = .ok (.iconst 2, 1) := zdal_p dlw_D_0 (i := 4) rfl
theorem d_Law_1187 : decode code 1187 = .ok (.iadd, 1) := zdal_p dlw_D_0 (i := 5) rfl
theorem d_Law_1188 : decode code 1188 = .ok (.iaload, 1) := zdal_p dlw_D_0 (i := 6) rfl
theorem d_Law_1189 : decode code 1189 = .ok (.invokevirtual 147, 3) := zdal_p dlw_D_0 (i := 7) rfl
theorem d_Law_1192 : decode code 1192 = .ok (.pop, 1) := zdal_p dlw_D_0 (i := 8) rfl
theorem d_Law_1193 : decode code 1193 = .ok (.aload_n 2, 1) := zdal_p dlw_D_0 (i := 9) rfl
theorem d_Law_1194 : decode code 1194 = .ok (.aload_n 0, 1) := zdal_p dlw_D_0 (i := 10) rfl
theorem d_Law_1195 : decode code 1195 = .ok (.iload_n 3, 1) := zdal_p dlw_D_0 (i := 11) rfl
theorem d_Law_1196 : decode code 1196 = .ok (.iconst 1, 1) := zdal_p dlw_D_0 (i := 12) rfl
theorem d_Law_1197 : decode code 1197 = .ok (.iadd, 1) := zdal_p dlw_D_0 (i := 13) rfl
theorem d_Law_1198 : decode code 1198 = .ok (.iaload, 1) := zdal_p dlw_D_0 (i := 14) rfl
theorem d_Law_1199 : decode code 1199 = .ok (.aload_n 0, 1) := zdal_p dlw_D_0 (i := 15) rfl
theorem d_Law_1200 : decode code 1200 = .ok (.iload_n 3, 1) := zdal_p dlw_D_0 (i := 16) rfl
theorem d_Law_1201 : decode code 1201 = .ok (.iconst 2, 1) := zdal_p dlw_D_0 (i := 17) rfl
theorem d_Law_1202 : decode code 1202 = .ok (.iadd, 1) := zdal_p dlw_D_0 (i := 18) rfl
theorem d_Law_1203 : decode code 1203 = .ok (.iaload, 1) := zdal_p dlw_D_0 (i := 19) rfl
theorem d_Law_1204 : decode code 1204 = .ok (.invokevirtual 150, 3) := zdal_p dlw_D_0 (i := 20) rfl
theorem d_Law_1207 : decode code 1207 = .ok (.pop, 1) := zdal_p dlw_D_0 (i := 21) rfl
theorem d_Law_1208 : decode code 1208 = .ok (.goto 302, 3) := zdal_p dlw_D_0 (i := 22) rfl
theorem d_Law_1211 : decode code 1211 = .ok (.aload_n 1, 1) := zdal_p dlw_D_0 (i := 23) rfl
theorem d_Law_1212 : decode code 1212 = .ok (.aload_n 0, 1) := zdal_p dlw_D_0 (i := 24) rfl
theorem d_Law_1213 : decode code 1213 = .ok (.iload_n 3, 1) := zdal_p dlw_D_0 (i := 25) rfl
theorem d_Law_1214 : decode code 1214 = .ok (.iconst 1, 1) := zdal_p dlw_D_0 (i := 26) rfl
theorem d_Law_1215 : decode code 1215 = .ok (.iadd, 1) := zdal_p dlw_D_0 (i := 27) rfl
theorem d_Law_1216 : decode code 1216 = .ok (.iaload, 1) := zdal_p dlw_D_0 (i := 28) rfl
theorem d_Law_1217 : decode code 1217 = .ok (.aload_n 0, 1) := zdal_p dlw_D_0 (i := 29) rfl
theorem d_Law_1218 : decode code 1218 = .ok (.iload_n 3, 1) := zdal_p dlw_D_0 (i := 30) rfl
theorem d_Law_1219 : decode code 1219 = .ok (.iconst 2, 1) := zdal_p dlw_D_0 (i := 31) rfl
theorem d_Law_1220 : decode code 1220 = .ok (.iadd, 1) := zdal_p dlw_D_0 (i := 32) rfl
theorem d_Law_1221 : decode code 1221 = .ok (.iaload, 1) := zdal_p dlw_D_0 (i := 33) rfl
theorem d_Law_1222 : decode code 1222 = .ok (.invokevirtual 151, 3) := zdal_p dlw_D_0 (i := 34) rfl
theorem d_Law_1225 : decode code 1225 = .ok (.pop2, 1) := zdal_p dlw_D_0 (i := 35) rfl
theorem d_Law_1226 : decode code 1226 = .ok (.aload_n 2, 1) := zdal_p dlw_D_0 (i := 36) rfl
theorem d_Law_1227 : decode code 1227 = .ok (.aload_n 0, 1) := zdal_p dlw_D_0 (i := 37) rfl
theorem d_Law_1228 : decode code 1228 = .ok (.iload_n 3, 1) := zdal_p dlw_D_0 (i := 38) rfl
theorem d_Law_1229 : decode code 1229 = .ok (.iconst 1, 1) := zdal_p dlw_D_0 (i := 39) rfl
theorem d_Law_1230 : decode code 1230 = .ok (.iadd, 1) := zdal_p dlw_D_0 (i := 40) rfl
theorem d_Law_1231 : decode code 1231 = .ok (.iaload, 1) := zdal_p dlw_D_0 (i := 41) rfl
theorem d_Law_1232 : decode code 1232 = .ok (.aload_n 0, 1) := zdal_p dlw_D_0 (i := 42) rfl
theorem d_Law_1233 : decode code 1233 = .ok (.iload_n 3, 1) := zdal_p dlw_D_0 (i := 43) rfl
theorem d_Law_1234 : decode code 1234 = .ok (.iconst 2, 1) := zdal_p dlw_D_0 (i := 44) rfl
theorem d_Law_1235 : decode code 1235 = .ok (.iadd, 1) := zdal_p dlw_D_0 (i := 45) rfl
theorem d_Law_1236 : decode code 1236 = .ok (.iaload, 1) := zdal_p dlw_D_0 (i := 46) rfl
theorem d_Law_1237 : decode code 1237 = .ok (.invokevirtual 155, 3) := zdal_p dlw_D_0 (i := 47) rfl
theorem d_Law_1240 : decode code 1240 = .ok (.pop2, 1) := zdal_p dlw_D_0 (i := 48) rfl
theorem d_Law_1241 : decode code 1241 = .ok (.goto 269, 3) := zdal_p dlw_D_0 (i := 49) rfl
theorem d_Law_1244 : decode code 1244 = .ok (.aload_n 1, 1) := zdal_p dlw_D_0 (i := 50) rfl
theorem d_Law_1245 : decode code 1245 = .ok (.aload_n 0, 1) := zdal_p dlw_D_0 (i := 51) rfl
theorem d_Law_1246 : decode code 1246 = .ok (.iload_n 3, 1) := zdal_p dlw_D_0 (i := 52) rfl
theorem d_Law_1247 : decode code 1247 = .ok (.iconst 1, 1) := zdal_p dlw_D_0 (i := 53) rfl
theorem d_Law_1248 : decode code 1248 = .ok (.iadd, 1) := zdal_p dlw_D_0 (i := 54) rfl
theorem d_Law_1249 : decode code 1249 = .ok (.iaload, 1) := zdal_p dlw_D_0 (i := 55) rfl
theorem d_Law_1250 : decode code 1250 = .ok (.invokevirtual 156, 3) := zdal_p dlw_D_0 (i := 56) rfl
theorem d_Law_1253 : decode code 1253 = .ok (.pop2, 1) := zdal_p dlw_D_0 (i := 57) rfl
theorem d_Law_1254 : decode code 1254 = .ok (.aload_n 2, 1) := zdal_p dlw_D_0 (i := 58) rfl
theorem d_Law_1255 : decode code 1255 = .ok (.aload_n 0, 1) := zdal_p dlw_D_0 (i := 59) rfl
theorem d_Law_1256 : decode code 1256 = .ok (.iload_n 3, 1) := zdal_p dlw_D_0 (i := 60) rfl
theorem d_Law_1257 : decode code 1257 = .ok (.iconst 1, 1) := zdal_p dlw_D_0 (i := 61) rfl
theorem d_Law_1258 : decode code 1258 = .ok (.iadd, 1) := zdal_p dlw_D_0 (i := 62) rfl
theorem d_Law_1259 : decode code 1259 = .ok (.iaload, 1) := zdal_p dlw_D_0 (i := 63) rfl
theorem dlw_D_1 : zdal code [(1260, (.invokevirtual 160, 3)), (1263, (.pop2, 1)), (1264, (.goto 246, 3)), (1267, (.aload_n 1, 1)), (1268, (.aload_n 0, 1)), (1269, (.iload_n 3, 1)), (1270, (.iconst 1, 1)), (1271, (.iadd, 1)), (1272, (.iaload, 1)), (1273, (.invokevirtual 161, 3)), (1276, (.pop2, 1)), (1277, (.aload_n 2, 1)), (1278, (.aload_n 0, 1)), (1279, (.iload_n 3, 1)), (1280, (.iconst 1, 1)), (1281, (.iadd, 1)), (1282, (.iaload, 1)), (1283, (.invokevirtual 164, 3)), (1286, (.pop2, 1)), (1287, (.goto 223, 3)), (1290, (.aload_n 1, 1)), (1291, (.aload_n 0, 1)), (1292, (.iload_n 3, 1)), (1293, (.iconst 1, 1)), (1294, (.iadd, 1)), (1295, (.iaload, 1)), (1296, (.invokevirtual 165, 3)), (1299, (.pop2, 1)), (1300, (.aload_n 2, 1)), (1301, (.aload_n 0, 1)), (1302, (.iload_n 3, 1)), (1303, (.iconst 1, 1)), (1304, (.iadd, 1)), (1305, (.iaload, 1)), (1306, (.invokevirtual 168, 3)), (1309, (.pop2, 1)), (1310, (.goto 200, 3)), (1313, (.aload_n 1, 1)), (1314, (.invokevirtual 169, 3)), (1317, (.pop, 1)), (1318, (.aload_n 2, 1)), (1319, (.invokevirtual 172, 3)), (1322, (.pop, 1)), (1323, (.goto 187, 3)), (1326, (.aload_n 1, 1)), (1327, (.aload_n 0, 1)), (1328, (.iload_n 3, 1)), (1329, (.iconst 1, 1)), (1330, (.iadd, 1)), (1331, (.iaload, 1)), (1332, (.invokevirtual 173, 3)), (1335, (.pop2, 1)), (1336, (.aload_n 2, 1)), (1337, (.aload_n 0, 1)), (1338, (.iload_n 3, 1)), (1339, (.iconst 1, 1)), (1340, (.iadd, 1)), (1341, (.iaload, 1)), (1342, (.invokevirtual 176, 3)), (1345, (.pop2, 1)), (1346, (.goto 164, 3)), (1349, (.aload_n 1, 1)), (1350, (.aload_n 0, 1)), (1351, (.iload_n 3, 1))] = true := zDs 1260 (by decide +kernel)
theorem d_Law_1260 : decode code 1260 = .ok (.invokevirtual 160, 3) := zdal_p dlw_D_1 (i := 0) rfl
theorem d_Law_1263 : decode code 1263 = .ok (.pop2, 1) := zdal_p dlw_D_1 (i := 1) rfl
theorem d_Law_1264 : decode code 1264 = .ok (.goto 246, 3) := zdal_p dlw_D_1 (i := 2) rfl
theorem d_Law_1267 : decode code 1267 = .ok (.aload_n 1, 1) := zdal_p dlw_D_1 (i := 3) rfl
theorem d_Law_1268 : decode code 1268 = .ok (.aload_n 0, 1) := zdal_p dlw_D_1 (i := 4) rfl
theorem d_Law_1269 : decode code 1269 = .ok (.iload_n 3, 1) := zdal_p dlw_D_1 (i := 5) rfl
theorem d_Law_1270 : decode code 1270 = .ok (.iconst 1, 1) := zdal_p dlw_D_1 (i := 6) rfl
theorem d_Law_1271 : decode code 1271 = .ok (.iadd, 1) := zdal_p dlw_D_1 (i := 7) rfl
theorem d_Law_1272 : decode code 1272 = .ok (.iaload, 1) := zdal_p dlw_D_1 (i := 8) rfl
theorem d_Law_1273 : decode code 1273 = .ok (.invokevirtual 161, 3) := zdal_p dlw_D_1 (i := 9) rfl
theorem d_Law_1276 : decode code 1276 = .ok (.pop2, 1) := zdal_p dlw_D_1 (i := 10) rfl
theorem d_Law_1277 : decode code 1277 = .ok (.aload_n 2, 1) := zdal_p dlw_D_1 (i := 11) rfl
theorem d_Law_1278 : decode code 1278 = .ok (.aload_n 0, 1) := zdal_p dlw_D_1 (i := 12) rfl
theorem d_Law_1279 : decode code 1279 = .ok (.iload_n 3, 1) := zdal_p dlw_D_1 (i := 13) rfl
theorem d_Law_1280 : decode code 1280 = .ok (.iconst 1, 1) := zdal_p dlw_D_1 (i := 14) rfl
theorem d_Law_1281 : decode code 1281 = .ok (.iadd, 1) := zdal_p dlw_D_1 (i := 15) rfl
theorem d_Law_1282 : decode code 1282 = .ok (.iaload, 1) := zdal_p dlw_D_1 (i := 16) rfl
theorem d_Law_1283 : decode code 1283 = .ok (.invokevirtual 164, 3) := zdal_p dlw_D_1 (i := 17) rfl
theorem d_Law_1286 : decode code 1286 = .ok (.pop2, 1) := zdal_p dlw_D_1 (i := 18) rfl
theorem d_Law_1287 : decode code 1287 = .ok (.goto 223, 3) := zdal_p dlw_D_1 (i := 19) rfl
theorem d_Law_1290 : decode code 1290 = .ok (.aload_n 1, 1) := zdal_p dlw_D_1 (i := 20) rfl
theorem d_Law_1291 : decode code 1291 = .ok (.aload_n 0, 1) := zdal_p dlw_D_1 (i := 21) rfl
theorem d_Law_1292 : decode code 1292 = .ok (.iload_n 3, 1) := zdal_p dlw_D_1 (i := 22) rfl
theorem d_Law_1293 : decode code 1293 = .ok (.iconst 1, 1) := zdal_p dlw_D_1 (i := 23) rfl
theorem d_Law_1294 : decode code 1294 = .ok (.iadd, 1) := zdal_p dlw_D_1 (i := 24) rfl
theorem d_Law_1295 : decode code 1295 = .ok (.iaload, 1) := zdal_p dlw_D_1 (i := 25) rfl
theorem d_Law_1296 : decode code 1296 = .ok (.invokevirtual 165, 3) := zdal_p dlw_D_1 (i := 26) rfl
theorem d_Law_1299 : decode code 1299 = .ok (.pop2, 1) := zdal_p dlw_D_1 (i := 27) rfl
theorem d_Law_1300 : decode code 1300 = .ok (.aload_n 2, 1) := zdal_p dlw_D_1 (i := 28) rfl
theorem d_Law_1301 : decode code 1301 = .ok (.aload_n 0, 1) := zdal_p dlw_D_1 (i := 29) rfl
theorem d_Law_1302 : decode code 1302 = .ok (.iload_n 3, 1) := zdal_p dlw_D_1 (i := 30) rfl
theorem d_Law_1303 : decode code 1303 = .ok (.iconst 1, 1) := zdal_p dlw_D_1 (i := 31) rfl
theorem d_Law_1304 : decode code 1304 = .ok (.iadd, 1) := zdal_p dlw_D_1 (i := 32) rfl
theorem d_Law_1305 : decode code 1305 = .ok (.iaload, 1) := zdal_p dlw_D_1 (i := 33) rfl
theorem d_Law_1306 : decode code 1306 = .ok (.invokevirtual 168, 3) := zdal_p dlw_D_1 (i := 34) rfl
theorem d_Law_1309 : decode code 1309 = .ok (.pop2, 1) := zdal_p dlw_D_1 (i := 35) rfl
theorem d_Law_1310 : decode code 1310 = .ok (.goto 200, 3) := zdal_p dlw_D_1 (i := 36) rfl
theorem d_Law_1313 : decode code 1313 = .ok (.aload_n 1, 1) := zdal_p dlw_D_1 (i := 37) rfl
theorem d_Law_1314 : decode code 1314 = .ok (.invokevirtual 169, 3) := zdal_p dlw_D_1 (i := 38) rfl
theorem d_Law_1317 : decode code 1317 = .ok (.pop, 1) := zdal_p dlw_D_1 (i := 39) rfl
theorem d_Law_1318 : decode code 1318 = .ok (.aload_n 2, 1) := zdal_p dlw_D_1 (i := 40) rfl
theorem d_Law_1319 : decode code 1319 = .ok (.invokevirtual 172, 3) := zdal_p dlw_D_1 (i := 41) rfl
theorem d_Law_1322 : decode code 1322 = .ok (.pop, 1) := zdal_p dlw_D_1 (i := 42) rfl
theorem d_Law_1323 : decode code 1323 = .ok (.goto 187, 3) := zdal_p dlw_D_1 (i := 43) rfl
theorem d_Law_1326 : decode code 1326 = .ok (.aload_n 1, 1) := zdal_p dlw_D_1 (i := 44) rfl
theorem d_Law_1327 : decode code 1327 = .ok (.aload_n 0, 1) := zdal_p dlw_D_1 (i := 45) rfl
theorem d_Law_1328 : decode code 1328 = .ok (.iload_n 3, 1) := zdal_p dlw_D_1 (i := 46) rfl
theorem d_Law_1329 : decode code 1329 = .ok (.iconst 1, 1) := zdal_p dlw_D_1 (i := 47) rfl
theorem d_Law_1330 : decode code 1330 = .ok (.iadd, 1) := zdal_p dlw_D_1 (i := 48) rfl
theorem d_Law_1331 : decode code 1331 = .ok (.iaload, 1) := zdal_p dlw_D_1 (i := 49) rfl
theorem d_Law_1332 : decode code 1332 = .ok (.invokevirtual 173, 3) := zdal_p dlw_D_1 (i := 50) rfl
theorem d_Law_1335 : decode code 1335 = .ok (.pop2, 1) := zdal_p dlw_D_1 (i := 51) rfl
theorem d_Law_1336 : decode code 1336 = .ok (.aload_n 2, 1) := zdal_p dlw_D_1 (i := 52) rfl
theorem d_Law_1337 : decode code 1337 = .ok (.aload_n 0, 1) := zdal_p dlw_D_1 (i := 53) rfl
theorem d_Law_1338 : decode code 1338 = .ok (.iload_n 3, 1) := zdal_p dlw_D_1 (i := 54) rfl
theorem d_Law_1339 : decode code 1339 = .ok (.iconst 1, 1) := zdal_p dlw_D_1 (i := 55) rfl
theorem d_Law_1340 : decode code 1340 = .ok (.iadd, 1) := zdal_p dlw_D_1 (i := 56) rfl
theorem d_Law_1341 : decode code 1341 = .ok (.iaload, 1) := zdal_p dlw_D_1 (i := 57) rfl
theorem d_Law_1342 : decode code 1342 = .ok (.invokevirtual 176, 3) := zdal_p dlw_D_1 (i := 58) rfl
theorem d_Law_1345 : decode code 1345 = .ok (.pop2, 1) := zdal_p dlw_D_1 (i := 59) rfl
theorem d_Law_1346 : decode code 1346 = .ok (.goto 164, 3) := zdal_p dlw_D_1 (i := 60) rfl
theorem d_Law_1349 : decode code 1349 = .ok (.aload_n 1, 1) := zdal_p dlw_D_1 (i := 61) rfl
theorem d_Law_1350 : decode code 1350 = .ok (.aload_n 0, 1) := zdal_p dlw_D_1 (i := 62) rfl
theorem d_Law_1351 : decode code 1351 = .ok (.iload_n 3, 1) := zdal_p dlw_D_1 (i := 63) rfl
theorem dlw_D_2 : zdal code [(1352, (.iconst 1, 1)), (1353, (.iadd, 1)), (1354, (.iaload, 1)), (1355, (.invokevirtual 177, 3)), (1358, (.pop, 1)), (1359, (.aload_n 2, 1)), (1360, (.aload_n 0, 1)), (1361, (.iload_n 3, 1)), (1362, (.iconst 1, 1)), (1363, (.iadd, 1)), (1364, (.iaload, 1)), (1365, (.invokevirtual 180, 3)), (1368, (.pop, 1)), (1369, (.goto 141, 3)), (1372, (.aload_n 1, 1)), (1373, (.invokevirtual 181, 3)), (1376, (.pop, 1)), (1377, (.aload_n 2, 1)), (1378, (.invokevirtual 184, 3)), (1381, (.pop, 1)), (1382, (.goto 128, 3)), (1385, (.aload_n 1, 1)), (1386, (.aload_n 0, 1)), (1387, (.iload_n 3, 1)), (1388, (.iconst 1, 1)), (1389, (.iadd, 1)), (1390, (.iaload, 1)), (1391, (.aload_n 0, 1)), (1392, (.iload_n 3, 1)), (1393, (.iconst 2, 1)), (1394, (.iadd, 1)), (1395, (.iaload, 1)), (1396, (.invokevirtual 185, 3)), (1399, (.pop, 1)), (1400, (.aload_n 2, 1)), (1401, (.aload_n 0, 1)), (1402, (.iload_n 3, 1)), (1403, (.iconst 1, 1)), (1404, (.iadd, 1)), (1405, (.iaload, 1)), (1406, (.aload_n 0, 1)), (1407, (.iload_n 3, 1)), (1408, (.iconst 2, 1)), (1409, (.iadd, 1)), (1410, (.iaload, 1)), (1411, (.invokevirtual 188, 3)), (1414, (.pop, 1)), (1415, (.goto 95, 3)), (1418, (.aload_n 1, 1)), (1419, (.invokevirtual 189, 3)), (1422, (.pop, 1)), (1423, (.aload_n 2, 1)), (1424, (.invokevirtual 192, 3)), (1427, (.pop, 1)), (1428, (.goto 82, 3)), (1431, (.aload_n 1, 1)), (1432, (.aload_n 0, 1)), (1433, (.iload_n 3, 1)), (1434, (.iconst 1, 1)), (1435, (.iadd, 1)), (1436, (.iaload, 1)), (1437, (.invokevirtual 193, 3)), (1440, (.pop, 1)), (1441, (.aload_n 2, 1))] = true := zDs 1352 (by decide +kernel)
theorem d_Law_1352 : decode code 1352 = .ok (.iconst 1, 1) := zdal_p dlw_D_2 (i := 0) rfl
theorem d_Law_1353 : decode code 1353 = .ok (.iadd, 1) := zdal_p dlw_D_2 (i := 1) rfl
theorem d_Law_1354 : decode code 1354 = .ok (.iaload, 1) := zdal_p dlw_D_2 (i := 2) rfl
theorem d_Law_1355 : decode code 1355 = .ok (.invokevirtual 177, 3) := zdal_p dlw_D_2 (i := 3) rfl
theorem d_Law_1358 : decode code 1358 = .ok (.pop, 1) := zdal_p dlw_D_2 (i := 4) rfl
theorem d_Law_1359 : decode code 1359 = .ok (.aload_n 2, 1) := zdal_p dlw_D_2 (i := 5) rfl
theorem d_Law_1360 : decode code 1360 = .ok (.aload_n 0, 1) := zdal_p dlw_D_2 (i := 6) rfl
theorem d_Law_1361 : decode code 1361 = .ok (.iload_n 3, 1) := zdal_p dlw_D_2 (i := 7) rfl
theorem d_Law_1362 : decode code 1362 = .ok (.iconst 1, 1) := zdal_p dlw_D_2 (i := 8) rfl
theorem d_Law_1363 : decode code 1363 = .ok (.iadd, 1) := zdal_p dlw_D_2 (i := 9) rfl
theorem d_Law_1364 : decode code 1364 = .ok (.iaload, 1) := zdal_p dlw_D_2 (i := 10) rfl
theorem d_Law_1365 : decode code 1365 = .ok (.invokevirtual 180, 3) := zdal_p dlw_D_2 (i := 11) rfl
theorem d_Law_1368 : decode code 1368 = .ok (.pop, 1) := zdal_p dlw_D_2 (i := 12) rfl
theorem d_Law_1369 : decode code 1369 = .ok (.goto 141, 3) := zdal_p dlw_D_2 (i := 13) rfl
theorem d_Law_1372 : decode code 1372 = .ok (.aload_n 1, 1) := zdal_p dlw_D_2 (i := 14) rfl
theorem d_Law_1373 : decode code 1373 = .ok (.invokevirtual 181, 3) := zdal_p dlw_D_2 (i := 15) rfl
theorem d_Law_1376 : decode code 1376 = .ok (.pop, 1) := zdal_p dlw_D_2 (i := 16) rfl
theorem d_Law_1377 : decode code 1377 = .ok (.aload_n 2, 1) := zdal_p dlw_D_2 (i := 17) rfl
theorem d_Law_1378 : decode code 1378 = .ok (.invokevirtual 184, 3) := zdal_p dlw_D_2 (i := 18) rfl
theorem d_Law_1381 : decode code 1381 = .ok (.pop, 1) := zdal_p dlw_D_2 (i := 19) rfl
theorem d_Law_1382 : decode code 1382 = .ok (.goto 128, 3) := zdal_p dlw_D_2 (i := 20) rfl
theorem d_Law_1385 : decode code 1385 = .ok (.aload_n 1, 1) := zdal_p dlw_D_2 (i := 21) rfl
theorem d_Law_1386 : decode code 1386 = .ok (.aload_n 0, 1) := zdal_p dlw_D_2 (i := 22) rfl
theorem d_Law_1387 : decode code 1387 = .ok (.iload_n 3, 1) := zdal_p dlw_D_2 (i := 23) rfl
theorem d_Law_1388 : decode code 1388 = .ok (.iconst 1, 1) := zdal_p dlw_D_2 (i := 24) rfl
theorem d_Law_1389 : decode code 1389 = .ok (.iadd, 1) := zdal_p dlw_D_2 (i := 25) rfl
theorem d_Law_1390 : decode code 1390 = .ok (.iaload, 1) := zdal_p dlw_D_2 (i := 26) rfl
theorem d_Law_1391 : decode code 1391 = .ok (.aload_n 0, 1) := zdal_p dlw_D_2 (i := 27) rfl
theorem d_Law_1392 : decode code 1392 = .ok (.iload_n 3, 1) := zdal_p dlw_D_2 (i := 28) rfl
theorem d_Law_1393 : decode code 1393 = .ok (.iconst 2, 1) := zdal_p dlw_D_2 (i := 29) rfl
theorem d_Law_1394 : decode code 1394 = .ok (.iadd, 1) := zdal_p dlw_D_2 (i := 30) rfl
theorem d_Law_1395 : decode code 1395 = .ok (.iaload, 1) := zdal_p dlw_D_2 (i := 31) rfl
theorem d_Law_1396 : decode code 1396 = .ok (.invokevirtual 185, 3) := zdal_p dlw_D_2 (i := 32) rfl
theorem d_Law_1399 : decode code 1399 = .ok (.pop, 1) := zdal_p dlw_D_2 (i := 33) rfl
theorem d_Law_1400 : decode code 1400 = .ok (.aload_n 2, 1) := zdal_p dlw_D_2 (i := 34) rfl
theorem d_Law_1401 : decode code 1401 = .ok (.aload_n 0, 1) := zdal_p dlw_D_2 (i := 35) rfl
theorem d_Law_1402 : decode code 1402 = .ok (.iload_n 3, 1) := zdal_p dlw_D_2 (i := 36) rfl
theorem d_Law_1403 : decode code 1403 = .ok (.iconst 1, 1) := zdal_p dlw_D_2 (i := 37) rfl
theorem d_Law_1404 : decode code 1404 = .ok (.iadd, 1) := zdal_p dlw_D_2 (i := 38) rfl
theorem d_Law_1405 : decode code 1405 = .ok (.iaload, 1) := zdal_p dlw_D_2 (i := 39) rfl
theorem d_Law_1406 : decode code 1406 = .ok (.aload_n 0, 1) := zdal_p dlw_D_2 (i := 40) rfl
theorem d_Law_1407 : decode code 1407 = .ok (.iload_n 3, 1) := zdal_p dlw_D_2 (i := 41) rfl
theorem d_Law_1408 : decode code 1408 = .ok (.iconst 2, 1) := zdal_p dlw_D_2 (i := 42) rfl
theorem d_Law_1409 : decode code 1409 = .ok (.iadd, 1) := zdal_p dlw_D_2 (i := 43) rfl
theorem d_Law_1410 : decode code 1410 = .ok (.iaload, 1) := zdal_p dlw_D_2 (i := 44) rfl
theorem d_Law_1411 : decode code 1411 = .ok (.invokevirtual 188, 3) := zdal_p dlw_D_2 (i := 45) rfl
theorem d_Law_1414 : decode code 1414 = .ok (.pop, 1) := zdal_p dlw_D_2 (i := 46) rfl
theorem d_Law_1415 : decode code 1415 = .ok (.goto 95, 3) := zdal_p dlw_D_2 (i := 47) rfl
theorem d_Law_1418 : decode code 1418 = .ok (.aload_n 1, 1) := zdal_p dlw_D_2 (i := 48) rfl
theorem d_Law_1419 : decode code 1419 = .ok (.invokevirtual 189, 3) := zdal_p dlw_D_2 (i := 49) rfl
theorem d_Law_1422 : decode code 1422 = .ok (.pop, 1) := zdal_p dlw_D_2 (i := 50) rfl
theorem d_Law_1423 : decode code 1423 = .ok (.aload_n 2, 1) := zdal_p dlw_D_2 (i := 51) rfl
theorem d_Law_1424 : decode code 1424 = .ok (.invokevirtual 192, 3) := zdal_p dlw_D_2 (i := 52) rfl
theorem d_Law_1427 : decode code 1427 = .ok (.pop, 1) := zdal_p dlw_D_2 (i := 53) rfl
theorem d_Law_1428 : decode code 1428 = .ok (.goto 82, 3) := zdal_p dlw_D_2 (i := 54) rfl
theorem d_Law_1431 : decode code 1431 = .ok (.aload_n 1, 1) := zdal_p dlw_D_2 (i := 55) rfl
theorem d_Law_1432 : decode code 1432 = .ok (.aload_n 0, 1) := zdal_p dlw_D_2 (i := 56) rfl
theorem d_Law_1433 : decode code 1433 = .ok (.iload_n 3, 1) := zdal_p dlw_D_2 (i := 57) rfl
theorem d_Law_1434 : decode code 1434 = .ok (.iconst 1, 1) := zdal_p dlw_D_2 (i := 58) rfl
theorem d_Law_1435 : decode code 1435 = .ok (.iadd, 1) := zdal_p dlw_D_2 (i := 59) rfl
theorem d_Law_1436 : decode code 1436 = .ok (.iaload, 1) := zdal_p dlw_D_2 (i := 60) rfl
theorem d_Law_1437 : decode code 1437 = .ok (.invokevirtual 193, 3) := zdal_p dlw_D_2 (i := 61) rfl
theorem d_Law_1440 : decode code 1440 = .ok (.pop, 1) := zdal_p dlw_D_2 (i := 62) rfl
theorem d_Law_1441 : decode code 1441 = .ok (.aload_n 2, 1) := zdal_p dlw_D_2 (i := 63) rfl
theorem dlw_D_3 : zdal code [(1442, (.aload_n 0, 1)), (1443, (.iload_n 3, 1)), (1444, (.iconst 1, 1)), (1445, (.iadd, 1)), (1446, (.iaload, 1)), (1447, (.invokevirtual 196, 3)), (1450, (.pop, 1)), (1451, (.goto 59, 3)), (1454, (.aload_n 1, 1)), (1455, (.aload_n 0, 1)), (1456, (.iload_n 3, 1)), (1457, (.iconst 1, 1)), (1458, (.iadd, 1)), (1459, (.iaload, 1)), (1460, (.aload_n 0, 1)), (1461, (.iload_n 3, 1)), (1462, (.iconst 2, 1)), (1463, (.iadd, 1)), (1464, (.iaload, 1)), (1465, (.aload_n 0, 1)), (1466, (.iload_n 3, 1)), (1467, (.iconst 3, 1)), (1468, (.iadd, 1)), (1469, (.iaload, 1)), (1470, (.invokevirtual 197, 3)), (1473, (.pop2, 1)), (1474, (.aload_n 2, 1)), (1475, (.aload_n 0, 1)), (1476, (.iload_n 3, 1)), (1477, (.iconst 1, 1)), (1478, (.iadd, 1)), (1479, (.iaload, 1)), (1480, (.aload_n 0, 1)), (1481, (.iload_n 3, 1)), (1482, (.iconst 2, 1)), (1483, (.iadd, 1)), (1484, (.iaload, 1)), (1485, (.aload_n 0, 1)), (1486, (.iload_n 3, 1)), (1487, (.iconst 3, 1)), (1488, (.iadd, 1)), (1489, (.iaload, 1)), (1490, (.invokevirtual 201, 3)), (1493, (.pop2, 1)), (1494, (.goto 16, 3)), (1497, (.aload_n 1, 1)), (1498, (.invokevirtual 202, 3)), (1501, (.pop, 1)), (1502, (.aload_n 2, 1)), (1503, (.invokevirtual 205, 3)), (1506, (.pop, 1)), (1507, (.goto 3, 3)), (1510, (.iinc 3 6, 3)), (1513, (.goto (-1495), 3)), (1516, (.iconst 1, 1)), (1517, (.ireturn, 1))] = true := zDs 1442 (by decide +kernel)
theorem d_Law_1442 : decode code 1442 = .ok (.aload_n 0, 1) := zdal_p dlw_D_3 (i := 0) rfl
theorem d_Law_1443 : decode code 1443 = .ok (.iload_n 3, 1) := zdal_p dlw_D_3 (i := 1) rfl
theorem d_Law_1444 : decode code 1444 = .ok (.iconst 1, 1) := zdal_p dlw_D_3 (i := 2) rfl
theorem d_Law_1445 : decode code 1445 = .ok (.iadd, 1) := zdal_p dlw_D_3 (i := 3) rfl
theorem d_Law_1446 : decode code 1446 = .ok (.iaload, 1) := zdal_p dlw_D_3 (i := 4) rfl
theorem d_Law_1447 : decode code 1447 = .ok (.invokevirtual 196, 3) := zdal_p dlw_D_3 (i := 5) rfl
theorem d_Law_1450 : decode code 1450 = .ok (.pop, 1) := zdal_p dlw_D_3 (i := 6) rfl
theorem d_Law_1451 : decode code 1451 = .ok (.goto 59, 3) := zdal_p dlw_D_3 (i := 7) rfl
theorem d_Law_1454 : decode code 1454 = .ok (.aload_n 1, 1) := zdal_p dlw_D_3 (i := 8) rfl
theorem d_Law_1455 : decode code 1455 = .ok (.aload_n 0, 1) := zdal_p dlw_D_3 (i := 9) rfl
theorem d_Law_1456 : decode code 1456 = .ok (.iload_n 3, 1) := zdal_p dlw_D_3 (i := 10) rfl
theorem d_Law_1457 : decode code 1457 = .ok (.iconst 1, 1) := zdal_p dlw_D_3 (i := 11) rfl
theorem d_Law_1458 : decode code 1458 = .ok (.iadd, 1) := zdal_p dlw_D_3 (i := 12) rfl
theorem d_Law_1459 : decode code 1459 = .ok (.iaload, 1) := zdal_p dlw_D_3 (i := 13) rfl
theorem d_Law_1460 : decode code 1460 = .ok (.aload_n 0, 1) := zdal_p dlw_D_3 (i := 14) rfl
theorem d_Law_1461 : decode code 1461 = .ok (.iload_n 3, 1) := zdal_p dlw_D_3 (i := 15) rfl
theorem d_Law_1462 : decode code 1462 = .ok (.iconst 2, 1) := zdal_p dlw_D_3 (i := 16) rfl
theorem d_Law_1463 : decode code 1463 = .ok (.iadd, 1) := zdal_p dlw_D_3 (i := 17) rfl
theorem d_Law_1464 : decode code 1464 = .ok (.iaload, 1) := zdal_p dlw_D_3 (i := 18) rfl
theorem d_Law_1465 : decode code 1465 = .ok (.aload_n 0, 1) := zdal_p dlw_D_3 (i := 19) rfl
theorem d_Law_1466 : decode code 1466 = .ok (.iload_n 3, 1) := zdal_p dlw_D_3 (i := 20) rfl
theorem d_Law_1467 : decode code 1467 = .ok (.iconst 3, 1) := zdal_p dlw_D_3 (i := 21) rfl
theorem d_Law_1468 : decode code 1468 = .ok (.iadd, 1) := zdal_p dlw_D_3 (i := 22) rfl
theorem d_Law_1469 : decode code 1469 = .ok (.iaload, 1) := zdal_p dlw_D_3 (i := 23) rfl
theorem d_Law_1470 : decode code 1470 = .ok (.invokevirtual 197, 3) := zdal_p dlw_D_3 (i := 24) rfl
theorem d_Law_1473 : decode code 1473 = .ok (.pop2, 1) := zdal_p dlw_D_3 (i := 25) rfl
theorem d_Law_1474 : decode code 1474 = .ok (.aload_n 2, 1) := zdal_p dlw_D_3 (i := 26) rfl
theorem d_Law_1475 : decode code 1475 = .ok (.aload_n 0, 1) := zdal_p dlw_D_3 (i := 27) rfl
theorem d_Law_1476 : decode code 1476 = .ok (.iload_n 3, 1) := zdal_p dlw_D_3 (i := 28) rfl
theorem d_Law_1477 : decode code 1477 = .ok (.iconst 1, 1) := zdal_p dlw_D_3 (i := 29) rfl
theorem d_Law_1478 : decode code 1478 = .ok (.iadd, 1) := zdal_p dlw_D_3 (i := 30) rfl
theorem d_Law_1479 : decode code 1479 = .ok (.iaload, 1) := zdal_p dlw_D_3 (i := 31) rfl
theorem d_Law_1480 : decode code 1480 = .ok (.aload_n 0, 1) := zdal_p dlw_D_3 (i := 32) rfl
theorem d_Law_1481 : decode code 1481 = .ok (.iload_n 3, 1) := zdal_p dlw_D_3 (i := 33) rfl
theorem d_Law_1482 : decode code 1482 = .ok (.iconst 2, 1) := zdal_p dlw_D_3 (i := 34) rfl
theorem d_Law_1483 : decode code 1483 = .ok (.iadd, 1) := zdal_p dlw_D_3 (i := 35) rfl
theorem d_Law_1484 : decode code 1484 = .ok (.iaload, 1) := zdal_p dlw_D_3 (i := 36) rfl
theorem d_Law_1485 : decode code 1485 = .ok (.aload_n 0, 1) := zdal_p dlw_D_3 (i := 37) rfl
theorem d_Law_1486 : decode code 1486 = .ok (.iload_n 3, 1) := zdal_p dlw_D_3 (i := 38) rfl
theorem d_Law_1487 : decode code 1487 = .ok (.iconst 3, 1) := zdal_p dlw_D_3 (i := 39) rfl
theorem d_Law_1488 : decode code 1488 = .ok (.iadd, 1) := zdal_p dlw_D_3 (i := 40) rfl
theorem d_Law_1489 : decode code 1489 = .ok (.iaload, 1) := zdal_p dlw_D_3 (i := 41) rfl
theorem d_Law_1490 : decode code 1490 = .ok (.invokevirtual 201, 3) := zdal_p dlw_D_3 (i := 42) rfl
theorem d_Law_1493 : decode code 1493 = .ok (.pop2, 1) := zdal_p dlw_D_3 (i := 43) rfl
theorem d_Law_1494 : decode code 1494 = .ok (.goto 16, 3) := zdal_p dlw_D_3 (i := 44) rfl
theorem d_Law_1497 : decode code 1497 = .ok (.aload_n 1, 1) := zdal_p dlw_D_3 (i := 45) rfl
theorem d_Law_1498 : decode code 1498 = .ok (.invokevirtual 202, 3) := zdal_p dlw_D_3 (i := 46) rfl
theorem d_Law_1501 : decode code 1501 = .ok (.pop, 1) := zdal_p dlw_D_3 (i := 47) rfl
theorem d_Law_1502 : decode code 1502 = .ok (.aload_n 2, 1) := zdal_p dlw_D_3 (i := 48) rfl
theorem d_Law_1503 : decode code 1503 = .ok (.invokevirtual 205, 3) := zdal_p dlw_D_3 (i := 49) rfl
theorem d_Law_1506 : decode code 1506 = .ok (.pop, 1) := zdal_p dlw_D_3 (i := 50) rfl
theorem d_Law_1507 : decode code 1507 = .ok (.goto 3, 3) := zdal_p dlw_D_3 (i := 51) rfl
theorem d_Law_1510 : decode code 1510 = .ok (.iinc 3 6, 3) := zdal_p dlw_D_3 (i := 52) rfl
theorem d_Law_1513 : decode code 1513 = .ok (.goto (-1495), 3) := zdal_p dlw_D_3 (i := 53) rfl
theorem d_Law_1516 : decode code 1516 = .ok (.iconst 1, 1) := zdal_p dlw_D_3 (i := 54) rfl
theorem d_Law_1517 : decode code 1517 = .ok (.ireturn, 1) := zdal_p dlw_D_3 (i := 55) rfl
