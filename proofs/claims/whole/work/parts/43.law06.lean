theorem d_La_law_1177 : decode code 1177 = .ok (.iaload, 1) := by decide +kernel
theorem d_La_law_1178 : decode code 1178 = .ok (.invokevirtual 142, 3) := by decide +kernel
theorem d_La_law_1181 : decode code 1181 = .ok (.istore 6, 2) := by decide +kernel
theorem d_La_law_1183 : decode code 1183 = .ok (.aload_n 2, 1) := by decide +kernel
theorem d_La_law_1184 : decode code 1184 = .ok (.invokevirtual 92, 3) := by decide +kernel
theorem d_La_law_1187 : decode code 1187 = .ok (.iload 5, 2) := by decide +kernel
theorem d_La_law_1189 : decode code 1189 = .ok (.if_icmp .eq 5, 3) := by decide +kernel
theorem d_La_law_1192 : decode code 1192 = .ok (.iconst 0, 1) := by decide +kernel
theorem d_La_law_1193 : decode code 1193 = .ok (.ireturn, 1) := by decide +kernel
theorem d_La_law_1194 : decode code 1194 = .ok (.iload 5, 2) := by decide +kernel
theorem d_La_law_1196 : decode code 1196 = .ok (.ifCond .ne 15, 3) := by decide +kernel
theorem d_La_law_1199 : decode code 1199 = .ok (.aload_n 3, 1) := by decide +kernel
theorem d_La_law_1200 : decode code 1200 = .ok (.iconst 0, 1) := by decide +kernel
theorem d_La_law_1201 : decode code 1201 = .ok (.laload, 1) := by decide +kernel
theorem d_La_law_1202 : decode code 1202 = .ok (.iload 6, 2) := by decide +kernel
theorem d_La_law_1204 : decode code 1204 = .ok (.i2l, 1) := by decide +kernel
theorem d_La_law_1205 : decode code 1205 = .ok (.lcmp, 1) := by decide +kernel
theorem d_La_law_1206 : decode code 1206 = .ok (.ifCond .eq 5, 3) := by decide +kernel
theorem d_La_law_1209 : decode code 1209 = .ok (.iconst 0, 1) := by decide +kernel
theorem d_La_law_1210 : decode code 1210 = .ok (.ireturn, 1) := by decide +kernel
theorem d_La_law_1211 : decode code 1211 = .ok (.goto 316, 3) := by decide +kernel
theorem d_La_law_1214 : decode code 1214 = .ok (.aload_n 1, 1) := by decide +kernel
theorem d_La_law_1215 : decode code 1215 = .ok (.aload_n 0, 1) := by decide +kernel
theorem d_La_law_1216 : decode code 1216 = .ok (.iload 4, 2) := by decide +kernel
theorem d_La_law_1218 : decode code 1218 = .ok (.iconst 1, 1) := by decide +kernel
theorem d_La_law_1219 : decode code 1219 = .ok (.iadd, 1) := by decide +kernel
theorem d_La_law_1220 : decode code 1220 = .ok (.iaload, 1) := by decide +kernel
theorem d_La_law_1221 : decode code 1221 = .ok (.invokevirtual 143, 3) := by decide +kernel
theorem d_La_law_1224 : decode code 1224 = .ok (.aload_n 2, 1) := by decide +kernel
theorem d_La_law_1225 : decode code 1225 = .ok (.aload_n 0, 1) := by decide +kernel
theorem d_La_law_1226 : decode code 1226 = .ok (.iload 4, 2) := by decide +kernel
theorem d_La_law_1228 : decode code 1228 = .ok (.iconst 1, 1) := by decide +kernel
theorem d_La_law_1229 : decode code 1229 = .ok (.iadd, 1) := by decide +kernel
theorem d_La_law_1230 : decode code 1230 = .ok (.iaload, 1) := by decide +kernel
theorem d_La_law_1231 : decode code 1231 = .ok (.invokevirtual 146, 3) := by decide +kernel
theorem d_La_law_1234 : decode code 1234 = .ok (.if_icmp .eq 293, 3) := by decide +kernel
theorem d_La_law_1237 : decode code 1237 = .ok (.iconst 0, 1) := by decide +kernel
theorem d_La_law_1238 : decode code 1238 = .ok (.ireturn, 1) := by decide +kernel
theorem d_La_law_1239 : decode code 1239 = .ok (.aload_n 1, 1) := by decide +kernel
theorem d_La_law_1240 : decode code 1240 = .ok (.aload_n 0, 1) := by decide +kernel
theorem d_La_law_1241 : decode code 1241 = .ok (.iload 4, 2) := by decide +kernel
theorem d_La_law_1243 : decode code 1243 = .ok (.iconst 1, 1) := by decide +kernel
theorem d_La_law_1244 : decode code 1244 = .ok (.iadd, 1) := by decide +kernel
theorem d_La_law_1245 : decode code 1245 = .ok (.iaload, 1) := by decide +kernel
theorem d_La_law_1246 : decode code 1246 = .ok (.aload_n 0, 1) := by decide +kernel
theorem d_La_law_1247 : decode code 1247 = .ok (.iload 4, 2) := by decide +kernel
theorem d_La_law_1249 : decode code 1249 = .ok (.iconst 2, 1) := by decide +kernel
theorem d_La_law_1250 : decode code 1250 = .ok (.iadd, 1) := by decide +kernel
theorem d_La_law_1251 : decode code 1251 = .ok (.iaload, 1) := by decide +kernel
theorem d_La_law_1252 : decode code 1252 = .ok (.invokestatic 147, 3) := by decide +kernel
theorem d_La_law_1255 : decode code 1255 = .ok (.istore 5, 2) := by decide +kernel
theorem d_La_law_1257 : decode code 1257 = .ok (.aload_n 2, 1) := by decide +kernel
theorem d_La_law_1258 : decode code 1258 = .ok (.aload_n 0, 1) := by decide +kernel
theorem d_La_law_1259 : decode code 1259 = .ok (.iload 4, 2) := by decide +kernel
theorem d_La_law_1261 : decode code 1261 = .ok (.iconst 1, 1) := by decide +kernel
theorem d_La_law_1262 : decode code 1262 = .ok (.iadd, 1) := by decide +kernel
theorem d_La_law_1263 : decode code 1263 = .ok (.iaload, 1) := by decide +kernel
theorem d_La_law_1264 : decode code 1264 = .ok (.aload_n 0, 1) := by decide +kernel
theorem d_La_law_1265 : decode code 1265 = .ok (.iload 4, 2) := by decide +kernel
theorem d_La_law_1267 : decode code 1267 = .ok (.iconst 2, 1) := by decide +kernel
theorem d_La_law_1268 : decode code 1268 = .ok (.iadd, 1) := by decide +kernel
theorem d_La_law_1269 : decode code 1269 = .ok (.iaload, 1) := by decide +kernel
theorem d_La_law_1270 : decode code 1270 = .ok (.invokevirtual 150, 3) := by decide +kernel
theorem d_La_law_1273 : decode code 1273 = .ok (.aload_n 2, 1) := by decide +kernel
theorem d_La_law_1274 : decode code 1274 = .ok (.invokevirtual 92, 3) := by decide +kernel
theorem d_La_law_1277 : decode code 1277 = .ok (.iload 5, 2) := by decide +kernel
theorem d_La_law_1279 : decode code 1279 = .ok (.if_icmp .eq 5, 3) := by decide +kernel
theorem d_La_law_1282 : decode code 1282 = .ok (.iconst 0, 1) := by decide +kernel
theorem d_La_law_1283 : decode code 1283 = .ok (.ireturn, 1) := by decide +kernel
theorem d_La_law_1284 : decode code 1284 = .ok (.goto 243, 3) := by decide +kernel
theorem d_La_law_1287 : decode code 1287 = .ok (.aload_n 1, 1) := by decide +kernel
theorem d_La_law_1288 : decode code 1288 = .ok (.aload_n 0, 1) := by decide +kernel
theorem d_La_law_1289 : decode code 1289 = .ok (.iload 4, 2) := by decide +kernel
theorem d_La_law_1291 : decode code 1291 = .ok (.iconst 1, 1) := by decide +kernel
theorem d_La_law_1292 : decode code 1292 = .ok (.iadd, 1) := by decide +kernel
theorem d_La_law_1293 : decode code 1293 = .ok (.iaload, 1) := by decide +kernel
theorem d_La_law_1294 : decode code 1294 = .ok (.aload_n 3, 1) := by decide +kernel
theorem d_La_law_1295 : decode code 1295 = .ok (.invokestatic 151, 3) := by decide +kernel
theorem d_La_law_1298 : decode code 1298 = .ok (.istore 5, 2) := by decide +kernel
theorem d_La_law_1300 : decode code 1300 = .ok (.aload_n 2, 1) := by decide +kernel
theorem d_La_law_1301 : decode code 1301 = .ok (.aload_n 0, 1) := by decide +kernel
theorem d_La_law_1302 : decode code 1302 = .ok (.iload 4, 2) := by decide +kernel
theorem d_La_law_1304 : decode code 1304 = .ok (.iconst 1, 1) := by decide +kernel
theorem d_La_law_1305 : decode code 1305 = .ok (.iadd, 1) := by decide +kernel
theorem d_La_law_1306 : decode code 1306 = .ok (.iaload, 1) := by decide +kernel
theorem d_La_law_1307 : decode code 1307 = .ok (.invokevirtual 153, 3) := by decide +kernel
theorem d_La_law_1310 : decode code 1310 = .ok (.lstore 6, 2) := by decide +kernel
theorem d_La_law_1312 : decode code 1312 = .ok (.aload_n 2, 1) := by decide +kernel
theorem d_La_law_1313 : decode code 1313 = .ok (.invokevirtual 92, 3) := by decide +kernel
theorem d_La_law_1316 : decode code 1316 = .ok (.iload 5, 2) := by decide +kernel
theorem d_La_law_1318 : decode code 1318 = .ok (.if_icmp .eq 5, 3) := by decide +kernel
theorem d_La_law_1321 : decode code 1321 = .ok (.iconst 0, 1) := by decide +kernel
theorem d_La_law_1322 : decode code 1322 = .ok (.ireturn, 1) := by decide +kernel
theorem d_La_law_1323 : decode code 1323 = .ok (.iload 5, 2) := by decide +kernel
theorem d_La_law_1325 : decode code 1325 = .ok (.ifCond .ne 14, 3) := by decide +kernel
theorem d_La_law_1328 : decode code 1328 = .ok (.aload_n 3, 1) := by decide +kernel
theorem d_La_law_1329 : decode code 1329 = .ok (.iconst 0, 1) := by decide +kernel
theorem d_La_law_1330 : decode code 1330 = .ok (.laload, 1) := by decide +kernel
theorem d_La_law_1331 : decode code 1331 = .ok (.lload 6, 2) := by decide +kernel
theorem d_La_law_1333 : decode code 1333 = .ok (.lcmp, 1) := by decide +kernel
theorem d_La_law_1334 : decode code 1334 = .ok (.ifCond .eq 5, 3) := by decide +kernel
theorem d_La_law_1337 : decode code 1337 = .ok (.iconst 0, 1) := by decide +kernel
theorem d_La_law_1338 : decode code 1338 = .ok (.ireturn, 1) := by decide +kernel
theorem d_La_law_1339 : decode code 1339 = .ok (.goto 188, 3) := by decide +kernel
theorem d_La_law_1342 : decode code 1342 = .ok (.aload_n 1, 1) := by decide +kernel
theorem d_La_law_1343 : decode code 1343 = .ok (.invokevirtual 154, 3) := by decide +kernel
theorem d_La_law_1346 : decode code 1346 = .ok (.aload_n 2, 1) := by decide +kernel
theorem d_La_law_1347 : decode code 1347 = .ok (.invokevirtual 157, 3) := by decide +kernel
theorem d_La_law_1350 : decode code 1350 = .ok (.if_icmp .eq 177, 3) := by decide +kernel
theorem d_La_law_1353 : decode code 1353 = .ok (.iconst 0, 1) := by decide +kernel
theorem d_La_law_1354 : decode code 1354 = .ok (.ireturn, 1) := by decide +kernel
theorem d_La_law_1355 : decode code 1355 = .ok (.aload_n 1, 1) := by decide +kernel
theorem d_La_law_1356 : decode code 1356 = .ok (.aload_n 0, 1) := by decide +kernel
theorem d_La_law_1357 : decode code 1357 = .ok (.iload 4, 2) := by decide +kernel
theorem d_La_law_1359 : decode code 1359 = .ok (.iconst 1, 1) := by decide +kernel
theorem d_La_law_1360 : decode code 1360 = .ok (.iadd, 1) := by decide +kernel
theorem d_La_law_1361 : decode code 1361 = .ok (.iaload, 1) := by decide +kernel
theorem d_La_law_1362 : decode code 1362 = .ok (.aload_n 0, 1) := by decide +kernel
theorem d_La_law_1363 : decode code 1363 = .ok (.iload 4, 2) := by decide +kernel
theorem d_La_law_1365 : decode code 1365 = .ok (.iconst 2, 1) := by decide +kernel
